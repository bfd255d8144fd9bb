set_option maxHeartbeats 4000000 in
set_option maxRecDepth 100000 in
theorem c_J3_checkIndex_8e157 (l : Launch) (i N : Nat) (hi : i < N) (hN : N < 1000) : Met l yJ3_checkIndex_8e157 wsJ3_checkIndex_8e157 ({ frames := 1, cells := 0, slots := 0, locals := 24 } : Room) (va_Pc [.int (nI i), .int (nI N), .null] (fun _ => True)) (va_Qi (fun (r9 : Int32) (_ : Unit) => r9 = nI i) (fun _ _ => True) (fun _ => False)) 0 0 (fun _ => False) := by
  refine Met.ofW (cc := cJ3_checkIndex_8e157) (maxL := 3) (ret := (some .int)) (by decide) rfl ?_
  intro p e s m args below meth c s₁ BB hml hv
  obtain ⟨rfl, hv⟩ := hv
  have hx := BB.exec
  have hb := BB.bytes
  have hr := BB.returns
  have hts := atoms_spec (ws := wsJ3_checkIndex_8e157) BB.pre
  have hown : s.vm.findClass RJ3 = some m.cls := findClass_of_methodNamed BB.named
  have hlocks := BB.notSynchronized
  have hS : va_S (fun _ => False) s.heap s.heap [] := va_S.rf
  have hl := lv_entry ([.int (nI i), .int (nI N), .null]) (n := 3) (Nat.le_of_ble_eq_true rfl)
  rw [lg_entry_eq]
  generalize (lg_sl ([.int (nI i), .int (nI N), .null]) ++ List.replicate (3 - (lg_sl ([.int (nI i), .int (nI N), .null])).length) Slot.unset).toArray = ls at hl ⊢
  have hl : lv_has ls 3 [(0, .int (nI i)), (1, .int (nI N)), (2, .null)] := hl
  refine lv_iload_n hx hb dJ3_checkIndex_8e157_0 rfl (lv_at hl 0 rfl) ?_
  refine lv_if_lt (tgt := 9) hx hb dJ3_checkIndex_8e157_1 (by decide) (fun c_1 => ?_) (fun c_1 => ?_)
  · -- nI i lt 0 : True
    exact absurd c_1 (nI_pos (by omega))
  · -- nI i lt 0 : False
    refine lv_iload_n hx hb dJ3_checkIndex_8e157_4 rfl (lv_at hl 0 rfl) ?_
    refine lv_iload_n hx hb dJ3_checkIndex_8e157_5 rfl (lv_at hl 1 rfl) ?_
    refine lv_icmp_lt (tgt := 16) hx hb dJ3_checkIndex_8e157_6 (by decide) (fun c_2 => ?_) (fun c_2 => ?_)
    · -- nI i lt nI N : True
      refine lv_iload_n hx hb dJ3_checkIndex_8e157_16 rfl (lv_at hl 0 rfl) ?_
      exact W.iret (v := nI i) hx hb hr (fun t9 ht9 hW9 => ⟨⟨_, (), rfl, (by rfl), trivial⟩, hS.F ht9⟩) hS.2.2 dJ3_checkIndex_8e157_17
    · -- nI i lt nI N : False
      exact absurd (nI_lt hi (by omega)) c_2

set_option maxHeartbeats 4000000 in
set_option maxRecDepth 100000 in
theorem c_J15_checkIndex_7cf53 (l : Launch) (i N : Nat) (hi : i < N) (hN : N < 1000) : Met l yJ15_checkIndex_7cf53 wsJ15_checkIndex_7cf53 ({ frames := 2, cells := 0, slots := 0, locals := 46 } : Room) (va_Pc [.int (nI i), .int (nI N)] (fun _ => True)) (va_Qi (fun (r9 : Int32) (_ : Unit) => r9 = nI i) (fun _ _ => True) (fun _ => False)) 0 0 (fun _ => False) := by
  refine Met.ofW (cc := cJ15_checkIndex_7cf53) (maxL := 2) (ret := (some .int)) (by decide) rfl ?_
  intro p e s m args below meth c s₁ BB hml hv
  obtain ⟨rfl, hv⟩ := hv
  have hx := BB.exec
  have hb := BB.bytes
  have hr := BB.returns
  have hts := atoms_spec (ws := wsJ15_checkIndex_7cf53) BB.pre
  have hown : s.vm.findClass RJ15 = some m.cls := findClass_of_methodNamed BB.named
  have hlocks := BB.notSynchronized
  have hS : va_S (fun _ => False) s.heap s.heap [] := va_S.rf
  have hl := lv_entry ([.int (nI i), .int (nI N)]) (n := 2) (Nat.le_of_ble_eq_true rfl)
  rw [lg_entry_eq]
  generalize (lg_sl ([.int (nI i), .int (nI N)]) ++ List.replicate (2 - (lg_sl ([.int (nI i), .int (nI N)])).length) Slot.unset).toArray = ls at hl ⊢
  have hl : lv_has ls 2 [(0, .int (nI i)), (1, .int (nI N))] := hl
  refine lv_iload_n hx hb dJ15_checkIndex_7cf53_0 rfl (lv_at hl 0 rfl) ?_
  refine lv_iload_n hx hb dJ15_checkIndex_7cf53_1 rfl (lv_at hl 1 rfl) ?_
  refine lv_null hx hb dJ15_checkIndex_7cf53_2 ?_
  refine va_calli (va_runS (As := [.int (nI i), .int (nI N), .null]) (rest := []) ⟨hx, hb, hml, hown, hts⟩ (c_J3_checkIndex_8e157 l i N (by omega) (by omega)) (va_cwS 3 hts gJ15_checkIndex_7cf53_J3_checkIndex_8e157 rfl rfl rfl (by decide +kernel) ⟨Nat.le_of_ble_eq_true rfl, Nat.le_of_ble_eq_true rfl⟩) ⟨pT_fb, fun U hU hV => ⟨rfl, trivial⟩⟩ rfl rfl hl.1 rfl (lv_room (Nat.le_of_ble_eq_true rfl)) dJ15_checkIndex_7cf53_3 ⟨Nat.zero_le _, Nat.zero_le _⟩) hS (fun _ _ h => h.elim) (fun _ h => h.elim) (fun r_1 u t9 H locs ht hvm hw _ hz1 hk1 hS => ?_)
  subst hw
  exact W.iret (v := nI i) hx hb hr (fun t9 ht9 hW9 => ⟨⟨_, (), rfl, (by rfl), trivial⟩, hS.F ht9⟩) hS.2.2 dJ15_checkIndex_7cf53_6

set_option maxHeartbeats 4000000 in
set_option maxRecDepth 100000 in
theorem c_Jx4a65c_size_8abf51 (l : Launch) (D : va_G) (cs : Nat → ClassId) (A : Nat → Prop) (z0 : Nat) (sa : Nat → Nat) (ad : Nat → Nat) (g : Nat → Int32) (L B : Nat → Nat → Int32) (n b : Nat) (y1 y2 : Int32) (N1 N2 : Nat) (nd : Nat → Int32) (gv : Nat → Nat → Int32) (hn : n ≤ 12) (hb5 : b ≤ 5) (hN1 : n ≤ N1 ∧ N1 < 1000) (hN2 : b ≤ N2 ∧ N2 < 1000)  : Met l yJx4a65c_size_8abf5 wsJx4a65c_size_8abf5 ({ frames := 1, cells := 0, slots := 0, locals := 24 } : Room) (va_Pc [.ref (ad 1)] (pC D cs A z0 sa (lvC n b) ad (ctC cs ad z0 g L B n b y1 y2 N1 N2 nd gv))) (va_Qi (fun (r9 : Int32) (_ : Unit) => r9 = nI n) (fun _ _ => True) (fun _ => False)) 0 0 (fun _ => False) := by
  refine Met.ofW (cc := cJx4a65c_size_8abf5) (maxL := 1) (ret := (some .int)) (by decide) rfl ?_
  intro p e s m args below meth c s₁ BB hml hv
  obtain ⟨rfl, hv⟩ := hv
  obtain ⟨hE, hW⟩ := hv
  have hK := hE.1
  have hx := BB.exec
  have hb := BB.bytes
  have hr := BB.returns
  have hts := atoms_spec (ws := wsJx4a65c_size_8abf5) BB.pre
  have hown : s.vm.findClass RJx4a65c = some m.cls := findClass_of_methodNamed BB.named
  have hlocks := BB.notSynchronized
  have hS : va_S (fun _ => False) s.heap s.heap [] := va_S.rf
  have hl := lv_entry ([.ref (ad 1)]) (n := 1) (Nat.le_of_ble_eq_true rfl)
  rw [lg_entry_eq]
  generalize (lg_sl ([.ref (ad 1)]) ++ List.replicate (1 - (lg_sl ([.ref (ad 1)])).length) Slot.unset).toArray = ls at hl ⊢
  have hl : lv_has ls 1 [(0, .ref (ad 1))] := hl
  have hf48 := hts (.fieldLink RJx4a65c 48 "java/util/ArrayList" "size" "I") (by decide +kernel)
  have hinJx4a65c : ∀ w ∈ u_ws RJx4a65c TJx4a65c 3, w ∈ wsJx4a65c_size_8abf5 := by decide +kernel
  refine lv_aload_n hx hb dJx4a65c_size_8abf5_0 rfl (lv_at hl 0 rfl) ?_
  refine wb_get hx hb hts hinJx4a65c hown hK hW 1 (lvC_0 (by decide)) rfl rfl 2 (by decide) hf48 (fun _ h9 => h9) (v := .int (nI n)) rfl dJx4a65c_size_8abf5_1 ?_
  exact W.iret (v := nI n) hx hb hr (fun t9 ht9 hW9 => ⟨⟨_, (), rfl, (by rfl), trivial⟩, hS.F ht9⟩) hS.2.2 dJx4a65c_size_8abf5_4

set_option maxHeartbeats 4000000 in
set_option maxRecDepth 100000 in
theorem c_Jx4a65c_elementData_915e31 (l : Launch) (D : va_G) (cs : Nat → ClassId) (A : Nat → Prop) (z0 : Nat) (sa : Nat → Nat) (ad : Nat → Nat) (g : Nat → Int32) (L B : Nat → Nat → Int32) (n b : Nat) (y1 y2 : Int32) (N1 N2 : Nat) (nd : Nat → Int32) (gv : Nat → Nat → Int32) (hn : n ≤ 12) (hb5 : b ≤ 5) (hN1 : n ≤ N1 ∧ N1 < 1000) (hN2 : b ≤ N2 ∧ N2 < 1000) (i : Nat) (hi : i < n) : Met l yJx4a65c_elementData_915e3 wsJx4a65c_elementData_915e3 ({ frames := 1, cells := 0, slots := 0, locals := 24 } : Room) (va_Pc [.ref (ad 1), .int (nI i)] (pC D cs A z0 sa (lvC n b) ad (ctC cs ad z0 g L B n b y1 y2 N1 N2 nd gv))) (va_Qr (fun (_ : Unit) => True) (fun _ a9 _ => a9 = ad (20 + i)) (fun _ => False)) 0 0 (fun _ => False) := by
  refine Met.ofW (cc := cJx4a65c_elementData_915e3) (maxL := 2) (ret := (some (.object "java/lang/Object"))) (by decide) rfl ?_
  intro p e s m args below meth c s₁ BB hml hv
  obtain ⟨rfl, hv⟩ := hv
  obtain ⟨hE, hW⟩ := hv
  have hK := hE.1
  have hx := BB.exec
  have hb := BB.bytes
  have hr := BB.returns
  have hts := atoms_spec (ws := wsJx4a65c_elementData_915e3) BB.pre
  have hown : s.vm.findClass RJx4a65c = some m.cls := findClass_of_methodNamed BB.named
  have hlocks := BB.notSynchronized
  have hS : va_S (fun _ => False) s.heap s.heap [] := va_S.rf
  have hl := lv_entry ([.ref (ad 1), .int (nI i)]) (n := 2) (Nat.le_of_ble_eq_true rfl)
  rw [lg_entry_eq]
  generalize (lg_sl ([.ref (ad 1), .int (nI i)]) ++ List.replicate (2 - (lg_sl ([.ref (ad 1), .int (nI i)])).length) Slot.unset).toArray = ls at hl ⊢
  have hl : lv_has ls 2 [(0, .ref (ad 1)), (1, .int (nI i))] := hl
  have hf9 := hts (.fieldLink RJx4a65c 9 "java/util/ArrayList" "elementData" "[Ljava/lang/Object;") (by decide +kernel)
  have hinJx4a65c : ∀ w ∈ u_ws RJx4a65c TJx4a65c 3, w ∈ wsJx4a65c_elementData_915e3 := by decide +kernel
  refine lv_aload_n hx hb dJx4a65c_elementData_915e3_0 rfl (lv_at hl 0 rfl) ?_
  refine wb_get hx hb hts hinJx4a65c hown hK hW 1 (lvC_0 (by decide)) rfl rfl 1 (by decide) hf9 (fun _ h9 => h9) (v := .ref (if n = 0 then z0 else ad 6)) rfl dJx4a65c_elementData_915e3_1 ?_
  refine lv_iload_n hx hb dJx4a65c_elementData_915e3_4 rfl (lv_at hl 1 rfl) ?_
  have h0 : ¬ n = 0 := by omega
  rw [if_neg h0]
  refine wb_aald hx hb hK hW 6 (by unfold lvC; omega) 2 rfl rfl i rfl (by omega) (by omega) dJx4a65c_elementData_915e3_5 ?_
  rw [if_pos hi]
  exact W.aret (v := .ref (ad (20 + i))) hx hb hr (by first | exact Or.inl ⟨_, rfl⟩ | exact Or.inr ⟨_, rfl⟩) (Or.inr ⟨_, rfl⟩) (fun t9 ht9 hW9 => ⟨⟨(), _, rfl, trivial, rfl⟩, hS.F ht9⟩) hS.2.2 dJx4a65c_elementData_915e3_6

set_option maxHeartbeats 4000000 in
set_option maxRecDepth 100000 in
theorem c_Jx4a65c_get_915e31 (l : Launch) (D : va_G) (cs : Nat → ClassId) (A : Nat → Prop) (z0 : Nat) (sa : Nat → Nat) (ad : Nat → Nat) (g : Nat → Int32) (L B : Nat → Nat → Int32) (n b : Nat) (y1 y2 : Int32) (N1 N2 : Nat) (nd : Nat → Int32) (gv : Nat → Nat → Int32) (hn : n ≤ 12) (hb5 : b ≤ 5) (hN1 : n ≤ N1 ∧ N1 < 1000) (hN2 : b ≤ N2 ∧ N2 < 1000) (i : Nat) (hi : i < n) : Met l yJx4a65c_get_915e3 wsJx4a65c_get_915e3 ({ frames := 3, cells := 0, slots := 0, locals := 67 } : Room) (va_Pc [.ref (ad 1), .int (nI i)] (pC D cs A z0 sa (lvC n b) ad (ctC cs ad z0 g L B n b y1 y2 N1 N2 nd gv))) (va_Qr (fun (_ : Unit) => True) (fun _ a9 _ => a9 = ad (20 + i)) (fun _ => False)) 0 0 (fun _ => False) := by
  refine Met.ofW (cc := cJx4a65c_get_915e3) (maxL := 2) (ret := (some (.object "java/lang/Object"))) (by decide) rfl ?_
  intro p e s m args below meth c s₁ BB hml hv
  obtain ⟨rfl, hv⟩ := hv
  obtain ⟨hE, hW⟩ := hv
  have hK := hE.1
  have hx := BB.exec
  have hb := BB.bytes
  have hr := BB.returns
  have hts := atoms_spec (ws := wsJx4a65c_get_915e3) BB.pre
  have hown : s.vm.findClass RJx4a65c = some m.cls := findClass_of_methodNamed BB.named
  have hlocks := BB.notSynchronized
  have hS : va_S (fun _ => False) s.heap s.heap [] := va_S.rf
  have hl := lv_entry ([.ref (ad 1), .int (nI i)]) (n := 2) (Nat.le_of_ble_eq_true rfl)
  rw [lg_entry_eq]
  generalize (lg_sl ([.ref (ad 1), .int (nI i)]) ++ List.replicate (2 - (lg_sl ([.ref (ad 1), .int (nI i)])).length) Slot.unset).toArray = ls at hl ⊢
  have hl : lv_has ls 2 [(0, .ref (ad 1)), (1, .int (nI i))] := hl
  have hf48 := hts (.fieldLink RJx4a65c 48 "java/util/ArrayList" "size" "I") (by decide +kernel)
  have hinJx4a65c : ∀ w ∈ u_ws RJx4a65c TJx4a65c 3, w ∈ wsJx4a65c_get_915e3 := by decide +kernel
  refine lv_iload_n hx hb dJx4a65c_get_915e3_0 rfl (lv_at hl 1 rfl) ?_
  refine lv_aload_n hx hb dJx4a65c_get_915e3_1 rfl (lv_at hl 0 rfl) ?_
  refine wb_get hx hb hts hinJx4a65c hown hK hW 1 (lvC_0 (by decide)) rfl rfl 2 (by decide) hf48 (fun _ h9 => h9) (v := .int (nI n)) rfl dJx4a65c_get_915e3_2 ?_
  refine va_calli (va_runS (As := [.int (nI i), .int (nI n)]) (rest := []) ⟨hx, hb, hml, hown, hts⟩ (c_J15_checkIndex_7cf53 l i n (by omega) (by omega)) (va_cwS 2 hts gJx4a65c_get_915e3_J15_checkIndex_7cf53 rfl rfl rfl (by decide +kernel) ⟨Nat.le_of_ble_eq_true rfl, Nat.le_of_ble_eq_true rfl⟩) ⟨pT_fb, fun U hU hV => ⟨rfl, trivial⟩⟩ rfl rfl hl.1 rfl (lv_room (Nat.le_of_ble_eq_true rfl)) dJx4a65c_get_915e3_5 ⟨Nat.zero_le _, Nat.zero_le _⟩) hS (fun _ _ h => h.elim) (fun _ h => h.elim) (fun r_1 u t9 H locs ht hvm hw _ hz1 hk1 hS => ?_)
  have hW := hW.kept hk1
  subst hw
  refine lv_pop hx hb dJx4a65c_get_915e3_8 rfl ?_
  refine lv_aload_n hx hb dJx4a65c_get_915e3_9 rfl (lv_at hl 0 rfl) ?_
  refine lv_iload_n hx hb dJx4a65c_get_915e3_10 rfl (lv_at hl 1 rfl) ?_
  refine va_callr (va_runV (As := [.int (nI i)]) (rest := []) ⟨hx, hb, hml, hown, hts⟩ (c_Jx4a65c_elementData_915e31 l D cs A z0 sa ad g L B n b y1 y2 N1 N2 nd gv hn hb5 hN1 hN2 i (by omega)) (cwV 1 hts gJx4a65c_get_915e3_Jx4a65c_elementData_915e3 rfl rfl rfl (by decide +kernel) ⟨Nat.le_of_ble_eq_true rfl, Nat.le_of_ble_eq_true rfl⟩) ⟨pC_fb, wb_recv hK hW (r := 1) (lvC_0 (by decide)) (ci := 0) rfl rfl, fun U hU hV => ⟨rfl, hE.at (fun _ h => h.elim) hS hV hU, by rw [hU]; exact hW⟩⟩ rfl rfl hl.1 rfl (lv_room (Nat.le_of_ble_eq_true rfl)) dJx4a65c_get_915e3_11 ⟨Nat.zero_le _, Nat.zero_le _⟩) hS (fun _ _ h => h.elim) (fun _ h => h.elim) (fun u r_2 t9 H locs ht hvm hw hB hz1 hk1 hS => ?_)
  have hW := hW.kept hk1
  subst hB
  exact W.aret (v := .ref (ad (20 + i))) hx hb hr (by first | exact Or.inl ⟨_, rfl⟩ | exact Or.inr ⟨_, rfl⟩) (Or.inr ⟨_, rfl⟩) (fun t9 ht9 hW9 => ⟨⟨(), _, rfl, trivial, rfl⟩, hS.F ht9⟩) hS.2.2 dJx4a65c_get_915e3_14

set_option maxHeartbeats 4000000 in
set_option maxRecDepth 100000 in
theorem c_Jx4a65c_size_8abf52 (l : Launch) (D : va_G) (cs : Nat → ClassId) (A : Nat → Prop) (z0 : Nat) (sa : Nat → Nat) (ad : Nat → Nat) (g : Nat → Int32) (L B : Nat → Nat → Int32) (n b : Nat) (y1 y2 : Int32) (N1 N2 : Nat) (nd : Nat → Int32) (gv : Nat → Nat → Int32) (hn : n ≤ 12) (hb5 : b ≤ 5) (hN1 : n ≤ N1 ∧ N1 < 1000) (hN2 : b ≤ N2 ∧ N2 < 1000)  : Met l yJx4a65c_size_8abf5 wsJx4a65c_size_8abf5 ({ frames := 1, cells := 0, slots := 0, locals := 24 } : Room) (va_Pc [.ref (ad 2)] (pC D cs A z0 sa (lvC n b) ad (ctC cs ad z0 g L B n b y1 y2 N1 N2 nd gv))) (va_Qi (fun (r9 : Int32) (_ : Unit) => r9 = nI b) (fun _ _ => True) (fun _ => False)) 0 0 (fun _ => False) := by
  refine Met.ofW (cc := cJx4a65c_size_8abf5) (maxL := 1) (ret := (some .int)) (by decide) rfl ?_
  intro p e s m args below meth c s₁ BB hml hv
  obtain ⟨rfl, hv⟩ := hv
  obtain ⟨hE, hW⟩ := hv
  have hK := hE.1
  have hx := BB.exec
  have hb := BB.bytes
  have hr := BB.returns
  have hts := atoms_spec (ws := wsJx4a65c_size_8abf5) BB.pre
  have hown : s.vm.findClass RJx4a65c = some m.cls := findClass_of_methodNamed BB.named
  have hlocks := BB.notSynchronized
  have hS : va_S (fun _ => False) s.heap s.heap [] := va_S.rf
  have hl := lv_entry ([.ref (ad 2)]) (n := 1) (Nat.le_of_ble_eq_true rfl)
  rw [lg_entry_eq]
  generalize (lg_sl ([.ref (ad 2)]) ++ List.replicate (1 - (lg_sl ([.ref (ad 2)])).length) Slot.unset).toArray = ls at hl ⊢
  have hl : lv_has ls 1 [(0, .ref (ad 2))] := hl
  have hf48 := hts (.fieldLink RJx4a65c 48 "java/util/ArrayList" "size" "I") (by decide +kernel)
  have hinJx4a65c : ∀ w ∈ u_ws RJx4a65c TJx4a65c 3, w ∈ wsJx4a65c_size_8abf5 := by decide +kernel
  refine lv_aload_n hx hb dJx4a65c_size_8abf5_0 rfl (lv_at hl 0 rfl) ?_
  refine wb_get hx hb hts hinJx4a65c hown hK hW 2 (lvC_0 (by decide)) rfl rfl 2 (by decide) hf48 (fun _ h9 => h9) (v := .int (nI b)) rfl dJx4a65c_size_8abf5_1 ?_
  exact W.iret (v := nI b) hx hb hr (fun t9 ht9 hW9 => ⟨⟨_, (), rfl, (by rfl), trivial⟩, hS.F ht9⟩) hS.2.2 dJx4a65c_size_8abf5_4

set_option maxHeartbeats 4000000 in
set_option maxRecDepth 100000 in
theorem c_Jx4a65c_elementData_915e32 (l : Launch) (D : va_G) (cs : Nat → ClassId) (A : Nat → Prop) (z0 : Nat) (sa : Nat → Nat) (ad : Nat → Nat) (g : Nat → Int32) (L B : Nat → Nat → Int32) (n b : Nat) (y1 y2 : Int32) (N1 N2 : Nat) (nd : Nat → Int32) (gv : Nat → Nat → Int32) (hn : n ≤ 12) (hb5 : b ≤ 5) (hN1 : n ≤ N1 ∧ N1 < 1000) (hN2 : b ≤ N2 ∧ N2 < 1000) (i : Nat) (hi : i < b) : Met l yJx4a65c_elementData_915e3 wsJx4a65c_elementData_915e3 ({ frames := 1, cells := 0, slots := 0, locals := 24 } : Room) (va_Pc [.ref (ad 2), .int (nI i)] (pC D cs A z0 sa (lvC n b) ad (ctC cs ad z0 g L B n b y1 y2 N1 N2 nd gv))) (va_Qr (fun (_ : Unit) => True) (fun _ a9 _ => a9 = ad (32 + i)) (fun _ => False)) 0 0 (fun _ => False) := by
  refine Met.ofW (cc := cJx4a65c_elementData_915e3) (maxL := 2) (ret := (some (.object "java/lang/Object"))) (by decide) rfl ?_
  intro p e s m args below meth c s₁ BB hml hv
  obtain ⟨rfl, hv⟩ := hv
  obtain ⟨hE, hW⟩ := hv
  have hK := hE.1
  have hx := BB.exec
  have hb := BB.bytes
  have hr := BB.returns
  have hts := atoms_spec (ws := wsJx4a65c_elementData_915e3) BB.pre
  have hown : s.vm.findClass RJx4a65c = some m.cls := findClass_of_methodNamed BB.named
  have hlocks := BB.notSynchronized
  have hS : va_S (fun _ => False) s.heap s.heap [] := va_S.rf
  have hl := lv_entry ([.ref (ad 2), .int (nI i)]) (n := 2) (Nat.le_of_ble_eq_true rfl)
  rw [lg_entry_eq]
  generalize (lg_sl ([.ref (ad 2), .int (nI i)]) ++ List.replicate (2 - (lg_sl ([.ref (ad 2), .int (nI i)])).length) Slot.unset).toArray = ls at hl ⊢
  have hl : lv_has ls 2 [(0, .ref (ad 2)), (1, .int (nI i))] := hl
  have hf9 := hts (.fieldLink RJx4a65c 9 "java/util/ArrayList" "elementData" "[Ljava/lang/Object;") (by decide +kernel)
  have hinJx4a65c : ∀ w ∈ u_ws RJx4a65c TJx4a65c 3, w ∈ wsJx4a65c_elementData_915e3 := by decide +kernel
  refine lv_aload_n hx hb dJx4a65c_elementData_915e3_0 rfl (lv_at hl 0 rfl) ?_
  refine wb_get hx hb hts hinJx4a65c hown hK hW 2 (lvC_0 (by decide)) rfl rfl 1 (by decide) hf9 (fun _ h9 => h9) (v := .ref (if b = 0 then z0 else ad 7)) rfl dJx4a65c_elementData_915e3_1 ?_
  refine lv_iload_n hx hb dJx4a65c_elementData_915e3_4 rfl (lv_at hl 1 rfl) ?_
  have h0 : ¬ b = 0 := by omega
  rw [if_neg h0]
  refine wb_aald hx hb hK hW 7 (by unfold lvC; omega) 2 rfl rfl i rfl (by omega) (by omega) dJx4a65c_elementData_915e3_5 ?_
  rw [if_pos hi]
  exact W.aret (v := .ref (ad (32 + i))) hx hb hr (by first | exact Or.inl ⟨_, rfl⟩ | exact Or.inr ⟨_, rfl⟩) (Or.inr ⟨_, rfl⟩) (fun t9 ht9 hW9 => ⟨⟨(), _, rfl, trivial, rfl⟩, hS.F ht9⟩) hS.2.2 dJx4a65c_elementData_915e3_6

set_option maxHeartbeats 4000000 in
set_option maxRecDepth 100000 in
theorem c_Jx4a65c_get_915e32 (l : Launch) (D : va_G) (cs : Nat → ClassId) (A : Nat → Prop) (z0 : Nat) (sa : Nat → Nat) (ad : Nat → Nat) (g : Nat → Int32) (L B : Nat → Nat → Int32) (n b : Nat) (y1 y2 : Int32) (N1 N2 : Nat) (nd : Nat → Int32) (gv : Nat → Nat → Int32) (hn : n ≤ 12) (hb5 : b ≤ 5) (hN1 : n ≤ N1 ∧ N1 < 1000) (hN2 : b ≤ N2 ∧ N2 < 1000) (i : Nat) (hi : i < b) : Met l yJx4a65c_get_915e3 wsJx4a65c_get_915e3 ({ frames := 3, cells := 0, slots := 0, locals := 67 } : Room) (va_Pc [.ref (ad 2), .int (nI i)] (pC D cs A z0 sa (lvC n b) ad (ctC cs ad z0 g L B n b y1 y2 N1 N2 nd gv))) (va_Qr (fun (_ : Unit) => True) (fun _ a9 _ => a9 = ad (32 + i)) (fun _ => False)) 0 0 (fun _ => False) := by
  refine Met.ofW (cc := cJx4a65c_get_915e3) (maxL := 2) (ret := (some (.object "java/lang/Object"))) (by decide) rfl ?_
  intro p e s m args below meth c s₁ BB hml hv
  obtain ⟨rfl, hv⟩ := hv
  obtain ⟨hE, hW⟩ := hv
  have hK := hE.1
  have hx := BB.exec
  have hb := BB.bytes
  have hr := BB.returns
  have hts := atoms_spec (ws := wsJx4a65c_get_915e3) BB.pre
  have hown : s.vm.findClass RJx4a65c = some m.cls := findClass_of_methodNamed BB.named
  have hlocks := BB.notSynchronized
  have hS : va_S (fun _ => False) s.heap s.heap [] := va_S.rf
  have hl := lv_entry ([.ref (ad 2), .int (nI i)]) (n := 2) (Nat.le_of_ble_eq_true rfl)
  rw [lg_entry_eq]
  generalize (lg_sl ([.ref (ad 2), .int (nI i)]) ++ List.replicate (2 - (lg_sl ([.ref (ad 2), .int (nI i)])).length) Slot.unset).toArray = ls at hl ⊢
  have hl : lv_has ls 2 [(0, .ref (ad 2)), (1, .int (nI i))] := hl
  have hf48 := hts (.fieldLink RJx4a65c 48 "java/util/ArrayList" "size" "I") (by decide +kernel)
  have hinJx4a65c : ∀ w ∈ u_ws RJx4a65c TJx4a65c 3, w ∈ wsJx4a65c_get_915e3 := by decide +kernel
  refine lv_iload_n hx hb dJx4a65c_get_915e3_0 rfl (lv_at hl 1 rfl) ?_
  refine lv_aload_n hx hb dJx4a65c_get_915e3_1 rfl (lv_at hl 0 rfl) ?_
  refine wb_get hx hb hts hinJx4a65c hown hK hW 2 (lvC_0 (by decide)) rfl rfl 2 (by decide) hf48 (fun _ h9 => h9) (v := .int (nI b)) rfl dJx4a65c_get_915e3_2 ?_
  refine va_calli (va_runS (As := [.int (nI i), .int (nI b)]) (rest := []) ⟨hx, hb, hml, hown, hts⟩ (c_J15_checkIndex_7cf53 l i b (by omega) (by omega)) (va_cwS 2 hts gJx4a65c_get_915e3_J15_checkIndex_7cf53 rfl rfl rfl (by decide +kernel) ⟨Nat.le_of_ble_eq_true rfl, Nat.le_of_ble_eq_true rfl⟩) ⟨pT_fb, fun U hU hV => ⟨rfl, trivial⟩⟩ rfl rfl hl.1 rfl (lv_room (Nat.le_of_ble_eq_true rfl)) dJx4a65c_get_915e3_5 ⟨Nat.zero_le _, Nat.zero_le _⟩) hS (fun _ _ h => h.elim) (fun _ h => h.elim) (fun r_1 u t9 H locs ht hvm hw _ hz1 hk1 hS => ?_)
  have hW := hW.kept hk1
  subst hw
  refine lv_pop hx hb dJx4a65c_get_915e3_8 rfl ?_
  refine lv_aload_n hx hb dJx4a65c_get_915e3_9 rfl (lv_at hl 0 rfl) ?_
  refine lv_iload_n hx hb dJx4a65c_get_915e3_10 rfl (lv_at hl 1 rfl) ?_
  refine va_callr (va_runV (As := [.int (nI i)]) (rest := []) ⟨hx, hb, hml, hown, hts⟩ (c_Jx4a65c_elementData_915e32 l D cs A z0 sa ad g L B n b y1 y2 N1 N2 nd gv hn hb5 hN1 hN2 i (by omega)) (cwV 1 hts gJx4a65c_get_915e3_Jx4a65c_elementData_915e3 rfl rfl rfl (by decide +kernel) ⟨Nat.le_of_ble_eq_true rfl, Nat.le_of_ble_eq_true rfl⟩) ⟨pC_fb, wb_recv hK hW (r := 2) (lvC_0 (by decide)) (ci := 0) rfl rfl, fun U hU hV => ⟨rfl, hE.at (fun _ h => h.elim) hS hV hU, by rw [hU]; exact hW⟩⟩ rfl rfl hl.1 rfl (lv_room (Nat.le_of_ble_eq_true rfl)) dJx4a65c_get_915e3_11 ⟨Nat.zero_le _, Nat.zero_le _⟩) hS (fun _ _ h => h.elim) (fun _ h => h.elim) (fun u r_2 t9 H locs ht hvm hw hB hz1 hk1 hS => ?_)
  have hW := hW.kept hk1
  subst hB
  exact W.aret (v := .ref (ad (32 + i))) hx hb hr (by first | exact Or.inl ⟨_, rfl⟩ | exact Or.inr ⟨_, rfl⟩) (Or.inr ⟨_, rfl⟩) (fun t9 ht9 hW9 => ⟨⟨(), _, rfl, trivial, rfl⟩, hS.F ht9⟩) hS.2.2 dJx4a65c_get_915e3_14

set_option maxHeartbeats 4000000 in
set_option maxRecDepth 100000 in
theorem c_X2_testOf (l : Launch) (x : Int32) : Met l yX2_testOf wsX2_testOf ({ frames := 1, cells := 0, slots := 0, locals := 24 } : Room) (va_Pc [.int x] (fun _ => True)) (va_Qi (fun (r9 : Int32) (_ : Unit) => r9 = cTest x) (fun _ _ => True) (fun _ => False)) 0 0 (fun _ => False) := by
  refine Met.ofW (cc := cX2_testOf) (maxL := 1) (ret := (some .int)) (by decide) rfl ?_
  intro p e s m args below meth c s₁ BB hml hv
  obtain ⟨rfl, hv⟩ := hv
  have hx := BB.exec
  have hb := BB.bytes
  have hr := BB.returns
  have hts := atoms_spec (ws := wsX2_testOf) BB.pre
  have hown : s.vm.findClass RX2 = some m.cls := findClass_of_methodNamed BB.named
  have hlocks := BB.notSynchronized
  have hS : va_S (fun _ => False) s.heap s.heap [] := va_S.rf
  have hl := lv_entry ([.int x]) (n := 1) (Nat.le_of_ble_eq_true rfl)
  rw [lg_entry_eq]
  generalize (lg_sl ([.int x]) ++ List.replicate (1 - (lg_sl ([.int x])).length) Slot.unset).toArray = ls at hl ⊢
  have hl : lv_has ls 1 [(0, .int x)] := hl
  refine lv_iload_n hx hb dX2_testOf_0 rfl (lv_at hl 0 rfl) ?_
  refine lv_if_ne (tgt := 6) hx hb dX2_testOf_1 (by decide) (fun c_1 => ?_) (fun c_1 => ?_)
  · -- x ne 0 : True
    refine lv_iload_n hx hb dX2_testOf_6 rfl (lv_at hl 0 rfl) ?_
    refine lv_iconst (v := 2) hx hb dX2_testOf_7 (by decide) ?_
    refine lv_icmp_gt (tgt := 15) hx hb dX2_testOf_8 (by decide) (fun c_2 => ?_) (fun c_2 => ?_)
    · -- x gt 2 : True
      refine lv_iconst (v := 2) hx hb dX2_testOf_15 (by decide) ?_
      exact W.iret (v := 2) hx hb hr (fun t9 ht9 hW9 => ⟨⟨_, (), rfl, (by simp [cTest, c_1, c_2]), trivial⟩, hS.F ht9⟩) hS.2.2 dX2_testOf_16
    · -- x gt 2 : False
      refine lv_iconst (v := 1) hx hb dX2_testOf_11 (by decide) ?_
      refine lv_goto (tgt := 16) hx hb dX2_testOf_12 (by decide) ?_
      exact W.iret (v := 1) hx hb hr (fun t9 ht9 hW9 => ⟨⟨_, (), rfl, (by simp [cTest, c_1, c_2]), trivial⟩, hS.F ht9⟩) hS.2.2 dX2_testOf_16
  · -- x ne 0 : False
    refine lv_iconst (v := 0) hx hb dX2_testOf_4 (by decide) ?_
    exact W.iret (v := 0) hx hb hr (fun t9 ht9 hW9 => ⟨⟨_, (), rfl, (by simp [cTest, c_1]), trivial⟩, hS.F ht9⟩) hS.2.2 dX2_testOf_5

set_option maxHeartbeats 4000000 in
set_option maxRecDepth 100000 in
theorem c_X2_missing (l : Launch) (D : va_G) (cs : Nat → ClassId) (A : Nat → Prop) (z0 : Nat) (sa : Nat → Nat) (ad : Nat → Nat) (g : Nat → Int32) (L B : Nat → Nat → Int32) (n b : Nat) (y1 y2 : Int32) (N1 N2 : Nat) (nd : Nat → Int32) (gv : Nat → Nat → Int32) (hn : n ≤ 12) (hb5 : b ≤ 5) (hN1 : n ≤ N1 ∧ N1 < 1000) (hN2 : b ≤ N2 ∧ N2 < 1000) (j : Nat) (hj : j < 9) (pool : Int32) : Met l yX2_missing wsX2_missing ({ frames := 1, cells := 0, slots := 0, locals := 24 } : Room) (va_Pc [.ref (ad 3), .int (nI j), .int pool] (pC D cs A z0 sa (lvC n b) ad (ctC cs ad z0 g L B n b y1 y2 N1 N2 nd gv))) (va_Qi (fun (r9 : Int32) (_ : Unit) => r9 = cMiss nd gv j pool 12) (fun _ _ => True) (fun _ => False)) 0 0 (fun _ => False) := by
  refine Met.ofW (cc := cX2_missing) (maxL := 5) (ret := (some .int)) (by decide) rfl ?_
  intro p e s m args below meth c s₁ BB hml hv
  obtain ⟨rfl, hv⟩ := hv
  obtain ⟨hE, hW⟩ := hv
  have hK := hE.1
  have hx := BB.exec
  have hb := BB.bytes
  have hr := BB.returns
  have hts := atoms_spec (ws := wsX2_missing) BB.pre
  have hown : s.vm.findClass RX2 = some m.cls := findClass_of_methodNamed BB.named
  have hlocks := BB.notSynchronized
  have hS : va_S (fun _ => False) s.heap s.heap [] := va_S.rf
  have hl := lv_entry ([.ref (ad 3), .int (nI j), .int pool]) (n := 5) (Nat.le_of_ble_eq_true rfl)
  rw [lg_entry_eq]
  generalize (lg_sl ([.ref (ad 3), .int (nI j), .int pool]) ++ List.replicate (5 - (lg_sl ([.ref (ad 3), .int (nI j), .int pool])).length) Slot.unset).toArray = ls at hl ⊢
  have hl : lv_has ls 5 [(0, .ref (ad 3)), (1, .int (nI j)), (2, .int pool)] := hl
  have hf11 := hts (.fieldLink RX2 11 "Coverpool$Sheet" "needs" "[I") (by decide +kernel)
  have hf17 := hts (.fieldLink RX2 17 "Coverpool$Sheet" "gives" "[[I") (by decide +kernel)
  have hinX2 : ∀ w ∈ u_ws RX2 TX2 2, w ∈ wsX2_missing := by decide +kernel
  refine lv_aload_n hx hb dX2_missing_0 rfl (lv_at hl 0 rfl) ?_
  refine wb_get hx hb hts hinX2 hown hK hW 3 (lvC_0 (by decide)) rfl rfl 0 (by decide) hf11 (fun _ h9 => h9) (v := .ref (ad 4)) rfl dX2_missing_1 ?_
  refine lv_iload_n hx hb dX2_missing_4 rfl (lv_at hl 1 rfl) ?_
  refine wb_iald hx hb hK hW 4 (lvC_0 (by decide)) 0 rfl rfl j rfl (by omega) (by decide) dX2_missing_5 ?_
  refine lv_istore_n (lv' := [(3, .int (nd j)), (0, .ref (ad 3)), (1, .int (nI j)), (2, .int pool)]) hx hb dX2_missing_6 rfl hl (by decide) rfl (fun ls hl => ?_)
  refine lv_iconst (v := 0) hx hb dX2_missing_7 (by decide) ?_
  refine lv_istore (lv' := [(4, .int 0), (3, .int (nd j)), (0, .ref (ad 3)), (1, .int (nI j)), (2, .int pool)]) hx hb dX2_missing_8 hl (by decide) rfl (fun ls hl => ?_)
  have loop_1 : ∀ (k1 j1 : Nat), j1 + k1 = 12 → ∀ (a1_0 : Int32), a1_0 = cMiss nd gv j pool j1 → ∀ (H : Heap) (locs : List Loc), wP D A (lvC n b) ad (ctC cs ad z0 g L B n b y1 y2 N1 N2 nd gv) H → va_S (fun _ => False) s.heap H locs → ∀ (ls : Array Slot), lv_has ls 5 [(4, .int (nI j1)), (3, .int a1_0), (0, .ref (ad 3)), (1, .int (nI j)), (2, .int pool)] → W p l e ({ frames := 1, cells := 0, slots := 0, locals := 24 } : Room) s m (([.ref (ad 3), .int (nI j), .int pool] : List Value).toArray) below meth c H locs 0 0 (MQ below (va_Qi (fun (r9 : Int32) (_ : Unit) => r9 = cMiss nd gv j pool 12) (fun _ _ => True) (fun _ => False)) (([.ref (ad 3), .int (nI j), .int pool] : List Value).toArray) s 0 0 (fun _ => False)) (F0 m 10 ls []) := by
    intro k1
    induction k1 with
    | zero =>
      intro j1 hj_1 a1_0 ea1_0 H locs hW hS ls hl
      subst ea1_0
      obtain rfl : 12 = j1 := by omega
      refine lv_iload hx hb dX2_missing_10 (lv_at hl 0 rfl) ?_
      refine lv_bipush (v := 12) hx hb dX2_missing_12 (by decide) ?_
      refine lv_icmp_ge (tgt := 44) hx hb dX2_missing_14 (by decide) (fun c_2 => ?_) (fun c_2 => ?_)
      · -- nI 12 ge 12 : True
        refine lv_iload_n hx hb dX2_missing_44 rfl (lv_at hl 1 rfl) ?_
        exact W.iret (v := (cMiss nd gv j pool 12)) hx hb hr (fun t9 ht9 hW9 => ⟨⟨_, (), rfl, (by rfl), trivial⟩, hS.F ht9⟩) hS.2.2 dX2_missing_45
      · -- nI 12 ge 12 : False
        exact absurd (by decide) c_2
    | succ k1 ih_1 =>
      intro j1 hj_1 a1_0 ea1_0 H locs hW hS ls hl
      subst ea1_0
      refine lv_iload hx hb dX2_missing_10 (lv_at hl 0 rfl) ?_
      refine lv_bipush (v := 12) hx hb dX2_missing_12 (by decide) ?_
      refine lv_icmp_ge (tgt := 44) hx hb dX2_missing_14 (by decide) (fun c_3 => ?_) (fun c_3 => ?_)
      · -- nI j1 ge 12 : True
        exact absurd (show nI 12 ≤ _ from c_3) (nI_ge (by omega) (by omega))
      · -- nI j1 ge 12 : False
        refine lv_iload_n hx hb dX2_missing_17 rfl (lv_at hl 4 rfl) ?_
        refine lv_iconst (v := 1) hx hb dX2_missing_18 (by decide) ?_
        refine lv_iload hx hb dX2_missing_19 (lv_at hl 0 rfl) ?_
        refine lv_ishl hx hb dX2_missing_21 ?_
        refine lv_iand hx hb dX2_missing_22 ?_
        refine lv_if_eq (tgt := 38) hx hb dX2_missing_23 (by decide) (fun c_4 => ?_) (fun c_4 => ?_)
        · -- pool &&& ((1 : Int32) <<< ((nI j1) &&& 31)) eq 0 : True
          refine lv_iinc (v := nI (j1 + 1)) (lv' := [(4, .int (nI (j1 + 1))), (3, .int (cMiss nd gv j pool j1)), (0, .ref (ad 3)), (1, .int (nI j)), (2, .int pool)]) hx hb dX2_missing_38 hl (k := 0) rfl (nI_1 _) (by decide) rfl (fun ls hl => ?_)
          refine lv_goto (tgt := 10) hx hb dX2_missing_41 (by decide) ?_
          exact ih_1 (j1 + 1) (by omega) _ (by simp [cMiss, c_3, c_4])  _ _ hW hS ls (lv_sub hl [0, 1, 2, 3, 4] rfl)
        · -- pool &&& ((1 : Int32) <<< ((nI j1) &&& 31)) eq 0 : False
          refine lv_iload_n hx hb dX2_missing_26 rfl (lv_at hl 1 rfl) ?_
          refine lv_aload_n hx hb dX2_missing_27 rfl (lv_at hl 2 rfl) ?_
          refine wb_get hx hb hts hinX2 hown hK hW 3 (lvC_0 (by decide)) rfl rfl 1 (by decide) hf17 (fun _ h9 => h9) (v := .ref (ad 5)) rfl dX2_missing_28 ?_
          refine lv_iload hx hb dX2_missing_31 (lv_at hl 0 rfl) ?_
          refine wb_aaldI hx hb hK hW 5 (lvC_0 (by decide)) 3 rfl rfl j1 rfl (by omega) (by decide) dX2_missing_33 ?_
          rw [if_pos (show j1 < 12 by omega)]
          refine lv_iload_n hx hb dX2_missing_34 rfl (lv_at hl 3 rfl) ?_
          refine wb_iald hx hb hK hW (8 + j1) (lvC_rw (by omega)) 0 (ctC_rw (by omega)) rfl j rfl (by omega) (by decide) dX2_missing_35 ?_
          refine lv_isub hx hb dX2_missing_36 ?_
          refine lv_istore_n (lv' := [(3, .int ((cMiss nd gv j pool j1) - (gv j1 j))), (4, .int (nI j1)), (0, .ref (ad 3)), (1, .int (nI j)), (2, .int pool)]) hx hb dX2_missing_37 rfl hl (by decide) rfl (fun ls hl => ?_)
          refine lv_iinc (v := nI (j1 + 1)) (lv' := [(4, .int (nI (j1 + 1))), (3, .int ((cMiss nd gv j pool j1) - (gv j1 j))), (0, .ref (ad 3)), (1, .int (nI j)), (2, .int pool)]) hx hb dX2_missing_38 hl (k := 1) rfl (nI_1 _) (by decide) rfl (fun ls hl => ?_)
          refine lv_goto (tgt := 10) hx hb dX2_missing_41 (by decide) ?_
          exact ih_1 (j1 + 1) (by omega) _ (by simp [cMiss, c_3, c_4])  _ _ hW hS ls (lv_sub hl [0, 1, 2, 3, 4] rfl)
  exact loop_1 (12) 0 (by omega) _ (by simp [cMiss])  _ _ hW hS ls (lv_sub hl [0, 1, 2, 3, 4] rfl)

set_option maxHeartbeats 4000000 in
set_option maxRecDepth 100000 in
theorem c_X2_allHold (l : Launch) (D : va_G) (cs : Nat → ClassId) (A : Nat → Prop) (z0 : Nat) (sa : Nat → Nat) (ad : Nat → Nat) (g : Nat → Int32) (L B : Nat → Nat → Int32) (n b : Nat) (y1 y2 : Int32) (N1 N2 : Nat) (nd : Nat → Int32) (gv : Nat → Nat → Int32) (hn : n ≤ 12) (hb5 : b ≤ 5) (hN1 : n ≤ N1 ∧ N1 < 1000) (hN2 : b ≤ N2 ∧ N2 < 1000) (pool : Int32) : Met l yX2_allHold wsX2_allHold ({ frames := 2, cells := 0, slots := 0, locals := 48 } : Room) (va_Pc [.ref (ad 3), .int pool] (pC D cs A z0 sa (lvC n b) ad (ctC cs ad z0 g L B n b y1 y2 N1 N2 nd gv))) (va_Qi (fun (r9 : Int32) (_ : Unit) => (r9 = 1 ∧ (cAll nd gv pool)) ∨ (r9 = 0 ∧ ¬ (cAll nd gv pool))) (fun _ _ => True) (fun _ => False)) 0 0 (fun _ => False) := by
  refine Met.ofW (cc := cX2_allHold) (maxL := 3) (ret := (some .boolean)) (by decide) rfl ?_
  intro p e s m args below meth c s₁ BB hml hv
  obtain ⟨rfl, hv⟩ := hv
  obtain ⟨hE, hW⟩ := hv
  have hK := hE.1
  have hx := BB.exec
  have hb := BB.bytes
  have hr := BB.returns
  have hts := atoms_spec (ws := wsX2_allHold) BB.pre
  have hown : s.vm.findClass RX2 = some m.cls := findClass_of_methodNamed BB.named
  have hlocks := BB.notSynchronized
  have hS : va_S (fun _ => False) s.heap s.heap [] := va_S.rf
  have hl := lv_entry ([.ref (ad 3), .int pool]) (n := 3) (Nat.le_of_ble_eq_true rfl)
  rw [lg_entry_eq]
  generalize (lg_sl ([.ref (ad 3), .int pool]) ++ List.replicate (3 - (lg_sl ([.ref (ad 3), .int pool])).length) Slot.unset).toArray = ls at hl ⊢
  have hl : lv_has ls 3 [(0, .ref (ad 3)), (1, .int pool)] := hl
  refine lv_iconst (v := 0) hx hb dX2_allHold_0 (by decide) ?_
  refine lv_istore_n (lv' := [(2, .int 0), (0, .ref (ad 3)), (1, .int pool)]) hx hb dX2_allHold_1 rfl hl (by decide) rfl (fun ls hl => ?_)
  have loop_1 : ∀ (k1 j1 : Nat), j1 + k1 = 9 → (∀ i9, i9 < j1 → cMiss nd gv i9 pool 12 ≤ 0) → ∀ (H : Heap) (locs : List Loc), wP D A (lvC n b) ad (ctC cs ad z0 g L B n b y1 y2 N1 N2 nd gv) H → va_S (fun _ => False) s.heap H locs → ∀ (ls : Array Slot), lv_has ls 3 [(2, .int (nI j1)), (0, .ref (ad 3)), (1, .int pool)] → W p l e ({ frames := 2, cells := 0, slots := 0, locals := 48 } : Room) s m (([.ref (ad 3), .int pool] : List Value).toArray) below meth c H locs 0 0 (MQ below (va_Qi (fun (r9 : Int32) (_ : Unit) => (r9 = 1 ∧ (cAll nd gv pool)) ∨ (r9 = 0 ∧ ¬ (cAll nd gv pool))) (fun _ _ => True) (fun _ => False)) (([.ref (ad 3), .int pool] : List Value).toArray) s 0 0 (fun _ => False)) (F0 m 2 ls []) := by
    intro k1
    induction k1 with
    | zero =>
      intro j1 hj_1  hi1_0 H locs hW hS ls hl
      obtain rfl : 9 = j1 := by omega
      refine lv_iload_n hx hb dX2_allHold_2 rfl (lv_at hl 0 rfl) ?_
      refine lv_bipush (v := 9) hx hb dX2_allHold_3 (by decide) ?_
      refine lv_icmp_ge (tgt := 25) hx hb dX2_allHold_5 (by decide) (fun c_2 => ?_) (fun c_2 => ?_)
      · -- nI 9 ge 9 : True
        refine lv_iconst (v := 1) hx hb dX2_allHold_25 (by decide) ?_
        exact W.zret (ty := .boolean) (v := 1) hx hb hr (by decide) (fun t9 ht9 hW9 => ⟨⟨_, (), rfl, Or.inl ⟨rfl, by exact fun j9 hj9 => hi1_0 j9 hj9⟩, trivial⟩, hS.F ht9⟩) hS.2.2 dX2_allHold_26
      · -- nI 9 ge 9 : False
        exact absurd (by decide) c_2
    | succ k1 ih_1 =>
      intro j1 hj_1  hi1_0 H locs hW hS ls hl
      refine lv_iload_n hx hb dX2_allHold_2 rfl (lv_at hl 0 rfl) ?_
      refine lv_bipush (v := 9) hx hb dX2_allHold_3 (by decide) ?_
      refine lv_icmp_ge (tgt := 25) hx hb dX2_allHold_5 (by decide) (fun c_3 => ?_) (fun c_3 => ?_)
      · -- nI j1 ge 9 : True
        exact absurd (show nI 9 ≤ _ from c_3) (nI_ge (by omega) (by omega))
      · -- nI j1 ge 9 : False
        refine lv_aload_n hx hb dX2_allHold_8 rfl (lv_at hl 1 rfl) ?_
        refine lv_iload_n hx hb dX2_allHold_9 rfl (lv_at hl 0 rfl) ?_
        refine lv_iload_n hx hb dX2_allHold_10 rfl (lv_at hl 2 rfl) ?_
        refine va_calli (va_runV (As := [.int (nI j1), .int pool]) (rest := []) ⟨hx, hb, hml, hown, hts⟩ (c_X2_missing l D cs A z0 sa ad g L B n b y1 y2 N1 N2 nd gv hn hb5 hN1 hN2 j1 (by omega) pool) (cwV 2 hts gX2_allHold_X2_missing rfl rfl rfl (by decide +kernel) ⟨Nat.le_of_ble_eq_true rfl, Nat.le_of_ble_eq_true rfl⟩) ⟨pC_fb, wb_recv hK hW (r := 3) (lvC_0 (by decide)) (ci := 3) rfl rfl, fun U hU hV => ⟨rfl, hE.at (fun _ h => h.elim) hS hV hU, by rw [hU]; exact hW⟩⟩ rfl rfl hl.1 rfl (lv_room (Nat.le_of_ble_eq_true rfl)) dX2_allHold_11 ⟨Nat.zero_le _, Nat.zero_le _⟩) hS (fun _ _ h => h.elim) (fun _ h => h.elim) (fun r_4 u t9 H locs ht hvm hw _ hz1 hk1 hS => ?_)
        have hW := hW.kept hk1
        subst hw
        refine lv_if_le (tgt := 19) hx hb dX2_allHold_14 (by decide) (fun c_5 => ?_) (fun c_5 => ?_)
        · -- cMiss nd gv j1 pool 12 le 0 : True
          refine lv_iinc (v := nI (j1 + 1)) (lv' := [(2, .int (nI (j1 + 1))), (0, .ref (ad 3)), (1, .int pool)]) hx hb dX2_allHold_19 hl (k := 0) rfl (nI_1 _) (by decide) rfl (fun ls hl => ?_)
          refine lv_goto (tgt := 2) hx hb dX2_allHold_22 (by decide) ?_
          exact ih_1 (j1 + 1) (by omega)  (fun i9 h9 => by rcases Nat.lt_or_ge i9 j1 with q | q; exact hi1_0 i9 q; rw [show i9 = j1 by omega]; exact c_5) _ _ hW hS ls (lv_sub hl [0, 1, 2] rfl)
        · -- cMiss nd gv j1 pool 12 le 0 : False
          refine lv_iconst (v := 0) hx hb dX2_allHold_17 (by decide) ?_
          exact W.zret (ty := .boolean) (v := 0) hx hb hr (by decide) (fun t9 ht9 hW9 => ⟨⟨_, (), rfl, Or.inr ⟨rfl, by exact fun q => absurd (q _ (by omega)) c_5⟩, trivial⟩, hS.F ht9⟩) hS.2.2 dX2_allHold_18
  exact loop_1 (9) 0 (by omega)  (fun _ h => absurd h (Nat.not_lt_zero _)) _ _ hW hS ls (lv_sub hl [0, 1, 2] rfl)

set_option maxHeartbeats 4000000 in
set_option maxRecDepth 100000 in
theorem c_X2_mostMissing (l : Launch) (D : va_G) (cs : Nat → ClassId) (A : Nat → Prop) (z0 : Nat) (sa : Nat → Nat) (ad : Nat → Nat) (g : Nat → Int32) (L B : Nat → Nat → Int32) (n b : Nat) (y1 y2 : Int32) (N1 N2 : Nat) (nd : Nat → Int32) (gv : Nat → Nat → Int32) (hn : n ≤ 12) (hb5 : b ≤ 5) (hN1 : n ≤ N1 ∧ N1 < 1000) (hN2 : b ≤ N2 ∧ N2 < 1000) (test pool : Int32) : Met l yX2_mostMissing wsX2_mostMissing ({ frames := 2, cells := 0, slots := 0, locals := 48 } : Room) (va_Pc [.ref (ad 3), .int test, .int pool] (pC D cs A z0 sa (lvC n b) ad (ctC cs ad z0 g L B n b y1 y2 N1 N2 nd gv))) (va_Qi (fun (r9 : Int32) (_ : Unit) => r9 = cMost nd gv test pool 9) (fun _ _ => True) (fun _ => False)) 0 0 (fun _ => False) := by
  refine Met.ofW (cc := cX2_mostMissing) (maxL := 5) (ret := (some .int)) (by decide) rfl ?_
  intro p e s m args below meth c s₁ BB hml hv
  obtain ⟨rfl, hv⟩ := hv
  obtain ⟨hE, hW⟩ := hv
  have hK := hE.1
  have hx := BB.exec
  have hb := BB.bytes
  have hr := BB.returns
  have hts := atoms_spec (ws := wsX2_mostMissing) BB.pre
  have hown : s.vm.findClass RX2 = some m.cls := findClass_of_methodNamed BB.named
  have hlocks := BB.notSynchronized
  have hS : va_S (fun _ => False) s.heap s.heap [] := va_S.rf
  have hl := lv_entry ([.ref (ad 3), .int test, .int pool]) (n := 5) (Nat.le_of_ble_eq_true rfl)
  rw [lg_entry_eq]
  generalize (lg_sl ([.ref (ad 3), .int test, .int pool]) ++ List.replicate (5 - (lg_sl ([.ref (ad 3), .int test, .int pool])).length) Slot.unset).toArray = ls at hl ⊢
  have hl : lv_has ls 5 [(0, .ref (ad 3)), (1, .int test), (2, .int pool)] := hl
  refine lv_iconst (v := 0) hx hb dX2_mostMissing_0 (by decide) ?_
  refine lv_istore_n (lv' := [(3, .int 0), (0, .ref (ad 3)), (1, .int test), (2, .int pool)]) hx hb dX2_mostMissing_1 rfl hl (by decide) rfl (fun ls hl => ?_)
  refine lv_iconst (v := 0) hx hb dX2_mostMissing_2 (by decide) ?_
  refine lv_istore (lv' := [(4, .int 0), (3, .int 0), (0, .ref (ad 3)), (1, .int test), (2, .int pool)]) hx hb dX2_mostMissing_3 hl (by decide) rfl (fun ls hl => ?_)
  have loop_1 : ∀ (k1 j1 : Nat), j1 + k1 = 9 → ∀ (a1_0 : Int32), a1_0 = cMost nd gv test pool j1 → ∀ (H : Heap) (locs : List Loc), wP D A (lvC n b) ad (ctC cs ad z0 g L B n b y1 y2 N1 N2 nd gv) H → va_S (fun _ => False) s.heap H locs → ∀ (ls : Array Slot), lv_has ls 5 [(4, .int (nI j1)), (3, .int a1_0), (0, .ref (ad 3)), (1, .int test), (2, .int pool)] → W p l e ({ frames := 2, cells := 0, slots := 0, locals := 48 } : Room) s m (([.ref (ad 3), .int test, .int pool] : List Value).toArray) below meth c H locs 0 0 (MQ below (va_Qi (fun (r9 : Int32) (_ : Unit) => r9 = cMost nd gv test pool 9) (fun _ _ => True) (fun _ => False)) (([.ref (ad 3), .int test, .int pool] : List Value).toArray) s 0 0 (fun _ => False)) (F0 m 5 ls []) := by
    intro k1
    induction k1 with
    | zero =>
      intro j1 hj_1 a1_0 ea1_0 H locs hW hS ls hl
      subst ea1_0
      obtain rfl : 9 = j1 := by omega
      refine lv_iload hx hb dX2_mostMissing_5 (lv_at hl 0 rfl) ?_
      refine lv_bipush (v := 9) hx hb dX2_mostMissing_7 (by decide) ?_
      refine lv_icmp_ge (tgt := 39) hx hb dX2_mostMissing_9 (by decide) (fun c_2 => ?_) (fun c_2 => ?_)
      · -- nI 9 ge 9 : True
        refine lv_iload_n hx hb dX2_mostMissing_39 rfl (lv_at hl 1 rfl) ?_
        exact W.iret (v := (cMost nd gv test pool 9)) hx hb hr (fun t9 ht9 hW9 => ⟨⟨_, (), rfl, (by rfl), trivial⟩, hS.F ht9⟩) hS.2.2 dX2_mostMissing_40
      · -- nI 9 ge 9 : False
        exact absurd (by decide) c_2
    | succ k1 ih_1 =>
      intro j1 hj_1 a1_0 ea1_0 H locs hW hS ls hl
      subst ea1_0
      refine lv_iload hx hb dX2_mostMissing_5 (lv_at hl 0 rfl) ?_
      refine lv_bipush (v := 9) hx hb dX2_mostMissing_7 (by decide) ?_
      refine lv_icmp_ge (tgt := 39) hx hb dX2_mostMissing_9 (by decide) (fun c_3 => ?_) (fun c_3 => ?_)
      · -- nI j1 ge 9 : True
        exact absurd (show nI 9 ≤ _ from c_3) (nI_ge (by omega) (by omega))
      · -- nI j1 ge 9 : False
        refine lv_iload hx hb dX2_mostMissing_12 (lv_at hl 0 rfl) ?_
        refine va_calli (va_runS (As := [.int (nI j1)]) (rest := []) ⟨hx, hb, hml, hown, hts⟩ (c_X2_testOf l (nI j1)) (va_cwS 1 hts gX2_mostMissing_X2_testOf rfl rfl rfl (by decide +kernel) ⟨Nat.le_of_ble_eq_true rfl, Nat.le_of_ble_eq_true rfl⟩) ⟨pT_fb, fun U hU hV => ⟨rfl, trivial⟩⟩ rfl rfl hl.1 rfl (lv_room (Nat.le_of_ble_eq_true rfl)) dX2_mostMissing_14 ⟨Nat.zero_le _, Nat.zero_le _⟩) hS (fun _ _ h => h.elim) (fun _ h => h.elim) (fun r_4 u t9 H locs ht hvm hw _ hz1 hk1 hS => ?_)
        have hW := hW.kept hk1
        subst hw
        refine lv_iload_n hx hb dX2_mostMissing_17 rfl (lv_at hl 3 rfl) ?_
        refine lv_icmp_ne (tgt := 33) hx hb dX2_mostMissing_18 (by decide) (fun c_5 => ?_) (fun c_5 => ?_)
        · -- cTest (nI j1) ne test : True
          refine lv_iinc (v := nI (j1 + 1)) (lv' := [(4, .int (nI (j1 + 1))), (3, .int (cMost nd gv test pool j1)), (0, .ref (ad 3)), (1, .int test), (2, .int pool)]) hx hb dX2_mostMissing_33 hl (k := 0) rfl (nI_1 _) (by decide) rfl (fun ls hl => ?_)
          refine lv_goto (tgt := 5) hx hb dX2_mostMissing_36 (by decide) ?_
          exact ih_1 (j1 + 1) (by omega) _ (by first | (simp only [cMost, c_3, c_5, reduceIte]; done) | simp [cMost, c_3, c_5])  _ _ hW hS ls (lv_sub hl [0, 1, 2, 3, 4] rfl)
        · -- cTest (nI j1) ne test : False
          refine lv_iload_n hx hb dX2_mostMissing_21 rfl (lv_at hl 1 rfl) ?_
          refine lv_aload_n hx hb dX2_mostMissing_22 rfl (lv_at hl 2 rfl) ?_
          refine lv_iload hx hb dX2_mostMissing_23 (lv_at hl 0 rfl) ?_
          refine lv_iload_n hx hb dX2_mostMissing_25 rfl (lv_at hl 4 rfl) ?_
          refine va_calli (va_runV (As := [.int (nI j1), .int pool]) (rest := [.int (cMost nd gv test pool j1)]) ⟨hx, hb, hml, hown, hts⟩ (c_X2_missing l D cs A z0 sa ad g L B n b y1 y2 N1 N2 nd gv hn hb5 hN1 hN2 j1 (by omega) pool) (cwV 2 hts gX2_mostMissing_X2_missing rfl rfl rfl (by decide +kernel) ⟨Nat.le_of_ble_eq_true rfl, Nat.le_of_ble_eq_true rfl⟩) ⟨pC_fb, wb_recv hK hW (r := 3) (lvC_0 (by decide)) (ci := 3) rfl rfl, fun U hU hV => ⟨rfl, hE.at (fun _ h => h.elim) hS hV hU, by rw [hU]; exact hW⟩⟩ rfl rfl hl.1 rfl (lv_room (Nat.le_of_ble_eq_true rfl)) dX2_mostMissing_26 ⟨Nat.zero_le _, Nat.zero_le _⟩) hS (fun _ _ h => h.elim) (fun _ h => h.elim) (fun r_6 u t9 H locs ht hvm hw _ hz1 hk1 hS => ?_)
          have hW := hW.kept hk1
          subst hw
          refine va_mmax (x := (cMost nd gv test pool j1)) (y := cMiss nd gv j1 pool 12) hx hb (by rw [hml]; exact hl.1.symm) hown (hts (.methodLink RX2 28 Lib.Math.max.name) (by decide +kernel)) (hts (.static Lib.Math.max.name) (by decide +kernel)) (hts (.initialized "java/lang/Math") (by decide +kernel)) (hts (.code Lib.Math.max.name Lib.Math.max.code 2 (some .int)) (by decide +kernel)) (Nat.le_of_ble_eq_true rfl) (Nat.le_of_ble_eq_true rfl) (Nat.zero_le _) (Nat.zero_le _) dX2_mostMissing_29 ?_
          refine lv_istore_n (lv' := [(3, .int (if (cMost nd gv test pool j1) < (cMiss nd gv j1 pool 12) then (cMiss nd gv j1 pool 12) else (cMost nd gv test pool j1))), (4, .int (nI j1)), (0, .ref (ad 3)), (1, .int test), (2, .int pool)]) hx hb dX2_mostMissing_32 rfl hl (by decide) rfl (fun ls hl => ?_)
          refine lv_iinc (v := nI (j1 + 1)) (lv' := [(4, .int (nI (j1 + 1))), (3, .int (if (cMost nd gv test pool j1) < (cMiss nd gv j1 pool 12) then (cMiss nd gv j1 pool 12) else (cMost nd gv test pool j1))), (0, .ref (ad 3)), (1, .int test), (2, .int pool)]) hx hb dX2_mostMissing_33 hl (k := 1) rfl (nI_1 _) (by decide) rfl (fun ls hl => ?_)
          refine lv_goto (tgt := 5) hx hb dX2_mostMissing_36 (by decide) ?_
          exact ih_1 (j1 + 1) (by omega) _ (by first | (simp only [cMost, c_3, c_5, reduceIte]; done) | simp [cMost, c_3, c_5])  _ _ hW hS ls (lv_sub hl [0, 1, 2, 3, 4] rfl)
  exact loop_1 (9) 0 (by omega) _ (by simp [cMost])  _ _ hW hS ls (lv_sub hl [0, 1, 2, 3, 4] rfl)

set_option maxHeartbeats 4000000 in
set_option maxRecDepth 100000 in
theorem c_X3_countOf (l : Launch) (D : va_G) (cs : Nat → ClassId) (A : Nat → Prop) (z0 : Nat) (sa : Nat → Nat) (ad : Nat → Nat) (g : Nat → Int32) (L B : Nat → Nat → Int32) (n b : Nat) (y1 y2 : Int32) (N1 N2 : Nat) (nd : Nat → Int32) (gv : Nat → Nat → Int32) (hn : n ≤ 12) (hb5 : b ≤ 5) (hN1 : n ≤ N1 ∧ N1 < 1000) (hN2 : b ≤ N2 ∧ N2 < 1000) (i : Nat) (hi : i < n) : Met l yX3_countOf wsX3_countOf ({ frames := 1, cells := 0, slots := 0, locals := 24 } : Room) (va_Pc [.ref (ad 0), .ref (ad (20 + i))] (pC D cs A z0 sa (lvC n b) ad (ctC cs ad z0 g L B n b y1 y2 N1 N2 nd gv))) (va_Qi (fun (r9 : Int32) (_ : Unit) => r9 = mCount g L i) (fun _ _ => True) (fun _ => False)) 0 0 (fun _ => False) := by
  refine Met.ofW (cc := cX3_countOf) (maxL := 2) (ret := (some .int)) (by decide) rfl ?_
  intro p e s m args below meth c s₁ BB hml hv
  obtain ⟨rfl, hv⟩ := hv
  obtain ⟨hE, hW⟩ := hv
  have hK := hE.1
  have hx := BB.exec
  have hb := BB.bytes
  have hr := BB.returns
  have hts := atoms_spec (ws := wsX3_countOf) BB.pre
  have hown : s.vm.findClass RX3 = some m.cls := findClass_of_methodNamed BB.named
  have hlocks := BB.notSynchronized
  have hS : va_S (fun _ => False) s.heap s.heap [] := va_S.rf
  have hl := lv_entry ([.ref (ad 0), .ref (ad (20 + i))]) (n := 2) (Nat.le_of_ble_eq_true rfl)
  rw [lg_entry_eq]
  generalize (lg_sl ([.ref (ad 0), .ref (ad (20 + i))]) ++ List.replicate (2 - (lg_sl ([.ref (ad 0), .ref (ad (20 + i))])).length) Slot.unset).toArray = ls at hl ⊢
  have hl : lv_has ls 2 [(0, .ref (ad 0)), (1, .ref (ad (20 + i)))] := hl
  have hf33 := hts (.fieldLink RX3 33 "Coverpool" "rankThatCounts" "I") (by decide +kernel)
  have hf102 := hts (.fieldLink RX3 102 "Coverpool$Loan" "arrears" "I") (by decide +kernel)
  have hf105 := hts (.fieldLink RX3 105 "Coverpool$Loan" "worth" "I") (by decide +kernel)
  have hf177 := hts (.fieldLink RX3 177 "Coverpool$Loan" "amount" "I") (by decide +kernel)
  have hf186 := hts (.fieldLink RX3 186 "Coverpool$Loan" "rank" "I") (by decide +kernel)
  have hinX1 : ∀ w ∈ u_ws RX1 TX1 6, w ∈ wsX3_countOf := by decide +kernel
  have hinX3 : ∀ w ∈ u_ws RX3 TX3 8, w ∈ wsX3_countOf := by decide +kernel
  refine lv_aload_n hx hb dX3_countOf_0 rfl (lv_at hl 1 rfl) ?_
  refine wb_get hx hb hts hinX1 hown hK hW (20 + i) (lvC_ln (by omega)) (ctC_ln (by omega)) rfl 4 (by decide) hf102 (fun _ h9 => h9) (v := .int (L 4 i)) rfl dX3_countOf_1 ?_
  refine lv_iconst (v := 3) hx hb dX3_countOf_4 (by decide) ?_
  refine lv_icmp_ge (tgt := 19) hx hb dX3_countOf_5 (by decide) (fun c_1 => ?_) (fun c_1 => ?_)
  · -- L 4 i ge 3 : True
    refine lv_iconst (v := 0) hx hb dX3_countOf_19 (by decide) ?_
    exact W.iret (v := 0) hx hb hr (fun t9 ht9 hW9 => ⟨⟨_, (), rfl, (by simp [mCount, c_1]), trivial⟩, hS.F ht9⟩) hS.2.2 dX3_countOf_20
  · -- L 4 i ge 3 : False
    refine lv_aload_n hx hb dX3_countOf_8 rfl (lv_at hl 1 rfl) ?_
    refine wb_get hx hb hts hinX1 hown hK hW (20 + i) (lvC_ln (by omega)) (ctC_ln (by omega)) rfl 1 (by decide) hf186 (fun _ h9 => h9) (v := .int (L 2 i)) rfl dX3_countOf_9 ?_
    refine lv_aload_n hx hb dX3_countOf_12 rfl (lv_at hl 0 rfl) ?_
    refine wb_get hx hb hts hinX3 hown hK hW 0 (lvC_0 (by decide)) rfl rfl 5 (by decide) hf33 (fun _ h9 => h9) (v := .int (g 2)) rfl dX3_countOf_13 ?_
    refine lv_icmp_le (tgt := 21) hx hb dX3_countOf_16 (by decide) (fun c_2 => ?_) (fun c_2 => ?_)
    · -- L 2 i le g 2 : True
      refine lv_aload_n hx hb dX3_countOf_21 rfl (lv_at hl 1 rfl) ?_
      refine wb_get hx hb hts hinX1 hown hK hW (20 + i) (lvC_ln (by omega)) (ctC_ln (by omega)) rfl 0 (by decide) hf177 (fun _ h9 => h9) (v := .int (L 0 i)) rfl dX3_countOf_22 ?_
      refine lv_aload_n hx hb dX3_countOf_25 rfl (lv_at hl 1 rfl) ?_
      refine wb_get hx hb hts hinX1 hown hK hW (20 + i) (lvC_ln (by omega)) (ctC_ln (by omega)) rfl 3 (by decide) hf105 (fun _ h9 => h9) (v := .int (L 1 i)) rfl dX3_countOf_26 ?_
      refine lv_bipush (v := 80) hx hb dX3_countOf_29 (by decide) ?_
      refine lv_imul hx hb dX3_countOf_31 ?_
      refine lv_bipush (v := 100) hx hb dX3_countOf_32 (by decide) ?_
      refine lv_idiv hx hb dX3_countOf_34 (by decide) ?_
      refine va_mmin (x := L 0 i) (y := ((L 1 i) * 80) / 100) hx hb (by rw [hml]; exact hl.1.symm) hown (hts (.methodLink RX3 137 Lib.Math.min.name) (by decide +kernel)) (hts (.static Lib.Math.min.name) (by decide +kernel)) (hts (.initialized "java/lang/Math") (by decide +kernel)) (hts (.code Lib.Math.min.name Lib.Math.min.code 2 (some .int)) (by decide +kernel)) (Nat.le_of_ble_eq_true rfl) (Nat.le_of_ble_eq_true rfl) (Nat.zero_le _) (Nat.zero_le _) dX3_countOf_35 ?_
      exact W.iret (v := if (((L 1 i) * 80) / 100) < (L 0 i) then (((L 1 i) * 80) / 100) else (L 0 i)) hx hb hr (fun t9 ht9 hW9 => ⟨⟨_, (), rfl, (by rw [mn_eq]; simp [mCount, c_1, c_2]), trivial⟩, hS.F ht9⟩) hS.2.2 dX3_countOf_38
    · -- L 2 i le g 2 : False
      refine lv_iconst (v := 0) hx hb dX3_countOf_19 (by decide) ?_
      exact W.iret (v := 0) hx hb hr (fun t9 ht9 hW9 => ⟨⟨_, (), rfl, (by simp [mCount, c_1, c_2]), trivial⟩, hS.F ht9⟩) hS.2.2 dX3_countOf_20

set_option maxHeartbeats 4000000 in
set_option maxRecDepth 100000 in
theorem c_X3_worthNow (l : Launch) (D : va_G) (cs : Nat → ClassId) (A : Nat → Prop) (z0 : Nat) (sa : Nat → Nat) (ad : Nat → Nat) (g : Nat → Int32) (L B : Nat → Nat → Int32) (n b : Nat) (y1 y2 : Int32) (N1 N2 : Nat) (nd : Nat → Int32) (gv : Nat → Nat → Int32) (hn : n ≤ 12) (hb5 : b ≤ 5) (hN1 : n ≤ N1 ∧ N1 < 1000) (hN2 : b ≤ N2 ∧ N2 < 1000) (x w : Int32) : Met l yX3_worthNow wsX3_worthNow ({ frames := 1, cells := 0, slots := 0, locals := 24 } : Room) (va_Pc [.ref (ad 0), .int x, .int w] (pC D cs A z0 sa (lvC n b) ad (ctC cs ad z0 g L B n b y1 y2 N1 N2 nd gv))) (va_Qi (fun (r9 : Int32) (_ : Unit) => r9 = cWorth g x w) (fun _ _ => True) (fun _ => False)) 0 0 (fun _ => False) := by
  refine Met.ofW (cc := cX3_worthNow) (maxL := 4) (ret := (some .int)) (by decide) rfl ?_
  intro p e s m args below meth c s₁ BB hml hv
  obtain ⟨rfl, hv⟩ := hv
  obtain ⟨hE, hW⟩ := hv
  have hK := hE.1
  have hx := BB.exec
  have hb := BB.bytes
  have hr := BB.returns
  have hts := atoms_spec (ws := wsX3_worthNow) BB.pre
  have hown : s.vm.findClass RX3 = some m.cls := findClass_of_methodNamed BB.named
  have hlocks := BB.notSynchronized
  have hS : va_S (fun _ => False) s.heap s.heap [] := va_S.rf
  have hl := lv_entry ([.ref (ad 0), .int x, .int w]) (n := 4) (Nat.le_of_ble_eq_true rfl)
  rw [lg_entry_eq]
  generalize (lg_sl ([.ref (ad 0), .int x, .int w]) ++ List.replicate (4 - (lg_sl ([.ref (ad 0), .int x, .int w])).length) Slot.unset).toArray = ls at hl ⊢
  have hl : lv_has ls 4 [(0, .ref (ad 0)), (1, .int x), (2, .int w)] := hl
  have hf26 := hts (.fieldLink RX3 26 "Coverpool" "month" "I") (by decide +kernel)
  have hf39 := hts (.fieldLink RX3 39 "Coverpool" "rate" "I") (by decide +kernel)
  have hinX3 : ∀ w ∈ u_ws RX3 TX3 8, w ∈ wsX3_worthNow := by decide +kernel
  refine lv_sipush (v := 1200) hx hb dX3_worthNow_0 (by decide) ?_
  refine lv_aload_n hx hb dX3_worthNow_3 rfl (lv_at hl 0 rfl) ?_
  refine wb_get hx hb hts hinX3 hown hK hW 0 (lvC_0 (by decide)) rfl rfl 7 (by decide) hf39 (fun _ h9 => h9) (v := .int (g 4)) rfl dX3_worthNow_4 ?_
  refine lv_iconst (v := 0) hx hb dX3_worthNow_7 (by decide) ?_
  refine lv_iload_n hx hb dX3_worthNow_8 rfl (lv_at hl 2 rfl) ?_
  refine lv_aload_n hx hb dX3_worthNow_9 rfl (lv_at hl 0 rfl) ?_
  refine wb_get hx hb hts hinX3 hown hK hW 0 (lvC_0 (by decide)) rfl rfl 3 (by decide) hf26 (fun _ h9 => h9) (v := .int (g 0)) rfl dX3_worthNow_10 ?_
  refine lv_isub hx hb dX3_worthNow_13 ?_
  refine va_mmax (x := 0) (y := w - (g 0)) hx hb (by rw [hml]; exact hl.1.symm) hown (hts (.methodLink RX3 189 Lib.Math.max.name) (by decide +kernel)) (hts (.static Lib.Math.max.name) (by decide +kernel)) (hts (.initialized "java/lang/Math") (by decide +kernel)) (hts (.code Lib.Math.max.name Lib.Math.max.code 2 (some .int)) (by decide +kernel)) (Nat.le_of_ble_eq_true rfl) (Nat.le_of_ble_eq_true rfl) (Nat.zero_le _) (Nat.zero_le _) dX3_worthNow_14 ?_
  refine lv_imul hx hb dX3_worthNow_17 ?_
  refine lv_iadd hx hb dX3_worthNow_18 ?_
  refine lv_istore_n (lv' := [(3, .int (1200 + ((g 4) * (if 0 < (w - (g 0)) then (w - (g 0)) else 0)))), (0, .ref (ad 0)), (1, .int x), (2, .int w)]) hx hb dX3_worthNow_19 rfl hl (by decide) rfl (fun ls hl => ?_)
  refine lv_iload_n hx hb dX3_worthNow_20 rfl (lv_at hl 0 rfl) ?_
  refine lv_if_gt (tgt := 26) hx hb dX3_worthNow_21 (by decide) (fun c_1 => ?_) (fun c_1 => ?_)
  · -- 1200 + ((g 4) * (if 0 < (w - (g 0)) then (w - (g 0)) else 0)) gt 0 : True
    refine lv_sipush (v := 1200) hx hb dX3_worthNow_26 (by decide) ?_
    refine lv_iload_n hx hb dX3_worthNow_29 rfl (lv_at hl 2 rfl) ?_
    refine lv_imul hx hb dX3_worthNow_30 ?_
    refine lv_iload_n hx hb dX3_worthNow_31 rfl (lv_at hl 0 rfl) ?_
    refine lv_idiv hx hb dX3_worthNow_32 (fun q => absurd (q ▸ c_1) (by decide)) ?_
    exact W.iret (v := (1200 * x) / (1200 + ((g 4) * (if 0 < (w - (g 0)) then (w - (g 0)) else 0)))) hx hb hr (fun t9 ht9 hW9 => ⟨⟨_, (), rfl, (by simp [cWorth, c_1]), trivial⟩, hS.F ht9⟩) hS.2.2 dX3_worthNow_33
  · -- 1200 + ((g 4) * (if 0 < (w - (g 0)) then (w - (g 0)) else 0)) gt 0 : False
    refine lv_iconst (v := 0) hx hb dX3_worthNow_24 (by decide) ?_
    exact W.iret (v := 0) hx hb hr (fun t9 ht9 hW9 => ⟨⟨_, (), rfl, (by simp [cWorth, c_1]), trivial⟩, hS.F ht9⟩) hS.2.2 dX3_worthNow_25

set_option maxHeartbeats 4000000 in
set_option maxRecDepth 100000 in
theorem c_X3_debt (l : Launch) (D : va_G) (cs : Nat → ClassId) (A : Nat → Prop) (z0 : Nat) (sa : Nat → Nat) (ad : Nat → Nat) (g : Nat → Int32) (L B : Nat → Nat → Int32) (n b : Nat) (y1 y2 : Int32) (N1 N2 : Nat) (nd : Nat → Int32) (gv : Nat → Nat → Int32) (hn : n ≤ 12) (hb5 : b ≤ 5) (hN1 : n ≤ N1 ∧ N1 < 1000) (hN2 : b ≤ N2 ∧ N2 < 1000)  : Met l yX3_debt wsX3_debt ({ frames := 4, cells := 0, slots := 0, locals := 88 } : Room) (va_Pc [.ref (ad 0)] (pC D cs A z0 sa (lvC n b) ad (ctC cs ad z0 g L B n b y1 y2 N1 N2 nd gv))) (va_Qi (fun (r9 : Int32) (_ : Unit) => r9 = mOwed B b) (fun _ _ => True) (fun _ => False)) 0 0 (fun _ => False) := by
  refine Met.ofW (cc := cX3_debt) (maxL := 4) (ret := (some .int)) (by decide) rfl ?_
  intro p e s m args below meth c s₁ BB hml hv
  obtain ⟨rfl, hv⟩ := hv
  obtain ⟨hE, hW⟩ := hv
  have hK := hE.1
  have hx := BB.exec
  have hb := BB.bytes
  have hr := BB.returns
  have hts := atoms_spec (ws := wsX3_debt) BB.pre
  have hown : s.vm.findClass RX3 = some m.cls := findClass_of_methodNamed BB.named
  have hlocks := BB.notSynchronized
  have hS : va_S (fun _ => False) s.heap s.heap [] := va_S.rf
  have hl := lv_entry ([.ref (ad 0)]) (n := 4) (Nat.le_of_ble_eq_true rfl)
  rw [lg_entry_eq]
  generalize (lg_sl ([.ref (ad 0)]) ++ List.replicate (4 - (lg_sl ([.ref (ad 0)])).length) Slot.unset).toArray = ls at hl ⊢
  have hl : lv_has ls 4 [(0, .ref (ad 0))] := hl
  have hf16 := hts (.fieldLink RX3 16 "Coverpool" "bonds" "Ljava/util/ArrayList;") (by decide +kernel)
  have hf123 := hts (.fieldLink RX3 123 "Coverpool$Bond" "state" "I") (by decide +kernel)
  have hf131 := hts (.fieldLink RX3 131 "Coverpool$Bond" "amount" "I") (by decide +kernel)
  have hinX0 : ∀ w ∈ u_ws RX0 TX0 4, w ∈ wsX3_debt := by decide +kernel
  have hinX3 : ∀ w ∈ u_ws RX3 TX3 8, w ∈ wsX3_debt := by decide +kernel
  refine lv_iconst (v := 0) hx hb dX3_debt_0 (by decide) ?_
  refine lv_istore_n (lv' := [(1, .int 0), (0, .ref (ad 0))]) hx hb dX3_debt_1 rfl hl (by decide) rfl (fun ls hl => ?_)
  refine lv_iconst (v := 0) hx hb dX3_debt_2 (by decide) ?_
  refine lv_istore_n (lv' := [(2, .int 0), (1, .int 0), (0, .ref (ad 0))]) hx hb dX3_debt_3 rfl hl (by decide) rfl (fun ls hl => ?_)
  have loop_1 : ∀ (k1 j1 : Nat), j1 + k1 = b → ∀ (a1_0 : Int32), a1_0 = mOwed B j1 → ∀ (H : Heap) (locs : List Loc), wP D A (lvC n b) ad (ctC cs ad z0 g L B n b y1 y2 N1 N2 nd gv) H → va_S (fun _ => False) s.heap H locs → ∀ (ls : Array Slot), lv_has ls 4 [(2, .int (nI j1)), (1, .int a1_0), (0, .ref (ad 0))] → W p l e ({ frames := 4, cells := 0, slots := 0, locals := 88 } : Room) s m (([.ref (ad 0)] : List Value).toArray) below meth c H locs 0 0 (MQ below (va_Qi (fun (r9 : Int32) (_ : Unit) => r9 = mOwed B b) (fun _ _ => True) (fun _ => False)) (([.ref (ad 0)] : List Value).toArray) s 0 0 (fun _ => False)) (F0 m 4 ls []) := by
    intro k1
    induction k1 with
    | zero =>
      intro j1 hj_1 a1_0 ea1_0 H locs hW hS ls hl
      subst ea1_0
      obtain rfl : b = j1 := by omega
      refine lv_iload_n hx hb dX3_debt_4 rfl (lv_at hl 0 rfl) ?_
      refine lv_aload_n hx hb dX3_debt_5 rfl (lv_at hl 2 rfl) ?_
      refine wb_get hx hb hts hinX3 hown hK hW 0 (lvC_0 (by decide)) rfl rfl 1 (by decide) hf16 (fun _ h9 => h9) (v := .ref (ad 2)) rfl dX3_debt_6 ?_
      refine va_calli (va_runV (As := []) (rest := [.int (nI b)]) ⟨hx, hb, hml, hown, hts⟩ (c_Jx4a65c_size_8abf52 l D cs A z0 sa ad g L B n b y1 y2 N1 N2 nd gv hn hb5 hN1 hN2 ) (cwV 0 hts gX3_debt_Jx4a65c_size_8abf5 rfl rfl rfl (by decide +kernel) ⟨Nat.le_of_ble_eq_true rfl, Nat.le_of_ble_eq_true rfl⟩) ⟨pC_fb, wb_recv hK hW (r := 2) (lvC_0 (by decide)) (ci := 0) rfl rfl, fun U hU hV => ⟨rfl, hE.at (fun _ h => h.elim) hS hV hU, by rw [hU]; exact hW⟩⟩ rfl rfl hl.1 rfl (lv_room (Nat.le_of_ble_eq_true rfl)) dX3_debt_9 ⟨Nat.zero_le _, Nat.zero_le _⟩) hS (fun _ _ h => h.elim) (fun _ h => h.elim) (fun r_2 u t9 H locs ht hvm hw _ hz1 hk1 hS => ?_)
      have hW := hW.kept hk1
      subst hw
      refine lv_icmp_ge (tgt := 47) hx hb dX3_debt_12 (by decide) (fun c_3 => ?_) (fun c_3 => ?_)
      · -- nI b ge nI b : True
        refine lv_iload_n hx hb dX3_debt_47 rfl (lv_at hl 1 rfl) ?_
        exact W.iret (v := (mOwed B b)) hx hb hr (fun t9 ht9 hW9 => ⟨⟨_, (), rfl, (by rfl), trivial⟩, hS.F ht9⟩) hS.2.2 dX3_debt_48
      · -- nI b ge nI b : False
        exact absurd (by first | exact Int32.le_refl _ | decide) c_3
    | succ k1 ih_1 =>
      intro j1 hj_1 a1_0 ea1_0 H locs hW hS ls hl
      subst ea1_0
      refine lv_iload_n hx hb dX3_debt_4 rfl (lv_at hl 0 rfl) ?_
      refine lv_aload_n hx hb dX3_debt_5 rfl (lv_at hl 2 rfl) ?_
      refine wb_get hx hb hts hinX3 hown hK hW 0 (lvC_0 (by decide)) rfl rfl 1 (by decide) hf16 (fun _ h9 => h9) (v := .ref (ad 2)) rfl dX3_debt_6 ?_
      refine va_calli (va_runV (As := []) (rest := [.int (nI j1)]) ⟨hx, hb, hml, hown, hts⟩ (c_Jx4a65c_size_8abf52 l D cs A z0 sa ad g L B n b y1 y2 N1 N2 nd gv hn hb5 hN1 hN2 ) (cwV 0 hts gX3_debt_Jx4a65c_size_8abf5 rfl rfl rfl (by decide +kernel) ⟨Nat.le_of_ble_eq_true rfl, Nat.le_of_ble_eq_true rfl⟩) ⟨pC_fb, wb_recv hK hW (r := 2) (lvC_0 (by decide)) (ci := 0) rfl rfl, fun U hU hV => ⟨rfl, hE.at (fun _ h => h.elim) hS hV hU, by rw [hU]; exact hW⟩⟩ rfl rfl hl.1 rfl (lv_room (Nat.le_of_ble_eq_true rfl)) dX3_debt_9 ⟨Nat.zero_le _, Nat.zero_le _⟩) hS (fun _ _ h => h.elim) (fun _ h => h.elim) (fun r_4 u t9 H locs ht hvm hw _ hz1 hk1 hS => ?_)
      have hW := hW.kept hk1
      subst hw
      refine lv_icmp_ge (tgt := 47) hx hb dX3_debt_12 (by decide) (fun c_5 => ?_) (fun c_5 => ?_)
      · -- nI j1 ge nI b : True
        exact absurd c_5 (nI_ge (by omega) (by omega))
      · -- nI j1 ge nI b : False
        refine lv_aload_n hx hb dX3_debt_15 rfl (lv_at hl 2 rfl) ?_
        refine wb_get hx hb hts hinX3 hown hK hW 0 (lvC_0 (by decide)) rfl rfl 1 (by decide) hf16 (fun _ h9 => h9) (v := .ref (ad 2)) rfl dX3_debt_16 ?_
        refine lv_iload_n hx hb dX3_debt_19 rfl (lv_at hl 0 rfl) ?_
        refine va_callr (va_runV (As := [.int (nI j1)]) (rest := []) ⟨hx, hb, hml, hown, hts⟩ (c_Jx4a65c_get_915e32 l D cs A z0 sa ad g L B n b y1 y2 N1 N2 nd gv hn hb5 hN1 hN2 j1 (by omega)) (cwV 1 hts gX3_debt_Jx4a65c_get_915e3 rfl rfl rfl (by decide +kernel) ⟨Nat.le_of_ble_eq_true rfl, Nat.le_of_ble_eq_true rfl⟩) ⟨pC_fb, wb_recv hK hW (r := 2) (lvC_0 (by decide)) (ci := 0) rfl rfl, fun U hU hV => ⟨rfl, hE.at (fun _ h => h.elim) hS hV hU, by rw [hU]; exact hW⟩⟩ rfl rfl hl.1 rfl (lv_room (Nat.le_of_ble_eq_true rfl)) dX3_debt_20 ⟨Nat.zero_le _, Nat.zero_le _⟩) hS (fun _ _ h => h.elim) (fun _ h => h.elim) (fun u r_6 t9 H locs ht hvm hw hB hz1 hk1 hS => ?_)
        have hW := hW.kept hk1
        subst hB
        refine va_castS hx hb hown (hts (.classLink RX3 111 "Coverpool$Bond") (by decide +kernel)) (hK.1 1 _ rfl).2 (wb_recv hK hW (r := (32 + j1)) (lvC_bd (by omega)) (ci := 1) rfl ctC_bd) dX3_debt_23 ?_
        refine lv_astore_n (lv' := [(3, .ref (ad (32 + j1))), (2, .int (nI j1)), (1, .int (mOwed B j1)), (0, .ref (ad 0))]) hx hb dX3_debt_26 rfl hl (by decide) rfl (fun ls hl => ?_)
        refine lv_aload_n hx hb dX3_debt_27 rfl (lv_at hl 0 rfl) ?_
        refine wb_get hx hb hts hinX0 hown hK hW (32 + j1) (lvC_bd (by omega)) ctC_bd rfl 2 (by decide) hf123 (fun _ h9 => h9) (v := .int (B 2 j1)) rfl dX3_debt_28 ?_
        refine lv_if_ne (tgt := 41) hx hb dX3_debt_31 (by decide) (fun c_7 => ?_) (fun c_7 => ?_)
        · -- B 2 j1 ne 0 : True
          refine lv_iinc (v := nI (j1 + 1)) (lv' := [(2, .int (nI (j1 + 1))), (3, .ref (ad (32 + j1))), (1, .int (mOwed B j1)), (0, .ref (ad 0))]) hx hb dX3_debt_41 hl (k := 1) rfl (nI_1 _) (by decide) rfl (fun ls hl => ?_)
          refine lv_goto (tgt := 4) hx hb dX3_debt_44 (by decide) ?_
          exact ih_1 (j1 + 1) (by omega) _ (by simp [mOwed, c_5, c_7])  _ _ hW hS ls (lv_sub hl [0, 2, 3] rfl)
        · -- B 2 j1 ne 0 : False
          refine lv_iload_n hx hb dX3_debt_34 rfl (lv_at hl 2 rfl) ?_
          refine lv_aload_n hx hb dX3_debt_35 rfl (lv_at hl 0 rfl) ?_
          refine wb_get hx hb hts hinX0 hown hK hW (32 + j1) (lvC_bd (by omega)) ctC_bd rfl 0 (by decide) hf131 (fun _ h9 => h9) (v := .int (B 0 j1)) rfl dX3_debt_36 ?_
          refine lv_iadd hx hb dX3_debt_39 ?_
          refine lv_istore_n (lv' := [(1, .int ((mOwed B j1) + (B 0 j1))), (3, .ref (ad (32 + j1))), (2, .int (nI j1)), (0, .ref (ad 0))]) hx hb dX3_debt_40 rfl hl (by decide) rfl (fun ls hl => ?_)
          refine lv_iinc (v := nI (j1 + 1)) (lv' := [(2, .int (nI (j1 + 1))), (1, .int ((mOwed B j1) + (B 0 j1))), (3, .ref (ad (32 + j1))), (0, .ref (ad 0))]) hx hb dX3_debt_41 hl (k := 2) rfl (nI_1 _) (by decide) rfl (fun ls hl => ?_)
          refine lv_goto (tgt := 4) hx hb dX3_debt_44 (by decide) ?_
          exact ih_1 (j1 + 1) (by omega) _ (by simp [mOwed, c_5, c_7])  _ _ hW hS ls (lv_sub hl [0, 1, 3] rfl)
  exact loop_1 (b) 0 (by omega) _ rfl  _ _ hW hS ls (lv_sub hl [0, 1, 2] rfl)

set_option maxHeartbeats 4000000 in
set_option maxRecDepth 100000 in
theorem c_X3_substitutes (l : Launch) (D : va_G) (cs : Nat → ClassId) (A : Nat → Prop) (z0 : Nat) (sa : Nat → Nat) (ad : Nat → Nat) (g : Nat → Int32) (L B : Nat → Nat → Int32) (n b : Nat) (y1 y2 : Int32) (N1 N2 : Nat) (nd : Nat → Int32) (gv : Nat → Nat → Int32) (hn : n ≤ 12) (hb5 : b ≤ 5) (hN1 : n ≤ N1 ∧ N1 < 1000) (hN2 : b ≤ N2 ∧ N2 < 1000)  : Met l yX3_substitutes wsX3_substitutes ({ frames := 5, cells := 0, slots := 0, locals := 111 } : Room) (va_Pc [.ref (ad 0)] (pC D cs A z0 sa (lvC n b) ad (ctC cs ad z0 g L B n b y1 y2 N1 N2 nd gv))) (va_Qi (fun (r9 : Int32) (_ : Unit) => r9 = mBeside g B b) (fun _ _ => True) (fun _ => False)) 0 0 (fun _ => False) := by
  refine Met.ofW (cc := cX3_substitutes) (maxL := 1) (ret := (some .int)) (by decide) rfl ?_
  intro p e s m args below meth c s₁ BB hml hv
  obtain ⟨rfl, hv⟩ := hv
  obtain ⟨hE, hW⟩ := hv
  have hK := hE.1
  have hx := BB.exec
  have hb := BB.bytes
  have hr := BB.returns
  have hts := atoms_spec (ws := wsX3_substitutes) BB.pre
  have hown : s.vm.findClass RX3 = some m.cls := findClass_of_methodNamed BB.named
  have hlocks := BB.notSynchronized
  have hS : va_S (fun _ => False) s.heap s.heap [] := va_S.rf
  have hl := lv_entry ([.ref (ad 0)]) (n := 1) (Nat.le_of_ble_eq_true rfl)
  rw [lg_entry_eq]
  generalize (lg_sl ([.ref (ad 0)]) ++ List.replicate (1 - (lg_sl ([.ref (ad 0)])).length) Slot.unset).toArray = ls at hl ⊢
  have hl : lv_has ls 1 [(0, .ref (ad 0))] := hl
  have hf30 := hts (.fieldLink RX3 30 "Coverpool" "cash" "I") (by decide +kernel)
  have hinX3 : ∀ w ∈ u_ws RX3 TX3 8, w ∈ wsX3_substitutes := by decide +kernel
  refine lv_aload_n hx hb dX3_substitutes_0 rfl (lv_at hl 0 rfl) ?_
  refine wb_get hx hb hts hinX3 hown hK hW 0 (lvC_0 (by decide)) rfl rfl 4 (by decide) hf30 (fun _ h9 => h9) (v := .int (g 1)) rfl dX3_substitutes_1 ?_
  refine lv_aload_n hx hb dX3_substitutes_4 rfl (lv_at hl 0 rfl) ?_
  refine va_calli (va_runV (As := []) (rest := [.int (g 1)]) ⟨hx, hb, hml, hown, hts⟩ (c_X3_debt l D cs A z0 sa ad g L B n b y1 y2 N1 N2 nd gv hn hb5 hN1 hN2 ) (cwV 0 hts gX3_substitutes_X3_debt rfl rfl rfl (by decide +kernel) ⟨Nat.le_of_ble_eq_true rfl, Nat.le_of_ble_eq_true rfl⟩) ⟨pC_fb, wb_recv hK hW (r := 0) (lvC_0 (by decide)) (ci := 4) rfl rfl, fun U hU hV => ⟨rfl, hE.at (fun _ h => h.elim) hS hV hU, by rw [hU]; exact hW⟩⟩ rfl rfl hl.1 rfl (lv_room (Nat.le_of_ble_eq_true rfl)) dX3_substitutes_5 ⟨Nat.zero_le _, Nat.zero_le _⟩) hS (fun _ _ h => h.elim) (fun _ h => h.elim) (fun r_1 u t9 H locs ht hvm hw _ hz1 hk1 hS => ?_)
  have hW := hW.kept hk1
  subst hw
  refine lv_bipush (v := 15) hx hb dX3_substitutes_8 (by decide) ?_
  refine lv_imul hx hb dX3_substitutes_10 ?_
  refine lv_bipush (v := 100) hx hb dX3_substitutes_11 (by decide) ?_
  refine lv_idiv hx hb dX3_substitutes_13 (by decide) ?_
  refine va_mmin (x := g 1) (y := ((mOwed B b) * 15) / 100) hx hb (by rw [hml]; exact hl.1.symm) hown (hts (.methodLink RX3 137 Lib.Math.min.name) (by decide +kernel)) (hts (.static Lib.Math.min.name) (by decide +kernel)) (hts (.initialized "java/lang/Math") (by decide +kernel)) (hts (.code Lib.Math.min.name Lib.Math.min.code 2 (some .int)) (by decide +kernel)) (Nat.le_of_ble_eq_true rfl) (Nat.le_of_ble_eq_true rfl) (Nat.zero_le _) (Nat.zero_le _) dX3_substitutes_14 ?_
  exact W.iret (v := if (((mOwed B b) * 15) / 100) < (g 1) then (((mOwed B b) * 15) / 100) else (g 1)) hx hb hr (fun t9 ht9 hW9 => ⟨⟨_, (), rfl, (by rw [mn_eq]; rfl), trivial⟩, hS.F ht9⟩) hS.2.2 dX3_substitutes_17

set_option maxHeartbeats 4000000 in
set_option maxRecDepth 100000 in
theorem c_X3_loansThatAre (l : Launch) (D : va_G) (cs : Nat → ClassId) (A : Nat → Prop) (z0 : Nat) (sa : Nat → Nat) (ad : Nat → Nat) (g : Nat → Int32) (L B : Nat → Nat → Int32) (n b : Nat) (y1 y2 : Int32) (N1 N2 : Nat) (nd : Nat → Int32) (gv : Nat → Nat → Int32) (hn : n ≤ 12) (hb5 : b ≤ 5) (hN1 : n ≤ N1 ∧ N1 < 1000) (hN2 : b ≤ N2 ∧ N2 < 1000) (k : Int32) : Met l yX3_loansThatAre wsX3_loansThatAre ({ frames := 4, cells := 0, slots := 0, locals := 88 } : Room) (va_Pc [.ref (ad 0), .int k] (pC D cs A z0 sa (lvC n b) ad (ctC cs ad z0 g L B n b y1 y2 N1 N2 nd gv))) (va_Qi (fun (r9 : Int32) (_ : Unit) => r9 = mPool L k n) (fun _ _ => True) (fun _ => False)) 0 0 (fun _ => False) := by
  refine Met.ofW (cc := cX3_loansThatAre) (maxL := 4) (ret := (some .int)) (by decide) rfl ?_
  intro p e s m args below meth c s₁ BB hml hv
  obtain ⟨rfl, hv⟩ := hv
  obtain ⟨hE, hW⟩ := hv
  have hK := hE.1
  have hx := BB.exec
  have hb := BB.bytes
  have hr := BB.returns
  have hts := atoms_spec (ws := wsX3_loansThatAre) BB.pre
  have hown : s.vm.findClass RX3 = some m.cls := findClass_of_methodNamed BB.named
  have hlocks := BB.notSynchronized
  have hS : va_S (fun _ => False) s.heap s.heap [] := va_S.rf
  have hl := lv_entry ([.ref (ad 0), .int k]) (n := 4) (Nat.le_of_ble_eq_true rfl)
  rw [lg_entry_eq]
  generalize (lg_sl ([.ref (ad 0), .int k]) ++ List.replicate (4 - (lg_sl ([.ref (ad 0), .int k])).length) Slot.unset).toArray = ls at hl ⊢
  have hl : lv_has ls 4 [(0, .ref (ad 0)), (1, .int k)] := hl
  have hf10 := hts (.fieldLink RX3 10 "Coverpool" "loans" "Ljava/util/ArrayList;") (by decide +kernel)
  have hf78 := hts (.fieldLink RX3 78 "Coverpool$Loan" "state" "I") (by decide +kernel)
  have hinX1 : ∀ w ∈ u_ws RX1 TX1 6, w ∈ wsX3_loansThatAre := by decide +kernel
  have hinX3 : ∀ w ∈ u_ws RX3 TX3 8, w ∈ wsX3_loansThatAre := by decide +kernel
  refine lv_iconst (v := 0) hx hb dX3_loansThatAre_0 (by decide) ?_
  refine lv_istore_n (lv' := [(2, .int 0), (0, .ref (ad 0)), (1, .int k)]) hx hb dX3_loansThatAre_1 rfl hl (by decide) rfl (fun ls hl => ?_)
  refine lv_iconst (v := 0) hx hb dX3_loansThatAre_2 (by decide) ?_
  refine lv_istore_n (lv' := [(3, .int 0), (2, .int 0), (0, .ref (ad 0)), (1, .int k)]) hx hb dX3_loansThatAre_3 rfl hl (by decide) rfl (fun ls hl => ?_)
  have loop_1 : ∀ (k1 j1 : Nat), j1 + k1 = n → ∀ (a1_0 : Int32), a1_0 = mPool L k j1 → ∀ (H : Heap) (locs : List Loc), wP D A (lvC n b) ad (ctC cs ad z0 g L B n b y1 y2 N1 N2 nd gv) H → va_S (fun _ => False) s.heap H locs → ∀ (ls : Array Slot), lv_has ls 4 [(3, .int (nI j1)), (2, .int a1_0), (0, .ref (ad 0)), (1, .int k)] → W p l e ({ frames := 4, cells := 0, slots := 0, locals := 88 } : Room) s m (([.ref (ad 0), .int k] : List Value).toArray) below meth c H locs 0 0 (MQ below (va_Qi (fun (r9 : Int32) (_ : Unit) => r9 = mPool L k n) (fun _ _ => True) (fun _ => False)) (([.ref (ad 0), .int k] : List Value).toArray) s 0 0 (fun _ => False)) (F0 m 4 ls []) := by
    intro k1
    induction k1 with
    | zero =>
      intro j1 hj_1 a1_0 ea1_0 H locs hW hS ls hl
      subst ea1_0
      obtain rfl : n = j1 := by omega
      refine lv_iload_n hx hb dX3_loansThatAre_4 rfl (lv_at hl 0 rfl) ?_
      refine lv_aload_n hx hb dX3_loansThatAre_5 rfl (lv_at hl 2 rfl) ?_
      refine wb_get hx hb hts hinX3 hown hK hW 0 (lvC_0 (by decide)) rfl rfl 0 (by decide) hf10 (fun _ h9 => h9) (v := .ref (ad 1)) rfl dX3_loansThatAre_6 ?_
      refine va_calli (va_runV (As := []) (rest := [.int (nI n)]) ⟨hx, hb, hml, hown, hts⟩ (c_Jx4a65c_size_8abf51 l D cs A z0 sa ad g L B n b y1 y2 N1 N2 nd gv hn hb5 hN1 hN2 ) (cwV 0 hts gX3_loansThatAre_Jx4a65c_size_8abf5 rfl rfl rfl (by decide +kernel) ⟨Nat.le_of_ble_eq_true rfl, Nat.le_of_ble_eq_true rfl⟩) ⟨pC_fb, wb_recv hK hW (r := 1) (lvC_0 (by decide)) (ci := 0) rfl rfl, fun U hU hV => ⟨rfl, hE.at (fun _ h => h.elim) hS hV hU, by rw [hU]; exact hW⟩⟩ rfl rfl hl.1 rfl (lv_room (Nat.le_of_ble_eq_true rfl)) dX3_loansThatAre_9 ⟨Nat.zero_le _, Nat.zero_le _⟩) hS (fun _ _ h => h.elim) (fun _ h => h.elim) (fun r_2 u t9 H locs ht hvm hw _ hz1 hk1 hS => ?_)
      have hW := hW.kept hk1
      subst hw
      refine lv_icmp_ge (tgt := 45) hx hb dX3_loansThatAre_12 (by decide) (fun c_3 => ?_) (fun c_3 => ?_)
      · -- nI n ge nI n : True
        refine lv_iload_n hx hb dX3_loansThatAre_45 rfl (lv_at hl 1 rfl) ?_
        exact W.iret (v := (mPool L k n)) hx hb hr (fun t9 ht9 hW9 => ⟨⟨_, (), rfl, (by rfl), trivial⟩, hS.F ht9⟩) hS.2.2 dX3_loansThatAre_46
      · -- nI n ge nI n : False
        exact absurd (by first | exact Int32.le_refl _ | decide) c_3
    | succ k1 ih_1 =>
      intro j1 hj_1 a1_0 ea1_0 H locs hW hS ls hl
      subst ea1_0
      refine lv_iload_n hx hb dX3_loansThatAre_4 rfl (lv_at hl 0 rfl) ?_
      refine lv_aload_n hx hb dX3_loansThatAre_5 rfl (lv_at hl 2 rfl) ?_
      refine wb_get hx hb hts hinX3 hown hK hW 0 (lvC_0 (by decide)) rfl rfl 0 (by decide) hf10 (fun _ h9 => h9) (v := .ref (ad 1)) rfl dX3_loansThatAre_6 ?_
      refine va_calli (va_runV (As := []) (rest := [.int (nI j1)]) ⟨hx, hb, hml, hown, hts⟩ (c_Jx4a65c_size_8abf51 l D cs A z0 sa ad g L B n b y1 y2 N1 N2 nd gv hn hb5 hN1 hN2 ) (cwV 0 hts gX3_loansThatAre_Jx4a65c_size_8abf5 rfl rfl rfl (by decide +kernel) ⟨Nat.le_of_ble_eq_true rfl, Nat.le_of_ble_eq_true rfl⟩) ⟨pC_fb, wb_recv hK hW (r := 1) (lvC_0 (by decide)) (ci := 0) rfl rfl, fun U hU hV => ⟨rfl, hE.at (fun _ h => h.elim) hS hV hU, by rw [hU]; exact hW⟩⟩ rfl rfl hl.1 rfl (lv_room (Nat.le_of_ble_eq_true rfl)) dX3_loansThatAre_9 ⟨Nat.zero_le _, Nat.zero_le _⟩) hS (fun _ _ h => h.elim) (fun _ h => h.elim) (fun r_4 u t9 H locs ht hvm hw _ hz1 hk1 hS => ?_)
      have hW := hW.kept hk1
      subst hw
      refine lv_icmp_ge (tgt := 45) hx hb dX3_loansThatAre_12 (by decide) (fun c_5 => ?_) (fun c_5 => ?_)
      · -- nI j1 ge nI n : True
        exact absurd c_5 (nI_ge (by omega) (by omega))
      · -- nI j1 ge nI n : False
        refine lv_aload_n hx hb dX3_loansThatAre_15 rfl (lv_at hl 2 rfl) ?_
        refine wb_get hx hb hts hinX3 hown hK hW 0 (lvC_0 (by decide)) rfl rfl 0 (by decide) hf10 (fun _ h9 => h9) (v := .ref (ad 1)) rfl dX3_loansThatAre_16 ?_
        refine lv_iload_n hx hb dX3_loansThatAre_19 rfl (lv_at hl 0 rfl) ?_
        refine va_callr (va_runV (As := [.int (nI j1)]) (rest := []) ⟨hx, hb, hml, hown, hts⟩ (c_Jx4a65c_get_915e31 l D cs A z0 sa ad g L B n b y1 y2 N1 N2 nd gv hn hb5 hN1 hN2 j1 (by omega)) (cwV 1 hts gX3_loansThatAre_Jx4a65c_get_915e3 rfl rfl rfl (by decide +kernel) ⟨Nat.le_of_ble_eq_true rfl, Nat.le_of_ble_eq_true rfl⟩) ⟨pC_fb, wb_recv hK hW (r := 1) (lvC_0 (by decide)) (ci := 0) rfl rfl, fun U hU hV => ⟨rfl, hE.at (fun _ h => h.elim) hS hV hU, by rw [hU]; exact hW⟩⟩ rfl rfl hl.1 rfl (lv_room (Nat.le_of_ble_eq_true rfl)) dX3_loansThatAre_20 ⟨Nat.zero_le _, Nat.zero_le _⟩) hS (fun _ _ h => h.elim) (fun _ h => h.elim) (fun u r_6 t9 H locs ht hvm hw hB hz1 hk1 hS => ?_)
        have hW := hW.kept hk1
        subst hB
        refine va_castS hx hb hown (hts (.classLink RX3 61 "Coverpool$Loan") (by decide +kernel)) (hK.1 2 _ rfl).2 (wb_recv hK hW (r := (20 + j1)) (lvC_ln (by omega)) (ci := 2) rfl (ctC_ln (by omega))) dX3_loansThatAre_23 ?_
        refine wb_get hx hb hts hinX1 hown hK hW (20 + j1) (lvC_ln (by omega)) (ctC_ln (by omega)) rfl 5 (by decide) hf78 (fun _ h9 => h9) (v := .int (L 5 j1)) rfl dX3_loansThatAre_26 ?_
        refine lv_iload_n hx hb dX3_loansThatAre_29 rfl (lv_at hl 3 rfl) ?_
        refine lv_icmp_ne (tgt := 39) hx hb dX3_loansThatAre_30 (by decide) (fun c_7 => ?_) (fun c_7 => ?_)
        · -- L 5 j1 ne k : True
          refine lv_iinc (v := nI (j1 + 1)) (lv' := [(3, .int (nI (j1 + 1))), (2, .int (mPool L k j1)), (0, .ref (ad 0)), (1, .int k)]) hx hb dX3_loansThatAre_39 hl (k := 0) rfl (nI_1 _) (by decide) rfl (fun ls hl => ?_)
          refine lv_goto (tgt := 4) hx hb dX3_loansThatAre_42 (by decide) ?_
          exact ih_1 (j1 + 1) (by omega) _ (by simp [mPool, c_5, c_7])  _ _ hW hS ls (lv_sub hl [0, 1, 2, 3] rfl)
        · -- L 5 j1 ne k : False
          refine lv_iload_n hx hb dX3_loansThatAre_33 rfl (lv_at hl 1 rfl) ?_
          refine lv_iconst (v := 1) hx hb dX3_loansThatAre_34 (by decide) ?_
          refine lv_iload_n hx hb dX3_loansThatAre_35 rfl (lv_at hl 0 rfl) ?_
          refine lv_ishl hx hb dX3_loansThatAre_36 ?_
          refine lv_ior hx hb dX3_loansThatAre_37 ?_
          refine lv_istore_n (lv' := [(2, .int ((mPool L k j1) ||| ((1 : Int32) <<< ((nI j1) &&& 31)))), (3, .int (nI j1)), (0, .ref (ad 0)), (1, .int k)]) hx hb dX3_loansThatAre_38 rfl hl (by decide) rfl (fun ls hl => ?_)
          refine lv_iinc (v := nI (j1 + 1)) (lv' := [(3, .int (nI (j1 + 1))), (2, .int ((mPool L k j1) ||| ((1 : Int32) <<< ((nI j1) &&& 31)))), (0, .ref (ad 0)), (1, .int k)]) hx hb dX3_loansThatAre_39 hl (k := 1) rfl (nI_1 _) (by decide) rfl (fun ls hl => ?_)
          refine lv_goto (tgt := 4) hx hb dX3_loansThatAre_42 (by decide) ?_
          exact ih_1 (j1 + 1) (by omega) _ (by simp [mPool, c_5, c_7])  _ _ hW hS ls (lv_sub hl [0, 1, 2, 3] rfl)
  exact loop_1 (n) 0 (by omega) _ rfl  _ _ hW hS ls (lv_sub hl [0, 1, 2, 3] rfl)

set_option maxHeartbeats 4000000 in
set_option maxRecDepth 100000 in
theorem c_J6_bitCount_0f7a4 (l : Launch) (x : Int32) : Met l yJ6_bitCount_0f7a4 wsJ6_bitCount_0f7a4 ({ frames := 1, cells := 0, slots := 0, locals := 24 } : Room) (va_Pc [.int x] (fun _ => True)) (va_Qi (fun (r9 : Int32) (_ : Unit) => r9 = cBits x) (fun _ _ => True) (fun _ => False)) 0 0 (fun _ => False) := by
  refine Met.ofW (cc := cJ6_bitCount_0f7a4) (maxL := 1) (ret := (some .int)) (by decide) rfl ?_
  intro p e s m args below meth c s₁ BB hml hv
  obtain ⟨rfl, hv⟩ := hv
  have hx := BB.exec
  have hb := BB.bytes
  have hr := BB.returns
  have hts := atoms_spec (ws := wsJ6_bitCount_0f7a4) BB.pre
  have hown : s.vm.findClass RJ6 = some m.cls := findClass_of_methodNamed BB.named
  have hlocks := BB.notSynchronized
  have hS : va_S (fun _ => False) s.heap s.heap [] := va_S.rf
  have hl := lv_entry ([.int x]) (n := 1) (Nat.le_of_ble_eq_true rfl)
  rw [lg_entry_eq]
  generalize (lg_sl ([.int x]) ++ List.replicate (1 - (lg_sl ([.int x])).length) Slot.unset).toArray = ls at hl ⊢
  have hl : lv_has ls 1 [(0, .int x)] := hl
  refine lv_iload_n hx hb dJ6_bitCount_0f7a4_0 rfl (lv_at hl 0 rfl) ?_
  refine lv_iload_n hx hb dJ6_bitCount_0f7a4_1 rfl (lv_at hl 0 rfl) ?_
  refine lv_iconst (v := 1) hx hb dJ6_bitCount_0f7a4_2 (by decide) ?_
  refine lv_iushr (v := (x.toUInt32 >>> ((1 : Int32).toUInt32 &&& Int32.toUInt32 31)).toInt32) hx hb dJ6_bitCount_0f7a4_3 rfl ?_
  refine lv_ldcw (v := 1431655765) hx hb hown (hts (.constant RJ6 265 (1431655765)) (by decide +kernel)) dJ6_bitCount_0f7a4_4 ?_
  refine lv_iand hx hb dJ6_bitCount_0f7a4_7 ?_
  refine lv_isub hx hb dJ6_bitCount_0f7a4_8 ?_
  refine lv_istore_n (lv' := [(0, .int (x - (((x.toUInt32 >>> ((1 : Int32).toUInt32 &&& Int32.toUInt32 31)).toInt32) &&& 1431655765)))]) hx hb dJ6_bitCount_0f7a4_9 rfl hl (by decide) rfl (fun ls hl => ?_)
  refine lv_iload_n hx hb dJ6_bitCount_0f7a4_10 rfl (lv_at hl 0 rfl) ?_
  refine lv_ldcw (v := 858993459) hx hb hown (hts (.constant RJ6 266 (858993459)) (by decide +kernel)) dJ6_bitCount_0f7a4_11 ?_
  refine lv_iand hx hb dJ6_bitCount_0f7a4_14 ?_
  refine lv_iload_n hx hb dJ6_bitCount_0f7a4_15 rfl (lv_at hl 0 rfl) ?_
  refine lv_iconst (v := 2) hx hb dJ6_bitCount_0f7a4_16 (by decide) ?_
  refine lv_iushr (v := ((x - (((x.toUInt32 >>> ((1 : Int32).toUInt32 &&& Int32.toUInt32 31)).toInt32) &&& 1431655765)).toUInt32 >>> ((2 : Int32).toUInt32 &&& Int32.toUInt32 31)).toInt32) hx hb dJ6_bitCount_0f7a4_17 rfl ?_
  refine lv_ldcw (v := 858993459) hx hb hown (hts (.constant RJ6 266 (858993459)) (by decide +kernel)) dJ6_bitCount_0f7a4_18 ?_
  refine lv_iand hx hb dJ6_bitCount_0f7a4_21 ?_
  refine lv_iadd hx hb dJ6_bitCount_0f7a4_22 ?_
  refine lv_istore_n (lv' := [(0, .int (((x - (((x.toUInt32 >>> ((1 : Int32).toUInt32 &&& Int32.toUInt32 31)).toInt32) &&& 1431655765)) &&& 858993459) + ((((x - (((x.toUInt32 >>> ((1 : Int32).toUInt32 &&& Int32.toUInt32 31)).toInt32) &&& 1431655765)).toUInt32 >>> ((2 : Int32).toUInt32 &&& Int32.toUInt32 31)).toInt32) &&& 858993459)))]) hx hb dJ6_bitCount_0f7a4_23 rfl hl (by decide) rfl (fun ls hl => ?_)
  refine lv_iload_n hx hb dJ6_bitCount_0f7a4_24 rfl (lv_at hl 0 rfl) ?_
  refine lv_iload_n hx hb dJ6_bitCount_0f7a4_25 rfl (lv_at hl 0 rfl) ?_
  refine lv_iconst (v := 4) hx hb dJ6_bitCount_0f7a4_26 (by decide) ?_
  refine lv_iushr (v := ((((x - (((x.toUInt32 >>> ((1 : Int32).toUInt32 &&& Int32.toUInt32 31)).toInt32) &&& 1431655765)) &&& 858993459) + ((((x - (((x.toUInt32 >>> ((1 : Int32).toUInt32 &&& Int32.toUInt32 31)).toInt32) &&& 1431655765)).toUInt32 >>> ((2 : Int32).toUInt32 &&& Int32.toUInt32 31)).toInt32) &&& 858993459)).toUInt32 >>> ((4 : Int32).toUInt32 &&& Int32.toUInt32 31)).toInt32) hx hb dJ6_bitCount_0f7a4_27 rfl ?_
  refine lv_iadd hx hb dJ6_bitCount_0f7a4_28 ?_
  refine lv_ldcw (v := 252645135) hx hb hown (hts (.constant RJ6 267 (252645135)) (by decide +kernel)) dJ6_bitCount_0f7a4_29 ?_
  refine lv_iand hx hb dJ6_bitCount_0f7a4_32 ?_
  refine lv_istore_n (lv' := [(0, .int (((((x - (((x.toUInt32 >>> ((1 : Int32).toUInt32 &&& Int32.toUInt32 31)).toInt32) &&& 1431655765)) &&& 858993459) + ((((x - (((x.toUInt32 >>> ((1 : Int32).toUInt32 &&& Int32.toUInt32 31)).toInt32) &&& 1431655765)).toUInt32 >>> ((2 : Int32).toUInt32 &&& Int32.toUInt32 31)).toInt32) &&& 858993459)) + (((((x - (((x.toUInt32 >>> ((1 : Int32).toUInt32 &&& Int32.toUInt32 31)).toInt32) &&& 1431655765)) &&& 858993459) + ((((x - (((x.toUInt32 >>> ((1 : Int32).toUInt32 &&& Int32.toUInt32 31)).toInt32) &&& 1431655765)).toUInt32 >>> ((2 : Int32).toUInt32 &&& Int32.toUInt32 31)).toInt32) &&& 858993459)).toUInt32 >>> ((4 : Int32).toUInt32 &&& Int32.toUInt32 31)).toInt32)) &&& 252645135))]) hx hb dJ6_bitCount_0f7a4_33 rfl hl (by decide) rfl (fun ls hl => ?_)
  refine lv_iload_n hx hb dJ6_bitCount_0f7a4_34 rfl (lv_at hl 0 rfl) ?_
  refine lv_iload_n hx hb dJ6_bitCount_0f7a4_35 rfl (lv_at hl 0 rfl) ?_
  refine lv_bipush (v := 8) hx hb dJ6_bitCount_0f7a4_36 (by decide) ?_
  refine lv_iushr (v := ((((((x - (((x.toUInt32 >>> ((1 : Int32).toUInt32 &&& Int32.toUInt32 31)).toInt32) &&& 1431655765)) &&& 858993459) + ((((x - (((x.toUInt32 >>> ((1 : Int32).toUInt32 &&& Int32.toUInt32 31)).toInt32) &&& 1431655765)).toUInt32 >>> ((2 : Int32).toUInt32 &&& Int32.toUInt32 31)).toInt32) &&& 858993459)) + (((((x - (((x.toUInt32 >>> ((1 : Int32).toUInt32 &&& Int32.toUInt32 31)).toInt32) &&& 1431655765)) &&& 858993459) + ((((x - (((x.toUInt32 >>> ((1 : Int32).toUInt32 &&& Int32.toUInt32 31)).toInt32) &&& 1431655765)).toUInt32 >>> ((2 : Int32).toUInt32 &&& Int32.toUInt32 31)).toInt32) &&& 858993459)).toUInt32 >>> ((4 : Int32).toUInt32 &&& Int32.toUInt32 31)).toInt32)) &&& 252645135).toUInt32 >>> ((8 : Int32).toUInt32 &&& Int32.toUInt32 31)).toInt32) hx hb dJ6_bitCount_0f7a4_38 rfl ?_
  refine lv_iadd hx hb dJ6_bitCount_0f7a4_39 ?_
  refine lv_istore_n (lv' := [(0, .int ((((((x - (((x.toUInt32 >>> ((1 : Int32).toUInt32 &&& Int32.toUInt32 31)).toInt32) &&& 1431655765)) &&& 858993459) + ((((x - (((x.toUInt32 >>> ((1 : Int32).toUInt32 &&& Int32.toUInt32 31)).toInt32) &&& 1431655765)).toUInt32 >>> ((2 : Int32).toUInt32 &&& Int32.toUInt32 31)).toInt32) &&& 858993459)) + (((((x - (((x.toUInt32 >>> ((1 : Int32).toUInt32 &&& Int32.toUInt32 31)).toInt32) &&& 1431655765)) &&& 858993459) + ((((x - (((x.toUInt32 >>> ((1 : Int32).toUInt32 &&& Int32.toUInt32 31)).toInt32) &&& 1431655765)).toUInt32 >>> ((2 : Int32).toUInt32 &&& Int32.toUInt32 31)).toInt32) &&& 858993459)).toUInt32 >>> ((4 : Int32).toUInt32 &&& Int32.toUInt32 31)).toInt32)) &&& 252645135) + (((((((x - (((x.toUInt32 >>> ((1 : Int32).toUInt32 &&& Int32.toUInt32 31)).toInt32) &&& 1431655765)) &&& 858993459) + ((((x - (((x.toUInt32 >>> ((1 : Int32).toUInt32 &&& Int32.toUInt32 31)).toInt32) &&& 1431655765)).toUInt32 >>> ((2 : Int32).toUInt32 &&& Int32.toUInt32 31)).toInt32) &&& 858993459)) + (((((x - (((x.toUInt32 >>> ((1 : Int32).toUInt32 &&& Int32.toUInt32 31)).toInt32) &&& 1431655765)) &&& 858993459) + ((((x - (((x.toUInt32 >>> ((1 : Int32).toUInt32 &&& Int32.toUInt32 31)).toInt32) &&& 1431655765)).toUInt32 >>> ((2 : Int32).toUInt32 &&& Int32.toUInt32 31)).toInt32) &&& 858993459)).toUInt32 >>> ((4 : Int32).toUInt32 &&& Int32.toUInt32 31)).toInt32)) &&& 252645135).toUInt32 >>> ((8 : Int32).toUInt32 &&& Int32.toUInt32 31)).toInt32)))]) hx hb dJ6_bitCount_0f7a4_40 rfl hl (by decide) rfl (fun ls hl => ?_)
  refine lv_iload_n hx hb dJ6_bitCount_0f7a4_41 rfl (lv_at hl 0 rfl) ?_
  refine lv_iload_n hx hb dJ6_bitCount_0f7a4_42 rfl (lv_at hl 0 rfl) ?_
  refine lv_bipush (v := 16) hx hb dJ6_bitCount_0f7a4_43 (by decide) ?_
  refine lv_iushr (v := (((((((x - (((x.toUInt32 >>> ((1 : Int32).toUInt32 &&& Int32.toUInt32 31)).toInt32) &&& 1431655765)) &&& 858993459) + ((((x - (((x.toUInt32 >>> ((1 : Int32).toUInt32 &&& Int32.toUInt32 31)).toInt32) &&& 1431655765)).toUInt32 >>> ((2 : Int32).toUInt32 &&& Int32.toUInt32 31)).toInt32) &&& 858993459)) + (((((x - (((x.toUInt32 >>> ((1 : Int32).toUInt32 &&& Int32.toUInt32 31)).toInt32) &&& 1431655765)) &&& 858993459) + ((((x - (((x.toUInt32 >>> ((1 : Int32).toUInt32 &&& Int32.toUInt32 31)).toInt32) &&& 1431655765)).toUInt32 >>> ((2 : Int32).toUInt32 &&& Int32.toUInt32 31)).toInt32) &&& 858993459)).toUInt32 >>> ((4 : Int32).toUInt32 &&& Int32.toUInt32 31)).toInt32)) &&& 252645135) + (((((((x - (((x.toUInt32 >>> ((1 : Int32).toUInt32 &&& Int32.toUInt32 31)).toInt32) &&& 1431655765)) &&& 858993459) + ((((x - (((x.toUInt32 >>> ((1 : Int32).toUInt32 &&& Int32.toUInt32 31)).toInt32) &&& 1431655765)).toUInt32 >>> ((2 : Int32).toUInt32 &&& Int32.toUInt32 31)).toInt32) &&& 858993459)) + (((((x - (((x.toUInt32 >>> ((1 : Int32).toUInt32 &&& Int32.toUInt32 31)).toInt32) &&& 1431655765)) &&& 858993459) + ((((x - (((x.toUInt32 >>> ((1 : Int32).toUInt32 &&& Int32.toUInt32 31)).toInt32) &&& 1431655765)).toUInt32 >>> ((2 : Int32).toUInt32 &&& Int32.toUInt32 31)).toInt32) &&& 858993459)).toUInt32 >>> ((4 : Int32).toUInt32 &&& Int32.toUInt32 31)).toInt32)) &&& 252645135).toUInt32 >>> ((8 : Int32).toUInt32 &&& Int32.toUInt32 31)).toInt32)).toUInt32 >>> ((16 : Int32).toUInt32 &&& Int32.toUInt32 31)).toInt32) hx hb dJ6_bitCount_0f7a4_45 rfl ?_
  refine lv_iadd hx hb dJ6_bitCount_0f7a4_46 ?_
  refine lv_istore_n (lv' := [(0, .int (((((((x - (((x.toUInt32 >>> ((1 : Int32).toUInt32 &&& Int32.toUInt32 31)).toInt32) &&& 1431655765)) &&& 858993459) + ((((x - (((x.toUInt32 >>> ((1 : Int32).toUInt32 &&& Int32.toUInt32 31)).toInt32) &&& 1431655765)).toUInt32 >>> ((2 : Int32).toUInt32 &&& Int32.toUInt32 31)).toInt32) &&& 858993459)) + (((((x - (((x.toUInt32 >>> ((1 : Int32).toUInt32 &&& Int32.toUInt32 31)).toInt32) &&& 1431655765)) &&& 858993459) + ((((x - (((x.toUInt32 >>> ((1 : Int32).toUInt32 &&& Int32.toUInt32 31)).toInt32) &&& 1431655765)).toUInt32 >>> ((2 : Int32).toUInt32 &&& Int32.toUInt32 31)).toInt32) &&& 858993459)).toUInt32 >>> ((4 : Int32).toUInt32 &&& Int32.toUInt32 31)).toInt32)) &&& 252645135) + (((((((x - (((x.toUInt32 >>> ((1 : Int32).toUInt32 &&& Int32.toUInt32 31)).toInt32) &&& 1431655765)) &&& 858993459) + ((((x - (((x.toUInt32 >>> ((1 : Int32).toUInt32 &&& Int32.toUInt32 31)).toInt32) &&& 1431655765)).toUInt32 >>> ((2 : Int32).toUInt32 &&& Int32.toUInt32 31)).toInt32) &&& 858993459)) + (((((x - (((x.toUInt32 >>> ((1 : Int32).toUInt32 &&& Int32.toUInt32 31)).toInt32) &&& 1431655765)) &&& 858993459) + ((((x - (((x.toUInt32 >>> ((1 : Int32).toUInt32 &&& Int32.toUInt32 31)).toInt32) &&& 1431655765)).toUInt32 >>> ((2 : Int32).toUInt32 &&& Int32.toUInt32 31)).toInt32) &&& 858993459)).toUInt32 >>> ((4 : Int32).toUInt32 &&& Int32.toUInt32 31)).toInt32)) &&& 252645135).toUInt32 >>> ((8 : Int32).toUInt32 &&& Int32.toUInt32 31)).toInt32)) + ((((((((x - (((x.toUInt32 >>> ((1 : Int32).toUInt32 &&& Int32.toUInt32 31)).toInt32) &&& 1431655765)) &&& 858993459) + ((((x - (((x.toUInt32 >>> ((1 : Int32).toUInt32 &&& Int32.toUInt32 31)).toInt32) &&& 1431655765)).toUInt32 >>> ((2 : Int32).toUInt32 &&& Int32.toUInt32 31)).toInt32) &&& 858993459)) + (((((x - (((x.toUInt32 >>> ((1 : Int32).toUInt32 &&& Int32.toUInt32 31)).toInt32) &&& 1431655765)) &&& 858993459) + ((((x - (((x.toUInt32 >>> ((1 : Int32).toUInt32 &&& Int32.toUInt32 31)).toInt32) &&& 1431655765)).toUInt32 >>> ((2 : Int32).toUInt32 &&& Int32.toUInt32 31)).toInt32) &&& 858993459)).toUInt32 >>> ((4 : Int32).toUInt32 &&& Int32.toUInt32 31)).toInt32)) &&& 252645135) + (((((((x - (((x.toUInt32 >>> ((1 : Int32).toUInt32 &&& Int32.toUInt32 31)).toInt32) &&& 1431655765)) &&& 858993459) + ((((x - (((x.toUInt32 >>> ((1 : Int32).toUInt32 &&& Int32.toUInt32 31)).toInt32) &&& 1431655765)).toUInt32 >>> ((2 : Int32).toUInt32 &&& Int32.toUInt32 31)).toInt32) &&& 858993459)) + (((((x - (((x.toUInt32 >>> ((1 : Int32).toUInt32 &&& Int32.toUInt32 31)).toInt32) &&& 1431655765)) &&& 858993459) + ((((x - (((x.toUInt32 >>> ((1 : Int32).toUInt32 &&& Int32.toUInt32 31)).toInt32) &&& 1431655765)).toUInt32 >>> ((2 : Int32).toUInt32 &&& Int32.toUInt32 31)).toInt32) &&& 858993459)).toUInt32 >>> ((4 : Int32).toUInt32 &&& Int32.toUInt32 31)).toInt32)) &&& 252645135).toUInt32 >>> ((8 : Int32).toUInt32 &&& Int32.toUInt32 31)).toInt32)).toUInt32 >>> ((16 : Int32).toUInt32 &&& Int32.toUInt32 31)).toInt32)))]) hx hb dJ6_bitCount_0f7a4_47 rfl hl (by decide) rfl (fun ls hl => ?_)
  refine lv_iload_n hx hb dJ6_bitCount_0f7a4_48 rfl (lv_at hl 0 rfl) ?_
  refine lv_bipush (v := 63) hx hb dJ6_bitCount_0f7a4_49 (by decide) ?_
  refine lv_iand hx hb dJ6_bitCount_0f7a4_51 ?_
  exact W.iret (v := (((((((x - (((x.toUInt32 >>> ((1 : Int32).toUInt32 &&& Int32.toUInt32 31)).toInt32) &&& 1431655765)) &&& 858993459) + ((((x - (((x.toUInt32 >>> ((1 : Int32).toUInt32 &&& Int32.toUInt32 31)).toInt32) &&& 1431655765)).toUInt32 >>> ((2 : Int32).toUInt32 &&& Int32.toUInt32 31)).toInt32) &&& 858993459)) + (((((x - (((x.toUInt32 >>> ((1 : Int32).toUInt32 &&& Int32.toUInt32 31)).toInt32) &&& 1431655765)) &&& 858993459) + ((((x - (((x.toUInt32 >>> ((1 : Int32).toUInt32 &&& Int32.toUInt32 31)).toInt32) &&& 1431655765)).toUInt32 >>> ((2 : Int32).toUInt32 &&& Int32.toUInt32 31)).toInt32) &&& 858993459)).toUInt32 >>> ((4 : Int32).toUInt32 &&& Int32.toUInt32 31)).toInt32)) &&& 252645135) + (((((((x - (((x.toUInt32 >>> ((1 : Int32).toUInt32 &&& Int32.toUInt32 31)).toInt32) &&& 1431655765)) &&& 858993459) + ((((x - (((x.toUInt32 >>> ((1 : Int32).toUInt32 &&& Int32.toUInt32 31)).toInt32) &&& 1431655765)).toUInt32 >>> ((2 : Int32).toUInt32 &&& Int32.toUInt32 31)).toInt32) &&& 858993459)) + (((((x - (((x.toUInt32 >>> ((1 : Int32).toUInt32 &&& Int32.toUInt32 31)).toInt32) &&& 1431655765)) &&& 858993459) + ((((x - (((x.toUInt32 >>> ((1 : Int32).toUInt32 &&& Int32.toUInt32 31)).toInt32) &&& 1431655765)).toUInt32 >>> ((2 : Int32).toUInt32 &&& Int32.toUInt32 31)).toInt32) &&& 858993459)).toUInt32 >>> ((4 : Int32).toUInt32 &&& Int32.toUInt32 31)).toInt32)) &&& 252645135).toUInt32 >>> ((8 : Int32).toUInt32 &&& Int32.toUInt32 31)).toInt32)) + ((((((((x - (((x.toUInt32 >>> ((1 : Int32).toUInt32 &&& Int32.toUInt32 31)).toInt32) &&& 1431655765)) &&& 858993459) + ((((x - (((x.toUInt32 >>> ((1 : Int32).toUInt32 &&& Int32.toUInt32 31)).toInt32) &&& 1431655765)).toUInt32 >>> ((2 : Int32).toUInt32 &&& Int32.toUInt32 31)).toInt32) &&& 858993459)) + (((((x - (((x.toUInt32 >>> ((1 : Int32).toUInt32 &&& Int32.toUInt32 31)).toInt32) &&& 1431655765)) &&& 858993459) + ((((x - (((x.toUInt32 >>> ((1 : Int32).toUInt32 &&& Int32.toUInt32 31)).toInt32) &&& 1431655765)).toUInt32 >>> ((2 : Int32).toUInt32 &&& Int32.toUInt32 31)).toInt32) &&& 858993459)).toUInt32 >>> ((4 : Int32).toUInt32 &&& Int32.toUInt32 31)).toInt32)) &&& 252645135) + (((((((x - (((x.toUInt32 >>> ((1 : Int32).toUInt32 &&& Int32.toUInt32 31)).toInt32) &&& 1431655765)) &&& 858993459) + ((((x - (((x.toUInt32 >>> ((1 : Int32).toUInt32 &&& Int32.toUInt32 31)).toInt32) &&& 1431655765)).toUInt32 >>> ((2 : Int32).toUInt32 &&& Int32.toUInt32 31)).toInt32) &&& 858993459)) + (((((x - (((x.toUInt32 >>> ((1 : Int32).toUInt32 &&& Int32.toUInt32 31)).toInt32) &&& 1431655765)) &&& 858993459) + ((((x - (((x.toUInt32 >>> ((1 : Int32).toUInt32 &&& Int32.toUInt32 31)).toInt32) &&& 1431655765)).toUInt32 >>> ((2 : Int32).toUInt32 &&& Int32.toUInt32 31)).toInt32) &&& 858993459)).toUInt32 >>> ((4 : Int32).toUInt32 &&& Int32.toUInt32 31)).toInt32)) &&& 252645135).toUInt32 >>> ((8 : Int32).toUInt32 &&& Int32.toUInt32 31)).toInt32)).toUInt32 >>> ((16 : Int32).toUInt32 &&& Int32.toUInt32 31)).toInt32)) &&& 63) hx hb hr (fun t9 ht9 hW9 => ⟨⟨_, (), rfl, (by rfl), trivial⟩, hS.F ht9⟩) hS.2.2 dJ6_bitCount_0f7a4_52

set_option maxHeartbeats 4000000 in
set_option maxRecDepth 100000 in
theorem c_X3_isLess (l : Launch) (x y : Int32) : Met l yX3_isLess wsX3_isLess ({ frames := 2, cells := 0, slots := 0, locals := 44 } : Room) (va_Pc [.int x, .int y] (fun _ => True)) (va_Qi (fun (r9 : Int32) (_ : Unit) => (r9 = 1 ∧ (cLess x y)) ∨ (r9 = 0 ∧ ¬ (cLess x y))) (fun _ _ => True) (fun _ => False)) 0 0 (fun _ => False) := by
  refine Met.ofW (cc := cX3_isLess) (maxL := 3) (ret := (some .boolean)) (by decide) rfl ?_
  intro p e s m args below meth c s₁ BB hml hv
  obtain ⟨rfl, hv⟩ := hv
  have hx := BB.exec
  have hb := BB.bytes
  have hr := BB.returns
  have hts := atoms_spec (ws := wsX3_isLess) BB.pre
  have hown : s.vm.findClass RX3 = some m.cls := findClass_of_methodNamed BB.named
  have hlocks := BB.notSynchronized
  have hS : va_S (fun _ => False) s.heap s.heap [] := va_S.rf
  have hl := lv_entry ([.int x, .int y]) (n := 3) (Nat.le_of_ble_eq_true rfl)
  rw [lg_entry_eq]
  generalize (lg_sl ([.int x, .int y]) ++ List.replicate (3 - (lg_sl ([.int x, .int y])).length) Slot.unset).toArray = ls at hl ⊢
  have hl : lv_has ls 3 [(0, .int x), (1, .int y)] := hl
  refine lv_iload_n hx hb dX3_isLess_0 rfl (lv_at hl 1 rfl) ?_
  refine lv_iconst (v := (-1)) hx hb dX3_isLess_1 (by decide) ?_
  refine lv_icmp_ne (tgt := 7) hx hb dX3_isLess_2 (by decide) (fun c_1 => ?_) (fun c_1 => ?_)
  · -- y ne (-1) : True
    refine lv_iload_n hx hb dX3_isLess_7 rfl (lv_at hl 0 rfl) ?_
    refine va_calli (va_runS (As := [.int x]) (rest := []) ⟨hx, hb, hml, hown, hts⟩ (c_J6_bitCount_0f7a4 l x) (va_cwS 1 hts gX3_isLess_J6_bitCount_0f7a4 rfl rfl rfl (by decide +kernel) ⟨Nat.le_of_ble_eq_true rfl, Nat.le_of_ble_eq_true rfl⟩) ⟨pT_fb, fun U hU hV => ⟨rfl, trivial⟩⟩ rfl rfl hl.1 rfl (lv_room (Nat.le_of_ble_eq_true rfl)) dX3_isLess_8 ⟨Nat.zero_le _, Nat.zero_le _⟩) hS (fun _ _ h => h.elim) (fun _ h => h.elim) (fun r_2 u t9 H locs ht hvm hw _ hz1 hk1 hS => ?_)
    subst hw
    refine lv_iload_n hx hb dX3_isLess_11 rfl (lv_at hl 1 rfl) ?_
    refine va_calli (va_runS (As := [.int y]) (rest := [.int (cBits x)]) ⟨hx, hb, hml, hown, hts⟩ (c_J6_bitCount_0f7a4 l y) (va_cwS 1 hts gX3_isLess_J6_bitCount_0f7a4 rfl rfl rfl (by decide +kernel) ⟨Nat.le_of_ble_eq_true rfl, Nat.le_of_ble_eq_true rfl⟩) ⟨pT_fb, fun U hU hV => ⟨rfl, trivial⟩⟩ rfl rfl hl.1 rfl (lv_room (Nat.le_of_ble_eq_true rfl)) dX3_isLess_12 ⟨Nat.zero_le _, Nat.zero_le _⟩) hS (fun _ _ h => h.elim) (fun _ h => h.elim) (fun r_3 u t9 H locs ht hvm hw _ hz1 hk1 hS => ?_)
    subst hw
    refine lv_isub hx hb dX3_isLess_15 ?_
    refine lv_istore_n (lv' := [(2, .int ((cBits x) - (cBits y))), (0, .int x), (1, .int y)]) hx hb dX3_isLess_16 rfl hl (by decide) rfl (fun ls hl => ?_)
    refine lv_iload_n hx hb dX3_isLess_17 rfl (lv_at hl 0 rfl) ?_
    refine lv_if_lt (tgt := 30) hx hb dX3_isLess_18 (by decide) (fun c_4 => ?_) (fun c_4 => ?_)
    · -- (cBits x) - (cBits y) lt 0 : True
      refine lv_iconst (v := 1) hx hb dX3_isLess_30 (by decide) ?_
      refine lv_goto (tgt := 35) hx hb dX3_isLess_31 (by decide) ?_
      exact W.zret (ty := .boolean) (v := 1) hx hb hr (by decide) (fun t9 ht9 hW9 => ⟨⟨_, (), rfl, Or.inl ⟨rfl, by simp [cLess, c_1, c_4]⟩, trivial⟩, hS.F ht9⟩) hS.2.2 dX3_isLess_35
    · -- (cBits x) - (cBits y) lt 0 : False
      refine lv_iload_n hx hb dX3_isLess_21 rfl (lv_at hl 0 rfl) ?_
      refine lv_if_ne (tgt := 34) hx hb dX3_isLess_22 (by decide) (fun c_5 => ?_) (fun c_5 => ?_)
      · -- (cBits x) - (cBits y) ne 0 : True
        refine lv_iconst (v := 0) hx hb dX3_isLess_34 (by decide) ?_
        exact W.zret (ty := .boolean) (v := 0) hx hb hr (by decide) (fun t9 ht9 hW9 => ⟨⟨_, (), rfl, Or.inr ⟨rfl, by simp [cLess, c_1, c_4, c_5]⟩, trivial⟩, hS.F ht9⟩) hS.2.2 dX3_isLess_35
      · -- (cBits x) - (cBits y) ne 0 : False
        refine lv_iload_n hx hb dX3_isLess_25 rfl (lv_at hl 1 rfl) ?_
        refine lv_iload_n hx hb dX3_isLess_26 rfl (lv_at hl 2 rfl) ?_
        refine lv_icmp_ge (tgt := 34) hx hb dX3_isLess_27 (by decide) (fun c_6 => ?_) (fun c_6 => ?_)
        · -- x ge y : True
          refine lv_iconst (v := 0) hx hb dX3_isLess_34 (by decide) ?_
          exact W.zret (ty := .boolean) (v := 0) hx hb hr (by decide) (fun t9 ht9 hW9 => ⟨⟨_, (), rfl, Or.inr ⟨rfl, by simp [cLess, c_1, c_4, c_5, c_6]⟩, trivial⟩, hS.F ht9⟩) hS.2.2 dX3_isLess_35
        · -- x ge y : False
          refine lv_iconst (v := 1) hx hb dX3_isLess_30 (by decide) ?_
          refine lv_goto (tgt := 35) hx hb dX3_isLess_31 (by decide) ?_
          exact W.zret (ty := .boolean) (v := 1) hx hb hr (by decide) (fun t9 ht9 hW9 => ⟨⟨_, (), rfl, Or.inl ⟨rfl, by simp [cLess, c_1, c_4, c_5, c_6]⟩, trivial⟩, hS.F ht9⟩) hS.2.2 dX3_isLess_35
  · -- y ne (-1) : False
    refine lv_iconst (v := 1) hx hb dX3_isLess_5 (by decide) ?_
    exact W.zret (ty := .boolean) (v := 1) hx hb hr (by decide) (fun t9 ht9 hW9 => ⟨⟨_, (), rfl, Or.inl ⟨rfl, by simp [cLess, c_1]⟩, trivial⟩, hS.F ht9⟩) hS.2.2 dX3_isLess_6
