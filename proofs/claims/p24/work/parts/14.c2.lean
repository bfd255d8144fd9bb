set_option maxHeartbeats 4000000 in
set_option maxRecDepth 100000 in
theorem c_X3_requireWithinok (l : Launch) (x a b : Int32) (h : wi x a b) : Met l yX3_requireWithin wsX3_requireWithin ({ frames := 1, cells := 0, slots := 0, locals := 24 } : Room) (va_Pc [.int x, .int a, .int b] (fun _ => True)) (va_Qv (fun (_ : Unit) => True) (fun _ _ => True) (fun _ => False)) 0 0 (fun _ => False) := by
  refine Met.ofW (cc := cX3_requireWithin) (maxL := 3) (ret := none) (by decide) rfl ?_
  intro p e s m args below meth c s₁ BB hml hv
  obtain ⟨rfl, hv⟩ := hv
  have hx := BB.exec
  have hb := BB.bytes
  have hr := BB.returns
  have hts := atoms_spec (ws := wsX3_requireWithin) BB.pre
  have hown : s.vm.findClass RX3 = some m.cls := findClass_of_methodNamed BB.named
  have hlocks := BB.notSynchronized
  have hS : va_S (fun _ => False) s.heap s.heap [] := va_S.rf
  have hl := lv_entry ([.int x, .int a, .int b]) (n := 3) (Nat.le_of_ble_eq_true rfl)
  rw [lg_entry_eq]
  generalize (lg_sl ([.int x, .int a, .int b]) ++ List.replicate (3 - (lg_sl ([.int x, .int a, .int b])).length) Slot.unset).toArray = ls at hl ⊢
  have hl : lv_has ls 3 [(0, .int x), (1, .int a), (2, .int b)] := hl
  refine lv_iload_n hx hb dX3_requireWithin_0 rfl (lv_at hl 0 rfl) ?_
  refine lv_iload_n hx hb dX3_requireWithin_1 rfl (lv_at hl 1 rfl) ?_
  refine lv_icmp_lt (tgt := 10) hx hb dX3_requireWithin_2 (by decide) (fun c_1 => ?_) (fun c_1 => ?_)
  · -- x lt a : True
    exact absurd c_1 h.1
  · -- x lt a : False
    refine lv_iload_n hx hb dX3_requireWithin_5 rfl (lv_at hl 0 rfl) ?_
    refine lv_iload_n hx hb dX3_requireWithin_6 rfl (lv_at hl 2 rfl) ?_
    refine lv_icmp_le (tgt := 20) hx hb dX3_requireWithin_7 (by decide) (fun c_2 => ?_) (fun c_2 => ?_)
    · -- x le b : True
      exact W.vret hx hb hr (fun t9 ht9 hW9 => ⟨⟨(), rfl, trivial, trivial⟩, hS.F ht9⟩) hS.2.2 dX3_requireWithin_20
    · -- x le b : False
      exact absurd (Int32.not_lt.mp h.2) c_2

set_option maxHeartbeats 4000000 in
set_option maxRecDepth 100000 in
theorem c_X3_requireWithinbad (l : Launch) (hst : l.stackTraces = false) (D : va_G) (cs : Nat → ClassId) (A : Nat → Prop) (z0 : Nat) (sa : Nat → Nat) (x a b : Int32) (h : ¬ wi x a b) : vx_Met l yX3_requireWithin wsX3_requireWithin ({ frames := 7, cells := 1, slots := 6, locals := 100 } : Room) (va_Pc [.int x, .int a, .int b] (Ev D cs A z0 sa)) (va_Qv (fun (_ : Unit) => False) (fun _ _ => True) (fun _ => False)) (vx_X (fun (_ : Unit) => True) (fun E9 _ _ => E9 = xA) (fun _ => False)) 1 6 (fun _ => False) := by
  refine vx_ofW (cc := cX3_requireWithin) (maxL := 3) (ret := none) (by decide) rfl ?_
  intro p e s m args below meth c s₁ BB hml htab hv
  obtain ⟨rfl, hv⟩ := hv
  have hE := hv
  have hK := hE.1
  have hx := BB.exec
  have hb := BB.bytes
  have hr := BB.returns
  have hts := atoms_spec (ws := wsX3_requireWithin) BB.pre
  have hown : s.vm.findClass RX3 = some m.cls := findClass_of_methodNamed BB.named
  have hlocks := BB.notSynchronized
  have hS : va_S (fun _ => False) s.heap s.heap [] := va_S.rf
  have hl := lv_entry ([.int x, .int a, .int b]) (n := 3) (Nat.le_of_ble_eq_true rfl)
  rw [lg_entry_eq]
  generalize (lg_sl ([.int x, .int a, .int b]) ++ List.replicate (3 - (lg_sl ([.int x, .int a, .int b])).length) Slot.unset).toArray = ls at hl ⊢
  have hl : lv_has ls 3 [(0, .int x), (1, .int a), (2, .int b)] := hl
  refine lv_iload_n hx hb dX3_requireWithin_0 rfl (lv_at hl 0 rfl) ?_
  refine lv_iload_n hx hb dX3_requireWithin_1 rfl (lv_at hl 1 rfl) ?_
  refine lv_icmp_lt (tgt := 10) hx hb dX3_requireWithin_2 (by decide) (fun c_1 => ?_) (fun c_1 => ?_)
  · -- x lt a : True
    exact vx_throwS (sa := sa 162) hx hb hst hown (by decide) (by decide) (hts (.classLink RX3 160 "java/lang/IllegalArgumentException") (by decide +kernel)) (hts (.initialized "java/lang/IllegalArgumentException") (by decide +kernel)) (hE.2.2.2.2.2.2.1 (162, "out of range") (by decide)) (vx_hat (fun w h => hts w (by first | exact List.mem_cons_of_mem _ (List.mem_append_right _ h) | exact List.mem_cons_of_mem _ (List.mem_append_left _ (List.mem_append_right _ h)) | exact List.mem_cons_of_mem _ (List.mem_append_left _ (List.mem_append_left _ (List.mem_append_right _ h))))) x3a_ok (cbad_use hE.2.2.2.2.2.2.2.1)) x3a_g (hE.2.2.2.2.1.narrow (fun _ h => h.elim)) (hE.2.2.2.2.2.1.narrow (fun _ h => h.elim)) hS (hl.1.trans hml.symm) dX3_requireWithin_10 dX3_requireWithin_13 dX3_requireWithin_14 dX3_requireWithin_16 dX3_requireWithin_19 (fun x h => (htab x h).elim) (Nat.le_of_ble_eq_true rfl) (Nat.le_of_ble_eq_true rfl) (Nat.le_of_ble_eq_true rfl) (Nat.le_of_ble_eq_true rfl) hlocks (fun t8 hvm8 hz8 hk8 => ⟨(), trivial, rfl, xF0 hS hz8 hk8⟩) hS.2.2 (Nat.le_of_ble_eq_true rfl) (Nat.le_of_ble_eq_true rfl)
  · -- x lt a : False
    refine lv_iload_n hx hb dX3_requireWithin_5 rfl (lv_at hl 0 rfl) ?_
    refine lv_iload_n hx hb dX3_requireWithin_6 rfl (lv_at hl 2 rfl) ?_
    refine lv_icmp_le (tgt := 20) hx hb dX3_requireWithin_7 (by decide) (fun c_2 => ?_) (fun c_2 => ?_)
    · -- x le b : True
      exact absurd ⟨c_1, Int32.not_lt.mpr c_2⟩ h
    · -- x le b : False
      exact vx_throwS (sa := sa 162) hx hb hst hown (by decide) (by decide) (hts (.classLink RX3 160 "java/lang/IllegalArgumentException") (by decide +kernel)) (hts (.initialized "java/lang/IllegalArgumentException") (by decide +kernel)) (hE.2.2.2.2.2.2.1 (162, "out of range") (by decide)) (vx_hat (fun w h => hts w (by first | exact List.mem_cons_of_mem _ (List.mem_append_right _ h) | exact List.mem_cons_of_mem _ (List.mem_append_left _ (List.mem_append_right _ h)) | exact List.mem_cons_of_mem _ (List.mem_append_left _ (List.mem_append_left _ (List.mem_append_right _ h))))) x3a_ok (cbad_use hE.2.2.2.2.2.2.2.1)) x3a_g (hE.2.2.2.2.1.narrow (fun _ h => h.elim)) (hE.2.2.2.2.2.1.narrow (fun _ h => h.elim)) hS (hl.1.trans hml.symm) dX3_requireWithin_10 dX3_requireWithin_13 dX3_requireWithin_14 dX3_requireWithin_16 dX3_requireWithin_19 (fun x h => (htab x h).elim) (Nat.le_of_ble_eq_true rfl) (Nat.le_of_ble_eq_true rfl) (Nat.le_of_ble_eq_true rfl) (Nat.le_of_ble_eq_true rfl) hlocks (fun t8 hvm8 hz8 hk8 => ⟨(), trivial, rfl, xF0 hS hz8 hk8⟩) hS.2.2 (Nat.le_of_ble_eq_true rfl) (Nat.le_of_ble_eq_true rfl)

set_option maxHeartbeats 4000000 in
set_option maxRecDepth 100000 in
theorem c_X3_requireDueAheadok (l : Launch) (D : va_G) (cs : Nat → ClassId) (A : Nat → Prop) (z0 : Nat) (sa : Nat → Nat) (ad : Nat → Nat) (g : Nat → Int32) (L B : Nat → Nat → Int32) (n b : Nat) (y1 y2 : Int32) (N1 N2 : Nat) (nd : Nat → Int32) (gv : Nat → Nat → Int32) (hn : n ≤ 12) (hb5 : b ≤ 5) (hN1 : n ≤ N1 ∧ N1 < 1000) (hN2 : b ≤ N2 ∧ N2 < 1000) (x : Int32) (h : dueOk g x) : Met l yX3_requireDueAhead wsX3_requireDueAhead ({ frames := 1, cells := 0, slots := 0, locals := 24 } : Room) (va_Pc [.ref (ad 0), .int x] (pC D cs A z0 sa (lvC n b) ad (ctC cs ad z0 g L B n b y1 y2 N1 N2 nd gv))) (va_Qv (fun (_ : Unit) => True) (fun _ _ => True) (fun _ => False)) 0 0 (fun _ => False) := by
  refine Met.ofW (cc := cX3_requireDueAhead) (maxL := 2) (ret := none) (by decide) rfl ?_
  intro p e s m args below meth c s₁ BB hml hv
  obtain ⟨rfl, hv⟩ := hv
  obtain ⟨hE, hW⟩ := hv
  have hK := hE.1
  have hx := BB.exec
  have hb := BB.bytes
  have hr := BB.returns
  have hts := atoms_spec (ws := wsX3_requireDueAhead) BB.pre
  have hown : s.vm.findClass RX3 = some m.cls := findClass_of_methodNamed BB.named
  have hlocks := BB.notSynchronized
  have hS : va_S (fun _ => False) s.heap s.heap [] := va_S.rf
  have hl := lv_entry ([.ref (ad 0), .int x]) (n := 2) (Nat.le_of_ble_eq_true rfl)
  rw [lg_entry_eq]
  generalize (lg_sl ([.ref (ad 0), .int x]) ++ List.replicate (2 - (lg_sl ([.ref (ad 0), .int x])).length) Slot.unset).toArray = ls at hl ⊢
  have hl : lv_has ls 2 [(0, .ref (ad 0)), (1, .int x)] := hl
  have hf26 := hts (.fieldLink RX3 26 "Coverpool" "month" "I") (by decide +kernel)
  have hinX3 : ∀ w ∈ u_ws RX3 TX3 8, w ∈ wsX3_requireDueAhead := by decide +kernel
  refine lv_iload_n hx hb dX3_requireDueAhead_0 rfl (lv_at hl 1 rfl) ?_
  refine lv_aload_n hx hb dX3_requireDueAhead_1 rfl (lv_at hl 0 rfl) ?_
  refine wb_get hx hb hts hinX3 hown hK hW 0 (lvC_0 (by decide)) rfl rfl 3 (by decide) hf26 (fun _ h9 => h9) (v := .int (g 0)) rfl dX3_requireDueAhead_2 ?_
  refine lv_icmp_le (tgt := 15) hx hb dX3_requireDueAhead_5 (by decide) (fun c_1 => ?_) (fun c_1 => ?_)
  · -- x le g 0 : True
    exact absurd c_1 h.1
  · -- x le g 0 : False
    refine lv_iload_n hx hb dX3_requireDueAhead_8 rfl (lv_at hl 1 rfl) ?_
    refine lv_sipush (v := 600) hx hb dX3_requireDueAhead_9 (by decide) ?_
    refine lv_icmp_le (tgt := 25) hx hb dX3_requireDueAhead_12 (by decide) (fun c_2 => ?_) (fun c_2 => ?_)
    · -- x le 600 : True
      exact W.vret hx hb hr (fun t9 ht9 hW9 => ⟨⟨(), rfl, trivial, trivial⟩, hS.F ht9⟩) hS.2.2 dX3_requireDueAhead_25
    · -- x le 600 : False
      exact absurd (Int32.not_lt.mp h.2) c_2

set_option maxHeartbeats 4000000 in
set_option maxRecDepth 100000 in
theorem c_X3_requireDueAheadbad (l : Launch) (hst : l.stackTraces = false) (D : va_G) (cs : Nat → ClassId) (A : Nat → Prop) (z0 : Nat) (sa : Nat → Nat) (ad : Nat → Nat) (g : Nat → Int32) (L B : Nat → Nat → Int32) (n b : Nat) (y1 y2 : Int32) (N1 N2 : Nat) (nd : Nat → Int32) (gv : Nat → Nat → Int32) (hn : n ≤ 12) (hb5 : b ≤ 5) (hN1 : n ≤ N1 ∧ N1 < 1000) (hN2 : b ≤ N2 ∧ N2 < 1000) (x : Int32) (h : ¬ dueOk g x) : vx_Met l yX3_requireDueAhead wsX3_requireDueAhead ({ frames := 7, cells := 1, slots := 6, locals := 100 } : Room) (va_Pc [.ref (ad 0), .int x] (pC D cs A z0 sa (lvC n b) ad (ctC cs ad z0 g L B n b y1 y2 N1 N2 nd gv))) (va_Qv (fun (_ : Unit) => False) (fun _ _ => True) (fun _ => False)) (vx_X (fun (_ : Unit) => True) (fun E9 _ _ => E9 = xA) (fun _ => False)) 1 6 (fun _ => False) := by
  refine vx_ofW (cc := cX3_requireDueAhead) (maxL := 2) (ret := none) (by decide) rfl ?_
  intro p e s m args below meth c s₁ BB hml htab hv
  obtain ⟨rfl, hv⟩ := hv
  obtain ⟨hE, hW⟩ := hv
  have hK := hE.1
  have hx := BB.exec
  have hb := BB.bytes
  have hr := BB.returns
  have hts := atoms_spec (ws := wsX3_requireDueAhead) BB.pre
  have hown : s.vm.findClass RX3 = some m.cls := findClass_of_methodNamed BB.named
  have hlocks := BB.notSynchronized
  have hS : va_S (fun _ => False) s.heap s.heap [] := va_S.rf
  have hl := lv_entry ([.ref (ad 0), .int x]) (n := 2) (Nat.le_of_ble_eq_true rfl)
  rw [lg_entry_eq]
  generalize (lg_sl ([.ref (ad 0), .int x]) ++ List.replicate (2 - (lg_sl ([.ref (ad 0), .int x])).length) Slot.unset).toArray = ls at hl ⊢
  have hl : lv_has ls 2 [(0, .ref (ad 0)), (1, .int x)] := hl
  have hf26 := hts (.fieldLink RX3 26 "Coverpool" "month" "I") (by decide +kernel)
  have hinX3 : ∀ w ∈ u_ws RX3 TX3 8, w ∈ wsX3_requireDueAhead := by decide +kernel
  refine lv_iload_n hx hb dX3_requireDueAhead_0 rfl (lv_at hl 1 rfl) ?_
  refine lv_aload_n hx hb dX3_requireDueAhead_1 rfl (lv_at hl 0 rfl) ?_
  refine wb_get hx hb hts hinX3 hown hK hW 0 (lvC_0 (by decide)) rfl rfl 3 (by decide) hf26 (fun _ h9 => h9) (v := .int (g 0)) rfl dX3_requireDueAhead_2 ?_
  refine lv_icmp_le (tgt := 15) hx hb dX3_requireDueAhead_5 (by decide) (fun c_1 => ?_) (fun c_1 => ?_)
  · -- x le g 0 : True
    exact vx_throwS (sa := sa 165) hx hb hst hown (by decide) (by decide) (hts (.classLink RX3 160 "java/lang/IllegalArgumentException") (by decide +kernel)) (hts (.initialized "java/lang/IllegalArgumentException") (by decide +kernel)) (hE.2.2.2.2.2.2.1 (165, "due is out of range") (by decide)) (vx_hat (fun w h => hts w (by first | exact List.mem_cons_of_mem _ (List.mem_append_right _ h) | exact List.mem_cons_of_mem _ (List.mem_append_left _ (List.mem_append_right _ h)) | exact List.mem_cons_of_mem _ (List.mem_append_left _ (List.mem_append_left _ (List.mem_append_right _ h))))) x3a_ok (cbad_use hE.2.2.2.2.2.2.2.1)) x3a_g (hE.2.2.2.2.1.narrow (fun _ h => h.elim)) (hE.2.2.2.2.2.1.narrow (fun _ h => h.elim)) hS (hl.1.trans hml.symm) dX3_requireDueAhead_15 dX3_requireDueAhead_18 dX3_requireDueAhead_19 dX3_requireDueAhead_21 dX3_requireDueAhead_24 (fun x h => (htab x h).elim) (Nat.le_of_ble_eq_true rfl) (Nat.le_of_ble_eq_true rfl) (Nat.le_of_ble_eq_true rfl) (Nat.le_of_ble_eq_true rfl) hlocks (fun t8 hvm8 hz8 hk8 => ⟨(), trivial, rfl, xF0 hS hz8 hk8⟩) hS.2.2 (Nat.le_of_ble_eq_true rfl) (Nat.le_of_ble_eq_true rfl)
  · -- x le g 0 : False
    refine lv_iload_n hx hb dX3_requireDueAhead_8 rfl (lv_at hl 1 rfl) ?_
    refine lv_sipush (v := 600) hx hb dX3_requireDueAhead_9 (by decide) ?_
    refine lv_icmp_le (tgt := 25) hx hb dX3_requireDueAhead_12 (by decide) (fun c_2 => ?_) (fun c_2 => ?_)
    · -- x le 600 : True
      exact absurd ⟨c_1, Int32.not_lt.mpr c_2⟩ h
    · -- x le 600 : False
      exact vx_throwS (sa := sa 165) hx hb hst hown (by decide) (by decide) (hts (.classLink RX3 160 "java/lang/IllegalArgumentException") (by decide +kernel)) (hts (.initialized "java/lang/IllegalArgumentException") (by decide +kernel)) (hE.2.2.2.2.2.2.1 (165, "due is out of range") (by decide)) (vx_hat (fun w h => hts w (by first | exact List.mem_cons_of_mem _ (List.mem_append_right _ h) | exact List.mem_cons_of_mem _ (List.mem_append_left _ (List.mem_append_right _ h)) | exact List.mem_cons_of_mem _ (List.mem_append_left _ (List.mem_append_left _ (List.mem_append_right _ h))))) x3a_ok (cbad_use hE.2.2.2.2.2.2.2.1)) x3a_g (hE.2.2.2.2.1.narrow (fun _ h => h.elim)) (hE.2.2.2.2.2.1.narrow (fun _ h => h.elim)) hS (hl.1.trans hml.symm) dX3_requireDueAhead_15 dX3_requireDueAhead_18 dX3_requireDueAhead_19 dX3_requireDueAhead_21 dX3_requireDueAhead_24 (fun x h => (htab x h).elim) (Nat.le_of_ble_eq_true rfl) (Nat.le_of_ble_eq_true rfl) (Nat.le_of_ble_eq_true rfl) (Nat.le_of_ble_eq_true rfl) hlocks (fun t8 hvm8 hz8 hk8 => ⟨(), trivial, rfl, xF0 hS hz8 hk8⟩) hS.2.2 (Nat.le_of_ble_eq_true rfl) (Nat.le_of_ble_eq_true rfl)

set_option maxHeartbeats 4000000 in
set_option maxRecDepth 100000 in
theorem c_X3_requireStateok (l : Launch) (D : va_G) (cs : Nat → ClassId) (A : Nat → Prop) (z0 : Nat) (sa : Nat → Nat) (ad : Nat → Nat) (g : Nat → Int32) (L B : Nat → Nat → Int32) (n b : Nat) (y1 y2 : Int32) (N1 N2 : Nat) (nd : Nat → Int32) (gv : Nat → Nat → Int32) (hn : n ≤ 12) (hb5 : b ≤ 5) (hN1 : n ≤ N1 ∧ N1 < 1000) (hN2 : b ≤ N2 ∧ N2 < 1000) (i : Nat) (hi : i < n) (k : Int32) (h : L 5 i = k) : Met l yX3_requireState wsX3_requireState ({ frames := 1, cells := 0, slots := 0, locals := 24 } : Room) (va_Pc [.ref (ad (20 + i)), .int k] (pC D cs A z0 sa (lvC n b) ad (ctC cs ad z0 g L B n b y1 y2 N1 N2 nd gv))) (va_Qv (fun (_ : Unit) => True) (fun _ _ => True) (fun _ => False)) 0 0 (fun _ => False) := by
  refine Met.ofW (cc := cX3_requireState) (maxL := 2) (ret := none) (by decide) rfl ?_
  intro p e s m args below meth c s₁ BB hml hv
  obtain ⟨rfl, hv⟩ := hv
  obtain ⟨hE, hW⟩ := hv
  have hK := hE.1
  have hx := BB.exec
  have hb := BB.bytes
  have hr := BB.returns
  have hts := atoms_spec (ws := wsX3_requireState) BB.pre
  have hown : s.vm.findClass RX3 = some m.cls := findClass_of_methodNamed BB.named
  have hlocks := BB.notSynchronized
  have hS : va_S (fun _ => False) s.heap s.heap [] := va_S.rf
  have hl := lv_entry ([.ref (ad (20 + i)), .int k]) (n := 2) (Nat.le_of_ble_eq_true rfl)
  rw [lg_entry_eq]
  generalize (lg_sl ([.ref (ad (20 + i)), .int k]) ++ List.replicate (2 - (lg_sl ([.ref (ad (20 + i)), .int k])).length) Slot.unset).toArray = ls at hl ⊢
  have hl : lv_has ls 2 [(0, .ref (ad (20 + i))), (1, .int k)] := hl
  have hf78 := hts (.fieldLink RX3 78 "Coverpool$Loan" "state" "I") (by decide +kernel)
  have hinX1 : ∀ w ∈ u_ws RX1 TX1 6, w ∈ wsX3_requireState := by decide +kernel
  refine lv_aload_n hx hb dX3_requireState_0 rfl (lv_at hl 0 rfl) ?_
  refine wb_get hx hb hts hinX1 hown hK hW (20 + i) (lvC_ln (by omega)) (ctC_ln (by omega)) rfl 5 (by decide) hf78 (fun _ h9 => h9) (v := .int (L 5 i)) rfl dX3_requireState_1 ?_
  refine lv_iload_n hx hb dX3_requireState_4 rfl (lv_at hl 1 rfl) ?_
  refine lv_icmp_eq (tgt := 18) hx hb dX3_requireState_5 (by decide) (fun c_1 => ?_) (fun c_1 => ?_)
  · -- L 5 i eq k : True
    exact W.vret hx hb hr (fun t9 ht9 hW9 => ⟨⟨(), rfl, trivial, trivial⟩, hS.F ht9⟩) hS.2.2 dX3_requireState_18
  · -- L 5 i eq k : False
    exact absurd h c_1

set_option maxHeartbeats 4000000 in
set_option maxRecDepth 100000 in
theorem c_X3_requireStatebad (l : Launch) (hst : l.stackTraces = false) (D : va_G) (cs : Nat → ClassId) (A : Nat → Prop) (z0 : Nat) (sa : Nat → Nat) (ad : Nat → Nat) (g : Nat → Int32) (L B : Nat → Nat → Int32) (n b : Nat) (y1 y2 : Int32) (N1 N2 : Nat) (nd : Nat → Int32) (gv : Nat → Nat → Int32) (hn : n ≤ 12) (hb5 : b ≤ 5) (hN1 : n ≤ N1 ∧ N1 < 1000) (hN2 : b ≤ N2 ∧ N2 < 1000) (i : Nat) (hi : i < n) (k : Int32) (h : ¬ L 5 i = k) : vx_Met l yX3_requireState wsX3_requireState ({ frames := 7, cells := 1, slots := 6, locals := 100 } : Room) (va_Pc [.ref (ad (20 + i)), .int k] (pC D cs A z0 sa (lvC n b) ad (ctC cs ad z0 g L B n b y1 y2 N1 N2 nd gv))) (va_Qv (fun (_ : Unit) => False) (fun _ _ => True) (fun _ => False)) (vx_X (fun (_ : Unit) => True) (fun E9 _ _ => E9 = xS) (fun _ => False)) 1 6 (fun _ => False) := by
  refine vx_ofW (cc := cX3_requireState) (maxL := 2) (ret := none) (by decide) rfl ?_
  intro p e s m args below meth c s₁ BB hml htab hv
  obtain ⟨rfl, hv⟩ := hv
  obtain ⟨hE, hW⟩ := hv
  have hK := hE.1
  have hx := BB.exec
  have hb := BB.bytes
  have hr := BB.returns
  have hts := atoms_spec (ws := wsX3_requireState) BB.pre
  have hown : s.vm.findClass RX3 = some m.cls := findClass_of_methodNamed BB.named
  have hlocks := BB.notSynchronized
  have hS : va_S (fun _ => False) s.heap s.heap [] := va_S.rf
  have hl := lv_entry ([.ref (ad (20 + i)), .int k]) (n := 2) (Nat.le_of_ble_eq_true rfl)
  rw [lg_entry_eq]
  generalize (lg_sl ([.ref (ad (20 + i)), .int k]) ++ List.replicate (2 - (lg_sl ([.ref (ad (20 + i)), .int k])).length) Slot.unset).toArray = ls at hl ⊢
  have hl : lv_has ls 2 [(0, .ref (ad (20 + i))), (1, .int k)] := hl
  have hf78 := hts (.fieldLink RX3 78 "Coverpool$Loan" "state" "I") (by decide +kernel)
  have hinX1 : ∀ w ∈ u_ws RX1 TX1 6, w ∈ wsX3_requireState := by decide +kernel
  refine lv_aload_n hx hb dX3_requireState_0 rfl (lv_at hl 0 rfl) ?_
  refine wb_get hx hb hts hinX1 hown hK hW (20 + i) (lvC_ln (by omega)) (ctC_ln (by omega)) rfl 5 (by decide) hf78 (fun _ h9 => h9) (v := .int (L 5 i)) rfl dX3_requireState_1 ?_
  refine lv_iload_n hx hb dX3_requireState_4 rfl (lv_at hl 1 rfl) ?_
  refine lv_icmp_eq (tgt := 18) hx hb dX3_requireState_5 (by decide) (fun c_1 => ?_) (fun c_1 => ?_)
  · -- L 5 i eq k : True
    exact absurd c_1 h
  · -- L 5 i eq k : False
    exact vx_throwS (sa := sa 167) hx hb hst hown (by decide) (by decide) (hts (.classLink RX3 54 "java/lang/IllegalStateException") (by decide +kernel)) (hts (.initialized "java/lang/IllegalStateException") (by decide +kernel)) (hE.2.2.2.2.2.2.1 (167, "the loan is in another state") (by decide)) (vx_hat (fun w h => hts w (by first | exact List.mem_cons_of_mem _ (List.mem_append_right _ h) | exact List.mem_cons_of_mem _ (List.mem_append_left _ (List.mem_append_right _ h)) | exact List.mem_cons_of_mem _ (List.mem_append_left _ (List.mem_append_left _ (List.mem_append_right _ h))))) x3s_ok (cbad_use hE.2.2.2.2.2.2.2.1)) x3s_g (hE.2.2.2.2.1.narrow (fun _ h => h.elim)) (hE.2.2.2.2.2.1.narrow (fun _ h => h.elim)) hS (hl.1.trans hml.symm) dX3_requireState_8 dX3_requireState_11 dX3_requireState_12 dX3_requireState_14 dX3_requireState_17 (fun x h => (htab x h).elim) (Nat.le_of_ble_eq_true rfl) (Nat.le_of_ble_eq_true rfl) (Nat.le_of_ble_eq_true rfl) (Nat.le_of_ble_eq_true rfl) hlocks (fun t8 hvm8 hz8 hk8 => ⟨(), trivial, rfl, xF0 hS hz8 hk8⟩) hS.2.2 (Nat.le_of_ble_eq_true rfl) (Nat.le_of_ble_eq_true rfl)

set_option maxHeartbeats 4000000 in
set_option maxRecDepth 100000 in
theorem c_X3_loanAtok (l : Launch) (D : va_G) (cs : Nat → ClassId) (A : Nat → Prop) (z0 : Nat) (sa : Nat → Nat) (ad : Nat → Nat) (g : Nat → Int32) (L B : Nat → Nat → Int32) (n b : Nat) (y1 y2 : Int32) (N1 N2 : Nat) (nd : Nat → Int32) (gv : Nat → Nat → Int32) (hn : n ≤ 12) (hb5 : b ≤ 5) (hN1 : n ≤ N1 ∧ N1 < 1000) (hN2 : b ≤ N2 ∧ N2 < 1000) (i : Nat) (hi : i < n) : Met l yX3_loanAt wsX3_loanAt ({ frames := 4, cells := 0, slots := 0, locals := 88 } : Room) (va_Pc [.ref (ad 0), .int (nI i)] (pC D cs A z0 sa (lvC n b) ad (ctC cs ad z0 g L B n b y1 y2 N1 N2 nd gv))) (va_Qr (fun (_ : Unit) => True) (fun _ a9 _ => a9 = ad (20 + i)) (fun _ => False)) 0 0 (fun _ => False) := by
  refine Met.ofW (cc := cX3_loanAt) (maxL := 2) (ret := (some (.object "Coverpool$Loan"))) (by decide) rfl ?_
  intro p e s m args below meth c s₁ BB hml hv
  obtain ⟨rfl, hv⟩ := hv
  obtain ⟨hE, hW⟩ := hv
  have hK := hE.1
  have hx := BB.exec
  have hb := BB.bytes
  have hr := BB.returns
  have hts := atoms_spec (ws := wsX3_loanAt) BB.pre
  have hown : s.vm.findClass RX3 = some m.cls := findClass_of_methodNamed BB.named
  have hlocks := BB.notSynchronized
  have hS : va_S (fun _ => False) s.heap s.heap [] := va_S.rf
  have hl := lv_entry ([.ref (ad 0), .int (nI i)]) (n := 2) (Nat.le_of_ble_eq_true rfl)
  rw [lg_entry_eq]
  generalize (lg_sl ([.ref (ad 0), .int (nI i)]) ++ List.replicate (2 - (lg_sl ([.ref (ad 0), .int (nI i)])).length) Slot.unset).toArray = ls at hl ⊢
  have hl : lv_has ls 2 [(0, .ref (ad 0)), (1, .int (nI i))] := hl
  have hf10 := hts (.fieldLink RX3 10 "Coverpool" "loans" "Ljava/util/ArrayList;") (by decide +kernel)
  have hinX3 : ∀ w ∈ u_ws RX3 TX3 8, w ∈ wsX3_loanAt := by decide +kernel
  refine lv_iload_n hx hb dX3_loanAt_0 rfl (lv_at hl 1 rfl) ?_
  refine lv_if_lt (tgt := 15) hx hb dX3_loanAt_1 (by decide) (fun c_1 => ?_) (fun c_1 => ?_)
  · -- nI i lt 0 : True
    exact absurd c_1 (nI_pos (by omega))
  · -- nI i lt 0 : False
    refine lv_iload_n hx hb dX3_loanAt_4 rfl (lv_at hl 1 rfl) ?_
    refine lv_aload_n hx hb dX3_loanAt_5 rfl (lv_at hl 0 rfl) ?_
    refine wb_get hx hb hts hinX3 hown hK hW 0 (lvC_0 (by decide)) rfl rfl 0 (by decide) hf10 (fun _ h9 => h9) (v := .ref (ad 1)) rfl dX3_loanAt_6 ?_
    refine va_calli (va_runV (As := []) (rest := [.int (nI i)]) ⟨hx, hb, hml, hown, hts⟩ (c_Jx4a65c_size_8abf51 l D cs A z0 sa ad g L B n b y1 y2 N1 N2 nd gv hn hb5 hN1 hN2 ) (cwV 0 hts gX3_loanAt_Jx4a65c_size_8abf5 rfl rfl rfl (by decide +kernel) ⟨Nat.le_of_ble_eq_true rfl, Nat.le_of_ble_eq_true rfl⟩) ⟨pC_fb, wb_recv hK hW (r := 1) (lvC_0 (by decide)) (ci := 0) rfl rfl, fun U hU hV => ⟨rfl, hE.at (fun _ h => h.elim) hS hV hU, by rw [hU]; exact hW⟩⟩ rfl rfl hl.1 rfl (lv_room (Nat.le_of_ble_eq_true rfl)) dX3_loanAt_9 ⟨Nat.zero_le _, Nat.zero_le _⟩) hS (fun _ _ h => h.elim) (fun _ h => h.elim) (fun r_2 u t9 H locs ht hvm hw _ hz1 hk1 hS => ?_)
    have hW := hW.kept hk1
    subst hw
    refine lv_icmp_lt (tgt := 25) hx hb dX3_loanAt_12 (by decide) (fun c_3 => ?_) (fun c_3 => ?_)
    · -- nI i lt nI n : True
      refine lv_aload_n hx hb dX3_loanAt_25 rfl (lv_at hl 0 rfl) ?_
      refine wb_get hx hb hts hinX3 hown hK hW 0 (lvC_0 (by decide)) rfl rfl 0 (by decide) hf10 (fun _ h9 => h9) (v := .ref (ad 1)) rfl dX3_loanAt_26 ?_
      refine lv_iload_n hx hb dX3_loanAt_29 rfl (lv_at hl 1 rfl) ?_
      refine va_callr (va_runV (As := [.int (nI i)]) (rest := []) ⟨hx, hb, hml, hown, hts⟩ (c_Jx4a65c_get_915e31 l D cs A z0 sa ad g L B n b y1 y2 N1 N2 nd gv hn hb5 hN1 hN2 i (by omega)) (cwV 1 hts gX3_loanAt_Jx4a65c_get_915e3 rfl rfl rfl (by decide +kernel) ⟨Nat.le_of_ble_eq_true rfl, Nat.le_of_ble_eq_true rfl⟩) ⟨pC_fb, wb_recv hK hW (r := 1) (lvC_0 (by decide)) (ci := 0) rfl rfl, fun U hU hV => ⟨rfl, hE.at (fun _ h => h.elim) hS hV hU, by rw [hU]; exact hW⟩⟩ rfl rfl hl.1 rfl (lv_room (Nat.le_of_ble_eq_true rfl)) dX3_loanAt_30 ⟨Nat.zero_le _, Nat.zero_le _⟩) hS (fun _ _ h => h.elim) (fun _ h => h.elim) (fun u r_4 t9 H locs ht hvm hw hB hz1 hk1 hS => ?_)
      have hW := hW.kept hk1
      subst hB
      refine va_castS hx hb hown (hts (.classLink RX3 61 "Coverpool$Loan") (by decide +kernel)) (hK.1 2 _ rfl).2 (wb_recv hK hW (r := (20 + i)) (lvC_ln (by omega)) (ci := 2) rfl (ctC_ln (by omega))) dX3_loanAt_33 ?_
      exact W.aret (v := .ref (ad (20 + i))) hx hb hr (by first | exact Or.inl ⟨_, rfl⟩ | exact Or.inr ⟨_, rfl⟩) (Or.inr ⟨_, rfl⟩) (fun t9 ht9 hW9 => ⟨⟨(), _, rfl, trivial, rfl⟩, hS.F ht9⟩) hS.2.2 dX3_loanAt_36
    · -- nI i lt nI n : False
      exact absurd (nI_lt hi (by omega)) c_3

set_option maxHeartbeats 4000000 in
set_option maxRecDepth 100000 in
theorem c_X3_loanAtbad (l : Launch) (hst : l.stackTraces = false) (D : va_G) (cs : Nat → ClassId) (A : Nat → Prop) (z0 : Nat) (sa : Nat → Nat) (ad : Nat → Nat) (g : Nat → Int32) (L B : Nat → Nat → Int32) (n b : Nat) (y1 y2 : Int32) (N1 N2 : Nat) (nd : Nat → Int32) (gv : Nat → Nat → Int32) (hn : n ≤ 12) (hb5 : b ≤ 5) (hN1 : n ≤ N1 ∧ N1 < 1000) (hN2 : b ≤ N2 ∧ N2 < 1000) (x : Int32) (h : ¬ isIx n x) : vx_Met l yX3_loanAt wsX3_loanAt ({ frames := 7, cells := 1, slots := 6, locals := 100 } : Room) (va_Pc [.ref (ad 0), .int x] (pC D cs A z0 sa (lvC n b) ad (ctC cs ad z0 g L B n b y1 y2 N1 N2 nd gv))) (va_Qv (fun (_ : Unit) => False) (fun _ _ => True) (fun _ => False)) (vx_X (fun (_ : Unit) => True) (fun E9 _ _ => E9 = xI) (fun _ => False)) 1 6 (fun _ => False) := by
  refine vx_ofW (cc := cX3_loanAt) (maxL := 2) (ret := (some (.object "Coverpool$Loan"))) (by decide) rfl ?_
  intro p e s m args below meth c s₁ BB hml htab hv
  obtain ⟨rfl, hv⟩ := hv
  obtain ⟨hE, hW⟩ := hv
  have hK := hE.1
  have hx := BB.exec
  have hb := BB.bytes
  have hr := BB.returns
  have hts := atoms_spec (ws := wsX3_loanAt) BB.pre
  have hown : s.vm.findClass RX3 = some m.cls := findClass_of_methodNamed BB.named
  have hlocks := BB.notSynchronized
  have hS : va_S (fun _ => False) s.heap s.heap [] := va_S.rf
  have hl := lv_entry ([.ref (ad 0), .int x]) (n := 2) (Nat.le_of_ble_eq_true rfl)
  rw [lg_entry_eq]
  generalize (lg_sl ([.ref (ad 0), .int x]) ++ List.replicate (2 - (lg_sl ([.ref (ad 0), .int x])).length) Slot.unset).toArray = ls at hl ⊢
  have hl : lv_has ls 2 [(0, .ref (ad 0)), (1, .int x)] := hl
  have hf10 := hts (.fieldLink RX3 10 "Coverpool" "loans" "Ljava/util/ArrayList;") (by decide +kernel)
  have hinX3 : ∀ w ∈ u_ws RX3 TX3 8, w ∈ wsX3_loanAt := by decide +kernel
  refine lv_iload_n hx hb dX3_loanAt_0 rfl (lv_at hl 1 rfl) ?_
  refine lv_if_lt (tgt := 15) hx hb dX3_loanAt_1 (by decide) (fun c_1 => ?_) (fun c_1 => ?_)
  · -- x lt 0 : True
    exact vx_throwS (sa := sa 171) hx hb hst hown (by decide) (by decide) (hts (.classLink RX3 169 "java/lang/IndexOutOfBoundsException") (by decide +kernel)) (hts (.initialized "java/lang/IndexOutOfBoundsException") (by decide +kernel)) (hE.2.2.2.2.2.2.1 (171, "no such loan") (by decide)) (vx_hat (fun w h => hts w (by first | exact List.mem_cons_of_mem _ (List.mem_append_right _ h) | exact List.mem_cons_of_mem _ (List.mem_append_left _ (List.mem_append_right _ h)) | exact List.mem_cons_of_mem _ (List.mem_append_left _ (List.mem_append_left _ (List.mem_append_right _ h))))) x3i_ok (cbad_use hE.2.2.2.2.2.2.2.1)) x3i_g (hE.2.2.2.2.1.narrow (fun _ h => h.elim)) (hE.2.2.2.2.2.1.narrow (fun _ h => h.elim)) hS (hl.1.trans hml.symm) dX3_loanAt_15 dX3_loanAt_18 dX3_loanAt_19 dX3_loanAt_21 dX3_loanAt_24 (fun x h => (htab x h).elim) (Nat.le_of_ble_eq_true rfl) (Nat.le_of_ble_eq_true rfl) (Nat.le_of_ble_eq_true rfl) (Nat.le_of_ble_eq_true rfl) hlocks (fun t8 hvm8 hz8 hk8 => ⟨(), trivial, rfl, xF0 hS hz8 hk8⟩) hS.2.2 (Nat.le_of_ble_eq_true rfl) (Nat.le_of_ble_eq_true rfl)
  · -- x lt 0 : False
    refine lv_iload_n hx hb dX3_loanAt_4 rfl (lv_at hl 1 rfl) ?_
    refine lv_aload_n hx hb dX3_loanAt_5 rfl (lv_at hl 0 rfl) ?_
    refine wb_get hx hb hts hinX3 hown hK hW 0 (lvC_0 (by decide)) rfl rfl 0 (by decide) hf10 (fun _ h9 => h9) (v := .ref (ad 1)) rfl dX3_loanAt_6 ?_
    refine va_calli (va_runV (As := []) (rest := [.int x]) ⟨hx, hb, hml, hown, hts⟩ (c_Jx4a65c_size_8abf51 l D cs A z0 sa ad g L B n b y1 y2 N1 N2 nd gv hn hb5 hN1 hN2 ) (cwV 0 hts gX3_loanAt_Jx4a65c_size_8abf5 rfl rfl rfl (by decide +kernel) ⟨Nat.le_of_ble_eq_true rfl, Nat.le_of_ble_eq_true rfl⟩) ⟨pC_fb, wb_recv hK hW (r := 1) (lvC_0 (by decide)) (ci := 0) rfl rfl, fun U hU hV => ⟨rfl, hE.at (fun _ h => h.elim) hS hV hU, by rw [hU]; exact hW⟩⟩ rfl rfl hl.1 rfl (lv_room (Nat.le_of_ble_eq_true rfl)) dX3_loanAt_9 ⟨Nat.zero_le _, Nat.zero_le _⟩) hS (fun _ _ h => h.elim) (fun _ h => h.elim) (fun r_2 u t9 H locs ht hvm hw _ hz1 hk1 hS => ?_)
    have hW := hW.kept hk1
    subst hw
    refine lv_icmp_lt (tgt := 25) hx hb dX3_loanAt_12 (by decide) (fun c_3 => ?_) (fun c_3 => ?_)
    · -- x lt nI n : True
      exact absurd ⟨c_1, Int32.not_le.mpr c_3⟩ h
    · -- x lt nI n : False
      exact vx_throwS (sa := sa 171) hx hb hst hown (by decide) (by decide) (hts (.classLink RX3 169 "java/lang/IndexOutOfBoundsException") (by decide +kernel)) (hts (.initialized "java/lang/IndexOutOfBoundsException") (by decide +kernel)) (hE.2.2.2.2.2.2.1 (171, "no such loan") (by decide)) (vx_hat (fun w h => hts w (by first | exact List.mem_cons_of_mem _ (List.mem_append_right _ h) | exact List.mem_cons_of_mem _ (List.mem_append_left _ (List.mem_append_right _ h)) | exact List.mem_cons_of_mem _ (List.mem_append_left _ (List.mem_append_left _ (List.mem_append_right _ h))))) x3i_ok (cbad_use hE.2.2.2.2.2.2.2.1)) x3i_g (hE.2.2.2.2.1.narrow (fun _ h => h.elim)) (hE.2.2.2.2.2.1.narrow (fun _ h => h.elim)) hS (hl.1.trans hml.symm) dX3_loanAt_15 dX3_loanAt_18 dX3_loanAt_19 dX3_loanAt_21 dX3_loanAt_24 (fun x h => (htab x h).elim) (Nat.le_of_ble_eq_true rfl) (Nat.le_of_ble_eq_true rfl) (Nat.le_of_ble_eq_true rfl) (Nat.le_of_ble_eq_true rfl) hlocks (fun t8 hvm8 hz8 hk8 => ⟨(), trivial, rfl, xF0 hS hz8 hk8⟩) hS.2.2 (Nat.le_of_ble_eq_true rfl) (Nat.le_of_ble_eq_true rfl)

set_option maxHeartbeats 4000000 in
set_option maxRecDepth 100000 in
theorem c_X3_bondAtok (l : Launch) (D : va_G) (cs : Nat → ClassId) (A : Nat → Prop) (z0 : Nat) (sa : Nat → Nat) (ad : Nat → Nat) (g : Nat → Int32) (L B : Nat → Nat → Int32) (n b : Nat) (y1 y2 : Int32) (N1 N2 : Nat) (nd : Nat → Int32) (gv : Nat → Nat → Int32) (hn : n ≤ 12) (hb5 : b ≤ 5) (hN1 : n ≤ N1 ∧ N1 < 1000) (hN2 : b ≤ N2 ∧ N2 < 1000) (i : Nat) (hi : i < b) : Met l yX3_bondAt wsX3_bondAt ({ frames := 4, cells := 0, slots := 0, locals := 88 } : Room) (va_Pc [.ref (ad 0), .int (nI i)] (pC D cs A z0 sa (lvC n b) ad (ctC cs ad z0 g L B n b y1 y2 N1 N2 nd gv))) (va_Qr (fun (_ : Unit) => True) (fun _ a9 _ => a9 = ad (32 + i)) (fun _ => False)) 0 0 (fun _ => False) := by
  refine Met.ofW (cc := cX3_bondAt) (maxL := 2) (ret := (some (.object "Coverpool$Bond"))) (by decide) rfl ?_
  intro p e s m args below meth c s₁ BB hml hv
  obtain ⟨rfl, hv⟩ := hv
  obtain ⟨hE, hW⟩ := hv
  have hK := hE.1
  have hx := BB.exec
  have hb := BB.bytes
  have hr := BB.returns
  have hts := atoms_spec (ws := wsX3_bondAt) BB.pre
  have hown : s.vm.findClass RX3 = some m.cls := findClass_of_methodNamed BB.named
  have hlocks := BB.notSynchronized
  have hS : va_S (fun _ => False) s.heap s.heap [] := va_S.rf
  have hl := lv_entry ([.ref (ad 0), .int (nI i)]) (n := 2) (Nat.le_of_ble_eq_true rfl)
  rw [lg_entry_eq]
  generalize (lg_sl ([.ref (ad 0), .int (nI i)]) ++ List.replicate (2 - (lg_sl ([.ref (ad 0), .int (nI i)])).length) Slot.unset).toArray = ls at hl ⊢
  have hl : lv_has ls 2 [(0, .ref (ad 0)), (1, .int (nI i))] := hl
  have hf16 := hts (.fieldLink RX3 16 "Coverpool" "bonds" "Ljava/util/ArrayList;") (by decide +kernel)
  have hinX3 : ∀ w ∈ u_ws RX3 TX3 8, w ∈ wsX3_bondAt := by decide +kernel
  refine lv_iload_n hx hb dX3_bondAt_0 rfl (lv_at hl 1 rfl) ?_
  refine lv_if_lt (tgt := 15) hx hb dX3_bondAt_1 (by decide) (fun c_1 => ?_) (fun c_1 => ?_)
  · -- nI i lt 0 : True
    exact absurd c_1 (nI_pos (by omega))
  · -- nI i lt 0 : False
    refine lv_iload_n hx hb dX3_bondAt_4 rfl (lv_at hl 1 rfl) ?_
    refine lv_aload_n hx hb dX3_bondAt_5 rfl (lv_at hl 0 rfl) ?_
    refine wb_get hx hb hts hinX3 hown hK hW 0 (lvC_0 (by decide)) rfl rfl 1 (by decide) hf16 (fun _ h9 => h9) (v := .ref (ad 2)) rfl dX3_bondAt_6 ?_
    refine va_calli (va_runV (As := []) (rest := [.int (nI i)]) ⟨hx, hb, hml, hown, hts⟩ (c_Jx4a65c_size_8abf52 l D cs A z0 sa ad g L B n b y1 y2 N1 N2 nd gv hn hb5 hN1 hN2 ) (cwV 0 hts gX3_bondAt_Jx4a65c_size_8abf5 rfl rfl rfl (by decide +kernel) ⟨Nat.le_of_ble_eq_true rfl, Nat.le_of_ble_eq_true rfl⟩) ⟨pC_fb, wb_recv hK hW (r := 2) (lvC_0 (by decide)) (ci := 0) rfl rfl, fun U hU hV => ⟨rfl, hE.at (fun _ h => h.elim) hS hV hU, by rw [hU]; exact hW⟩⟩ rfl rfl hl.1 rfl (lv_room (Nat.le_of_ble_eq_true rfl)) dX3_bondAt_9 ⟨Nat.zero_le _, Nat.zero_le _⟩) hS (fun _ _ h => h.elim) (fun _ h => h.elim) (fun r_2 u t9 H locs ht hvm hw _ hz1 hk1 hS => ?_)
    have hW := hW.kept hk1
    subst hw
    refine lv_icmp_lt (tgt := 25) hx hb dX3_bondAt_12 (by decide) (fun c_3 => ?_) (fun c_3 => ?_)
    · -- nI i lt nI b : True
      refine lv_aload_n hx hb dX3_bondAt_25 rfl (lv_at hl 0 rfl) ?_
      refine wb_get hx hb hts hinX3 hown hK hW 0 (lvC_0 (by decide)) rfl rfl 1 (by decide) hf16 (fun _ h9 => h9) (v := .ref (ad 2)) rfl dX3_bondAt_26 ?_
      refine lv_iload_n hx hb dX3_bondAt_29 rfl (lv_at hl 1 rfl) ?_
      refine va_callr (va_runV (As := [.int (nI i)]) (rest := []) ⟨hx, hb, hml, hown, hts⟩ (c_Jx4a65c_get_915e32 l D cs A z0 sa ad g L B n b y1 y2 N1 N2 nd gv hn hb5 hN1 hN2 i (by omega)) (cwV 1 hts gX3_bondAt_Jx4a65c_get_915e3 rfl rfl rfl (by decide +kernel) ⟨Nat.le_of_ble_eq_true rfl, Nat.le_of_ble_eq_true rfl⟩) ⟨pC_fb, wb_recv hK hW (r := 2) (lvC_0 (by decide)) (ci := 0) rfl rfl, fun U hU hV => ⟨rfl, hE.at (fun _ h => h.elim) hS hV hU, by rw [hU]; exact hW⟩⟩ rfl rfl hl.1 rfl (lv_room (Nat.le_of_ble_eq_true rfl)) dX3_bondAt_30 ⟨Nat.zero_le _, Nat.zero_le _⟩) hS (fun _ _ h => h.elim) (fun _ h => h.elim) (fun u r_4 t9 H locs ht hvm hw hB hz1 hk1 hS => ?_)
      have hW := hW.kept hk1
      subst hB
      refine va_castS hx hb hown (hts (.classLink RX3 111 "Coverpool$Bond") (by decide +kernel)) (hK.1 1 _ rfl).2 (wb_recv hK hW (r := (32 + i)) (lvC_bd (by omega)) (ci := 1) rfl ctC_bd) dX3_bondAt_33 ?_
      exact W.aret (v := .ref (ad (32 + i))) hx hb hr (by first | exact Or.inl ⟨_, rfl⟩ | exact Or.inr ⟨_, rfl⟩) (Or.inr ⟨_, rfl⟩) (fun t9 ht9 hW9 => ⟨⟨(), _, rfl, trivial, rfl⟩, hS.F ht9⟩) hS.2.2 dX3_bondAt_36
    · -- nI i lt nI b : False
      exact absurd (nI_lt hi (by omega)) c_3

set_option maxHeartbeats 4000000 in
set_option maxRecDepth 100000 in
theorem c_X3_bondAtbad (l : Launch) (hst : l.stackTraces = false) (D : va_G) (cs : Nat → ClassId) (A : Nat → Prop) (z0 : Nat) (sa : Nat → Nat) (ad : Nat → Nat) (g : Nat → Int32) (L B : Nat → Nat → Int32) (n b : Nat) (y1 y2 : Int32) (N1 N2 : Nat) (nd : Nat → Int32) (gv : Nat → Nat → Int32) (hn : n ≤ 12) (hb5 : b ≤ 5) (hN1 : n ≤ N1 ∧ N1 < 1000) (hN2 : b ≤ N2 ∧ N2 < 1000) (x : Int32) (h : ¬ isIx b x) : vx_Met l yX3_bondAt wsX3_bondAt ({ frames := 7, cells := 1, slots := 6, locals := 100 } : Room) (va_Pc [.ref (ad 0), .int x] (pC D cs A z0 sa (lvC n b) ad (ctC cs ad z0 g L B n b y1 y2 N1 N2 nd gv))) (va_Qv (fun (_ : Unit) => False) (fun _ _ => True) (fun _ => False)) (vx_X (fun (_ : Unit) => True) (fun E9 _ _ => E9 = xI) (fun _ => False)) 1 6 (fun _ => False) := by
  refine vx_ofW (cc := cX3_bondAt) (maxL := 2) (ret := (some (.object "Coverpool$Bond"))) (by decide) rfl ?_
  intro p e s m args below meth c s₁ BB hml htab hv
  obtain ⟨rfl, hv⟩ := hv
  obtain ⟨hE, hW⟩ := hv
  have hK := hE.1
  have hx := BB.exec
  have hb := BB.bytes
  have hr := BB.returns
  have hts := atoms_spec (ws := wsX3_bondAt) BB.pre
  have hown : s.vm.findClass RX3 = some m.cls := findClass_of_methodNamed BB.named
  have hlocks := BB.notSynchronized
  have hS : va_S (fun _ => False) s.heap s.heap [] := va_S.rf
  have hl := lv_entry ([.ref (ad 0), .int x]) (n := 2) (Nat.le_of_ble_eq_true rfl)
  rw [lg_entry_eq]
  generalize (lg_sl ([.ref (ad 0), .int x]) ++ List.replicate (2 - (lg_sl ([.ref (ad 0), .int x])).length) Slot.unset).toArray = ls at hl ⊢
  have hl : lv_has ls 2 [(0, .ref (ad 0)), (1, .int x)] := hl
  have hf16 := hts (.fieldLink RX3 16 "Coverpool" "bonds" "Ljava/util/ArrayList;") (by decide +kernel)
  have hinX3 : ∀ w ∈ u_ws RX3 TX3 8, w ∈ wsX3_bondAt := by decide +kernel
  refine lv_iload_n hx hb dX3_bondAt_0 rfl (lv_at hl 1 rfl) ?_
  refine lv_if_lt (tgt := 15) hx hb dX3_bondAt_1 (by decide) (fun c_1 => ?_) (fun c_1 => ?_)
  · -- x lt 0 : True
    exact vx_throwS (sa := sa 174) hx hb hst hown (by decide) (by decide) (hts (.classLink RX3 169 "java/lang/IndexOutOfBoundsException") (by decide +kernel)) (hts (.initialized "java/lang/IndexOutOfBoundsException") (by decide +kernel)) (hE.2.2.2.2.2.2.1 (174, "no such bond") (by decide)) (vx_hat (fun w h => hts w (by first | exact List.mem_cons_of_mem _ (List.mem_append_right _ h) | exact List.mem_cons_of_mem _ (List.mem_append_left _ (List.mem_append_right _ h)) | exact List.mem_cons_of_mem _ (List.mem_append_left _ (List.mem_append_left _ (List.mem_append_right _ h))))) x3i_ok (cbad_use hE.2.2.2.2.2.2.2.1)) x3i_g (hE.2.2.2.2.1.narrow (fun _ h => h.elim)) (hE.2.2.2.2.2.1.narrow (fun _ h => h.elim)) hS (hl.1.trans hml.symm) dX3_bondAt_15 dX3_bondAt_18 dX3_bondAt_19 dX3_bondAt_21 dX3_bondAt_24 (fun x h => (htab x h).elim) (Nat.le_of_ble_eq_true rfl) (Nat.le_of_ble_eq_true rfl) (Nat.le_of_ble_eq_true rfl) (Nat.le_of_ble_eq_true rfl) hlocks (fun t8 hvm8 hz8 hk8 => ⟨(), trivial, rfl, xF0 hS hz8 hk8⟩) hS.2.2 (Nat.le_of_ble_eq_true rfl) (Nat.le_of_ble_eq_true rfl)
  · -- x lt 0 : False
    refine lv_iload_n hx hb dX3_bondAt_4 rfl (lv_at hl 1 rfl) ?_
    refine lv_aload_n hx hb dX3_bondAt_5 rfl (lv_at hl 0 rfl) ?_
    refine wb_get hx hb hts hinX3 hown hK hW 0 (lvC_0 (by decide)) rfl rfl 1 (by decide) hf16 (fun _ h9 => h9) (v := .ref (ad 2)) rfl dX3_bondAt_6 ?_
    refine va_calli (va_runV (As := []) (rest := [.int x]) ⟨hx, hb, hml, hown, hts⟩ (c_Jx4a65c_size_8abf52 l D cs A z0 sa ad g L B n b y1 y2 N1 N2 nd gv hn hb5 hN1 hN2 ) (cwV 0 hts gX3_bondAt_Jx4a65c_size_8abf5 rfl rfl rfl (by decide +kernel) ⟨Nat.le_of_ble_eq_true rfl, Nat.le_of_ble_eq_true rfl⟩) ⟨pC_fb, wb_recv hK hW (r := 2) (lvC_0 (by decide)) (ci := 0) rfl rfl, fun U hU hV => ⟨rfl, hE.at (fun _ h => h.elim) hS hV hU, by rw [hU]; exact hW⟩⟩ rfl rfl hl.1 rfl (lv_room (Nat.le_of_ble_eq_true rfl)) dX3_bondAt_9 ⟨Nat.zero_le _, Nat.zero_le _⟩) hS (fun _ _ h => h.elim) (fun _ h => h.elim) (fun r_2 u t9 H locs ht hvm hw _ hz1 hk1 hS => ?_)
    have hW := hW.kept hk1
    subst hw
    refine lv_icmp_lt (tgt := 25) hx hb dX3_bondAt_12 (by decide) (fun c_3 => ?_) (fun c_3 => ?_)
    · -- x lt nI b : True
      exact absurd ⟨c_1, Int32.not_le.mpr c_3⟩ h
    · -- x lt nI b : False
      exact vx_throwS (sa := sa 174) hx hb hst hown (by decide) (by decide) (hts (.classLink RX3 169 "java/lang/IndexOutOfBoundsException") (by decide +kernel)) (hts (.initialized "java/lang/IndexOutOfBoundsException") (by decide +kernel)) (hE.2.2.2.2.2.2.1 (174, "no such bond") (by decide)) (vx_hat (fun w h => hts w (by first | exact List.mem_cons_of_mem _ (List.mem_append_right _ h) | exact List.mem_cons_of_mem _ (List.mem_append_left _ (List.mem_append_right _ h)) | exact List.mem_cons_of_mem _ (List.mem_append_left _ (List.mem_append_left _ (List.mem_append_right _ h))))) x3i_ok (cbad_use hE.2.2.2.2.2.2.2.1)) x3i_g (hE.2.2.2.2.1.narrow (fun _ h => h.elim)) (hE.2.2.2.2.2.1.narrow (fun _ h => h.elim)) hS (hl.1.trans hml.symm) dX3_bondAt_15 dX3_bondAt_18 dX3_bondAt_19 dX3_bondAt_21 dX3_bondAt_24 (fun x h => (htab x h).elim) (Nat.le_of_ble_eq_true rfl) (Nat.le_of_ble_eq_true rfl) (Nat.le_of_ble_eq_true rfl) (Nat.le_of_ble_eq_true rfl) hlocks (fun t8 hvm8 hz8 hk8 => ⟨(), trivial, rfl, xF0 hS hz8 hk8⟩) hS.2.2 (Nat.le_of_ble_eq_true rfl) (Nat.le_of_ble_eq_true rfl)
