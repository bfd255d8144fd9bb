set_option maxHeartbeats 4000000 in
set_option maxRecDepth 100000 in
theorem c_X4_cash (l : Launch) (D : va_G) (cs : Nat → ClassId) (A : Nat → Prop) (ad : Nat → Nat) (g : Nat → Int32) (L B : Nat → Nat → Int32) (n b : Nat) (t : Int32) (hn : n ≤ 12) (hb5 : b ≤ 5)  : Met l yX4_cash wsX4_cash ({ frames := 1, cells := 0, slots := 0, locals := 24 } : Room) (va_Pc [.ref (ad 0)] (pM D cs A ad g L B n b t)) (va_Qi (fun (r9 : Int32) (_ : Unit) => r9 = g 1) (fun _ t9 => wP D A lvM ad (ctM cs ad g L B n b 0) t9.heap) A) 0 0 A := by
  refine Met.ofW (cc := cX4_cash) (maxL := 1) (ret := (some .int)) (by decide) rfl ?_
  intro p e s m args below meth c s₁ BB hml hv
  obtain ⟨rfl, hv⟩ := hv
  obtain ⟨hK, hW⟩ := hv
  have hx := BB.exec
  have hb := BB.bytes
  have hr := BB.returns
  have hts := atoms_spec (ws := wsX4_cash) BB.pre
  have hown : s.vm.findClass RX4 = some m.cls := findClass_of_methodNamed BB.named
  have hlocks := BB.notSynchronized
  have hS : va_S A s.heap s.heap [] := va_S.rf
  have hl := lv_entry ([.ref (ad 0)]) (n := 1) (Nat.le_of_ble_eq_true rfl)
  rw [lg_entry_eq]
  generalize (lg_sl ([.ref (ad 0)]) ++ List.replicate (1 - (lg_sl ([.ref (ad 0)])).length) Slot.unset).toArray = ls at hl ⊢
  have hl : lv_has ls 1 [(0, .ref (ad 0))] := hl
  have hf51 := hts (.fieldLink RX4 51 "CoverpoolModel" "thrown" "I") (by decide +kernel)
  have hf64 := hts (.fieldLink RX4 64 "CoverpoolModel" "cash" "I") (by decide +kernel)
  have hinX4 : ∀ w ∈ u_ws RX4 TX4 18, w ∈ wsX4_cash := by decide +kernel
  refine lv_aload_n hx hb dX4_cash_0 rfl (lv_at hl 0 rfl) ?_
  refine lv_iconst (v := 0) hx hb dX4_cash_1 (by decide) ?_
  refine wb_put (v := .int 0) (ty := .int) hx hb hts hinX4 tyX4 tyX4_ok nmX4 hown hK hW hS 0 (Nat.le_of_ble_eq_true rfl) rfl rfl 17 (by decide) hf51 (fun _ h9 => h9) rfl (by decide +kernel) rfl rfl (Nat.le_of_ble_eq_true rfl) dX4_cash_2 (fun H locs hW hS => ?_)
  have hW : wP D A lvM ad (ctM cs ad g L B n b 0) H := hW.to (fun r hr => ⟨hr, rfl, by rcases lt11 hr with rfl | rfl | rfl | rfl | rfl | rfl | rfl | rfl | rfl | rfl | rfl <;> rfl⟩)
  refine lv_aload_n hx hb dX4_cash_5 rfl (lv_at hl 0 rfl) ?_
  refine wb_get hx hb hts hinX4 hown hK hW 0 (Nat.le_of_ble_eq_true rfl) rfl rfl 1 (by decide) hf64 (fun _ h9 => h9) (v := .int (g 1)) rfl dX4_cash_6 ?_
  exact W.iret (v := g 1) hx hb hr (fun t9 ht9 hW9 => ⟨⟨_, (), rfl, (by rfl), (by dsimp only; rw [ht9]; exact hW)⟩, hS.F ht9⟩) hS.2.2 dX4_cash_9

set_option maxHeartbeats 4000000 in
set_option maxRecDepth 100000 in
theorem c_X4_debt (l : Launch) (D : va_G) (cs : Nat → ClassId) (A : Nat → Prop) (ad : Nat → Nat) (g : Nat → Int32) (L B : Nat → Nat → Int32) (n b : Nat) (t : Int32) (hn : n ≤ 12) (hb5 : b ≤ 5)  : Met l yX4_debt wsX4_debt ({ frames := 2, cells := 0, slots := 0, locals := 46 } : Room) (va_Pc [.ref (ad 0)] (pM D cs A ad g L B n b t)) (va_Qi (fun (r9 : Int32) (_ : Unit) => r9 = mOwed B b) (fun _ t9 => wP D A lvM ad (ctM cs ad g L B n b 0) t9.heap) A) 0 0 A := by
  refine Met.ofW (cc := cX4_debt) (maxL := 1) (ret := (some .int)) (by decide) rfl ?_
  intro p e s m args below meth c s₁ BB hml hv
  obtain ⟨rfl, hv⟩ := hv
  obtain ⟨hK, hW⟩ := hv
  have hx := BB.exec
  have hb := BB.bytes
  have hr := BB.returns
  have hts := atoms_spec (ws := wsX4_debt) BB.pre
  have hown : s.vm.findClass RX4 = some m.cls := findClass_of_methodNamed BB.named
  have hlocks := BB.notSynchronized
  have hS : va_S A s.heap s.heap [] := va_S.rf
  have hl := lv_entry ([.ref (ad 0)]) (n := 1) (Nat.le_of_ble_eq_true rfl)
  rw [lg_entry_eq]
  generalize (lg_sl ([.ref (ad 0)]) ++ List.replicate (1 - (lg_sl ([.ref (ad 0)])).length) Slot.unset).toArray = ls at hl ⊢
  have hl : lv_has ls 1 [(0, .ref (ad 0))] := hl
  have hf51 := hts (.fieldLink RX4 51 "CoverpoolModel" "thrown" "I") (by decide +kernel)
  have hinX4 : ∀ w ∈ u_ws RX4 TX4 18, w ∈ wsX4_debt := by decide +kernel
  refine lv_aload_n hx hb dX4_debt_0 rfl (lv_at hl 0 rfl) ?_
  refine lv_iconst (v := 0) hx hb dX4_debt_1 (by decide) ?_
  refine wb_put (v := .int 0) (ty := .int) hx hb hts hinX4 tyX4 tyX4_ok nmX4 hown hK hW hS 0 (Nat.le_of_ble_eq_true rfl) rfl rfl 17 (by decide) hf51 (fun _ h9 => h9) rfl (by decide +kernel) rfl rfl (Nat.le_of_ble_eq_true rfl) dX4_debt_2 (fun H locs hW hS => ?_)
  have hW : wP D A lvM ad (ctM cs ad g L B n b 0) H := hW.to (fun r hr => ⟨hr, rfl, by rcases lt11 hr with rfl | rfl | rfl | rfl | rfl | rfl | rfl | rfl | rfl | rfl | rfl <;> rfl⟩)
  refine lv_aload_n hx hb dX4_debt_5 rfl (lv_at hl 0 rfl) ?_
  refine va_calli (va_runV (As := []) (rest := []) ⟨hx, hb, hml, hown, hts⟩ (c_X4_owed l D cs A ad g L B n b 0 hn hb5 ) (cwV 0 hts gX4_debt_X4_owed rfl rfl rfl (by decide +kernel) ⟨Nat.le_of_ble_eq_true rfl, Nat.le_of_ble_eq_true rfl⟩) ⟨pM_fb, wb_recv hK hW (r := 0) (Nat.le_of_ble_eq_true rfl) (ci := 5) rfl rfl, fun U hU hV => ⟨rfl, pM_of hK hV.alike hU hW⟩⟩ rfl rfl hl.1 rfl (lv_room (Nat.le_of_ble_eq_true rfl)) dX4_debt_6 ⟨Nat.zero_le _, Nat.zero_le _⟩) hS (fun _ _ h => h.elim) (fun _ h => h.elim) (fun r_2 u t9 H locs ht hvm hw _ hz1 hk1 hS => ?_)
  have hW := hW.kept hk1
  subst hw
  exact W.iret (v := mOwed B b) hx hb hr (fun t9 ht9 hW9 => ⟨⟨_, (), rfl, (by rfl), (by dsimp only; rw [ht9]; exact hW)⟩, hS.F ht9⟩) hS.2.2 dX4_debt_9

set_option maxHeartbeats 4000000 in
set_option maxRecDepth 100000 in
theorem c_X4_substitutes (l : Launch) (D : va_G) (cs : Nat → ClassId) (A : Nat → Prop) (ad : Nat → Nat) (g : Nat → Int32) (L B : Nat → Nat → Int32) (n b : Nat) (t : Int32) (hn : n ≤ 12) (hb5 : b ≤ 5)  : Met l yX4_substitutes wsX4_substitutes ({ frames := 3, cells := 0, slots := 0, locals := 67 } : Room) (va_Pc [.ref (ad 0)] (pM D cs A ad g L B n b t)) (va_Qi (fun (r9 : Int32) (_ : Unit) => r9 = mBeside g B b) (fun _ t9 => wP D A lvM ad (ctM cs ad g L B n b 0) t9.heap) A) 0 0 A := by
  refine Met.ofW (cc := cX4_substitutes) (maxL := 1) (ret := (some .int)) (by decide) rfl ?_
  intro p e s m args below meth c s₁ BB hml hv
  obtain ⟨rfl, hv⟩ := hv
  obtain ⟨hK, hW⟩ := hv
  have hx := BB.exec
  have hb := BB.bytes
  have hr := BB.returns
  have hts := atoms_spec (ws := wsX4_substitutes) BB.pre
  have hown : s.vm.findClass RX4 = some m.cls := findClass_of_methodNamed BB.named
  have hlocks := BB.notSynchronized
  have hS : va_S A s.heap s.heap [] := va_S.rf
  have hl := lv_entry ([.ref (ad 0)]) (n := 1) (Nat.le_of_ble_eq_true rfl)
  rw [lg_entry_eq]
  generalize (lg_sl ([.ref (ad 0)]) ++ List.replicate (1 - (lg_sl ([.ref (ad 0)])).length) Slot.unset).toArray = ls at hl ⊢
  have hl : lv_has ls 1 [(0, .ref (ad 0))] := hl
  have hf51 := hts (.fieldLink RX4 51 "CoverpoolModel" "thrown" "I") (by decide +kernel)
  have hinX4 : ∀ w ∈ u_ws RX4 TX4 18, w ∈ wsX4_substitutes := by decide +kernel
  refine lv_aload_n hx hb dX4_substitutes_0 rfl (lv_at hl 0 rfl) ?_
  refine lv_iconst (v := 0) hx hb dX4_substitutes_1 (by decide) ?_
  refine wb_put (v := .int 0) (ty := .int) hx hb hts hinX4 tyX4 tyX4_ok nmX4 hown hK hW hS 0 (Nat.le_of_ble_eq_true rfl) rfl rfl 17 (by decide) hf51 (fun _ h9 => h9) rfl (by decide +kernel) rfl rfl (Nat.le_of_ble_eq_true rfl) dX4_substitutes_2 (fun H locs hW hS => ?_)
  have hW : wP D A lvM ad (ctM cs ad g L B n b 0) H := hW.to (fun r hr => ⟨hr, rfl, by rcases lt11 hr with rfl | rfl | rfl | rfl | rfl | rfl | rfl | rfl | rfl | rfl | rfl <;> rfl⟩)
  refine lv_aload_n hx hb dX4_substitutes_5 rfl (lv_at hl 0 rfl) ?_
  refine va_calli (va_runV (As := []) (rest := []) ⟨hx, hb, hml, hown, hts⟩ (c_X4_beside l D cs A ad g L B n b 0 hn hb5 ) (cwV 0 hts gX4_substitutes_X4_beside rfl rfl rfl (by decide +kernel) ⟨Nat.le_of_ble_eq_true rfl, Nat.le_of_ble_eq_true rfl⟩) ⟨pM_fb, wb_recv hK hW (r := 0) (Nat.le_of_ble_eq_true rfl) (ci := 5) rfl rfl, fun U hU hV => ⟨rfl, pM_of hK hV.alike hU hW⟩⟩ rfl rfl hl.1 rfl (lv_room (Nat.le_of_ble_eq_true rfl)) dX4_substitutes_6 ⟨Nat.zero_le _, Nat.zero_le _⟩) hS (fun _ _ h => h.elim) (fun _ h => h.elim) (fun r_2 u t9 H locs ht hvm hw _ hz1 hk1 hS => ?_)
  have hW := hW.kept hk1
  subst hw
  exact W.iret (v := mBeside g B b) hx hb hr (fun t9 ht9 hW9 => ⟨⟨_, (), rfl, (by rfl), (by dsimp only; rw [ht9]; exact hW)⟩, hS.F ht9⟩) hS.2.2 dX4_substitutes_9

set_option maxHeartbeats 4000000 in
set_option maxRecDepth 100000 in
theorem c_X4_enter (l : Launch) (D : va_G) (cs : Nat → ClassId) (A : Nat → Prop) (ad : Nat → Nat) (g : Nat → Int32) (L B : Nat → Nat → Int32) (n b : Nat) (t : Int32) (hn : n ≤ 12) (hb5 : b ≤ 5) (x : Int32)  : Met l yX4_enter wsX4_enter ({ frames := 2, cells := 0, slots := 0, locals := 47 } : Room) (va_Pc [.ref (ad 0), .int x] (pM D cs A ad g L B n b t)) (va_Qi (fun (r9 : Int32) (_ : Unit) => r9 = sel (kSt L n 0 x) (mCount g (updL L 5 (ixN x) 1) (ixN x)) 0) (fun _ t9 => wP D A lvM ad (ctM cs ad g (sel (kSt L n 0 x) (updL L 5 (ixN x) 1) L) B n b (kSt L n 0 x)) t9.heap) A) 0 0 A := by
  refine Met.ofW (cc := cX4_enter) (maxL := 3) (ret := (some .int)) (by decide) rfl ?_
  intro p e s m args below meth c s₁ BB hml hv
  obtain ⟨rfl, hv⟩ := hv
  obtain ⟨hK, hW⟩ := hv
  have hx := BB.exec
  have hb := BB.bytes
  have hr := BB.returns
  have hts := atoms_spec (ws := wsX4_enter) BB.pre
  have hown : s.vm.findClass RX4 = some m.cls := findClass_of_methodNamed BB.named
  have hlocks := BB.notSynchronized
  have hS : va_S A s.heap s.heap [] := va_S.rf
  have hl := lv_entry ([.ref (ad 0), .int x]) (n := 3) (Nat.le_of_ble_eq_true rfl)
  rw [lg_entry_eq]
  generalize (lg_sl ([.ref (ad 0), .int x]) ++ List.replicate (3 - (lg_sl ([.ref (ad 0), .int x])).length) Slot.unset).toArray = ls at hl ⊢
  have hl : lv_has ls 3 [(0, .ref (ad 0)), (1, .int x)] := hl
  have hf35 := hts (.fieldLink RX4 35 "CoverpoolModel" "state" "[I") (by decide +kernel)
  have hinX4 : ∀ w ∈ u_ws RX4 TX4 18, w ∈ wsX4_enter := by decide +kernel
  rcases isIx_cases n (by omega) x with hx_x | ⟨j, h_j, rfl⟩
  ·
    refine lv_aload_n hx hb dX4_enter_0 rfl (lv_at hl 0 rfl) ?_
    refine lv_iload_n hx hb dX4_enter_1 rfl (lv_at hl 1 rfl) ?_
    refine va_calli (va_runV (As := [.int x]) (rest := []) ⟨hx, hb, hml, hown, hts⟩ (c_X4_isLoan l D cs A ad g L B n b t hn hb5 x) (cwV 1 hts gX4_enter_X4_isLoan rfl rfl rfl (by decide +kernel) ⟨Nat.le_of_ble_eq_true rfl, Nat.le_of_ble_eq_true rfl⟩) ⟨pM_fb, wb_recv hK hW (r := 0) (Nat.le_of_ble_eq_true rfl) (ci := 5) rfl rfl, fun U hU hV => ⟨rfl, pM_of hK hV.alike hU hW⟩⟩ rfl rfl hl.1 rfl (lv_room (Nat.le_of_ble_eq_true rfl)) dX4_enter_2 ⟨Nat.zero_le _, Nat.zero_le _⟩) hS (fun _ _ h => h.elim) (fun _ h => h.elim) (fun r_2 u t9 H locs ht hvm hw _ hz1 hk1 hS => ?_)
    have hW := hW.kept hk1
    rcases hw with ⟨rfl, hp_2⟩ | ⟨rfl, hp_2⟩
    ·
      exact absurd hp_2 hx_x
    ·
      refine lv_istore_n (lv' := [(2, .int 0), (0, .ref (ad 0)), (1, .int x)]) hx hb dX4_enter_5 rfl hl (by decide) rfl (fun ls hl => ?_)
      refine lv_aload_n hx hb dX4_enter_6 rfl (lv_at hl 1 rfl) ?_
      refine lv_iload_n hx hb dX4_enter_7 rfl (lv_at hl 0 rfl) ?_
      refine lv_iload_n hx hb dX4_enter_8 rfl (lv_at hl 0 rfl) ?_
      refine lv_if_eq (tgt := 25) hx hb dX4_enter_9 (by decide) (fun c_3 => ?_) (fun c_3 => ?_)
      · -- 0 eq 0 : True
        refine lv_iconst (v := 0) hx hb dX4_enter_25 (by decide) ?_
        refine lv_iconst (v := 1) hx hb dX4_enter_26 (by decide) ?_
        refine va_calli (va_runV (As := [.int 0, .int 0, .int 1]) (rest := []) ⟨hx, hb, hml, hown, hts⟩ (c_X4_goes l D cs A ad g L B n b t hn hb5 0 0 1) (cwV 3 hts gX4_enter_X4_goes rfl rfl rfl (by decide +kernel) ⟨Nat.le_of_ble_eq_true rfl, Nat.le_of_ble_eq_true rfl⟩) ⟨pM_fb, wb_recv hK hW (r := 0) (Nat.le_of_ble_eq_true rfl) (ci := 5) rfl rfl, fun U hU hV => ⟨rfl, pM_of hK hV.alike hU hW⟩⟩ rfl rfl hl.1 rfl (lv_room (Nat.le_of_ble_eq_true rfl)) dX4_enter_27 ⟨Nat.zero_le _, Nat.zero_le _⟩) hS (fun _ _ h => h) (fun _ h => h) (fun r_4 u t9 H locs ht hvm hw hB hz1 hk1 hS => ?_)
        have hW : wP D A lvM ad (ctM cs ad g L B n b 1) H := by rw [← ht]; exact hB
        rcases hw with ⟨rfl, hp_4⟩ | ⟨rfl, hp_4⟩
        ·
          exact absurd hp_4 (by decide)
        ·
          refine lv_if_ne (tgt := 35) hx hb dX4_enter_30 (by decide) (fun c_5 => ?_) (fun c_5 => ?_)
          · -- 0 ne 0 : True
            exact absurd c_5 (by decide)
          · -- 0 ne 0 : False
            refine lv_iconst (v := 0) hx hb dX4_enter_33 (by decide) ?_
            have hk : kSt L n 0 x = 1 := by simp [kSt, (eq_false hx_x), (eq_false hp_2), c_3, (eq_false hp_4), c_5]
            exact W.iret (v := 0) hx hb hr (fun t9 ht9 hW9 => ⟨⟨_, (), rfl, (by first | (simp only [hk, sel_0, sel_1, sel_2, sel_3]; done) | (simp only [hk, sel_0, sel_1, sel_2, sel_3]; first | rfl | (simp [(eq_false hx_x), (eq_false hp_2), c_3, (eq_false hp_4), c_5, upd]; done))), (by dsimp only; rw [ht9]; simp only [hk, sel_0, sel_1, sel_2, sel_3]; exact hW)⟩, hS.F ht9⟩) hS.2.2 dX4_enter_34
      · -- 0 eq 0 : False
        exact absurd c_3 (by decide)
  ·
    have hx_x : isIx n (nI j) := isIx_nI h_j (by omega)
    have hn_x : ixN (nI j) = j := ixN_nI (by omega)
    refine lv_aload_n hx hb dX4_enter_0 rfl (lv_at hl 0 rfl) ?_
    refine lv_iload_n hx hb dX4_enter_1 rfl (lv_at hl 1 rfl) ?_
    refine va_calli (va_runV (As := [.int (nI j)]) (rest := []) ⟨hx, hb, hml, hown, hts⟩ (c_X4_isLoan l D cs A ad g L B n b t hn hb5 (nI j)) (cwV 1 hts gX4_enter_X4_isLoan rfl rfl rfl (by decide +kernel) ⟨Nat.le_of_ble_eq_true rfl, Nat.le_of_ble_eq_true rfl⟩) ⟨pM_fb, wb_recv hK hW (r := 0) (Nat.le_of_ble_eq_true rfl) (ci := 5) rfl rfl, fun U hU hV => ⟨rfl, pM_of hK hV.alike hU hW⟩⟩ rfl rfl hl.1 rfl (lv_room (Nat.le_of_ble_eq_true rfl)) dX4_enter_2 ⟨Nat.zero_le _, Nat.zero_le _⟩) hS (fun _ _ h => h.elim) (fun _ h => h.elim) (fun r_6 u t9 H locs ht hvm hw _ hz1 hk1 hS => ?_)
    have hW := hW.kept hk1
    rcases hw with ⟨rfl, hp_6⟩ | ⟨rfl, hp_6⟩
    ·
      refine lv_istore_n (lv' := [(2, .int 1), (0, .ref (ad 0)), (1, .int (nI j))]) hx hb dX4_enter_5 rfl hl (by decide) rfl (fun ls hl => ?_)
      refine lv_aload_n hx hb dX4_enter_6 rfl (lv_at hl 1 rfl) ?_
      refine lv_iload_n hx hb dX4_enter_7 rfl (lv_at hl 0 rfl) ?_
      refine lv_iload_n hx hb dX4_enter_8 rfl (lv_at hl 0 rfl) ?_
      refine lv_if_eq (tgt := 25) hx hb dX4_enter_9 (by decide) (fun c_7 => ?_) (fun c_7 => ?_)
      · -- 1 eq 0 : True
        exact absurd c_7 (by decide)
      · -- 1 eq 0 : False
        refine lv_aload_n hx hb dX4_enter_12 rfl (lv_at hl 1 rfl) ?_
        refine wb_get hx hb hts hinX4 hown hK hW 0 (Nat.le_of_ble_eq_true rfl) rfl rfl 10 (by decide) hf35 (fun _ h9 => h9) (v := .ref (ad 6)) rfl dX4_enter_13 ?_
        refine lv_iload_n hx hb dX4_enter_16 rfl (lv_at hl 2 rfl) ?_
        refine wb_iald hx hb hK hW 6 (Nat.le_of_ble_eq_true rfl) 0 rfl rfl j rfl (by omega) (by decide) dX4_enter_17 ?_
        refine lv_if_ne (tgt := 25) hx hb dX4_enter_18 (by decide) (fun c_8 => ?_) (fun c_8 => ?_)
        · -- L 5 j ne 0 : True
          refine lv_iconst (v := 0) hx hb dX4_enter_25 (by decide) ?_
          refine lv_iconst (v := 1) hx hb dX4_enter_26 (by decide) ?_
          refine va_calli (va_runV (As := [.int 1, .int 0, .int 1]) (rest := []) ⟨hx, hb, hml, hown, hts⟩ (c_X4_goes l D cs A ad g L B n b t hn hb5 1 0 1) (cwV 3 hts gX4_enter_X4_goes rfl rfl rfl (by decide +kernel) ⟨Nat.le_of_ble_eq_true rfl, Nat.le_of_ble_eq_true rfl⟩) ⟨pM_fb, wb_recv hK hW (r := 0) (Nat.le_of_ble_eq_true rfl) (ci := 5) rfl rfl, fun U hU hV => ⟨rfl, pM_of hK hV.alike hU hW⟩⟩ rfl rfl hl.1 rfl (lv_room (Nat.le_of_ble_eq_true rfl)) dX4_enter_27 ⟨Nat.zero_le _, Nat.zero_le _⟩) hS (fun _ _ h => h) (fun _ h => h) (fun r_9 u t9 H locs ht hvm hw hB hz1 hk1 hS => ?_)
          have hW : wP D A lvM ad (ctM cs ad g L B n b 2) H := by rw [← ht]; exact hB
          rcases hw with ⟨rfl, hp_9⟩ | ⟨rfl, hp_9⟩
          ·
            exact absurd hp_9 (by decide)
          ·
            refine lv_if_ne (tgt := 35) hx hb dX4_enter_30 (by decide) (fun c_10 => ?_) (fun c_10 => ?_)
            · -- 0 ne 0 : True
              exact absurd c_10 (by decide)
            · -- 0 ne 0 : False
              refine lv_iconst (v := 0) hx hb dX4_enter_33 (by decide) ?_
              have hk : kSt L n 0 (nI j) = 2 := by simp [kSt, (eq_true hx_x), hn_x, (eq_true hp_6), c_7, c_8, (eq_false hp_9), c_10]
              exact W.iret (v := 0) hx hb hr (fun t9 ht9 hW9 => ⟨⟨_, (), rfl, (by first | (simp only [hk, sel_0, sel_1, sel_2, sel_3, hn_x]; done) | (simp only [hk, sel_0, sel_1, sel_2, sel_3, hn_x]; first | rfl | (simp [(eq_true hx_x), hn_x, (eq_true hp_6), c_7, c_8, (eq_false hp_9), c_10, upd]; done))), (by dsimp only; rw [ht9]; simp only [hk, sel_0, sel_1, sel_2, sel_3, hn_x]; exact hW)⟩, hS.F ht9⟩) hS.2.2 dX4_enter_34
        · -- L 5 j ne 0 : False
          refine lv_iconst (v := 1) hx hb dX4_enter_21 (by decide) ?_
          refine lv_goto (tgt := 26) hx hb dX4_enter_22 (by decide) ?_
          refine lv_iconst (v := 1) hx hb dX4_enter_26 (by decide) ?_
          refine va_calli (va_runV (As := [.int 1, .int 1, .int 1]) (rest := []) ⟨hx, hb, hml, hown, hts⟩ (c_X4_goes l D cs A ad g L B n b t hn hb5 1 1 1) (cwV 3 hts gX4_enter_X4_goes rfl rfl rfl (by decide +kernel) ⟨Nat.le_of_ble_eq_true rfl, Nat.le_of_ble_eq_true rfl⟩) ⟨pM_fb, wb_recv hK hW (r := 0) (Nat.le_of_ble_eq_true rfl) (ci := 5) rfl rfl, fun U hU hV => ⟨rfl, pM_of hK hV.alike hU hW⟩⟩ rfl rfl hl.1 rfl (lv_room (Nat.le_of_ble_eq_true rfl)) dX4_enter_27 ⟨Nat.zero_le _, Nat.zero_le _⟩) hS (fun _ _ h => h) (fun _ h => h) (fun r_11 u t9 H locs ht hvm hw hB hz1 hk1 hS => ?_)
          have hW : wP D A lvM ad (ctM cs ad g L B n b 0) H := by rw [← ht]; exact hB
          rcases hw with ⟨rfl, hp_11⟩ | ⟨rfl, hp_11⟩
          ·
            refine lv_if_ne (tgt := 35) hx hb dX4_enter_30 (by decide) (fun c_12 => ?_) (fun c_12 => ?_)
            · -- 1 ne 0 : True
              refine lv_aload_n hx hb dX4_enter_35 rfl (lv_at hl 1 rfl) ?_
              refine wb_get hx hb hts hinX4 hown hK hW 0 (Nat.le_of_ble_eq_true rfl) rfl rfl 10 (by decide) hf35 (fun _ h9 => h9) (v := .ref (ad 6)) rfl dX4_enter_36 ?_
              refine lv_iload_n hx hb dX4_enter_39 rfl (lv_at hl 2 rfl) ?_
              refine lv_iconst (v := 1) hx hb dX4_enter_40 (by decide) ?_
              refine wb_iast hx hb hK hW hS 6 (Nat.le_of_ble_eq_true rfl) 0 rfl rfl j rfl (by omega) (by decide) dX4_enter_41 (fun H locs hW hS => ?_)
              obtain ⟨L13, hL13⟩ : ∃ z9, z9 = updL L 5 j 1 := ⟨_, rfl⟩
              have hW : wP D A lvM ad (ctM cs ad g L13 B n b 0) H := hW.to (fun r hr => ⟨hr, rfl, by subst hL13; rcases lt11 hr with rfl | rfl | rfl | rfl | rfl | rfl | rfl | rfl | rfl | rfl | rfl <;> rfl⟩)
              refine lv_aload_n hx hb dX4_enter_42 rfl (lv_at hl 1 rfl) ?_
              refine lv_iload_n hx hb dX4_enter_43 rfl (lv_at hl 2 rfl) ?_
              refine va_calli (va_runV (As := [.int (nI j)]) (rest := []) ⟨hx, hb, hml, hown, hts⟩ (c_X4_countOf l D cs A ad g L13 B n b 0 hn hb5 j (by omega)) (cwV 1 hts gX4_enter_X4_countOf rfl rfl rfl (by decide +kernel) ⟨Nat.le_of_ble_eq_true rfl, Nat.le_of_ble_eq_true rfl⟩) ⟨pM_fb, wb_recv hK hW (r := 0) (Nat.le_of_ble_eq_true rfl) (ci := 5) rfl rfl, fun U hU hV => ⟨rfl, pM_of hK hV.alike hU hW⟩⟩ rfl rfl hl.1 rfl (lv_room (Nat.le_of_ble_eq_true rfl)) dX4_enter_44 ⟨Nat.zero_le _, Nat.zero_le _⟩) hS (fun _ _ h => h.elim) (fun _ h => h.elim) (fun r_14 u t9 H locs ht hvm hw _ hz1 hk1 hS => ?_)
              have hW := hW.kept hk1
              subst hw
              have hk : kSt L n 0 (nI j) = 0 := by simp [kSt, (eq_true hx_x), hn_x, (eq_true hp_6), c_7, c_8, (eq_true hp_11), c_12, hL13]
              exact W.iret (v := mCount g L13 j) hx hb hr (fun t9 ht9 hW9 => ⟨⟨_, (), rfl, (by first | (simp only [hk, sel_0, sel_1, sel_2, sel_3, hn_x]; done) | (simp only [hk, sel_0, sel_1, sel_2, sel_3, hn_x]; first | rfl | (simp [(eq_true hx_x), hn_x, (eq_true hp_6), c_7, c_8, (eq_true hp_11), c_12, hL13, upd]; done))), (by dsimp only; rw [ht9]; simp only [hk, sel_0, sel_1, sel_2, sel_3, hn_x]; subst hL13; exact hW)⟩, hS.F ht9⟩) hS.2.2 dX4_enter_47
            · -- 1 ne 0 : False
              exact absurd c_12 (by decide)
          ·
            exact absurd (by decide) hp_11
    ·
      exact absurd hx_x hp_6

set_option maxHeartbeats 4000000 in
set_option maxRecDepth 100000 in
theorem c_X4_leave (l : Launch) (D : va_G) (cs : Nat → ClassId) (A : Nat → Prop) (ad : Nat → Nat) (g : Nat → Int32) (L B : Nat → Nat → Int32) (n b : Nat) (t : Int32) (hn : n ≤ 12) (hb5 : b ≤ 5) (x : Int32) (dv0 : dvOK g L B n b 0) (dvs : dvOK g L B n b (g 4)) : Met l yX4_leave wsX4_leave ({ frames := 6, cells := 0, slots := 0, locals := 139 } : Room) (va_Pc [.ref (ad 0), .int x] (pM D cs A ad g L B n b t)) (va_Qi (fun (r9 : Int32) (_ : Unit) => (r9 = 1 ∧ (kSt L n 1 x = 0 ∧ mSafe g L B n b (outOf L n x))) ∨ (r9 = 0 ∧ ¬ (kSt L n 1 x = 0 ∧ mSafe g L B n b (outOf L n x)))) (fun _ t9 => wP D A lvM ad (ctM cs ad g (sel (kSt L n 1 x) (if mSafe g L B n b (outOf L n x) then updL L 5 (ixN x) 0 else L) L) B n b (kSt L n 1 x)) t9.heap) A) 0 0 A := by
  refine Met.ofW (cc := cX4_leave) (maxL := 4) (ret := (some .boolean)) (by decide) rfl ?_
  intro p e s m args below meth c s₁ BB hml hv
  obtain ⟨rfl, hv⟩ := hv
  obtain ⟨hK, hW⟩ := hv
  have hx := BB.exec
  have hb := BB.bytes
  have hr := BB.returns
  have hts := atoms_spec (ws := wsX4_leave) BB.pre
  have hown : s.vm.findClass RX4 = some m.cls := findClass_of_methodNamed BB.named
  have hlocks := BB.notSynchronized
  have hS : va_S A s.heap s.heap [] := va_S.rf
  have hl := lv_entry ([.ref (ad 0), .int x]) (n := 4) (Nat.le_of_ble_eq_true rfl)
  rw [lg_entry_eq]
  generalize (lg_sl ([.ref (ad 0), .int x]) ++ List.replicate (4 - (lg_sl ([.ref (ad 0), .int x])).length) Slot.unset).toArray = ls at hl ⊢
  have hl : lv_has ls 4 [(0, .ref (ad 0)), (1, .int x)] := hl
  have hf35 := hts (.fieldLink RX4 35 "CoverpoolModel" "state" "[I") (by decide +kernel)
  have hinX4 : ∀ w ∈ u_ws RX4 TX4 18, w ∈ wsX4_leave := by decide +kernel
  rcases isIx_cases n (by omega) x with hx_x | ⟨j, h_j, rfl⟩
  ·
    refine lv_aload_n hx hb dX4_leave_0 rfl (lv_at hl 0 rfl) ?_
    refine lv_iload_n hx hb dX4_leave_1 rfl (lv_at hl 1 rfl) ?_
    refine va_calli (va_runV (As := [.int x]) (rest := []) ⟨hx, hb, hml, hown, hts⟩ (c_X4_isLoan l D cs A ad g L B n b t hn hb5 x) (cwV 1 hts gX4_leave_X4_isLoan rfl rfl rfl (by decide +kernel) ⟨Nat.le_of_ble_eq_true rfl, Nat.le_of_ble_eq_true rfl⟩) ⟨pM_fb, wb_recv hK hW (r := 0) (Nat.le_of_ble_eq_true rfl) (ci := 5) rfl rfl, fun U hU hV => ⟨rfl, pM_of hK hV.alike hU hW⟩⟩ rfl rfl hl.1 rfl (lv_room (Nat.le_of_ble_eq_true rfl)) dX4_leave_2 ⟨Nat.zero_le _, Nat.zero_le _⟩) hS (fun _ _ h => h.elim) (fun _ h => h.elim) (fun r_2 u t9 H locs ht hvm hw _ hz1 hk1 hS => ?_)
    have hW := hW.kept hk1
    rcases hw with ⟨rfl, hp_2⟩ | ⟨rfl, hp_2⟩
    ·
      exact absurd hp_2 hx_x
    ·
      refine lv_istore_n (lv' := [(2, .int 0), (0, .ref (ad 0)), (1, .int x)]) hx hb dX4_leave_5 rfl hl (by decide) rfl (fun ls hl => ?_)
      refine lv_aload_n hx hb dX4_leave_6 rfl (lv_at hl 1 rfl) ?_
      refine lv_iload_n hx hb dX4_leave_7 rfl (lv_at hl 0 rfl) ?_
      refine lv_iload_n hx hb dX4_leave_8 rfl (lv_at hl 0 rfl) ?_
      refine lv_if_eq (tgt := 26) hx hb dX4_leave_9 (by decide) (fun c_3 => ?_) (fun c_3 => ?_)
      · -- 0 eq 0 : True
        refine lv_iconst (v := 0) hx hb dX4_leave_26 (by decide) ?_
        refine lv_iconst (v := 1) hx hb dX4_leave_27 (by decide) ?_
        refine va_calli (va_runV (As := [.int 0, .int 0, .int 1]) (rest := []) ⟨hx, hb, hml, hown, hts⟩ (c_X4_goes l D cs A ad g L B n b t hn hb5 0 0 1) (cwV 3 hts gX4_leave_X4_goes rfl rfl rfl (by decide +kernel) ⟨Nat.le_of_ble_eq_true rfl, Nat.le_of_ble_eq_true rfl⟩) ⟨pM_fb, wb_recv hK hW (r := 0) (Nat.le_of_ble_eq_true rfl) (ci := 5) rfl rfl, fun U hU hV => ⟨rfl, pM_of hK hV.alike hU hW⟩⟩ rfl rfl hl.1 rfl (lv_room (Nat.le_of_ble_eq_true rfl)) dX4_leave_28 ⟨Nat.zero_le _, Nat.zero_le _⟩) hS (fun _ _ h => h) (fun _ h => h) (fun r_4 u t9 H locs ht hvm hw hB hz1 hk1 hS => ?_)
        have hW : wP D A lvM ad (ctM cs ad g L B n b 1) H := by rw [← ht]; exact hB
        rcases hw with ⟨rfl, hp_4⟩ | ⟨rfl, hp_4⟩
        ·
          exact absurd hp_4 (by decide)
        ·
          refine lv_if_ne (tgt := 36) hx hb dX4_leave_31 (by decide) (fun c_5 => ?_) (fun c_5 => ?_)
          · -- 0 ne 0 : True
            exact absurd c_5 (by decide)
          · -- 0 ne 0 : False
            refine lv_iconst (v := 0) hx hb dX4_leave_34 (by decide) ?_
            have hk : kSt L n 1 x = 1 := by simp [kSt, (eq_false hx_x), (eq_false hp_2), c_3, (eq_false hp_4), c_5]
            exact W.zret (ty := .boolean) (v := 0) hx hb hr (by decide) (fun t9 ht9 hW9 => ⟨⟨_, (), rfl, Or.inr ⟨rfl, fun q => absurd (hk.symm.trans q.1) (by decide)⟩, (by dsimp only; rw [ht9]; simp only [hk, sel_0, sel_1, sel_2, sel_3]; exact hW)⟩, hS.F ht9⟩) hS.2.2 dX4_leave_35
      · -- 0 eq 0 : False
        exact absurd c_3 (by decide)
  ·
    have hx_x : isIx n (nI j) := isIx_nI h_j (by omega)
    have hn_x : ixN (nI j) = j := ixN_nI (by omega)
    refine lv_aload_n hx hb dX4_leave_0 rfl (lv_at hl 0 rfl) ?_
    refine lv_iload_n hx hb dX4_leave_1 rfl (lv_at hl 1 rfl) ?_
    refine va_calli (va_runV (As := [.int (nI j)]) (rest := []) ⟨hx, hb, hml, hown, hts⟩ (c_X4_isLoan l D cs A ad g L B n b t hn hb5 (nI j)) (cwV 1 hts gX4_leave_X4_isLoan rfl rfl rfl (by decide +kernel) ⟨Nat.le_of_ble_eq_true rfl, Nat.le_of_ble_eq_true rfl⟩) ⟨pM_fb, wb_recv hK hW (r := 0) (Nat.le_of_ble_eq_true rfl) (ci := 5) rfl rfl, fun U hU hV => ⟨rfl, pM_of hK hV.alike hU hW⟩⟩ rfl rfl hl.1 rfl (lv_room (Nat.le_of_ble_eq_true rfl)) dX4_leave_2 ⟨Nat.zero_le _, Nat.zero_le _⟩) hS (fun _ _ h => h.elim) (fun _ h => h.elim) (fun r_6 u t9 H locs ht hvm hw _ hz1 hk1 hS => ?_)
    have hW := hW.kept hk1
    rcases hw with ⟨rfl, hp_6⟩ | ⟨rfl, hp_6⟩
    ·
      refine lv_istore_n (lv' := [(2, .int 1), (0, .ref (ad 0)), (1, .int (nI j))]) hx hb dX4_leave_5 rfl hl (by decide) rfl (fun ls hl => ?_)
      refine lv_aload_n hx hb dX4_leave_6 rfl (lv_at hl 1 rfl) ?_
      refine lv_iload_n hx hb dX4_leave_7 rfl (lv_at hl 0 rfl) ?_
      refine lv_iload_n hx hb dX4_leave_8 rfl (lv_at hl 0 rfl) ?_
      refine lv_if_eq (tgt := 26) hx hb dX4_leave_9 (by decide) (fun c_7 => ?_) (fun c_7 => ?_)
      · -- 1 eq 0 : True
        exact absurd c_7 (by decide)
      · -- 1 eq 0 : False
        refine lv_aload_n hx hb dX4_leave_12 rfl (lv_at hl 1 rfl) ?_
        refine wb_get hx hb hts hinX4 hown hK hW 0 (Nat.le_of_ble_eq_true rfl) rfl rfl 10 (by decide) hf35 (fun _ h9 => h9) (v := .ref (ad 6)) rfl dX4_leave_13 ?_
        refine lv_iload_n hx hb dX4_leave_16 rfl (lv_at hl 2 rfl) ?_
        refine wb_iald hx hb hK hW 6 (Nat.le_of_ble_eq_true rfl) 0 rfl rfl j rfl (by omega) (by decide) dX4_leave_17 ?_
        refine lv_iconst (v := 1) hx hb dX4_leave_18 (by decide) ?_
        refine lv_icmp_ne (tgt := 26) hx hb dX4_leave_19 (by decide) (fun c_8 => ?_) (fun c_8 => ?_)
        · -- L 5 j ne 1 : True
          refine lv_iconst (v := 0) hx hb dX4_leave_26 (by decide) ?_
          refine lv_iconst (v := 1) hx hb dX4_leave_27 (by decide) ?_
          refine va_calli (va_runV (As := [.int 1, .int 0, .int 1]) (rest := []) ⟨hx, hb, hml, hown, hts⟩ (c_X4_goes l D cs A ad g L B n b t hn hb5 1 0 1) (cwV 3 hts gX4_leave_X4_goes rfl rfl rfl (by decide +kernel) ⟨Nat.le_of_ble_eq_true rfl, Nat.le_of_ble_eq_true rfl⟩) ⟨pM_fb, wb_recv hK hW (r := 0) (Nat.le_of_ble_eq_true rfl) (ci := 5) rfl rfl, fun U hU hV => ⟨rfl, pM_of hK hV.alike hU hW⟩⟩ rfl rfl hl.1 rfl (lv_room (Nat.le_of_ble_eq_true rfl)) dX4_leave_28 ⟨Nat.zero_le _, Nat.zero_le _⟩) hS (fun _ _ h => h) (fun _ h => h) (fun r_9 u t9 H locs ht hvm hw hB hz1 hk1 hS => ?_)
          have hW : wP D A lvM ad (ctM cs ad g L B n b 2) H := by rw [← ht]; exact hB
          rcases hw with ⟨rfl, hp_9⟩ | ⟨rfl, hp_9⟩
          ·
            exact absurd hp_9 (by decide)
          ·
            refine lv_if_ne (tgt := 36) hx hb dX4_leave_31 (by decide) (fun c_10 => ?_) (fun c_10 => ?_)
            · -- 0 ne 0 : True
              exact absurd c_10 (by decide)
            · -- 0 ne 0 : False
              refine lv_iconst (v := 0) hx hb dX4_leave_34 (by decide) ?_
              have hk : kSt L n 1 (nI j) = 2 := by simp [kSt, (eq_true hx_x), hn_x, (eq_true hp_6), c_7, c_8, (eq_false hp_9), c_10]
              exact W.zret (ty := .boolean) (v := 0) hx hb hr (by decide) (fun t9 ht9 hW9 => ⟨⟨_, (), rfl, Or.inr ⟨rfl, fun q => absurd (hk.symm.trans q.1) (by decide)⟩, (by dsimp only; rw [ht9]; simp only [hk, sel_0, sel_1, sel_2, sel_3, hn_x]; exact hW)⟩, hS.F ht9⟩) hS.2.2 dX4_leave_35
        · -- L 5 j ne 1 : False
          refine lv_iconst (v := 1) hx hb dX4_leave_22 (by decide) ?_
          refine lv_goto (tgt := 27) hx hb dX4_leave_23 (by decide) ?_
          refine lv_iconst (v := 1) hx hb dX4_leave_27 (by decide) ?_
          refine va_calli (va_runV (As := [.int 1, .int 1, .int 1]) (rest := []) ⟨hx, hb, hml, hown, hts⟩ (c_X4_goes l D cs A ad g L B n b t hn hb5 1 1 1) (cwV 3 hts gX4_leave_X4_goes rfl rfl rfl (by decide +kernel) ⟨Nat.le_of_ble_eq_true rfl, Nat.le_of_ble_eq_true rfl⟩) ⟨pM_fb, wb_recv hK hW (r := 0) (Nat.le_of_ble_eq_true rfl) (ci := 5) rfl rfl, fun U hU hV => ⟨rfl, pM_of hK hV.alike hU hW⟩⟩ rfl rfl hl.1 rfl (lv_room (Nat.le_of_ble_eq_true rfl)) dX4_leave_28 ⟨Nat.zero_le _, Nat.zero_le _⟩) hS (fun _ _ h => h) (fun _ h => h) (fun r_11 u t9 H locs ht hvm hw hB hz1 hk1 hS => ?_)
          have hW : wP D A lvM ad (ctM cs ad g L B n b 0) H := by rw [← ht]; exact hB
          rcases hw with ⟨rfl, hp_11⟩ | ⟨rfl, hp_11⟩
          ·
            refine lv_if_ne (tgt := 36) hx hb dX4_leave_31 (by decide) (fun c_12 => ?_) (fun c_12 => ?_)
            · -- 1 ne 0 : True
              refine lv_aload_n hx hb dX4_leave_36 rfl (lv_at hl 1 rfl) ?_
              refine lv_aload_n hx hb dX4_leave_37 rfl (lv_at hl 1 rfl) ?_
              refine va_calli (va_runV (As := []) (rest := [.ref (ad 0)]) ⟨hx, hb, hml, hown, hts⟩ (c_X4_pool l D cs A ad g L B n b 0 hn hb5 ) (cwV 0 hts gX4_leave_X4_pool rfl rfl rfl (by decide +kernel) ⟨Nat.le_of_ble_eq_true rfl, Nat.le_of_ble_eq_true rfl⟩) ⟨pM_fb, wb_recv hK hW (r := 0) (Nat.le_of_ble_eq_true rfl) (ci := 5) rfl rfl, fun U hU hV => ⟨rfl, pM_of hK hV.alike hU hW⟩⟩ rfl rfl hl.1 rfl (lv_room (Nat.le_of_ble_eq_true rfl)) dX4_leave_38 ⟨Nat.zero_le _, Nat.zero_le _⟩) hS (fun _ _ h => h.elim) (fun _ h => h.elim) (fun r_13 u t9 H locs ht hvm hw _ hz1 hk1 hS => ?_)
              have hW := hW.kept hk1
              subst hw
              refine lv_iconst (v := 1) hx hb dX4_leave_41 (by decide) ?_
              refine lv_iload_n hx hb dX4_leave_42 rfl (lv_at hl 2 rfl) ?_
              refine lv_ishl hx hb dX4_leave_43 ?_
              refine lv_iconst (v := (-1)) hx hb dX4_leave_44 (by decide) ?_
              refine lv_ixor hx hb dX4_leave_45 ?_
              refine lv_iand hx hb dX4_leave_46 ?_
              refine va_calli (va_runV (As := [.int ((mPool L 1 n) &&& (((1 : Int32) <<< ((nI j) &&& 31)) ^^^ (-1)))]) (rest := []) ⟨hx, hb, hml, hown, hts⟩ (c_X4_isSafe l D cs A ad g L B n b 0 hn hb5 ((mPool L 1 n) &&& (((1 : Int32) <<< ((nI j) &&& 31)) ^^^ (-1))) dv0 dvs) (cwV 1 hts gX4_leave_X4_isSafe rfl rfl rfl (by decide +kernel) ⟨Nat.le_of_ble_eq_true rfl, Nat.le_of_ble_eq_true rfl⟩) ⟨pM_fb, wb_recv hK hW (r := 0) (Nat.le_of_ble_eq_true rfl) (ci := 5) rfl rfl, fun U hU hV => ⟨rfl, pM_of hK hV.alike hU hW⟩⟩ rfl rfl hl.1 rfl (lv_room (Nat.le_of_ble_eq_true rfl)) dX4_leave_47 ⟨Nat.zero_le _, Nat.zero_le _⟩) hS (fun _ _ h => h.elim) (fun _ h => h.elim) (fun r_14 u t9 H locs ht hvm hw _ hz1 hk1 hS => ?_)
              have hW := hW.kept hk1
              rcases hw with ⟨rfl, hp_14⟩ | ⟨rfl, hp_14⟩
              ·
                refine lv_istore_n (lv' := [(3, .int 1), (2, .int 1), (0, .ref (ad 0)), (1, .int (nI j))]) hx hb dX4_leave_50 rfl hl (by decide) rfl (fun ls hl => ?_)
                refine lv_aload_n hx hb dX4_leave_51 rfl (lv_at hl 2 rfl) ?_
                refine wb_get hx hb hts hinX4 hown hK hW 0 (Nat.le_of_ble_eq_true rfl) rfl rfl 10 (by decide) hf35 (fun _ h9 => h9) (v := .ref (ad 6)) rfl dX4_leave_52 ?_
                refine lv_iload_n hx hb dX4_leave_55 rfl (lv_at hl 3 rfl) ?_
                refine lv_iload_n hx hb dX4_leave_56 rfl (lv_at hl 0 rfl) ?_
                refine lv_if_eq (tgt := 64) hx hb dX4_leave_57 (by decide) (fun c_15 => ?_) (fun c_15 => ?_)
                · -- 1 eq 0 : True
                  exact absurd c_15 (by decide)
                · -- 1 eq 0 : False
                  refine lv_iconst (v := 0) hx hb dX4_leave_60 (by decide) ?_
                  refine lv_goto (tgt := 65) hx hb dX4_leave_61 (by decide) ?_
                  refine wb_iast hx hb hK hW hS 6 (Nat.le_of_ble_eq_true rfl) 0 rfl rfl j rfl (by omega) (by decide) dX4_leave_65 (fun H locs hW hS => ?_)
                  obtain ⟨L16, hL16⟩ : ∃ z9, z9 = updL L 5 j 0 := ⟨_, rfl⟩
                  have hW : wP D A lvM ad (ctM cs ad g L16 B n b 0) H := hW.to (fun r hr => ⟨hr, rfl, by subst hL16; rcases lt11 hr with rfl | rfl | rfl | rfl | rfl | rfl | rfl | rfl | rfl | rfl | rfl <;> rfl⟩)
                  refine lv_iload_n hx hb dX4_leave_66 rfl (lv_at hl 0 rfl) ?_
                  have hk : kSt L n 1 (nI j) = 0 := by simp [kSt, (eq_true hx_x), hn_x, (eq_true hp_6), c_7, c_8, (eq_true hp_11), c_12, (eq_true hp_14), c_15, hL16]
                  exact W.zret (ty := .boolean) (v := 1) hx hb hr (by decide) (fun t9 ht9 hW9 => ⟨⟨_, (), rfl, Or.inl ⟨rfl, hk, hp_14⟩, (by dsimp only; rw [ht9]; simp only [hk, sel_0, sel_1, sel_2, sel_3, hn_x]; subst hL16; rw [if_pos (show (mSafe g L B n b (outOf L n (nI j))) from hp_14)]; exact hW)⟩, hS.F ht9⟩) hS.2.2 dX4_leave_67
              ·
                refine lv_istore_n (lv' := [(3, .int 0), (2, .int 1), (0, .ref (ad 0)), (1, .int (nI j))]) hx hb dX4_leave_50 rfl hl (by decide) rfl (fun ls hl => ?_)
                refine lv_aload_n hx hb dX4_leave_51 rfl (lv_at hl 2 rfl) ?_
                refine wb_get hx hb hts hinX4 hown hK hW 0 (Nat.le_of_ble_eq_true rfl) rfl rfl 10 (by decide) hf35 (fun _ h9 => h9) (v := .ref (ad 6)) rfl dX4_leave_52 ?_
                refine lv_iload_n hx hb dX4_leave_55 rfl (lv_at hl 3 rfl) ?_
                refine lv_iload_n hx hb dX4_leave_56 rfl (lv_at hl 0 rfl) ?_
                refine lv_if_eq (tgt := 64) hx hb dX4_leave_57 (by decide) (fun c_17 => ?_) (fun c_17 => ?_)
                · -- 0 eq 0 : True
                  refine lv_iconst (v := 1) hx hb dX4_leave_64 (by decide) ?_
                  refine wb_iast hx hb hK hW hS 6 (Nat.le_of_ble_eq_true rfl) 0 rfl rfl j rfl (by omega) (by decide) dX4_leave_65 (fun H locs hW hS => ?_)
                  obtain ⟨L18, hL18⟩ : ∃ z9, z9 = updL L 5 j 1 := ⟨_, rfl⟩
                  have hW : wP D A lvM ad (ctM cs ad g L18 B n b 0) H := hW.to (fun r hr => ⟨hr, rfl, by subst hL18; rcases lt11 hr with rfl | rfl | rfl | rfl | rfl | rfl | rfl | rfl | rfl | rfl | rfl <;> rfl⟩)
                  refine lv_iload_n hx hb dX4_leave_66 rfl (lv_at hl 0 rfl) ?_
                  have hk : kSt L n 1 (nI j) = 0 := by simp [kSt, (eq_true hx_x), hn_x, (eq_true hp_6), c_7, c_8, (eq_true hp_11), c_12, (eq_false hp_14), c_17, hL18]
                  exact W.zret (ty := .boolean) (v := 0) hx hb hr (by decide) (fun t9 ht9 hW9 => ⟨⟨_, (), rfl, Or.inr ⟨rfl, fun q => hp_14 q.2⟩, (by dsimp only; rw [ht9]; simp only [hk, sel_0, sel_1, sel_2, sel_3, hn_x]; subst hL18; rw [if_neg (show ¬ (mSafe g L B n b (outOf L n (nI j))) from hp_14)]; rw [updL_same c_8] at hW; exact hW)⟩, hS.F ht9⟩) hS.2.2 dX4_leave_67
                · -- 0 eq 0 : False
                  exact absurd c_17 (by decide)
            · -- 1 ne 0 : False
              exact absurd c_12 (by decide)
          ·
            exact absurd (by decide) hp_11
    ·
      exact absurd hx_x hp_6

set_option maxHeartbeats 4000000 in
set_option maxRecDepth 100000 in
theorem c_X4_setArrears (l : Launch) (D : va_G) (cs : Nat → ClassId) (A : Nat → Prop) (ad : Nat → Nat) (g : Nat → Int32) (L B : Nat → Nat → Int32) (n b : Nat) (t : Int32) (hn : n ≤ 12) (hb5 : b ≤ 5) (x : Int32) (y : Int32)  : Met l yX4_setArrears wsX4_setArrears ({ frames := 2, cells := 0, slots := 0, locals := 47 } : Room) (va_Pc [.ref (ad 0), .int x, .int y] (pM D cs A ad g L B n b t)) (va_Qi (fun (r9 : Int32) (_ : Unit) => r9 = sel (kArr L n x y) (L 4 (ixN x)) 0) (fun _ t9 => wP D A lvM ad (ctM cs ad g (sel (kArr L n x y) (updL L 4 (ixN x) y) L) B n b (kArr L n x y)) t9.heap) A) 0 0 A := by
  refine Met.ofW (cc := cX4_setArrears) (maxL := 5) (ret := (some .int)) (by decide) rfl ?_
  intro p e s m args below meth c s₁ BB hml hv
  obtain ⟨rfl, hv⟩ := hv
  obtain ⟨hK, hW⟩ := hv
  have hx := BB.exec
  have hb := BB.bytes
  have hr := BB.returns
  have hts := atoms_spec (ws := wsX4_setArrears) BB.pre
  have hown : s.vm.findClass RX4 = some m.cls := findClass_of_methodNamed BB.named
  have hlocks := BB.notSynchronized
  have hS : va_S A s.heap s.heap [] := va_S.rf
  have hl := lv_entry ([.ref (ad 0), .int x, .int y]) (n := 5) (Nat.le_of_ble_eq_true rfl)
  rw [lg_entry_eq]
  generalize (lg_sl ([.ref (ad 0), .int x, .int y]) ++ List.replicate (5 - (lg_sl ([.ref (ad 0), .int x, .int y])).length) Slot.unset).toArray = ls at hl ⊢
  have hl : lv_has ls 5 [(0, .ref (ad 0)), (1, .int x), (2, .int y)] := hl
  have hf32 := hts (.fieldLink RX4 32 "CoverpoolModel" "arrears" "[I") (by decide +kernel)
  have hf35 := hts (.fieldLink RX4 35 "CoverpoolModel" "state" "[I") (by decide +kernel)
  have hinX4 : ∀ w ∈ u_ws RX4 TX4 18, w ∈ wsX4_setArrears := by decide +kernel
  rcases isIx_cases n (by omega) x with hx_x | ⟨j, h_j, rfl⟩
  ·
    refine lv_aload_n hx hb dX4_setArrears_0 rfl (lv_at hl 0 rfl) ?_
    refine lv_iload_n hx hb dX4_setArrears_1 rfl (lv_at hl 1 rfl) ?_
    refine va_calli (va_runV (As := [.int x]) (rest := []) ⟨hx, hb, hml, hown, hts⟩ (c_X4_isLoan l D cs A ad g L B n b t hn hb5 x) (cwV 1 hts gX4_setArrears_X4_isLoan rfl rfl rfl (by decide +kernel) ⟨Nat.le_of_ble_eq_true rfl, Nat.le_of_ble_eq_true rfl⟩) ⟨pM_fb, wb_recv hK hW (r := 0) (Nat.le_of_ble_eq_true rfl) (ci := 5) rfl rfl, fun U hU hV => ⟨rfl, pM_of hK hV.alike hU hW⟩⟩ rfl rfl hl.1 rfl (lv_room (Nat.le_of_ble_eq_true rfl)) dX4_setArrears_2 ⟨Nat.zero_le _, Nat.zero_le _⟩) hS (fun _ _ h => h.elim) (fun _ h => h.elim) (fun r_2 u t9 H locs ht hvm hw _ hz1 hk1 hS => ?_)
    have hW := hW.kept hk1
    rcases hw with ⟨rfl, hp_2⟩ | ⟨rfl, hp_2⟩
    ·
      exact absurd hp_2 hx_x
    ·
      refine lv_istore_n (lv' := [(3, .int 0), (0, .ref (ad 0)), (1, .int x), (2, .int y)]) hx hb dX4_setArrears_5 rfl hl (by decide) rfl (fun ls hl => ?_)
      refine lv_aload_n hx hb dX4_setArrears_6 rfl (lv_at hl 1 rfl) ?_
      refine lv_iload_n hx hb dX4_setArrears_7 rfl (lv_at hl 0 rfl) ?_
      refine lv_iload_n hx hb dX4_setArrears_8 rfl (lv_at hl 3 rfl) ?_
      refine lv_iconst (v := 0) hx hb dX4_setArrears_9 (by decide) ?_
      refine lv_bipush (v := 60) hx hb dX4_setArrears_10 (by decide) ?_
      refine va_calli (va_runS (As := [.int y, .int 0, .int 60]) (rest := [.int 0, .ref (ad 0)]) ⟨hx, hb, hml, hown, hts⟩ (c_X4_isWithin l y 0 60) (va_cwS 3 hts gX4_setArrears_X4_isWithin rfl rfl rfl (by decide +kernel) ⟨Nat.le_of_ble_eq_true rfl, Nat.le_of_ble_eq_true rfl⟩) ⟨pT_fb, fun U hU hV => ⟨rfl, trivial⟩⟩ rfl rfl hl.1 rfl (lv_room (Nat.le_of_ble_eq_true rfl)) dX4_setArrears_12 ⟨Nat.zero_le _, Nat.zero_le _⟩) hS (fun _ _ h => h.elim) (fun _ h => h.elim) (fun r_3 u t9 H locs ht hvm hw _ hz1 hk1 hS => ?_)
      have hW := hW.kept hk1
      rcases hw with ⟨rfl, hp_3⟩ | ⟨rfl, hp_3⟩
      ·
        refine lv_iload_n hx hb dX4_setArrears_15 rfl (lv_at hl 0 rfl) ?_
        refine lv_if_eq (tgt := 33) hx hb dX4_setArrears_16 (by decide) (fun c_4 => ?_) (fun c_4 => ?_)
        · -- 0 eq 0 : True
          refine lv_iconst (v := 0) hx hb dX4_setArrears_33 (by decide) ?_
          refine va_calli (va_runV (As := [.int 0, .int 1, .int 0]) (rest := []) ⟨hx, hb, hml, hown, hts⟩ (c_X4_goes l D cs A ad g L B n b t hn hb5 0 1 0) (cwV 3 hts gX4_setArrears_X4_goes rfl rfl rfl (by decide +kernel) ⟨Nat.le_of_ble_eq_true rfl, Nat.le_of_ble_eq_true rfl⟩) ⟨pM_fb, wb_recv hK hW (r := 0) (Nat.le_of_ble_eq_true rfl) (ci := 5) rfl rfl, fun U hU hV => ⟨rfl, pM_of hK hV.alike hU hW⟩⟩ rfl rfl hl.1 rfl (lv_room (Nat.le_of_ble_eq_true rfl)) dX4_setArrears_34 ⟨Nat.zero_le _, Nat.zero_le _⟩) hS (fun _ _ h => h) (fun _ h => h) (fun r_5 u t9 H locs ht hvm hw hB hz1 hk1 hS => ?_)
          have hW : wP D A lvM ad (ctM cs ad g L B n b 1) H := by rw [← ht]; exact hB
          rcases hw with ⟨rfl, hp_5⟩ | ⟨rfl, hp_5⟩
          ·
            exact absurd hp_5 (by decide)
          ·
            refine lv_if_ne (tgt := 42) hx hb dX4_setArrears_37 (by decide) (fun c_6 => ?_) (fun c_6 => ?_)
            · -- 0 ne 0 : True
              exact absurd c_6 (by decide)
            · -- 0 ne 0 : False
              refine lv_iconst (v := 0) hx hb dX4_setArrears_40 (by decide) ?_
              have hk : kArr L n x y = 1 := by simp [kArr, (eq_false hx_x), (eq_false hp_2), (eq_true hp_3), c_4, (eq_false hp_5), c_6]
              exact W.iret (v := 0) hx hb hr (fun t9 ht9 hW9 => ⟨⟨_, (), rfl, (by first | (simp only [hk, sel_0, sel_1, sel_2, sel_3]; done) | (simp only [hk, sel_0, sel_1, sel_2, sel_3]; first | rfl | (simp [(eq_false hx_x), (eq_false hp_2), (eq_true hp_3), c_4, (eq_false hp_5), c_6, upd]; done))), (by dsimp only; rw [ht9]; simp only [hk, sel_0, sel_1, sel_2, sel_3]; exact hW)⟩, hS.F ht9⟩) hS.2.2 dX4_setArrears_41
        · -- 0 eq 0 : False
          exact absurd c_4 (by decide)
      ·
        refine lv_iload_n hx hb dX4_setArrears_15 rfl (lv_at hl 0 rfl) ?_
        refine lv_if_eq (tgt := 33) hx hb dX4_setArrears_16 (by decide) (fun c_7 => ?_) (fun c_7 => ?_)
        · -- 0 eq 0 : True
          refine lv_iconst (v := 0) hx hb dX4_setArrears_33 (by decide) ?_
          refine va_calli (va_runV (As := [.int 0, .int 0, .int 0]) (rest := []) ⟨hx, hb, hml, hown, hts⟩ (c_X4_goes l D cs A ad g L B n b t hn hb5 0 0 0) (cwV 3 hts gX4_setArrears_X4_goes rfl rfl rfl (by decide +kernel) ⟨Nat.le_of_ble_eq_true rfl, Nat.le_of_ble_eq_true rfl⟩) ⟨pM_fb, wb_recv hK hW (r := 0) (Nat.le_of_ble_eq_true rfl) (ci := 5) rfl rfl, fun U hU hV => ⟨rfl, pM_of hK hV.alike hU hW⟩⟩ rfl rfl hl.1 rfl (lv_room (Nat.le_of_ble_eq_true rfl)) dX4_setArrears_34 ⟨Nat.zero_le _, Nat.zero_le _⟩) hS (fun _ _ h => h) (fun _ h => h) (fun r_8 u t9 H locs ht hvm hw hB hz1 hk1 hS => ?_)
          have hW : wP D A lvM ad (ctM cs ad g L B n b 1) H := by rw [← ht]; exact hB
          rcases hw with ⟨rfl, hp_8⟩ | ⟨rfl, hp_8⟩
          ·
            exact absurd hp_8 (by decide)
          ·
            refine lv_if_ne (tgt := 42) hx hb dX4_setArrears_37 (by decide) (fun c_9 => ?_) (fun c_9 => ?_)
            · -- 0 ne 0 : True
              exact absurd c_9 (by decide)
            · -- 0 ne 0 : False
              refine lv_iconst (v := 0) hx hb dX4_setArrears_40 (by decide) ?_
              have hk : kArr L n x y = 1 := by simp [kArr, (eq_false hx_x), (eq_false hp_2), (eq_false hp_3), c_7, (eq_false hp_8), c_9]
              exact W.iret (v := 0) hx hb hr (fun t9 ht9 hW9 => ⟨⟨_, (), rfl, (by first | (simp only [hk, sel_0, sel_1, sel_2, sel_3]; done) | (simp only [hk, sel_0, sel_1, sel_2, sel_3]; first | rfl | (simp [(eq_false hx_x), (eq_false hp_2), (eq_false hp_3), c_7, (eq_false hp_8), c_9, upd]; done))), (by dsimp only; rw [ht9]; simp only [hk, sel_0, sel_1, sel_2, sel_3]; exact hW)⟩, hS.F ht9⟩) hS.2.2 dX4_setArrears_41
        · -- 0 eq 0 : False
          exact absurd c_7 (by decide)
  ·
    have hx_x : isIx n (nI j) := isIx_nI h_j (by omega)
    have hn_x : ixN (nI j) = j := ixN_nI (by omega)
    refine lv_aload_n hx hb dX4_setArrears_0 rfl (lv_at hl 0 rfl) ?_
    refine lv_iload_n hx hb dX4_setArrears_1 rfl (lv_at hl 1 rfl) ?_
    refine va_calli (va_runV (As := [.int (nI j)]) (rest := []) ⟨hx, hb, hml, hown, hts⟩ (c_X4_isLoan l D cs A ad g L B n b t hn hb5 (nI j)) (cwV 1 hts gX4_setArrears_X4_isLoan rfl rfl rfl (by decide +kernel) ⟨Nat.le_of_ble_eq_true rfl, Nat.le_of_ble_eq_true rfl⟩) ⟨pM_fb, wb_recv hK hW (r := 0) (Nat.le_of_ble_eq_true rfl) (ci := 5) rfl rfl, fun U hU hV => ⟨rfl, pM_of hK hV.alike hU hW⟩⟩ rfl rfl hl.1 rfl (lv_room (Nat.le_of_ble_eq_true rfl)) dX4_setArrears_2 ⟨Nat.zero_le _, Nat.zero_le _⟩) hS (fun _ _ h => h.elim) (fun _ h => h.elim) (fun r_10 u t9 H locs ht hvm hw _ hz1 hk1 hS => ?_)
    have hW := hW.kept hk1
    rcases hw with ⟨rfl, hp_10⟩ | ⟨rfl, hp_10⟩
    ·
      refine lv_istore_n (lv' := [(3, .int 1), (0, .ref (ad 0)), (1, .int (nI j)), (2, .int y)]) hx hb dX4_setArrears_5 rfl hl (by decide) rfl (fun ls hl => ?_)
      refine lv_aload_n hx hb dX4_setArrears_6 rfl (lv_at hl 1 rfl) ?_
      refine lv_iload_n hx hb dX4_setArrears_7 rfl (lv_at hl 0 rfl) ?_
      refine lv_iload_n hx hb dX4_setArrears_8 rfl (lv_at hl 3 rfl) ?_
      refine lv_iconst (v := 0) hx hb dX4_setArrears_9 (by decide) ?_
      refine lv_bipush (v := 60) hx hb dX4_setArrears_10 (by decide) ?_
      refine va_calli (va_runS (As := [.int y, .int 0, .int 60]) (rest := [.int 1, .ref (ad 0)]) ⟨hx, hb, hml, hown, hts⟩ (c_X4_isWithin l y 0 60) (va_cwS 3 hts gX4_setArrears_X4_isWithin rfl rfl rfl (by decide +kernel) ⟨Nat.le_of_ble_eq_true rfl, Nat.le_of_ble_eq_true rfl⟩) ⟨pT_fb, fun U hU hV => ⟨rfl, trivial⟩⟩ rfl rfl hl.1 rfl (lv_room (Nat.le_of_ble_eq_true rfl)) dX4_setArrears_12 ⟨Nat.zero_le _, Nat.zero_le _⟩) hS (fun _ _ h => h.elim) (fun _ h => h.elim) (fun r_11 u t9 H locs ht hvm hw _ hz1 hk1 hS => ?_)
      have hW := hW.kept hk1
      rcases hw with ⟨rfl, hp_11⟩ | ⟨rfl, hp_11⟩
      ·
        refine lv_iload_n hx hb dX4_setArrears_15 rfl (lv_at hl 0 rfl) ?_
        refine lv_if_eq (tgt := 33) hx hb dX4_setArrears_16 (by decide) (fun c_12 => ?_) (fun c_12 => ?_)
        · -- 1 eq 0 : True
          exact absurd c_12 (by decide)
        · -- 1 eq 0 : False
          refine lv_aload_n hx hb dX4_setArrears_19 rfl (lv_at hl 1 rfl) ?_
          refine wb_get hx hb hts hinX4 hown hK hW 0 (Nat.le_of_ble_eq_true rfl) rfl rfl 10 (by decide) hf35 (fun _ h9 => h9) (v := .ref (ad 6)) rfl dX4_setArrears_20 ?_
          refine lv_iload_n hx hb dX4_setArrears_23 rfl (lv_at hl 2 rfl) ?_
          refine wb_iald hx hb hK hW 6 (Nat.le_of_ble_eq_true rfl) 0 rfl rfl j rfl (by omega) (by decide) dX4_setArrears_24 ?_
          refine lv_iconst (v := 2) hx hb dX4_setArrears_25 (by decide) ?_
          refine lv_icmp_eq (tgt := 33) hx hb dX4_setArrears_26 (by decide) (fun c_13 => ?_) (fun c_13 => ?_)
          · -- L 5 j eq 2 : True
            refine lv_iconst (v := 0) hx hb dX4_setArrears_33 (by decide) ?_
            refine va_calli (va_runV (As := [.int 1, .int 1, .int 0]) (rest := []) ⟨hx, hb, hml, hown, hts⟩ (c_X4_goes l D cs A ad g L B n b t hn hb5 1 1 0) (cwV 3 hts gX4_setArrears_X4_goes rfl rfl rfl (by decide +kernel) ⟨Nat.le_of_ble_eq_true rfl, Nat.le_of_ble_eq_true rfl⟩) ⟨pM_fb, wb_recv hK hW (r := 0) (Nat.le_of_ble_eq_true rfl) (ci := 5) rfl rfl, fun U hU hV => ⟨rfl, pM_of hK hV.alike hU hW⟩⟩ rfl rfl hl.1 rfl (lv_room (Nat.le_of_ble_eq_true rfl)) dX4_setArrears_34 ⟨Nat.zero_le _, Nat.zero_le _⟩) hS (fun _ _ h => h) (fun _ h => h) (fun r_14 u t9 H locs ht hvm hw hB hz1 hk1 hS => ?_)
            have hW : wP D A lvM ad (ctM cs ad g L B n b 3) H := by rw [← ht]; exact hB
            rcases hw with ⟨rfl, hp_14⟩ | ⟨rfl, hp_14⟩
            ·
              exact absurd hp_14 (by decide)
            ·
              refine lv_if_ne (tgt := 42) hx hb dX4_setArrears_37 (by decide) (fun c_15 => ?_) (fun c_15 => ?_)
              · -- 0 ne 0 : True
                exact absurd c_15 (by decide)
              · -- 0 ne 0 : False
                refine lv_iconst (v := 0) hx hb dX4_setArrears_40 (by decide) ?_
                have hk : kArr L n (nI j) y = 3 := by simp [kArr, (eq_true hx_x), hn_x, (eq_true hp_10), (eq_true hp_11), c_12, c_13, (eq_false hp_14), c_15]
                exact W.iret (v := 0) hx hb hr (fun t9 ht9 hW9 => ⟨⟨_, (), rfl, (by first | (simp only [hk, sel_0, sel_1, sel_2, sel_3, hn_x]; done) | (simp only [hk, sel_0, sel_1, sel_2, sel_3, hn_x]; first | rfl | (simp [(eq_true hx_x), hn_x, (eq_true hp_10), (eq_true hp_11), c_12, c_13, (eq_false hp_14), c_15, upd]; done))), (by dsimp only; rw [ht9]; simp only [hk, sel_0, sel_1, sel_2, sel_3, hn_x]; exact hW)⟩, hS.F ht9⟩) hS.2.2 dX4_setArrears_41
          · -- L 5 j eq 2 : False
            refine lv_iconst (v := 1) hx hb dX4_setArrears_29 (by decide) ?_
            refine lv_goto (tgt := 34) hx hb dX4_setArrears_30 (by decide) ?_
            refine va_calli (va_runV (As := [.int 1, .int 1, .int 1]) (rest := []) ⟨hx, hb, hml, hown, hts⟩ (c_X4_goes l D cs A ad g L B n b t hn hb5 1 1 1) (cwV 3 hts gX4_setArrears_X4_goes rfl rfl rfl (by decide +kernel) ⟨Nat.le_of_ble_eq_true rfl, Nat.le_of_ble_eq_true rfl⟩) ⟨pM_fb, wb_recv hK hW (r := 0) (Nat.le_of_ble_eq_true rfl) (ci := 5) rfl rfl, fun U hU hV => ⟨rfl, pM_of hK hV.alike hU hW⟩⟩ rfl rfl hl.1 rfl (lv_room (Nat.le_of_ble_eq_true rfl)) dX4_setArrears_34 ⟨Nat.zero_le _, Nat.zero_le _⟩) hS (fun _ _ h => h) (fun _ h => h) (fun r_16 u t9 H locs ht hvm hw hB hz1 hk1 hS => ?_)
            have hW : wP D A lvM ad (ctM cs ad g L B n b 0) H := by rw [← ht]; exact hB
            rcases hw with ⟨rfl, hp_16⟩ | ⟨rfl, hp_16⟩
            ·
              refine lv_if_ne (tgt := 42) hx hb dX4_setArrears_37 (by decide) (fun c_17 => ?_) (fun c_17 => ?_)
              · -- 1 ne 0 : True
                refine lv_aload_n hx hb dX4_setArrears_42 rfl (lv_at hl 1 rfl) ?_
                refine wb_get hx hb hts hinX4 hown hK hW 0 (Nat.le_of_ble_eq_true rfl) rfl rfl 9 (by decide) hf32 (fun _ h9 => h9) (v := .ref (ad 5)) rfl dX4_setArrears_43 ?_
                refine lv_iload_n hx hb dX4_setArrears_46 rfl (lv_at hl 2 rfl) ?_
                refine wb_iald hx hb hK hW 5 (Nat.le_of_ble_eq_true rfl) 0 rfl rfl j rfl (by omega) (by decide) dX4_setArrears_47 ?_
                refine lv_istore (lv' := [(4, .int (L 4 j)), (3, .int 1), (0, .ref (ad 0)), (1, .int (nI j)), (2, .int y)]) hx hb dX4_setArrears_48 hl (by decide) rfl (fun ls hl => ?_)
                refine lv_aload_n hx hb dX4_setArrears_50 rfl (lv_at hl 2 rfl) ?_
                refine wb_get hx hb hts hinX4 hown hK hW 0 (Nat.le_of_ble_eq_true rfl) rfl rfl 9 (by decide) hf32 (fun _ h9 => h9) (v := .ref (ad 5)) rfl dX4_setArrears_51 ?_
                refine lv_iload_n hx hb dX4_setArrears_54 rfl (lv_at hl 3 rfl) ?_
                refine lv_iload_n hx hb dX4_setArrears_55 rfl (lv_at hl 4 rfl) ?_
                refine wb_iast hx hb hK hW hS 5 (Nat.le_of_ble_eq_true rfl) 0 rfl rfl j rfl (by omega) (by decide) dX4_setArrears_56 (fun H locs hW hS => ?_)
                obtain ⟨L18, hL18⟩ : ∃ z9, z9 = updL L 4 j y := ⟨_, rfl⟩
                have hW : wP D A lvM ad (ctM cs ad g L18 B n b 0) H := hW.to (fun r hr => ⟨hr, rfl, by subst hL18; rcases lt11 hr with rfl | rfl | rfl | rfl | rfl | rfl | rfl | rfl | rfl | rfl | rfl <;> rfl⟩)
                refine lv_iload hx hb dX4_setArrears_57 (lv_at hl 0 rfl) ?_
                have hk : kArr L n (nI j) y = 0 := by simp [kArr, (eq_true hx_x), hn_x, (eq_true hp_10), (eq_true hp_11), c_12, c_13, (eq_true hp_16), c_17, hL18]
                exact W.iret (v := L 4 j) hx hb hr (fun t9 ht9 hW9 => ⟨⟨_, (), rfl, (by first | (simp only [hk, sel_0, sel_1, sel_2, sel_3, hn_x]; done) | (simp only [hk, sel_0, sel_1, sel_2, sel_3, hn_x]; first | rfl | (simp [(eq_true hx_x), hn_x, (eq_true hp_10), (eq_true hp_11), c_12, c_13, (eq_true hp_16), c_17, hL18, upd]; done))), (by dsimp only; rw [ht9]; simp only [hk, sel_0, sel_1, sel_2, sel_3, hn_x]; subst hL18; exact hW)⟩, hS.F ht9⟩) hS.2.2 dX4_setArrears_59
              · -- 1 ne 0 : False
                exact absurd c_17 (by decide)
            ·
              exact absurd (by decide) hp_16
      ·
        refine lv_iload_n hx hb dX4_setArrears_15 rfl (lv_at hl 0 rfl) ?_
        refine lv_if_eq (tgt := 33) hx hb dX4_setArrears_16 (by decide) (fun c_19 => ?_) (fun c_19 => ?_)
        · -- 1 eq 0 : True
          exact absurd c_19 (by decide)
        · -- 1 eq 0 : False
          refine lv_aload_n hx hb dX4_setArrears_19 rfl (lv_at hl 1 rfl) ?_
          refine wb_get hx hb hts hinX4 hown hK hW 0 (Nat.le_of_ble_eq_true rfl) rfl rfl 10 (by decide) hf35 (fun _ h9 => h9) (v := .ref (ad 6)) rfl dX4_setArrears_20 ?_
          refine lv_iload_n hx hb dX4_setArrears_23 rfl (lv_at hl 2 rfl) ?_
          refine wb_iald hx hb hK hW 6 (Nat.le_of_ble_eq_true rfl) 0 rfl rfl j rfl (by omega) (by decide) dX4_setArrears_24 ?_
          refine lv_iconst (v := 2) hx hb dX4_setArrears_25 (by decide) ?_
          refine lv_icmp_eq (tgt := 33) hx hb dX4_setArrears_26 (by decide) (fun c_20 => ?_) (fun c_20 => ?_)
          · -- L 5 j eq 2 : True
            refine lv_iconst (v := 0) hx hb dX4_setArrears_33 (by decide) ?_
            refine va_calli (va_runV (As := [.int 1, .int 0, .int 0]) (rest := []) ⟨hx, hb, hml, hown, hts⟩ (c_X4_goes l D cs A ad g L B n b t hn hb5 1 0 0) (cwV 3 hts gX4_setArrears_X4_goes rfl rfl rfl (by decide +kernel) ⟨Nat.le_of_ble_eq_true rfl, Nat.le_of_ble_eq_true rfl⟩) ⟨pM_fb, wb_recv hK hW (r := 0) (Nat.le_of_ble_eq_true rfl) (ci := 5) rfl rfl, fun U hU hV => ⟨rfl, pM_of hK hV.alike hU hW⟩⟩ rfl rfl hl.1 rfl (lv_room (Nat.le_of_ble_eq_true rfl)) dX4_setArrears_34 ⟨Nat.zero_le _, Nat.zero_le _⟩) hS (fun _ _ h => h) (fun _ h => h) (fun r_21 u t9 H locs ht hvm hw hB hz1 hk1 hS => ?_)
            have hW : wP D A lvM ad (ctM cs ad g L B n b 2) H := by rw [← ht]; exact hB
            rcases hw with ⟨rfl, hp_21⟩ | ⟨rfl, hp_21⟩
            ·
              exact absurd hp_21 (by decide)
            ·
              refine lv_if_ne (tgt := 42) hx hb dX4_setArrears_37 (by decide) (fun c_22 => ?_) (fun c_22 => ?_)
              · -- 0 ne 0 : True
                exact absurd c_22 (by decide)
              · -- 0 ne 0 : False
                refine lv_iconst (v := 0) hx hb dX4_setArrears_40 (by decide) ?_
                have hk : kArr L n (nI j) y = 2 := by simp [kArr, (eq_true hx_x), hn_x, (eq_true hp_10), (eq_false hp_11), c_19, c_20, (eq_false hp_21), c_22]
                exact W.iret (v := 0) hx hb hr (fun t9 ht9 hW9 => ⟨⟨_, (), rfl, (by first | (simp only [hk, sel_0, sel_1, sel_2, sel_3, hn_x]; done) | (simp only [hk, sel_0, sel_1, sel_2, sel_3, hn_x]; first | rfl | (simp [(eq_true hx_x), hn_x, (eq_true hp_10), (eq_false hp_11), c_19, c_20, (eq_false hp_21), c_22, upd]; done))), (by dsimp only; rw [ht9]; simp only [hk, sel_0, sel_1, sel_2, sel_3, hn_x]; exact hW)⟩, hS.F ht9⟩) hS.2.2 dX4_setArrears_41
          · -- L 5 j eq 2 : False
            refine lv_iconst (v := 1) hx hb dX4_setArrears_29 (by decide) ?_
            refine lv_goto (tgt := 34) hx hb dX4_setArrears_30 (by decide) ?_
            refine va_calli (va_runV (As := [.int 1, .int 0, .int 1]) (rest := []) ⟨hx, hb, hml, hown, hts⟩ (c_X4_goes l D cs A ad g L B n b t hn hb5 1 0 1) (cwV 3 hts gX4_setArrears_X4_goes rfl rfl rfl (by decide +kernel) ⟨Nat.le_of_ble_eq_true rfl, Nat.le_of_ble_eq_true rfl⟩) ⟨pM_fb, wb_recv hK hW (r := 0) (Nat.le_of_ble_eq_true rfl) (ci := 5) rfl rfl, fun U hU hV => ⟨rfl, pM_of hK hV.alike hU hW⟩⟩ rfl rfl hl.1 rfl (lv_room (Nat.le_of_ble_eq_true rfl)) dX4_setArrears_34 ⟨Nat.zero_le _, Nat.zero_le _⟩) hS (fun _ _ h => h) (fun _ h => h) (fun r_23 u t9 H locs ht hvm hw hB hz1 hk1 hS => ?_)
            have hW : wP D A lvM ad (ctM cs ad g L B n b 2) H := by rw [← ht]; exact hB
            rcases hw with ⟨rfl, hp_23⟩ | ⟨rfl, hp_23⟩
            ·
              exact absurd hp_23 (by decide)
            ·
              refine lv_if_ne (tgt := 42) hx hb dX4_setArrears_37 (by decide) (fun c_24 => ?_) (fun c_24 => ?_)
              · -- 0 ne 0 : True
                exact absurd c_24 (by decide)
              · -- 0 ne 0 : False
                refine lv_iconst (v := 0) hx hb dX4_setArrears_40 (by decide) ?_
                have hk : kArr L n (nI j) y = 2 := by simp [kArr, (eq_true hx_x), hn_x, (eq_true hp_10), (eq_false hp_11), c_19, c_20, (eq_false hp_23), c_24]
                exact W.iret (v := 0) hx hb hr (fun t9 ht9 hW9 => ⟨⟨_, (), rfl, (by first | (simp only [hk, sel_0, sel_1, sel_2, sel_3, hn_x]; done) | (simp only [hk, sel_0, sel_1, sel_2, sel_3, hn_x]; first | rfl | (simp [(eq_true hx_x), hn_x, (eq_true hp_10), (eq_false hp_11), c_19, c_20, (eq_false hp_23), c_24, upd]; done))), (by dsimp only; rw [ht9]; simp only [hk, sel_0, sel_1, sel_2, sel_3, hn_x]; exact hW)⟩, hS.F ht9⟩) hS.2.2 dX4_setArrears_41
    ·
      exact absurd hx_x hp_10

set_option maxHeartbeats 4000000 in
set_option maxRecDepth 100000 in
theorem c_X4_setWorth (l : Launch) (D : va_G) (cs : Nat → ClassId) (A : Nat → Prop) (ad : Nat → Nat) (g : Nat → Int32) (L B : Nat → Nat → Int32) (n b : Nat) (t : Int32) (hn : n ≤ 12) (hb5 : b ≤ 5) (x : Int32) (y : Int32)  : Met l yX4_setWorth wsX4_setWorth ({ frames := 2, cells := 0, slots := 0, locals := 47 } : Room) (va_Pc [.ref (ad 0), .int x, .int y] (pM D cs A ad g L B n b t)) (va_Qi (fun (r9 : Int32) (_ : Unit) => r9 = sel (kWorth n x y) (L 1 (ixN x)) 0) (fun _ t9 => wP D A lvM ad (ctM cs ad g (sel (kWorth n x y) (updL L 1 (ixN x) y) L) B n b (kWorth n x y)) t9.heap) A) 0 0 A := by
  refine Met.ofW (cc := cX4_setWorth) (maxL := 4) (ret := (some .int)) (by decide) rfl ?_
  intro p e s m args below meth c s₁ BB hml hv
  obtain ⟨rfl, hv⟩ := hv
  obtain ⟨hK, hW⟩ := hv
  have hx := BB.exec
  have hb := BB.bytes
  have hr := BB.returns
  have hts := atoms_spec (ws := wsX4_setWorth) BB.pre
  have hown : s.vm.findClass RX4 = some m.cls := findClass_of_methodNamed BB.named
  have hlocks := BB.notSynchronized
  have hS : va_S A s.heap s.heap [] := va_S.rf
  have hl := lv_entry ([.ref (ad 0), .int x, .int y]) (n := 4) (Nat.le_of_ble_eq_true rfl)
  rw [lg_entry_eq]
  generalize (lg_sl ([.ref (ad 0), .int x, .int y]) ++ List.replicate (4 - (lg_sl ([.ref (ad 0), .int x, .int y])).length) Slot.unset).toArray = ls at hl ⊢
  have hl : lv_has ls 4 [(0, .ref (ad 0)), (1, .int x), (2, .int y)] := hl
  have hf23 := hts (.fieldLink RX4 23 "CoverpoolModel" "worth" "[I") (by decide +kernel)
  have hinX4 : ∀ w ∈ u_ws RX4 TX4 18, w ∈ wsX4_setWorth := by decide +kernel
  rcases isIx_cases n (by omega) x with hx_x | ⟨j, h_j, rfl⟩
  ·
    refine lv_aload_n hx hb dX4_setWorth_0 rfl (lv_at hl 0 rfl) ?_
    refine lv_aload_n hx hb dX4_setWorth_1 rfl (lv_at hl 0 rfl) ?_
    refine lv_iload_n hx hb dX4_setWorth_2 rfl (lv_at hl 1 rfl) ?_
    refine va_calli (va_runV (As := [.int x]) (rest := [.ref (ad 0)]) ⟨hx, hb, hml, hown, hts⟩ (c_X4_isLoan l D cs A ad g L B n b t hn hb5 x) (cwV 1 hts gX4_setWorth_X4_isLoan rfl rfl rfl (by decide +kernel) ⟨Nat.le_of_ble_eq_true rfl, Nat.le_of_ble_eq_true rfl⟩) ⟨pM_fb, wb_recv hK hW (r := 0) (Nat.le_of_ble_eq_true rfl) (ci := 5) rfl rfl, fun U hU hV => ⟨rfl, pM_of hK hV.alike hU hW⟩⟩ rfl rfl hl.1 rfl (lv_room (Nat.le_of_ble_eq_true rfl)) dX4_setWorth_3 ⟨Nat.zero_le _, Nat.zero_le _⟩) hS (fun _ _ h => h.elim) (fun _ h => h.elim) (fun r_2 u t9 H locs ht hvm hw _ hz1 hk1 hS => ?_)
    have hW := hW.kept hk1
    rcases hw with ⟨rfl, hp_2⟩ | ⟨rfl, hp_2⟩
    ·
      exact absurd hp_2 hx_x
    ·
      refine lv_iload_n hx hb dX4_setWorth_6 rfl (lv_at hl 2 rfl) ?_
      refine lv_iconst (v := 0) hx hb dX4_setWorth_7 (by decide) ?_
      refine lv_sipush (v := 20000) hx hb dX4_setWorth_8 (by decide) ?_
      refine va_calli (va_runS (As := [.int y, .int 0, .int 20000]) (rest := [.int 0, .ref (ad 0)]) ⟨hx, hb, hml, hown, hts⟩ (c_X4_isWithin l y 0 20000) (va_cwS 3 hts gX4_setWorth_X4_isWithin rfl rfl rfl (by decide +kernel) ⟨Nat.le_of_ble_eq_true rfl, Nat.le_of_ble_eq_true rfl⟩) ⟨pT_fb, fun U hU hV => ⟨rfl, trivial⟩⟩ rfl rfl hl.1 rfl (lv_room (Nat.le_of_ble_eq_true rfl)) dX4_setWorth_11 ⟨Nat.zero_le _, Nat.zero_le _⟩) hS (fun _ _ h => h.elim) (fun _ h => h.elim) (fun r_3 u t9 H locs ht hvm hw _ hz1 hk1 hS => ?_)
      have hW := hW.kept hk1
      rcases hw with ⟨rfl, hp_3⟩ | ⟨rfl, hp_3⟩
      ·
        refine lv_iconst (v := 1) hx hb dX4_setWorth_14 (by decide) ?_
        refine va_calli (va_runV (As := [.int 0, .int 1, .int 1]) (rest := []) ⟨hx, hb, hml, hown, hts⟩ (c_X4_goes l D cs A ad g L B n b t hn hb5 0 1 1) (cwV 3 hts gX4_setWorth_X4_goes rfl rfl rfl (by decide +kernel) ⟨Nat.le_of_ble_eq_true rfl, Nat.le_of_ble_eq_true rfl⟩) ⟨pM_fb, wb_recv hK hW (r := 0) (Nat.le_of_ble_eq_true rfl) (ci := 5) rfl rfl, fun U hU hV => ⟨rfl, pM_of hK hV.alike hU hW⟩⟩ rfl rfl hl.1 rfl (lv_room (Nat.le_of_ble_eq_true rfl)) dX4_setWorth_15 ⟨Nat.zero_le _, Nat.zero_le _⟩) hS (fun _ _ h => h) (fun _ h => h) (fun r_4 u t9 H locs ht hvm hw hB hz1 hk1 hS => ?_)
        have hW : wP D A lvM ad (ctM cs ad g L B n b 1) H := by rw [← ht]; exact hB
        rcases hw with ⟨rfl, hp_4⟩ | ⟨rfl, hp_4⟩
        ·
          exact absurd hp_4 (by decide)
        ·
          refine lv_if_ne (tgt := 23) hx hb dX4_setWorth_18 (by decide) (fun c_5 => ?_) (fun c_5 => ?_)
          · -- 0 ne 0 : True
            exact absurd c_5 (by decide)
          · -- 0 ne 0 : False
            refine lv_iconst (v := 0) hx hb dX4_setWorth_21 (by decide) ?_
            have hk : kWorth n x y = 1 := by simp [kWorth, (eq_false hx_x), (eq_false hp_2), (eq_true hp_3), (eq_false hp_4), c_5]
            exact W.iret (v := 0) hx hb hr (fun t9 ht9 hW9 => ⟨⟨_, (), rfl, (by first | (simp only [hk, sel_0, sel_1, sel_2, sel_3]; done) | (simp only [hk, sel_0, sel_1, sel_2, sel_3]; first | rfl | (simp [(eq_false hx_x), (eq_false hp_2), (eq_true hp_3), (eq_false hp_4), c_5, upd]; done))), (by dsimp only; rw [ht9]; simp only [hk, sel_0, sel_1, sel_2, sel_3]; exact hW)⟩, hS.F ht9⟩) hS.2.2 dX4_setWorth_22
      ·
        refine lv_iconst (v := 1) hx hb dX4_setWorth_14 (by decide) ?_
        refine va_calli (va_runV (As := [.int 0, .int 0, .int 1]) (rest := []) ⟨hx, hb, hml, hown, hts⟩ (c_X4_goes l D cs A ad g L B n b t hn hb5 0 0 1) (cwV 3 hts gX4_setWorth_X4_goes rfl rfl rfl (by decide +kernel) ⟨Nat.le_of_ble_eq_true rfl, Nat.le_of_ble_eq_true rfl⟩) ⟨pM_fb, wb_recv hK hW (r := 0) (Nat.le_of_ble_eq_true rfl) (ci := 5) rfl rfl, fun U hU hV => ⟨rfl, pM_of hK hV.alike hU hW⟩⟩ rfl rfl hl.1 rfl (lv_room (Nat.le_of_ble_eq_true rfl)) dX4_setWorth_15 ⟨Nat.zero_le _, Nat.zero_le _⟩) hS (fun _ _ h => h) (fun _ h => h) (fun r_6 u t9 H locs ht hvm hw hB hz1 hk1 hS => ?_)
        have hW : wP D A lvM ad (ctM cs ad g L B n b 1) H := by rw [← ht]; exact hB
        rcases hw with ⟨rfl, hp_6⟩ | ⟨rfl, hp_6⟩
        ·
          exact absurd hp_6 (by decide)
        ·
          refine lv_if_ne (tgt := 23) hx hb dX4_setWorth_18 (by decide) (fun c_7 => ?_) (fun c_7 => ?_)
          · -- 0 ne 0 : True
            exact absurd c_7 (by decide)
          · -- 0 ne 0 : False
            refine lv_iconst (v := 0) hx hb dX4_setWorth_21 (by decide) ?_
            have hk : kWorth n x y = 1 := by simp [kWorth, (eq_false hx_x), (eq_false hp_2), (eq_false hp_3), (eq_false hp_6), c_7]
            exact W.iret (v := 0) hx hb hr (fun t9 ht9 hW9 => ⟨⟨_, (), rfl, (by first | (simp only [hk, sel_0, sel_1, sel_2, sel_3]; done) | (simp only [hk, sel_0, sel_1, sel_2, sel_3]; first | rfl | (simp [(eq_false hx_x), (eq_false hp_2), (eq_false hp_3), (eq_false hp_6), c_7, upd]; done))), (by dsimp only; rw [ht9]; simp only [hk, sel_0, sel_1, sel_2, sel_3]; exact hW)⟩, hS.F ht9⟩) hS.2.2 dX4_setWorth_22
  ·
    have hx_x : isIx n (nI j) := isIx_nI h_j (by omega)
    have hn_x : ixN (nI j) = j := ixN_nI (by omega)
    refine lv_aload_n hx hb dX4_setWorth_0 rfl (lv_at hl 0 rfl) ?_
    refine lv_aload_n hx hb dX4_setWorth_1 rfl (lv_at hl 0 rfl) ?_
    refine lv_iload_n hx hb dX4_setWorth_2 rfl (lv_at hl 1 rfl) ?_
    refine va_calli (va_runV (As := [.int (nI j)]) (rest := [.ref (ad 0)]) ⟨hx, hb, hml, hown, hts⟩ (c_X4_isLoan l D cs A ad g L B n b t hn hb5 (nI j)) (cwV 1 hts gX4_setWorth_X4_isLoan rfl rfl rfl (by decide +kernel) ⟨Nat.le_of_ble_eq_true rfl, Nat.le_of_ble_eq_true rfl⟩) ⟨pM_fb, wb_recv hK hW (r := 0) (Nat.le_of_ble_eq_true rfl) (ci := 5) rfl rfl, fun U hU hV => ⟨rfl, pM_of hK hV.alike hU hW⟩⟩ rfl rfl hl.1 rfl (lv_room (Nat.le_of_ble_eq_true rfl)) dX4_setWorth_3 ⟨Nat.zero_le _, Nat.zero_le _⟩) hS (fun _ _ h => h.elim) (fun _ h => h.elim) (fun r_8 u t9 H locs ht hvm hw _ hz1 hk1 hS => ?_)
    have hW := hW.kept hk1
    rcases hw with ⟨rfl, hp_8⟩ | ⟨rfl, hp_8⟩
    ·
      refine lv_iload_n hx hb dX4_setWorth_6 rfl (lv_at hl 2 rfl) ?_
      refine lv_iconst (v := 0) hx hb dX4_setWorth_7 (by decide) ?_
      refine lv_sipush (v := 20000) hx hb dX4_setWorth_8 (by decide) ?_
      refine va_calli (va_runS (As := [.int y, .int 0, .int 20000]) (rest := [.int 1, .ref (ad 0)]) ⟨hx, hb, hml, hown, hts⟩ (c_X4_isWithin l y 0 20000) (va_cwS 3 hts gX4_setWorth_X4_isWithin rfl rfl rfl (by decide +kernel) ⟨Nat.le_of_ble_eq_true rfl, Nat.le_of_ble_eq_true rfl⟩) ⟨pT_fb, fun U hU hV => ⟨rfl, trivial⟩⟩ rfl rfl hl.1 rfl (lv_room (Nat.le_of_ble_eq_true rfl)) dX4_setWorth_11 ⟨Nat.zero_le _, Nat.zero_le _⟩) hS (fun _ _ h => h.elim) (fun _ h => h.elim) (fun r_9 u t9 H locs ht hvm hw _ hz1 hk1 hS => ?_)
      have hW := hW.kept hk1
      rcases hw with ⟨rfl, hp_9⟩ | ⟨rfl, hp_9⟩
      ·
        refine lv_iconst (v := 1) hx hb dX4_setWorth_14 (by decide) ?_
        refine va_calli (va_runV (As := [.int 1, .int 1, .int 1]) (rest := []) ⟨hx, hb, hml, hown, hts⟩ (c_X4_goes l D cs A ad g L B n b t hn hb5 1 1 1) (cwV 3 hts gX4_setWorth_X4_goes rfl rfl rfl (by decide +kernel) ⟨Nat.le_of_ble_eq_true rfl, Nat.le_of_ble_eq_true rfl⟩) ⟨pM_fb, wb_recv hK hW (r := 0) (Nat.le_of_ble_eq_true rfl) (ci := 5) rfl rfl, fun U hU hV => ⟨rfl, pM_of hK hV.alike hU hW⟩⟩ rfl rfl hl.1 rfl (lv_room (Nat.le_of_ble_eq_true rfl)) dX4_setWorth_15 ⟨Nat.zero_le _, Nat.zero_le _⟩) hS (fun _ _ h => h) (fun _ h => h) (fun r_10 u t9 H locs ht hvm hw hB hz1 hk1 hS => ?_)
        have hW : wP D A lvM ad (ctM cs ad g L B n b 0) H := by rw [← ht]; exact hB
        rcases hw with ⟨rfl, hp_10⟩ | ⟨rfl, hp_10⟩
        ·
          refine lv_if_ne (tgt := 23) hx hb dX4_setWorth_18 (by decide) (fun c_11 => ?_) (fun c_11 => ?_)
          · -- 1 ne 0 : True
            refine lv_aload_n hx hb dX4_setWorth_23 rfl (lv_at hl 0 rfl) ?_
            refine wb_get hx hb hts hinX4 hown hK hW 0 (Nat.le_of_ble_eq_true rfl) rfl rfl 6 (by decide) hf23 (fun _ h9 => h9) (v := .ref (ad 2)) rfl dX4_setWorth_24 ?_
            refine lv_iload_n hx hb dX4_setWorth_27 rfl (lv_at hl 1 rfl) ?_
            refine wb_iald hx hb hK hW 2 (Nat.le_of_ble_eq_true rfl) 0 rfl rfl j rfl (by omega) (by decide) dX4_setWorth_28 ?_
            refine lv_istore_n (lv' := [(3, .int (L 1 j)), (0, .ref (ad 0)), (1, .int (nI j)), (2, .int y)]) hx hb dX4_setWorth_29 rfl hl (by decide) rfl (fun ls hl => ?_)
            refine lv_aload_n hx hb dX4_setWorth_30 rfl (lv_at hl 1 rfl) ?_
            refine wb_get hx hb hts hinX4 hown hK hW 0 (Nat.le_of_ble_eq_true rfl) rfl rfl 6 (by decide) hf23 (fun _ h9 => h9) (v := .ref (ad 2)) rfl dX4_setWorth_31 ?_
            refine lv_iload_n hx hb dX4_setWorth_34 rfl (lv_at hl 2 rfl) ?_
            refine lv_iload_n hx hb dX4_setWorth_35 rfl (lv_at hl 3 rfl) ?_
            refine wb_iast hx hb hK hW hS 2 (Nat.le_of_ble_eq_true rfl) 0 rfl rfl j rfl (by omega) (by decide) dX4_setWorth_36 (fun H locs hW hS => ?_)
            obtain ⟨L12, hL12⟩ : ∃ z9, z9 = updL L 1 j y := ⟨_, rfl⟩
            have hW : wP D A lvM ad (ctM cs ad g L12 B n b 0) H := hW.to (fun r hr => ⟨hr, rfl, by subst hL12; rcases lt11 hr with rfl | rfl | rfl | rfl | rfl | rfl | rfl | rfl | rfl | rfl | rfl <;> rfl⟩)
            refine lv_iload_n hx hb dX4_setWorth_37 rfl (lv_at hl 0 rfl) ?_
            have hk : kWorth n (nI j) y = 0 := by simp [kWorth, (eq_true hx_x), hn_x, (eq_true hp_8), (eq_true hp_9), (eq_true hp_10), c_11, hL12]
            exact W.iret (v := L 1 j) hx hb hr (fun t9 ht9 hW9 => ⟨⟨_, (), rfl, (by first | (simp only [hk, sel_0, sel_1, sel_2, sel_3, hn_x]; done) | (simp only [hk, sel_0, sel_1, sel_2, sel_3, hn_x]; first | rfl | (simp [(eq_true hx_x), hn_x, (eq_true hp_8), (eq_true hp_9), (eq_true hp_10), c_11, hL12, upd]; done))), (by dsimp only; rw [ht9]; simp only [hk, sel_0, sel_1, sel_2, sel_3, hn_x]; subst hL12; exact hW)⟩, hS.F ht9⟩) hS.2.2 dX4_setWorth_38
          · -- 1 ne 0 : False
            exact absurd c_11 (by decide)
        ·
          exact absurd (by decide) hp_10
      ·
        refine lv_iconst (v := 1) hx hb dX4_setWorth_14 (by decide) ?_
        refine va_calli (va_runV (As := [.int 1, .int 0, .int 1]) (rest := []) ⟨hx, hb, hml, hown, hts⟩ (c_X4_goes l D cs A ad g L B n b t hn hb5 1 0 1) (cwV 3 hts gX4_setWorth_X4_goes rfl rfl rfl (by decide +kernel) ⟨Nat.le_of_ble_eq_true rfl, Nat.le_of_ble_eq_true rfl⟩) ⟨pM_fb, wb_recv hK hW (r := 0) (Nat.le_of_ble_eq_true rfl) (ci := 5) rfl rfl, fun U hU hV => ⟨rfl, pM_of hK hV.alike hU hW⟩⟩ rfl rfl hl.1 rfl (lv_room (Nat.le_of_ble_eq_true rfl)) dX4_setWorth_15 ⟨Nat.zero_le _, Nat.zero_le _⟩) hS (fun _ _ h => h) (fun _ h => h) (fun r_13 u t9 H locs ht hvm hw hB hz1 hk1 hS => ?_)
        have hW : wP D A lvM ad (ctM cs ad g L B n b 2) H := by rw [← ht]; exact hB
        rcases hw with ⟨rfl, hp_13⟩ | ⟨rfl, hp_13⟩
        ·
          exact absurd hp_13 (by decide)
        ·
          refine lv_if_ne (tgt := 23) hx hb dX4_setWorth_18 (by decide) (fun c_14 => ?_) (fun c_14 => ?_)
          · -- 0 ne 0 : True
            exact absurd c_14 (by decide)
          · -- 0 ne 0 : False
            refine lv_iconst (v := 0) hx hb dX4_setWorth_21 (by decide) ?_
            have hk : kWorth n (nI j) y = 2 := by simp [kWorth, (eq_true hx_x), hn_x, (eq_true hp_8), (eq_false hp_9), (eq_false hp_13), c_14]
            exact W.iret (v := 0) hx hb hr (fun t9 ht9 hW9 => ⟨⟨_, (), rfl, (by first | (simp only [hk, sel_0, sel_1, sel_2, sel_3, hn_x]; done) | (simp only [hk, sel_0, sel_1, sel_2, sel_3, hn_x]; first | rfl | (simp [(eq_true hx_x), hn_x, (eq_true hp_8), (eq_false hp_9), (eq_false hp_13), c_14, upd]; done))), (by dsimp only; rw [ht9]; simp only [hk, sel_0, sel_1, sel_2, sel_3, hn_x]; exact hW)⟩, hS.F ht9⟩) hS.2.2 dX4_setWorth_22
    ·
      exact absurd hx_x hp_8

set_option maxHeartbeats 4000000 in
set_option maxRecDepth 100000 in
theorem c_X4_stateOf (l : Launch) (D : va_G) (cs : Nat → ClassId) (A : Nat → Prop) (ad : Nat → Nat) (g : Nat → Int32) (L B : Nat → Nat → Int32) (n b : Nat) (t : Int32) (hn : n ≤ 12) (hb5 : b ≤ 5) (x : Int32)  : Met l yX4_stateOf wsX4_stateOf ({ frames := 2, cells := 0, slots := 0, locals := 47 } : Room) (va_Pc [.ref (ad 0), .int x] (pM D cs A ad g L B n b t)) (va_Qi (fun (r9 : Int32) (_ : Unit) => r9 = sel (kIx n x) (L 5 (ixN x)) 0) (fun _ t9 => wP D A lvM ad (ctM cs ad g L B n b (kIx n x)) t9.heap) A) 0 0 A := by
  refine Met.ofW (cc := cX4_stateOf) (maxL := 2) (ret := (some .int)) (by decide) rfl ?_
  intro p e s m args below meth c s₁ BB hml hv
  obtain ⟨rfl, hv⟩ := hv
  obtain ⟨hK, hW⟩ := hv
  have hx := BB.exec
  have hb := BB.bytes
  have hr := BB.returns
  have hts := atoms_spec (ws := wsX4_stateOf) BB.pre
  have hown : s.vm.findClass RX4 = some m.cls := findClass_of_methodNamed BB.named
  have hlocks := BB.notSynchronized
  have hS : va_S A s.heap s.heap [] := va_S.rf
  have hl := lv_entry ([.ref (ad 0), .int x]) (n := 2) (Nat.le_of_ble_eq_true rfl)
  rw [lg_entry_eq]
  generalize (lg_sl ([.ref (ad 0), .int x]) ++ List.replicate (2 - (lg_sl ([.ref (ad 0), .int x])).length) Slot.unset).toArray = ls at hl ⊢
  have hl : lv_has ls 2 [(0, .ref (ad 0)), (1, .int x)] := hl
  have hf35 := hts (.fieldLink RX4 35 "CoverpoolModel" "state" "[I") (by decide +kernel)
  have hinX4 : ∀ w ∈ u_ws RX4 TX4 18, w ∈ wsX4_stateOf := by decide +kernel
  rcases isIx_cases n (by omega) x with hx_x | ⟨j, h_j, rfl⟩
  ·
    refine lv_aload_n hx hb dX4_stateOf_0 rfl (lv_at hl 0 rfl) ?_
    refine lv_aload_n hx hb dX4_stateOf_1 rfl (lv_at hl 0 rfl) ?_
    refine lv_iload_n hx hb dX4_stateOf_2 rfl (lv_at hl 1 rfl) ?_
    refine va_calli (va_runV (As := [.int x]) (rest := [.ref (ad 0)]) ⟨hx, hb, hml, hown, hts⟩ (c_X4_isLoan l D cs A ad g L B n b t hn hb5 x) (cwV 1 hts gX4_stateOf_X4_isLoan rfl rfl rfl (by decide +kernel) ⟨Nat.le_of_ble_eq_true rfl, Nat.le_of_ble_eq_true rfl⟩) ⟨pM_fb, wb_recv hK hW (r := 0) (Nat.le_of_ble_eq_true rfl) (ci := 5) rfl rfl, fun U hU hV => ⟨rfl, pM_of hK hV.alike hU hW⟩⟩ rfl rfl hl.1 rfl (lv_room (Nat.le_of_ble_eq_true rfl)) dX4_stateOf_3 ⟨Nat.zero_le _, Nat.zero_le _⟩) hS (fun _ _ h => h.elim) (fun _ h => h.elim) (fun r_2 u t9 H locs ht hvm hw _ hz1 hk1 hS => ?_)
    have hW := hW.kept hk1
    rcases hw with ⟨rfl, hp_2⟩ | ⟨rfl, hp_2⟩
    ·
      exact absurd hp_2 hx_x
    ·
      refine lv_iconst (v := 1) hx hb dX4_stateOf_6 (by decide) ?_
      refine lv_iconst (v := 1) hx hb dX4_stateOf_7 (by decide) ?_
      refine va_calli (va_runV (As := [.int 0, .int 1, .int 1]) (rest := []) ⟨hx, hb, hml, hown, hts⟩ (c_X4_goes l D cs A ad g L B n b t hn hb5 0 1 1) (cwV 3 hts gX4_stateOf_X4_goes rfl rfl rfl (by decide +kernel) ⟨Nat.le_of_ble_eq_true rfl, Nat.le_of_ble_eq_true rfl⟩) ⟨pM_fb, wb_recv hK hW (r := 0) (Nat.le_of_ble_eq_true rfl) (ci := 5) rfl rfl, fun U hU hV => ⟨rfl, pM_of hK hV.alike hU hW⟩⟩ rfl rfl hl.1 rfl (lv_room (Nat.le_of_ble_eq_true rfl)) dX4_stateOf_8 ⟨Nat.zero_le _, Nat.zero_le _⟩) hS (fun _ _ h => h) (fun _ h => h) (fun r_3 u t9 H locs ht hvm hw hB hz1 hk1 hS => ?_)
      have hW : wP D A lvM ad (ctM cs ad g L B n b 1) H := by rw [← ht]; exact hB
      rcases hw with ⟨rfl, hp_3⟩ | ⟨rfl, hp_3⟩
      ·
        exact absurd hp_3 (by decide)
      ·
        refine lv_if_eq (tgt := 23) hx hb dX4_stateOf_11 (by decide) (fun c_4 => ?_) (fun c_4 => ?_)
        · -- 0 eq 0 : True
          refine lv_iconst (v := 0) hx hb dX4_stateOf_23 (by decide) ?_
          have hk : kIx n x = 1 := by simp [kIx, (eq_false hx_x), (eq_false hp_2), (eq_false hp_3), c_4]
          exact W.iret (v := 0) hx hb hr (fun t9 ht9 hW9 => ⟨⟨_, (), rfl, (by first | (simp only [hk, sel_0, sel_1, sel_2, sel_3]; done) | (simp only [hk, sel_0, sel_1, sel_2, sel_3]; first | rfl | (simp [(eq_false hx_x), (eq_false hp_2), (eq_false hp_3), c_4, upd]; done))), (by dsimp only; rw [ht9]; simp only [hk, sel_0, sel_1, sel_2, sel_3]; exact hW)⟩, hS.F ht9⟩) hS.2.2 dX4_stateOf_24
        · -- 0 eq 0 : False
          exact absurd c_4 (by decide)
  ·
    have hx_x : isIx n (nI j) := isIx_nI h_j (by omega)
    have hn_x : ixN (nI j) = j := ixN_nI (by omega)
    refine lv_aload_n hx hb dX4_stateOf_0 rfl (lv_at hl 0 rfl) ?_
    refine lv_aload_n hx hb dX4_stateOf_1 rfl (lv_at hl 0 rfl) ?_
    refine lv_iload_n hx hb dX4_stateOf_2 rfl (lv_at hl 1 rfl) ?_
    refine va_calli (va_runV (As := [.int (nI j)]) (rest := [.ref (ad 0)]) ⟨hx, hb, hml, hown, hts⟩ (c_X4_isLoan l D cs A ad g L B n b t hn hb5 (nI j)) (cwV 1 hts gX4_stateOf_X4_isLoan rfl rfl rfl (by decide +kernel) ⟨Nat.le_of_ble_eq_true rfl, Nat.le_of_ble_eq_true rfl⟩) ⟨pM_fb, wb_recv hK hW (r := 0) (Nat.le_of_ble_eq_true rfl) (ci := 5) rfl rfl, fun U hU hV => ⟨rfl, pM_of hK hV.alike hU hW⟩⟩ rfl rfl hl.1 rfl (lv_room (Nat.le_of_ble_eq_true rfl)) dX4_stateOf_3 ⟨Nat.zero_le _, Nat.zero_le _⟩) hS (fun _ _ h => h.elim) (fun _ h => h.elim) (fun r_5 u t9 H locs ht hvm hw _ hz1 hk1 hS => ?_)
    have hW := hW.kept hk1
    rcases hw with ⟨rfl, hp_5⟩ | ⟨rfl, hp_5⟩
    ·
      refine lv_iconst (v := 1) hx hb dX4_stateOf_6 (by decide) ?_
      refine lv_iconst (v := 1) hx hb dX4_stateOf_7 (by decide) ?_
      refine va_calli (va_runV (As := [.int 1, .int 1, .int 1]) (rest := []) ⟨hx, hb, hml, hown, hts⟩ (c_X4_goes l D cs A ad g L B n b t hn hb5 1 1 1) (cwV 3 hts gX4_stateOf_X4_goes rfl rfl rfl (by decide +kernel) ⟨Nat.le_of_ble_eq_true rfl, Nat.le_of_ble_eq_true rfl⟩) ⟨pM_fb, wb_recv hK hW (r := 0) (Nat.le_of_ble_eq_true rfl) (ci := 5) rfl rfl, fun U hU hV => ⟨rfl, pM_of hK hV.alike hU hW⟩⟩ rfl rfl hl.1 rfl (lv_room (Nat.le_of_ble_eq_true rfl)) dX4_stateOf_8 ⟨Nat.zero_le _, Nat.zero_le _⟩) hS (fun _ _ h => h) (fun _ h => h) (fun r_6 u t9 H locs ht hvm hw hB hz1 hk1 hS => ?_)
      have hW : wP D A lvM ad (ctM cs ad g L B n b 0) H := by rw [← ht]; exact hB
      rcases hw with ⟨rfl, hp_6⟩ | ⟨rfl, hp_6⟩
      ·
        refine lv_if_eq (tgt := 23) hx hb dX4_stateOf_11 (by decide) (fun c_7 => ?_) (fun c_7 => ?_)
        · -- 1 eq 0 : True
          exact absurd c_7 (by decide)
        · -- 1 eq 0 : False
          refine lv_aload_n hx hb dX4_stateOf_14 rfl (lv_at hl 0 rfl) ?_
          refine wb_get hx hb hts hinX4 hown hK hW 0 (Nat.le_of_ble_eq_true rfl) rfl rfl 10 (by decide) hf35 (fun _ h9 => h9) (v := .ref (ad 6)) rfl dX4_stateOf_15 ?_
          refine lv_iload_n hx hb dX4_stateOf_18 rfl (lv_at hl 1 rfl) ?_
          refine wb_iald hx hb hK hW 6 (Nat.le_of_ble_eq_true rfl) 0 rfl rfl j rfl (by omega) (by decide) dX4_stateOf_19 ?_
          refine lv_goto (tgt := 24) hx hb dX4_stateOf_20 (by decide) ?_
          have hk : kIx n (nI j) = 0 := by simp [kIx, (eq_true hx_x), hn_x, (eq_true hp_5), (eq_true hp_6), c_7]
          exact W.iret (v := L 5 j) hx hb hr (fun t9 ht9 hW9 => ⟨⟨_, (), rfl, (by first | (simp only [hk, sel_0, sel_1, sel_2, sel_3, hn_x]; done) | (simp only [hk, sel_0, sel_1, sel_2, sel_3, hn_x]; first | rfl | (simp [(eq_true hx_x), hn_x, (eq_true hp_5), (eq_true hp_6), c_7, upd]; done))), (by dsimp only; rw [ht9]; simp only [hk, sel_0, sel_1, sel_2, sel_3, hn_x]; exact hW)⟩, hS.F ht9⟩) hS.2.2 dX4_stateOf_24
      ·
        exact absurd (by decide) hp_6
    ·
      exact absurd hx_x hp_5

set_option maxHeartbeats 4000000 in
set_option maxRecDepth 100000 in
theorem c_X4_counts (l : Launch) (D : va_G) (cs : Nat → ClassId) (A : Nat → Prop) (ad : Nat → Nat) (g : Nat → Int32) (L B : Nat → Nat → Int32) (n b : Nat) (t : Int32) (hn : n ≤ 12) (hb5 : b ≤ 5) (x : Int32)  : Met l yX4_counts wsX4_counts ({ frames := 2, cells := 0, slots := 0, locals := 47 } : Room) (va_Pc [.ref (ad 0), .int x] (pM D cs A ad g L B n b t)) (va_Qi (fun (r9 : Int32) (_ : Unit) => r9 = sel (kIx n x) (mCount g L (ixN x)) 0) (fun _ t9 => wP D A lvM ad (ctM cs ad g L B n b (kIx n x)) t9.heap) A) 0 0 A := by
  refine Met.ofW (cc := cX4_counts) (maxL := 2) (ret := (some .int)) (by decide) rfl ?_
  intro p e s m args below meth c s₁ BB hml hv
  obtain ⟨rfl, hv⟩ := hv
  obtain ⟨hK, hW⟩ := hv
  have hx := BB.exec
  have hb := BB.bytes
  have hr := BB.returns
  have hts := atoms_spec (ws := wsX4_counts) BB.pre
  have hown : s.vm.findClass RX4 = some m.cls := findClass_of_methodNamed BB.named
  have hlocks := BB.notSynchronized
  have hS : va_S A s.heap s.heap [] := va_S.rf
  have hl := lv_entry ([.ref (ad 0), .int x]) (n := 2) (Nat.le_of_ble_eq_true rfl)
  rw [lg_entry_eq]
  generalize (lg_sl ([.ref (ad 0), .int x]) ++ List.replicate (2 - (lg_sl ([.ref (ad 0), .int x])).length) Slot.unset).toArray = ls at hl ⊢
  have hl : lv_has ls 2 [(0, .ref (ad 0)), (1, .int x)] := hl
  rcases isIx_cases n (by omega) x with hx_x | ⟨j, h_j, rfl⟩
  ·
    refine lv_aload_n hx hb dX4_counts_0 rfl (lv_at hl 0 rfl) ?_
    refine lv_aload_n hx hb dX4_counts_1 rfl (lv_at hl 0 rfl) ?_
    refine lv_iload_n hx hb dX4_counts_2 rfl (lv_at hl 1 rfl) ?_
    refine va_calli (va_runV (As := [.int x]) (rest := [.ref (ad 0)]) ⟨hx, hb, hml, hown, hts⟩ (c_X4_isLoan l D cs A ad g L B n b t hn hb5 x) (cwV 1 hts gX4_counts_X4_isLoan rfl rfl rfl (by decide +kernel) ⟨Nat.le_of_ble_eq_true rfl, Nat.le_of_ble_eq_true rfl⟩) ⟨pM_fb, wb_recv hK hW (r := 0) (Nat.le_of_ble_eq_true rfl) (ci := 5) rfl rfl, fun U hU hV => ⟨rfl, pM_of hK hV.alike hU hW⟩⟩ rfl rfl hl.1 rfl (lv_room (Nat.le_of_ble_eq_true rfl)) dX4_counts_3 ⟨Nat.zero_le _, Nat.zero_le _⟩) hS (fun _ _ h => h.elim) (fun _ h => h.elim) (fun r_2 u t9 H locs ht hvm hw _ hz1 hk1 hS => ?_)
    have hW := hW.kept hk1
    rcases hw with ⟨rfl, hp_2⟩ | ⟨rfl, hp_2⟩
    ·
      exact absurd hp_2 hx_x
    ·
      refine lv_iconst (v := 1) hx hb dX4_counts_6 (by decide) ?_
      refine lv_iconst (v := 1) hx hb dX4_counts_7 (by decide) ?_
      refine va_calli (va_runV (As := [.int 0, .int 1, .int 1]) (rest := []) ⟨hx, hb, hml, hown, hts⟩ (c_X4_goes l D cs A ad g L B n b t hn hb5 0 1 1) (cwV 3 hts gX4_counts_X4_goes rfl rfl rfl (by decide +kernel) ⟨Nat.le_of_ble_eq_true rfl, Nat.le_of_ble_eq_true rfl⟩) ⟨pM_fb, wb_recv hK hW (r := 0) (Nat.le_of_ble_eq_true rfl) (ci := 5) rfl rfl, fun U hU hV => ⟨rfl, pM_of hK hV.alike hU hW⟩⟩ rfl rfl hl.1 rfl (lv_room (Nat.le_of_ble_eq_true rfl)) dX4_counts_8 ⟨Nat.zero_le _, Nat.zero_le _⟩) hS (fun _ _ h => h) (fun _ h => h) (fun r_3 u t9 H locs ht hvm hw hB hz1 hk1 hS => ?_)
      have hW : wP D A lvM ad (ctM cs ad g L B n b 1) H := by rw [← ht]; exact hB
      rcases hw with ⟨rfl, hp_3⟩ | ⟨rfl, hp_3⟩
      ·
        exact absurd hp_3 (by decide)
      ·
        refine lv_if_eq (tgt := 22) hx hb dX4_counts_11 (by decide) (fun c_4 => ?_) (fun c_4 => ?_)
        · -- 0 eq 0 : True
          refine lv_iconst (v := 0) hx hb dX4_counts_22 (by decide) ?_
          have hk : kIx n x = 1 := by simp [kIx, (eq_false hx_x), (eq_false hp_2), (eq_false hp_3), c_4]
          exact W.iret (v := 0) hx hb hr (fun t9 ht9 hW9 => ⟨⟨_, (), rfl, (by first | (simp only [hk, sel_0, sel_1, sel_2, sel_3]; done) | (simp only [hk, sel_0, sel_1, sel_2, sel_3]; first | rfl | (simp [(eq_false hx_x), (eq_false hp_2), (eq_false hp_3), c_4, upd]; done))), (by dsimp only; rw [ht9]; simp only [hk, sel_0, sel_1, sel_2, sel_3]; exact hW)⟩, hS.F ht9⟩) hS.2.2 dX4_counts_23
        · -- 0 eq 0 : False
          exact absurd c_4 (by decide)
  ·
    have hx_x : isIx n (nI j) := isIx_nI h_j (by omega)
    have hn_x : ixN (nI j) = j := ixN_nI (by omega)
    refine lv_aload_n hx hb dX4_counts_0 rfl (lv_at hl 0 rfl) ?_
    refine lv_aload_n hx hb dX4_counts_1 rfl (lv_at hl 0 rfl) ?_
    refine lv_iload_n hx hb dX4_counts_2 rfl (lv_at hl 1 rfl) ?_
    refine va_calli (va_runV (As := [.int (nI j)]) (rest := [.ref (ad 0)]) ⟨hx, hb, hml, hown, hts⟩ (c_X4_isLoan l D cs A ad g L B n b t hn hb5 (nI j)) (cwV 1 hts gX4_counts_X4_isLoan rfl rfl rfl (by decide +kernel) ⟨Nat.le_of_ble_eq_true rfl, Nat.le_of_ble_eq_true rfl⟩) ⟨pM_fb, wb_recv hK hW (r := 0) (Nat.le_of_ble_eq_true rfl) (ci := 5) rfl rfl, fun U hU hV => ⟨rfl, pM_of hK hV.alike hU hW⟩⟩ rfl rfl hl.1 rfl (lv_room (Nat.le_of_ble_eq_true rfl)) dX4_counts_3 ⟨Nat.zero_le _, Nat.zero_le _⟩) hS (fun _ _ h => h.elim) (fun _ h => h.elim) (fun r_5 u t9 H locs ht hvm hw _ hz1 hk1 hS => ?_)
    have hW := hW.kept hk1
    rcases hw with ⟨rfl, hp_5⟩ | ⟨rfl, hp_5⟩
    ·
      refine lv_iconst (v := 1) hx hb dX4_counts_6 (by decide) ?_
      refine lv_iconst (v := 1) hx hb dX4_counts_7 (by decide) ?_
      refine va_calli (va_runV (As := [.int 1, .int 1, .int 1]) (rest := []) ⟨hx, hb, hml, hown, hts⟩ (c_X4_goes l D cs A ad g L B n b t hn hb5 1 1 1) (cwV 3 hts gX4_counts_X4_goes rfl rfl rfl (by decide +kernel) ⟨Nat.le_of_ble_eq_true rfl, Nat.le_of_ble_eq_true rfl⟩) ⟨pM_fb, wb_recv hK hW (r := 0) (Nat.le_of_ble_eq_true rfl) (ci := 5) rfl rfl, fun U hU hV => ⟨rfl, pM_of hK hV.alike hU hW⟩⟩ rfl rfl hl.1 rfl (lv_room (Nat.le_of_ble_eq_true rfl)) dX4_counts_8 ⟨Nat.zero_le _, Nat.zero_le _⟩) hS (fun _ _ h => h) (fun _ h => h) (fun r_6 u t9 H locs ht hvm hw hB hz1 hk1 hS => ?_)
      have hW : wP D A lvM ad (ctM cs ad g L B n b 0) H := by rw [← ht]; exact hB
      rcases hw with ⟨rfl, hp_6⟩ | ⟨rfl, hp_6⟩
      ·
        refine lv_if_eq (tgt := 22) hx hb dX4_counts_11 (by decide) (fun c_7 => ?_) (fun c_7 => ?_)
        · -- 1 eq 0 : True
          exact absurd c_7 (by decide)
        · -- 1 eq 0 : False
          refine lv_aload_n hx hb dX4_counts_14 rfl (lv_at hl 0 rfl) ?_
          refine lv_iload_n hx hb dX4_counts_15 rfl (lv_at hl 1 rfl) ?_
          refine va_calli (va_runV (As := [.int (nI j)]) (rest := []) ⟨hx, hb, hml, hown, hts⟩ (c_X4_countOf l D cs A ad g L B n b 0 hn hb5 j (by omega)) (cwV 1 hts gX4_counts_X4_countOf rfl rfl rfl (by decide +kernel) ⟨Nat.le_of_ble_eq_true rfl, Nat.le_of_ble_eq_true rfl⟩) ⟨pM_fb, wb_recv hK hW (r := 0) (Nat.le_of_ble_eq_true rfl) (ci := 5) rfl rfl, fun U hU hV => ⟨rfl, pM_of hK hV.alike hU hW⟩⟩ rfl rfl hl.1 rfl (lv_room (Nat.le_of_ble_eq_true rfl)) dX4_counts_16 ⟨Nat.zero_le _, Nat.zero_le _⟩) hS (fun _ _ h => h.elim) (fun _ h => h.elim) (fun r_8 u t9 H locs ht hvm hw _ hz1 hk1 hS => ?_)
          have hW := hW.kept hk1
          subst hw
          refine lv_goto (tgt := 23) hx hb dX4_counts_19 (by decide) ?_
          have hk : kIx n (nI j) = 0 := by simp [kIx, (eq_true hx_x), hn_x, (eq_true hp_5), (eq_true hp_6), c_7]
          exact W.iret (v := mCount g L j) hx hb hr (fun t9 ht9 hW9 => ⟨⟨_, (), rfl, (by first | (simp only [hk, sel_0, sel_1, sel_2, sel_3, hn_x]; done) | (simp only [hk, sel_0, sel_1, sel_2, sel_3, hn_x]; first | rfl | (simp [(eq_true hx_x), hn_x, (eq_true hp_5), (eq_true hp_6), c_7, upd]; done))), (by dsimp only; rw [ht9]; simp only [hk, sel_0, sel_1, sel_2, sel_3, hn_x]; exact hW)⟩, hS.F ht9⟩) hS.2.2 dX4_counts_23
      ·
        exact absurd (by decide) hp_6
    ·
      exact absurd hx_x hp_5

set_option maxHeartbeats 4000000 in
set_option maxRecDepth 100000 in
theorem c_X4_bondState (l : Launch) (D : va_G) (cs : Nat → ClassId) (A : Nat → Prop) (ad : Nat → Nat) (g : Nat → Int32) (L B : Nat → Nat → Int32) (n b : Nat) (t : Int32) (hn : n ≤ 12) (hb5 : b ≤ 5) (x : Int32)  : Met l yX4_bondState wsX4_bondState ({ frames := 2, cells := 0, slots := 0, locals := 47 } : Room) (va_Pc [.ref (ad 0), .int x] (pM D cs A ad g L B n b t)) (va_Qi (fun (r9 : Int32) (_ : Unit) => r9 = sel (kIx b x) (B 2 (ixN x)) 0) (fun _ t9 => wP D A lvM ad (ctM cs ad g L B n b (kIx b x)) t9.heap) A) 0 0 A := by
  refine Met.ofW (cc := cX4_bondState) (maxL := 2) (ret := (some .int)) (by decide) rfl ?_
  intro p e s m args below meth c s₁ BB hml hv
  obtain ⟨rfl, hv⟩ := hv
  obtain ⟨hK, hW⟩ := hv
  have hx := BB.exec
  have hb := BB.bytes
  have hr := BB.returns
  have hts := atoms_spec (ws := wsX4_bondState) BB.pre
  have hown : s.vm.findClass RX4 = some m.cls := findClass_of_methodNamed BB.named
  have hlocks := BB.notSynchronized
  have hS : va_S A s.heap s.heap [] := va_S.rf
  have hl := lv_entry ([.ref (ad 0), .int x]) (n := 2) (Nat.le_of_ble_eq_true rfl)
  rw [lg_entry_eq]
  generalize (lg_sl ([.ref (ad 0), .int x]) ++ List.replicate (2 - (lg_sl ([.ref (ad 0), .int x])).length) Slot.unset).toArray = ls at hl ⊢
  have hl : lv_has ls 2 [(0, .ref (ad 0)), (1, .int x)] := hl
  have hf44 := hts (.fieldLink RX4 44 "CoverpoolModel" "bondState" "[I") (by decide +kernel)
  have hinX4 : ∀ w ∈ u_ws RX4 TX4 18, w ∈ wsX4_bondState := by decide +kernel
  rcases isIx_cases b (by omega) x with hx_x | ⟨j, h_j, rfl⟩
  ·
    refine lv_aload_n hx hb dX4_bondState_0 rfl (lv_at hl 0 rfl) ?_
    refine lv_aload_n hx hb dX4_bondState_1 rfl (lv_at hl 0 rfl) ?_
    refine lv_iload_n hx hb dX4_bondState_2 rfl (lv_at hl 1 rfl) ?_
    refine va_calli (va_runV (As := [.int x]) (rest := [.ref (ad 0)]) ⟨hx, hb, hml, hown, hts⟩ (c_X4_isBond l D cs A ad g L B n b t hn hb5 x) (cwV 1 hts gX4_bondState_X4_isBond rfl rfl rfl (by decide +kernel) ⟨Nat.le_of_ble_eq_true rfl, Nat.le_of_ble_eq_true rfl⟩) ⟨pM_fb, wb_recv hK hW (r := 0) (Nat.le_of_ble_eq_true rfl) (ci := 5) rfl rfl, fun U hU hV => ⟨rfl, pM_of hK hV.alike hU hW⟩⟩ rfl rfl hl.1 rfl (lv_room (Nat.le_of_ble_eq_true rfl)) dX4_bondState_3 ⟨Nat.zero_le _, Nat.zero_le _⟩) hS (fun _ _ h => h.elim) (fun _ h => h.elim) (fun r_2 u t9 H locs ht hvm hw _ hz1 hk1 hS => ?_)
    have hW := hW.kept hk1
    rcases hw with ⟨rfl, hp_2⟩ | ⟨rfl, hp_2⟩
    ·
      exact absurd hp_2 hx_x
    ·
      refine lv_iconst (v := 1) hx hb dX4_bondState_6 (by decide) ?_
      refine lv_iconst (v := 1) hx hb dX4_bondState_7 (by decide) ?_
      refine va_calli (va_runV (As := [.int 0, .int 1, .int 1]) (rest := []) ⟨hx, hb, hml, hown, hts⟩ (c_X4_goes l D cs A ad g L B n b t hn hb5 0 1 1) (cwV 3 hts gX4_bondState_X4_goes rfl rfl rfl (by decide +kernel) ⟨Nat.le_of_ble_eq_true rfl, Nat.le_of_ble_eq_true rfl⟩) ⟨pM_fb, wb_recv hK hW (r := 0) (Nat.le_of_ble_eq_true rfl) (ci := 5) rfl rfl, fun U hU hV => ⟨rfl, pM_of hK hV.alike hU hW⟩⟩ rfl rfl hl.1 rfl (lv_room (Nat.le_of_ble_eq_true rfl)) dX4_bondState_8 ⟨Nat.zero_le _, Nat.zero_le _⟩) hS (fun _ _ h => h) (fun _ h => h) (fun r_3 u t9 H locs ht hvm hw hB hz1 hk1 hS => ?_)
      have hW : wP D A lvM ad (ctM cs ad g L B n b 1) H := by rw [← ht]; exact hB
      rcases hw with ⟨rfl, hp_3⟩ | ⟨rfl, hp_3⟩
      ·
        exact absurd hp_3 (by decide)
      ·
        refine lv_if_eq (tgt := 23) hx hb dX4_bondState_11 (by decide) (fun c_4 => ?_) (fun c_4 => ?_)
        · -- 0 eq 0 : True
          refine lv_iconst (v := 0) hx hb dX4_bondState_23 (by decide) ?_
          have hk : kIx b x = 1 := by simp [kIx, (eq_false hx_x), (eq_false hp_2), (eq_false hp_3), c_4]
          exact W.iret (v := 0) hx hb hr (fun t9 ht9 hW9 => ⟨⟨_, (), rfl, (by first | (simp only [hk, sel_0, sel_1, sel_2, sel_3]; done) | (simp only [hk, sel_0, sel_1, sel_2, sel_3]; first | rfl | (simp [(eq_false hx_x), (eq_false hp_2), (eq_false hp_3), c_4, upd]; done))), (by dsimp only; rw [ht9]; simp only [hk, sel_0, sel_1, sel_2, sel_3]; exact hW)⟩, hS.F ht9⟩) hS.2.2 dX4_bondState_24
        · -- 0 eq 0 : False
          exact absurd c_4 (by decide)
  ·
    have hx_x : isIx b (nI j) := isIx_nI h_j (by omega)
    have hn_x : ixN (nI j) = j := ixN_nI (by omega)
    refine lv_aload_n hx hb dX4_bondState_0 rfl (lv_at hl 0 rfl) ?_
    refine lv_aload_n hx hb dX4_bondState_1 rfl (lv_at hl 0 rfl) ?_
    refine lv_iload_n hx hb dX4_bondState_2 rfl (lv_at hl 1 rfl) ?_
    refine va_calli (va_runV (As := [.int (nI j)]) (rest := [.ref (ad 0)]) ⟨hx, hb, hml, hown, hts⟩ (c_X4_isBond l D cs A ad g L B n b t hn hb5 (nI j)) (cwV 1 hts gX4_bondState_X4_isBond rfl rfl rfl (by decide +kernel) ⟨Nat.le_of_ble_eq_true rfl, Nat.le_of_ble_eq_true rfl⟩) ⟨pM_fb, wb_recv hK hW (r := 0) (Nat.le_of_ble_eq_true rfl) (ci := 5) rfl rfl, fun U hU hV => ⟨rfl, pM_of hK hV.alike hU hW⟩⟩ rfl rfl hl.1 rfl (lv_room (Nat.le_of_ble_eq_true rfl)) dX4_bondState_3 ⟨Nat.zero_le _, Nat.zero_le _⟩) hS (fun _ _ h => h.elim) (fun _ h => h.elim) (fun r_5 u t9 H locs ht hvm hw _ hz1 hk1 hS => ?_)
    have hW := hW.kept hk1
    rcases hw with ⟨rfl, hp_5⟩ | ⟨rfl, hp_5⟩
    ·
      refine lv_iconst (v := 1) hx hb dX4_bondState_6 (by decide) ?_
      refine lv_iconst (v := 1) hx hb dX4_bondState_7 (by decide) ?_
      refine va_calli (va_runV (As := [.int 1, .int 1, .int 1]) (rest := []) ⟨hx, hb, hml, hown, hts⟩ (c_X4_goes l D cs A ad g L B n b t hn hb5 1 1 1) (cwV 3 hts gX4_bondState_X4_goes rfl rfl rfl (by decide +kernel) ⟨Nat.le_of_ble_eq_true rfl, Nat.le_of_ble_eq_true rfl⟩) ⟨pM_fb, wb_recv hK hW (r := 0) (Nat.le_of_ble_eq_true rfl) (ci := 5) rfl rfl, fun U hU hV => ⟨rfl, pM_of hK hV.alike hU hW⟩⟩ rfl rfl hl.1 rfl (lv_room (Nat.le_of_ble_eq_true rfl)) dX4_bondState_8 ⟨Nat.zero_le _, Nat.zero_le _⟩) hS (fun _ _ h => h) (fun _ h => h) (fun r_6 u t9 H locs ht hvm hw hB hz1 hk1 hS => ?_)
      have hW : wP D A lvM ad (ctM cs ad g L B n b 0) H := by rw [← ht]; exact hB
      rcases hw with ⟨rfl, hp_6⟩ | ⟨rfl, hp_6⟩
      ·
        refine lv_if_eq (tgt := 23) hx hb dX4_bondState_11 (by decide) (fun c_7 => ?_) (fun c_7 => ?_)
        · -- 1 eq 0 : True
          exact absurd c_7 (by decide)
        · -- 1 eq 0 : False
          refine lv_aload_n hx hb dX4_bondState_14 rfl (lv_at hl 0 rfl) ?_
          refine wb_get hx hb hts hinX4 hown hK hW 0 (Nat.le_of_ble_eq_true rfl) rfl rfl 14 (by decide) hf44 (fun _ h9 => h9) (v := .ref (ad 9)) rfl dX4_bondState_15 ?_
          refine lv_iload_n hx hb dX4_bondState_18 rfl (lv_at hl 1 rfl) ?_
          refine wb_iald hx hb hK hW 9 (Nat.le_of_ble_eq_true rfl) 0 rfl rfl j rfl (by omega) (by decide) dX4_bondState_19 ?_
          refine lv_goto (tgt := 24) hx hb dX4_bondState_20 (by decide) ?_
          have hk : kIx b (nI j) = 0 := by simp [kIx, (eq_true hx_x), hn_x, (eq_true hp_5), (eq_true hp_6), c_7]
          exact W.iret (v := B 2 j) hx hb hr (fun t9 ht9 hW9 => ⟨⟨_, (), rfl, (by first | (simp only [hk, sel_0, sel_1, sel_2, sel_3, hn_x]; done) | (simp only [hk, sel_0, sel_1, sel_2, sel_3, hn_x]; first | rfl | (simp [(eq_true hx_x), hn_x, (eq_true hp_5), (eq_true hp_6), c_7, upd]; done))), (by dsimp only; rw [ht9]; simp only [hk, sel_0, sel_1, sel_2, sel_3, hn_x]; exact hW)⟩, hS.F ht9⟩) hS.2.2 dX4_bondState_24
      ·
        exact absurd (by decide) hp_6
    ·
      exact absurd hx_x hp_5

set_option maxHeartbeats 4000000 in
set_option maxRecDepth 100000 in
theorem c_X4_dueOf (l : Launch) (D : va_G) (cs : Nat → ClassId) (A : Nat → Prop) (ad : Nat → Nat) (g : Nat → Int32) (L B : Nat → Nat → Int32) (n b : Nat) (t : Int32) (hn : n ≤ 12) (hb5 : b ≤ 5) (x : Int32)  : Met l yX4_dueOf wsX4_dueOf ({ frames := 2, cells := 0, slots := 0, locals := 47 } : Room) (va_Pc [.ref (ad 0), .int x] (pM D cs A ad g L B n b t)) (va_Qi (fun (r9 : Int32) (_ : Unit) => r9 = sel (kIx b x) (B 1 (ixN x)) 0) (fun _ t9 => wP D A lvM ad (ctM cs ad g L B n b (kIx b x)) t9.heap) A) 0 0 A := by
  refine Met.ofW (cc := cX4_dueOf) (maxL := 2) (ret := (some .int)) (by decide) rfl ?_
  intro p e s m args below meth c s₁ BB hml hv
  obtain ⟨rfl, hv⟩ := hv
  obtain ⟨hK, hW⟩ := hv
  have hx := BB.exec
  have hb := BB.bytes
  have hr := BB.returns
  have hts := atoms_spec (ws := wsX4_dueOf) BB.pre
  have hown : s.vm.findClass RX4 = some m.cls := findClass_of_methodNamed BB.named
  have hlocks := BB.notSynchronized
  have hS : va_S A s.heap s.heap [] := va_S.rf
  have hl := lv_entry ([.ref (ad 0), .int x]) (n := 2) (Nat.le_of_ble_eq_true rfl)
  rw [lg_entry_eq]
  generalize (lg_sl ([.ref (ad 0), .int x]) ++ List.replicate (2 - (lg_sl ([.ref (ad 0), .int x])).length) Slot.unset).toArray = ls at hl ⊢
  have hl : lv_has ls 2 [(0, .ref (ad 0)), (1, .int x)] := hl
  have hf41 := hts (.fieldLink RX4 41 "CoverpoolModel" "bondDue" "[I") (by decide +kernel)
  have hinX4 : ∀ w ∈ u_ws RX4 TX4 18, w ∈ wsX4_dueOf := by decide +kernel
  rcases isIx_cases b (by omega) x with hx_x | ⟨j, h_j, rfl⟩
  ·
    refine lv_aload_n hx hb dX4_dueOf_0 rfl (lv_at hl 0 rfl) ?_
    refine lv_aload_n hx hb dX4_dueOf_1 rfl (lv_at hl 0 rfl) ?_
    refine lv_iload_n hx hb dX4_dueOf_2 rfl (lv_at hl 1 rfl) ?_
    refine va_calli (va_runV (As := [.int x]) (rest := [.ref (ad 0)]) ⟨hx, hb, hml, hown, hts⟩ (c_X4_isBond l D cs A ad g L B n b t hn hb5 x) (cwV 1 hts gX4_dueOf_X4_isBond rfl rfl rfl (by decide +kernel) ⟨Nat.le_of_ble_eq_true rfl, Nat.le_of_ble_eq_true rfl⟩) ⟨pM_fb, wb_recv hK hW (r := 0) (Nat.le_of_ble_eq_true rfl) (ci := 5) rfl rfl, fun U hU hV => ⟨rfl, pM_of hK hV.alike hU hW⟩⟩ rfl rfl hl.1 rfl (lv_room (Nat.le_of_ble_eq_true rfl)) dX4_dueOf_3 ⟨Nat.zero_le _, Nat.zero_le _⟩) hS (fun _ _ h => h.elim) (fun _ h => h.elim) (fun r_2 u t9 H locs ht hvm hw _ hz1 hk1 hS => ?_)
    have hW := hW.kept hk1
    rcases hw with ⟨rfl, hp_2⟩ | ⟨rfl, hp_2⟩
    ·
      exact absurd hp_2 hx_x
    ·
      refine lv_iconst (v := 1) hx hb dX4_dueOf_6 (by decide) ?_
      refine lv_iconst (v := 1) hx hb dX4_dueOf_7 (by decide) ?_
      refine va_calli (va_runV (As := [.int 0, .int 1, .int 1]) (rest := []) ⟨hx, hb, hml, hown, hts⟩ (c_X4_goes l D cs A ad g L B n b t hn hb5 0 1 1) (cwV 3 hts gX4_dueOf_X4_goes rfl rfl rfl (by decide +kernel) ⟨Nat.le_of_ble_eq_true rfl, Nat.le_of_ble_eq_true rfl⟩) ⟨pM_fb, wb_recv hK hW (r := 0) (Nat.le_of_ble_eq_true rfl) (ci := 5) rfl rfl, fun U hU hV => ⟨rfl, pM_of hK hV.alike hU hW⟩⟩ rfl rfl hl.1 rfl (lv_room (Nat.le_of_ble_eq_true rfl)) dX4_dueOf_8 ⟨Nat.zero_le _, Nat.zero_le _⟩) hS (fun _ _ h => h) (fun _ h => h) (fun r_3 u t9 H locs ht hvm hw hB hz1 hk1 hS => ?_)
      have hW : wP D A lvM ad (ctM cs ad g L B n b 1) H := by rw [← ht]; exact hB
      rcases hw with ⟨rfl, hp_3⟩ | ⟨rfl, hp_3⟩
      ·
        exact absurd hp_3 (by decide)
      ·
        refine lv_if_eq (tgt := 23) hx hb dX4_dueOf_11 (by decide) (fun c_4 => ?_) (fun c_4 => ?_)
        · -- 0 eq 0 : True
          refine lv_iconst (v := 0) hx hb dX4_dueOf_23 (by decide) ?_
          have hk : kIx b x = 1 := by simp [kIx, (eq_false hx_x), (eq_false hp_2), (eq_false hp_3), c_4]
          exact W.iret (v := 0) hx hb hr (fun t9 ht9 hW9 => ⟨⟨_, (), rfl, (by first | (simp only [hk, sel_0, sel_1, sel_2, sel_3]; done) | (simp only [hk, sel_0, sel_1, sel_2, sel_3]; first | rfl | (simp [(eq_false hx_x), (eq_false hp_2), (eq_false hp_3), c_4, upd]; done))), (by dsimp only; rw [ht9]; simp only [hk, sel_0, sel_1, sel_2, sel_3]; exact hW)⟩, hS.F ht9⟩) hS.2.2 dX4_dueOf_24
        · -- 0 eq 0 : False
          exact absurd c_4 (by decide)
  ·
    have hx_x : isIx b (nI j) := isIx_nI h_j (by omega)
    have hn_x : ixN (nI j) = j := ixN_nI (by omega)
    refine lv_aload_n hx hb dX4_dueOf_0 rfl (lv_at hl 0 rfl) ?_
    refine lv_aload_n hx hb dX4_dueOf_1 rfl (lv_at hl 0 rfl) ?_
    refine lv_iload_n hx hb dX4_dueOf_2 rfl (lv_at hl 1 rfl) ?_
    refine va_calli (va_runV (As := [.int (nI j)]) (rest := [.ref (ad 0)]) ⟨hx, hb, hml, hown, hts⟩ (c_X4_isBond l D cs A ad g L B n b t hn hb5 (nI j)) (cwV 1 hts gX4_dueOf_X4_isBond rfl rfl rfl (by decide +kernel) ⟨Nat.le_of_ble_eq_true rfl, Nat.le_of_ble_eq_true rfl⟩) ⟨pM_fb, wb_recv hK hW (r := 0) (Nat.le_of_ble_eq_true rfl) (ci := 5) rfl rfl, fun U hU hV => ⟨rfl, pM_of hK hV.alike hU hW⟩⟩ rfl rfl hl.1 rfl (lv_room (Nat.le_of_ble_eq_true rfl)) dX4_dueOf_3 ⟨Nat.zero_le _, Nat.zero_le _⟩) hS (fun _ _ h => h.elim) (fun _ h => h.elim) (fun r_5 u t9 H locs ht hvm hw _ hz1 hk1 hS => ?_)
    have hW := hW.kept hk1
    rcases hw with ⟨rfl, hp_5⟩ | ⟨rfl, hp_5⟩
    ·
      refine lv_iconst (v := 1) hx hb dX4_dueOf_6 (by decide) ?_
      refine lv_iconst (v := 1) hx hb dX4_dueOf_7 (by decide) ?_
      refine va_calli (va_runV (As := [.int 1, .int 1, .int 1]) (rest := []) ⟨hx, hb, hml, hown, hts⟩ (c_X4_goes l D cs A ad g L B n b t hn hb5 1 1 1) (cwV 3 hts gX4_dueOf_X4_goes rfl rfl rfl (by decide +kernel) ⟨Nat.le_of_ble_eq_true rfl, Nat.le_of_ble_eq_true rfl⟩) ⟨pM_fb, wb_recv hK hW (r := 0) (Nat.le_of_ble_eq_true rfl) (ci := 5) rfl rfl, fun U hU hV => ⟨rfl, pM_of hK hV.alike hU hW⟩⟩ rfl rfl hl.1 rfl (lv_room (Nat.le_of_ble_eq_true rfl)) dX4_dueOf_8 ⟨Nat.zero_le _, Nat.zero_le _⟩) hS (fun _ _ h => h) (fun _ h => h) (fun r_6 u t9 H locs ht hvm hw hB hz1 hk1 hS => ?_)
      have hW : wP D A lvM ad (ctM cs ad g L B n b 0) H := by rw [← ht]; exact hB
      rcases hw with ⟨rfl, hp_6⟩ | ⟨rfl, hp_6⟩
      ·
        refine lv_if_eq (tgt := 23) hx hb dX4_dueOf_11 (by decide) (fun c_7 => ?_) (fun c_7 => ?_)
        · -- 1 eq 0 : True
          exact absurd c_7 (by decide)
        · -- 1 eq 0 : False
          refine lv_aload_n hx hb dX4_dueOf_14 rfl (lv_at hl 0 rfl) ?_
          refine wb_get hx hb hts hinX4 hown hK hW 0 (Nat.le_of_ble_eq_true rfl) rfl rfl 13 (by decide) hf41 (fun _ h9 => h9) (v := .ref (ad 8)) rfl dX4_dueOf_15 ?_
          refine lv_iload_n hx hb dX4_dueOf_18 rfl (lv_at hl 1 rfl) ?_
          refine wb_iald hx hb hK hW 8 (Nat.le_of_ble_eq_true rfl) 0 rfl rfl j rfl (by omega) (by decide) dX4_dueOf_19 ?_
          refine lv_goto (tgt := 24) hx hb dX4_dueOf_20 (by decide) ?_
          have hk : kIx b (nI j) = 0 := by simp [kIx, (eq_true hx_x), hn_x, (eq_true hp_5), (eq_true hp_6), c_7]
          exact W.iret (v := B 1 j) hx hb hr (fun t9 ht9 hW9 => ⟨⟨_, (), rfl, (by first | (simp only [hk, sel_0, sel_1, sel_2, sel_3, hn_x]; done) | (simp only [hk, sel_0, sel_1, sel_2, sel_3, hn_x]; first | rfl | (simp [(eq_true hx_x), hn_x, (eq_true hp_5), (eq_true hp_6), c_7, upd]; done))), (by dsimp only; rw [ht9]; simp only [hk, sel_0, sel_1, sel_2, sel_3, hn_x]; exact hW)⟩, hS.F ht9⟩) hS.2.2 dX4_dueOf_24
      ·
        exact absurd (by decide) hp_6
    ·
      exact absurd hx_x hp_5

set_option maxHeartbeats 4000000 in
set_option maxRecDepth 100000 in
theorem c_X4_takeCash (l : Launch) (D : va_G) (cs : Nat → ClassId) (A : Nat → Prop) (ad : Nat → Nat) (g : Nat → Int32) (L B : Nat → Nat → Int32) (n b : Nat) (t : Int32) (hn : n ≤ 12) (hb5 : b ≤ 5) (x : Int32)  : Met l yX4_takeCash wsX4_takeCash ({ frames := 2, cells := 0, slots := 0, locals := 47 } : Room) (va_Pc [.ref (ad 0), .int x] (pM D cs A ad g L B n b t)) (va_Qi (fun (r9 : Int32) (_ : Unit) => r9 = sel (kTake g x) (g 1 - x) 0) (fun _ t9 => wP D A lvM ad (ctM cs ad (sel (kTake g x) (upd g 1 (g 1 - x)) g) L B n b (kTake g x)) t9.heap) A) 0 0 A := by
  refine Met.ofW (cc := cX4_takeCash) (maxL := 2) (ret := (some .int)) (by decide) rfl ?_
  intro p e s m args below meth c s₁ BB hml hv
  obtain ⟨rfl, hv⟩ := hv
  obtain ⟨hK, hW⟩ := hv
  have hx := BB.exec
  have hb := BB.bytes
  have hr := BB.returns
  have hts := atoms_spec (ws := wsX4_takeCash) BB.pre
  have hown : s.vm.findClass RX4 = some m.cls := findClass_of_methodNamed BB.named
  have hlocks := BB.notSynchronized
  have hS : va_S A s.heap s.heap [] := va_S.rf
  have hl := lv_entry ([.ref (ad 0), .int x]) (n := 2) (Nat.le_of_ble_eq_true rfl)
  rw [lg_entry_eq]
  generalize (lg_sl ([.ref (ad 0), .int x]) ++ List.replicate (2 - (lg_sl ([.ref (ad 0), .int x])).length) Slot.unset).toArray = ls at hl ⊢
  have hl : lv_has ls 2 [(0, .ref (ad 0)), (1, .int x)] := hl
  have hf64 := hts (.fieldLink RX4 64 "CoverpoolModel" "cash" "I") (by decide +kernel)
  have hinX4 : ∀ w ∈ u_ws RX4 TX4 18, w ∈ wsX4_takeCash := by decide +kernel
  refine lv_aload_n hx hb dX4_takeCash_0 rfl (lv_at hl 0 rfl) ?_
  refine lv_iload_n hx hb dX4_takeCash_1 rfl (lv_at hl 1 rfl) ?_
  refine lv_iconst (v := 1) hx hb dX4_takeCash_2 (by decide) ?_
  refine lv_ldc (v := 100000) hx hb hown (hts (.constant RX4 116 (100000)) (by decide +kernel)) dX4_takeCash_3 ?_
  refine va_calli (va_runS (As := [.int x, .int 1, .int 100000]) (rest := [.ref (ad 0)]) ⟨hx, hb, hml, hown, hts⟩ (c_X4_isWithin l x 1 100000) (va_cwS 3 hts gX4_takeCash_X4_isWithin rfl rfl rfl (by decide +kernel) ⟨Nat.le_of_ble_eq_true rfl, Nat.le_of_ble_eq_true rfl⟩) ⟨pT_fb, fun U hU hV => ⟨rfl, trivial⟩⟩ rfl rfl hl.1 rfl (lv_room (Nat.le_of_ble_eq_true rfl)) dX4_takeCash_5 ⟨Nat.zero_le _, Nat.zero_le _⟩) hS (fun _ _ h => h.elim) (fun _ h => h.elim) (fun r_1 u t9 H locs ht hvm hw _ hz1 hk1 hS => ?_)
  have hW := hW.kept hk1
  rcases hw with ⟨rfl, hp_1⟩ | ⟨rfl, hp_1⟩
  ·
    refine lv_aload_n hx hb dX4_takeCash_8 rfl (lv_at hl 0 rfl) ?_
    refine wb_get hx hb hts hinX4 hown hK hW 0 (Nat.le_of_ble_eq_true rfl) rfl rfl 1 (by decide) hf64 (fun _ h9 => h9) (v := .int (g 1)) rfl dX4_takeCash_9 ?_
    refine lv_iload_n hx hb dX4_takeCash_12 rfl (lv_at hl 1 rfl) ?_
    refine lv_icmp_lt (tgt := 20) hx hb dX4_takeCash_13 (by decide) (fun c_2 => ?_) (fun c_2 => ?_)
    · -- g 1 lt x : True
      refine lv_iconst (v := 0) hx hb dX4_takeCash_20 (by decide) ?_
      refine lv_iconst (v := 1) hx hb dX4_takeCash_21 (by decide) ?_
      refine va_calli (va_runV (As := [.int 1, .int 0, .int 1]) (rest := []) ⟨hx, hb, hml, hown, hts⟩ (c_X4_goes l D cs A ad g L B n b t hn hb5 1 0 1) (cwV 3 hts gX4_takeCash_X4_goes rfl rfl rfl (by decide +kernel) ⟨Nat.le_of_ble_eq_true rfl, Nat.le_of_ble_eq_true rfl⟩) ⟨pM_fb, wb_recv hK hW (r := 0) (Nat.le_of_ble_eq_true rfl) (ci := 5) rfl rfl, fun U hU hV => ⟨rfl, pM_of hK hV.alike hU hW⟩⟩ rfl rfl hl.1 rfl (lv_room (Nat.le_of_ble_eq_true rfl)) dX4_takeCash_22 ⟨Nat.zero_le _, Nat.zero_le _⟩) hS (fun _ _ h => h) (fun _ h => h) (fun r_3 u t9 H locs ht hvm hw hB hz1 hk1 hS => ?_)
      have hW : wP D A lvM ad (ctM cs ad g L B n b 2) H := by rw [← ht]; exact hB
      rcases hw with ⟨rfl, hp_3⟩ | ⟨rfl, hp_3⟩
      ·
        exact absurd hp_3 (by decide)
      ·
        refine lv_if_ne (tgt := 30) hx hb dX4_takeCash_25 (by decide) (fun c_4 => ?_) (fun c_4 => ?_)
        · -- 0 ne 0 : True
          exact absurd c_4 (by decide)
        · -- 0 ne 0 : False
          refine lv_iconst (v := 0) hx hb dX4_takeCash_28 (by decide) ?_
          have hk : kTake g x = 2 := by simp [kTake, (eq_true hp_1), c_2, (eq_false hp_3), c_4]
          exact W.iret (v := 0) hx hb hr (fun t9 ht9 hW9 => ⟨⟨_, (), rfl, (by first | (simp only [hk, sel_0, sel_1, sel_2, sel_3]; done) | (simp only [hk, sel_0, sel_1, sel_2, sel_3]; first | rfl | (simp [(eq_true hp_1), c_2, (eq_false hp_3), c_4, upd]; done))), (by dsimp only; rw [ht9]; simp only [hk, sel_0, sel_1, sel_2, sel_3]; exact hW)⟩, hS.F ht9⟩) hS.2.2 dX4_takeCash_29
    · -- g 1 lt x : False
      refine lv_iconst (v := 1) hx hb dX4_takeCash_16 (by decide) ?_
      refine lv_goto (tgt := 21) hx hb dX4_takeCash_17 (by decide) ?_
      refine lv_iconst (v := 1) hx hb dX4_takeCash_21 (by decide) ?_
      refine va_calli (va_runV (As := [.int 1, .int 1, .int 1]) (rest := []) ⟨hx, hb, hml, hown, hts⟩ (c_X4_goes l D cs A ad g L B n b t hn hb5 1 1 1) (cwV 3 hts gX4_takeCash_X4_goes rfl rfl rfl (by decide +kernel) ⟨Nat.le_of_ble_eq_true rfl, Nat.le_of_ble_eq_true rfl⟩) ⟨pM_fb, wb_recv hK hW (r := 0) (Nat.le_of_ble_eq_true rfl) (ci := 5) rfl rfl, fun U hU hV => ⟨rfl, pM_of hK hV.alike hU hW⟩⟩ rfl rfl hl.1 rfl (lv_room (Nat.le_of_ble_eq_true rfl)) dX4_takeCash_22 ⟨Nat.zero_le _, Nat.zero_le _⟩) hS (fun _ _ h => h) (fun _ h => h) (fun r_5 u t9 H locs ht hvm hw hB hz1 hk1 hS => ?_)
      have hW : wP D A lvM ad (ctM cs ad g L B n b 0) H := by rw [← ht]; exact hB
      rcases hw with ⟨rfl, hp_5⟩ | ⟨rfl, hp_5⟩
      ·
        refine lv_if_ne (tgt := 30) hx hb dX4_takeCash_25 (by decide) (fun c_6 => ?_) (fun c_6 => ?_)
        · -- 1 ne 0 : True
          refine lv_aload_n hx hb dX4_takeCash_30 rfl (lv_at hl 0 rfl) ?_
          refine lv_dup hx hb dX4_takeCash_31 rfl ?_
          refine wb_get hx hb hts hinX4 hown hK hW 0 (Nat.le_of_ble_eq_true rfl) rfl rfl 1 (by decide) hf64 (fun _ h9 => h9) (v := .int (g 1)) rfl dX4_takeCash_32 ?_
          refine lv_iload_n hx hb dX4_takeCash_35 rfl (lv_at hl 1 rfl) ?_
          refine lv_isub hx hb dX4_takeCash_36 ?_
          refine wb_put (v := .int ((g 1) - x)) (ty := .int) hx hb hts hinX4 tyX4 tyX4_ok nmX4 hown hK hW hS 0 (Nat.le_of_ble_eq_true rfl) rfl rfl 1 (by decide) hf64 (fun _ h9 => h9) rfl (by decide +kernel) rfl rfl (Nat.le_of_ble_eq_true rfl) dX4_takeCash_37 (fun H locs hW hS => ?_)
          obtain ⟨g7, hg7⟩ : ∃ z9, z9 = upd g 1 ((g 1) - x) := ⟨_, rfl⟩
          have hW : wP D A lvM ad (ctM cs ad g7 L B n b 0) H := hW.to (fun r hr => ⟨hr, rfl, by subst hg7; rcases lt11 hr with rfl | rfl | rfl | rfl | rfl | rfl | rfl | rfl | rfl | rfl | rfl <;> rfl⟩)
          refine lv_aload_n hx hb dX4_takeCash_40 rfl (lv_at hl 0 rfl) ?_
          refine wb_get hx hb hts hinX4 hown hK hW 0 (Nat.le_of_ble_eq_true rfl) rfl rfl 1 (by decide) hf64 (fun _ h9 => h9) (v := .int (g7 1)) rfl dX4_takeCash_41 ?_
          have hk : kTake g x = 0 := by simp [kTake, (eq_true hp_1), c_2, (eq_true hp_5), c_6, hg7]
          exact W.iret (v := g7 1) hx hb hr (fun t9 ht9 hW9 => ⟨⟨_, (), rfl, (by first | (simp only [hk, sel_0, sel_1, sel_2, sel_3]; done) | (simp only [hk, sel_0, sel_1, sel_2, sel_3]; first | rfl | (simp [(eq_true hp_1), c_2, (eq_true hp_5), c_6, hg7, upd]; done))), (by dsimp only; rw [ht9]; simp only [hk, sel_0, sel_1, sel_2, sel_3]; subst hg7; exact hW)⟩, hS.F ht9⟩) hS.2.2 dX4_takeCash_44
        · -- 1 ne 0 : False
          exact absurd c_6 (by decide)
      ·
        exact absurd (by decide) hp_5
  ·
    refine lv_aload_n hx hb dX4_takeCash_8 rfl (lv_at hl 0 rfl) ?_
    refine wb_get hx hb hts hinX4 hown hK hW 0 (Nat.le_of_ble_eq_true rfl) rfl rfl 1 (by decide) hf64 (fun _ h9 => h9) (v := .int (g 1)) rfl dX4_takeCash_9 ?_
    refine lv_iload_n hx hb dX4_takeCash_12 rfl (lv_at hl 1 rfl) ?_
    refine lv_icmp_lt (tgt := 20) hx hb dX4_takeCash_13 (by decide) (fun c_8 => ?_) (fun c_8 => ?_)
    · -- g 1 lt x : True
      refine lv_iconst (v := 0) hx hb dX4_takeCash_20 (by decide) ?_
      refine lv_iconst (v := 1) hx hb dX4_takeCash_21 (by decide) ?_
      refine va_calli (va_runV (As := [.int 0, .int 0, .int 1]) (rest := []) ⟨hx, hb, hml, hown, hts⟩ (c_X4_goes l D cs A ad g L B n b t hn hb5 0 0 1) (cwV 3 hts gX4_takeCash_X4_goes rfl rfl rfl (by decide +kernel) ⟨Nat.le_of_ble_eq_true rfl, Nat.le_of_ble_eq_true rfl⟩) ⟨pM_fb, wb_recv hK hW (r := 0) (Nat.le_of_ble_eq_true rfl) (ci := 5) rfl rfl, fun U hU hV => ⟨rfl, pM_of hK hV.alike hU hW⟩⟩ rfl rfl hl.1 rfl (lv_room (Nat.le_of_ble_eq_true rfl)) dX4_takeCash_22 ⟨Nat.zero_le _, Nat.zero_le _⟩) hS (fun _ _ h => h) (fun _ h => h) (fun r_9 u t9 H locs ht hvm hw hB hz1 hk1 hS => ?_)
      have hW : wP D A lvM ad (ctM cs ad g L B n b 1) H := by rw [← ht]; exact hB
      rcases hw with ⟨rfl, hp_9⟩ | ⟨rfl, hp_9⟩
      ·
        exact absurd hp_9 (by decide)
      ·
        refine lv_if_ne (tgt := 30) hx hb dX4_takeCash_25 (by decide) (fun c_10 => ?_) (fun c_10 => ?_)
        · -- 0 ne 0 : True
          exact absurd c_10 (by decide)
        · -- 0 ne 0 : False
          refine lv_iconst (v := 0) hx hb dX4_takeCash_28 (by decide) ?_
          have hk : kTake g x = 1 := by simp [kTake, (eq_false hp_1), c_8, (eq_false hp_9), c_10]
          exact W.iret (v := 0) hx hb hr (fun t9 ht9 hW9 => ⟨⟨_, (), rfl, (by first | (simp only [hk, sel_0, sel_1, sel_2, sel_3]; done) | (simp only [hk, sel_0, sel_1, sel_2, sel_3]; first | rfl | (simp [(eq_false hp_1), c_8, (eq_false hp_9), c_10, upd]; done))), (by dsimp only; rw [ht9]; simp only [hk, sel_0, sel_1, sel_2, sel_3]; exact hW)⟩, hS.F ht9⟩) hS.2.2 dX4_takeCash_29
    · -- g 1 lt x : False
      refine lv_iconst (v := 1) hx hb dX4_takeCash_16 (by decide) ?_
      refine lv_goto (tgt := 21) hx hb dX4_takeCash_17 (by decide) ?_
      refine lv_iconst (v := 1) hx hb dX4_takeCash_21 (by decide) ?_
      refine va_calli (va_runV (As := [.int 0, .int 1, .int 1]) (rest := []) ⟨hx, hb, hml, hown, hts⟩ (c_X4_goes l D cs A ad g L B n b t hn hb5 0 1 1) (cwV 3 hts gX4_takeCash_X4_goes rfl rfl rfl (by decide +kernel) ⟨Nat.le_of_ble_eq_true rfl, Nat.le_of_ble_eq_true rfl⟩) ⟨pM_fb, wb_recv hK hW (r := 0) (Nat.le_of_ble_eq_true rfl) (ci := 5) rfl rfl, fun U hU hV => ⟨rfl, pM_of hK hV.alike hU hW⟩⟩ rfl rfl hl.1 rfl (lv_room (Nat.le_of_ble_eq_true rfl)) dX4_takeCash_22 ⟨Nat.zero_le _, Nat.zero_le _⟩) hS (fun _ _ h => h) (fun _ h => h) (fun r_11 u t9 H locs ht hvm hw hB hz1 hk1 hS => ?_)
      have hW : wP D A lvM ad (ctM cs ad g L B n b 1) H := by rw [← ht]; exact hB
      rcases hw with ⟨rfl, hp_11⟩ | ⟨rfl, hp_11⟩
      ·
        exact absurd hp_11 (by decide)
      ·
        refine lv_if_ne (tgt := 30) hx hb dX4_takeCash_25 (by decide) (fun c_12 => ?_) (fun c_12 => ?_)
        · -- 0 ne 0 : True
          exact absurd c_12 (by decide)
        · -- 0 ne 0 : False
          refine lv_iconst (v := 0) hx hb dX4_takeCash_28 (by decide) ?_
          have hk : kTake g x = 1 := by simp [kTake, (eq_false hp_1), c_8, (eq_false hp_11), c_12]
          exact W.iret (v := 0) hx hb hr (fun t9 ht9 hW9 => ⟨⟨_, (), rfl, (by first | (simp only [hk, sel_0, sel_1, sel_2, sel_3]; done) | (simp only [hk, sel_0, sel_1, sel_2, sel_3]; first | rfl | (simp [(eq_false hp_1), c_8, (eq_false hp_11), c_12, upd]; done))), (by dsimp only; rw [ht9]; simp only [hk, sel_0, sel_1, sel_2, sel_3]; exact hW)⟩, hS.F ht9⟩) hS.2.2 dX4_takeCash_29

set_option maxHeartbeats 4000000 in
set_option maxRecDepth 100000 in
theorem c_X4_setRules (l : Launch) (D : va_G) (cs : Nat → ClassId) (A : Nat → Prop) (ad : Nat → Nat) (g : Nat → Int32) (L B : Nat → Nat → Int32) (n b : Nat) (t : Int32) (hn : n ≤ 12) (hb5 : b ≤ 5) (x : Int32) (y : Int32) (z : Int32)  : Met l yX4_setRules wsX4_setRules ({ frames := 2, cells := 0, slots := 0, locals := 47 } : Room) (va_Pc [.ref (ad 0), .int x, .int y, .int z] (pM D cs A ad g L B n b t)) (va_Qv (fun (_ : Unit) => True) (fun _ t9 => wP D A lvM ad (ctM cs ad (sel (kRules x y z) (rulesG g x y z) g) L B n b (kRules x y z)) t9.heap) A) 0 0 A := by
  refine Met.ofW (cc := cX4_setRules) (maxL := 4) (ret := none) (by decide) rfl ?_
  intro p e s m args below meth c s₁ BB hml hv
  obtain ⟨rfl, hv⟩ := hv
  obtain ⟨hK, hW⟩ := hv
  have hx := BB.exec
  have hb := BB.bytes
  have hr := BB.returns
  have hts := atoms_spec (ws := wsX4_setRules) BB.pre
  have hown : s.vm.findClass RX4 = some m.cls := findClass_of_methodNamed BB.named
  have hlocks := BB.notSynchronized
  have hS : va_S A s.heap s.heap [] := va_S.rf
  have hl := lv_entry ([.ref (ad 0), .int x, .int y, .int z]) (n := 4) (Nat.le_of_ble_eq_true rfl)
  rw [lg_entry_eq]
  generalize (lg_sl ([.ref (ad 0), .int x, .int y, .int z]) ++ List.replicate (4 - (lg_sl ([.ref (ad 0), .int x, .int y, .int z])).length) Slot.unset).toArray = ls at hl ⊢
  have hl : lv_has ls 4 [(0, .ref (ad 0)), (1, .int x), (2, .int y), (3, .int z)] := hl
  have hf7 := hts (.fieldLink RX4 7 "CoverpoolModel" "greatest" "I") (by decide +kernel)
  have hf13 := hts (.fieldLink RX4 13 "CoverpoolModel" "cover" "I") (by decide +kernel)
  have hf16 := hts (.fieldLink RX4 16 "CoverpoolModel" "stress" "I") (by decide +kernel)
  have hinX4 : ∀ w ∈ u_ws RX4 TX4 18, w ∈ wsX4_setRules := by decide +kernel
  refine lv_aload_n hx hb dX4_setRules_0 rfl (lv_at hl 0 rfl) ?_
  refine lv_iload_n hx hb dX4_setRules_1 rfl (lv_at hl 1 rfl) ?_
  refine lv_iconst (v := 1) hx hb dX4_setRules_2 (by decide) ?_
  refine lv_iconst (v := 5) hx hb dX4_setRules_3 (by decide) ?_
  refine va_calli (va_runS (As := [.int x, .int 1, .int 5]) (rest := [.ref (ad 0)]) ⟨hx, hb, hml, hown, hts⟩ (c_X4_isWithin l x 1 5) (va_cwS 3 hts gX4_setRules_X4_isWithin rfl rfl rfl (by decide +kernel) ⟨Nat.le_of_ble_eq_true rfl, Nat.le_of_ble_eq_true rfl⟩) ⟨pT_fb, fun U hU hV => ⟨rfl, trivial⟩⟩ rfl rfl hl.1 rfl (lv_room (Nat.le_of_ble_eq_true rfl)) dX4_setRules_4 ⟨Nat.zero_le _, Nat.zero_le _⟩) hS (fun _ _ h => h.elim) (fun _ h => h.elim) (fun r_1 u t9 H locs ht hvm hw _ hz1 hk1 hS => ?_)
  have hW := hW.kept hk1
  rcases hw with ⟨rfl, hp_1⟩ | ⟨rfl, hp_1⟩
  ·
    refine lv_if_eq (tgt := 34) hx hb dX4_setRules_7 (by decide) (fun c_2 => ?_) (fun c_2 => ?_)
    · -- 1 eq 0 : True
      exact absurd c_2 (by decide)
    · -- 1 eq 0 : False
      refine lv_iload_n hx hb dX4_setRules_10 rfl (lv_at hl 2 rfl) ?_
      refine lv_iconst (v := 0) hx hb dX4_setRules_11 (by decide) ?_
      refine lv_bipush (v := 50) hx hb dX4_setRules_12 (by decide) ?_
      refine va_calli (va_runS (As := [.int y, .int 0, .int 50]) (rest := [.ref (ad 0)]) ⟨hx, hb, hml, hown, hts⟩ (c_X4_isWithin l y 0 50) (va_cwS 3 hts gX4_setRules_X4_isWithin rfl rfl rfl (by decide +kernel) ⟨Nat.le_of_ble_eq_true rfl, Nat.le_of_ble_eq_true rfl⟩) ⟨pT_fb, fun U hU hV => ⟨rfl, trivial⟩⟩ rfl rfl hl.1 rfl (lv_room (Nat.le_of_ble_eq_true rfl)) dX4_setRules_14 ⟨Nat.zero_le _, Nat.zero_le _⟩) hS (fun _ _ h => h.elim) (fun _ h => h.elim) (fun r_3 u t9 H locs ht hvm hw _ hz1 hk1 hS => ?_)
      have hW := hW.kept hk1
      rcases hw with ⟨rfl, hp_3⟩ | ⟨rfl, hp_3⟩
      ·
        refine lv_if_eq (tgt := 34) hx hb dX4_setRules_17 (by decide) (fun c_4 => ?_) (fun c_4 => ?_)
        · -- 1 eq 0 : True
          exact absurd c_4 (by decide)
        · -- 1 eq 0 : False
          refine lv_iload_n hx hb dX4_setRules_20 rfl (lv_at hl 3 rfl) ?_
          refine lv_iconst (v := 0) hx hb dX4_setRules_21 (by decide) ?_
          refine lv_bipush (v := 20) hx hb dX4_setRules_22 (by decide) ?_
          refine va_calli (va_runS (As := [.int z, .int 0, .int 20]) (rest := [.ref (ad 0)]) ⟨hx, hb, hml, hown, hts⟩ (c_X4_isWithin l z 0 20) (va_cwS 3 hts gX4_setRules_X4_isWithin rfl rfl rfl (by decide +kernel) ⟨Nat.le_of_ble_eq_true rfl, Nat.le_of_ble_eq_true rfl⟩) ⟨pT_fb, fun U hU hV => ⟨rfl, trivial⟩⟩ rfl rfl hl.1 rfl (lv_room (Nat.le_of_ble_eq_true rfl)) dX4_setRules_24 ⟨Nat.zero_le _, Nat.zero_le _⟩) hS (fun _ _ h => h.elim) (fun _ h => h.elim) (fun r_5 u t9 H locs ht hvm hw _ hz1 hk1 hS => ?_)
          have hW := hW.kept hk1
          rcases hw with ⟨rfl, hp_5⟩ | ⟨rfl, hp_5⟩
          ·
            refine lv_if_eq (tgt := 34) hx hb dX4_setRules_27 (by decide) (fun c_6 => ?_) (fun c_6 => ?_)
            · -- 1 eq 0 : True
              exact absurd c_6 (by decide)
            · -- 1 eq 0 : False
              refine lv_iconst (v := 1) hx hb dX4_setRules_30 (by decide) ?_
              refine lv_goto (tgt := 35) hx hb dX4_setRules_31 (by decide) ?_
              refine lv_iconst (v := 1) hx hb dX4_setRules_35 (by decide) ?_
              refine lv_iconst (v := 1) hx hb dX4_setRules_36 (by decide) ?_
              refine va_calli (va_runV (As := [.int 1, .int 1, .int 1]) (rest := []) ⟨hx, hb, hml, hown, hts⟩ (c_X4_goes l D cs A ad g L B n b t hn hb5 1 1 1) (cwV 3 hts gX4_setRules_X4_goes rfl rfl rfl (by decide +kernel) ⟨Nat.le_of_ble_eq_true rfl, Nat.le_of_ble_eq_true rfl⟩) ⟨pM_fb, wb_recv hK hW (r := 0) (Nat.le_of_ble_eq_true rfl) (ci := 5) rfl rfl, fun U hU hV => ⟨rfl, pM_of hK hV.alike hU hW⟩⟩ rfl rfl hl.1 rfl (lv_room (Nat.le_of_ble_eq_true rfl)) dX4_setRules_37 ⟨Nat.zero_le _, Nat.zero_le _⟩) hS (fun _ _ h => h) (fun _ h => h) (fun r_7 u t9 H locs ht hvm hw hB hz1 hk1 hS => ?_)
              have hW : wP D A lvM ad (ctM cs ad g L B n b 0) H := by rw [← ht]; exact hB
              rcases hw with ⟨rfl, hp_7⟩ | ⟨rfl, hp_7⟩
              ·
                refine lv_if_eq (tgt := 58) hx hb dX4_setRules_40 (by decide) (fun c_8 => ?_) (fun c_8 => ?_)
                · -- 1 eq 0 : True
                  exact absurd c_8 (by decide)
                · -- 1 eq 0 : False
                  refine lv_aload_n hx hb dX4_setRules_43 rfl (lv_at hl 0 rfl) ?_
                  refine lv_iload_n hx hb dX4_setRules_44 rfl (lv_at hl 1 rfl) ?_
                  refine wb_put (v := .int x) (ty := .int) hx hb hts hinX4 tyX4 tyX4_ok nmX4 hown hK hW hS 0 (Nat.le_of_ble_eq_true rfl) rfl rfl 2 (by decide) hf7 (fun _ h9 => h9) rfl (by decide +kernel) rfl rfl (Nat.le_of_ble_eq_true rfl) dX4_setRules_45 (fun H locs hW hS => ?_)
                  obtain ⟨g9, hg9⟩ : ∃ z9, z9 = upd g 2 x := ⟨_, rfl⟩
                  have hW : wP D A lvM ad (ctM cs ad g9 L B n b 0) H := hW.to (fun r hr => ⟨hr, rfl, by subst hg9; rcases lt11 hr with rfl | rfl | rfl | rfl | rfl | rfl | rfl | rfl | rfl | rfl | rfl <;> rfl⟩)
                  refine lv_aload_n hx hb dX4_setRules_48 rfl (lv_at hl 0 rfl) ?_
                  refine lv_iload_n hx hb dX4_setRules_49 rfl (lv_at hl 2 rfl) ?_
                  refine wb_put (v := .int y) (ty := .int) hx hb hts hinX4 tyX4 tyX4_ok nmX4 hown hK hW hS 0 (Nat.le_of_ble_eq_true rfl) rfl rfl 3 (by decide) hf13 (fun _ h9 => h9) rfl (by decide +kernel) rfl rfl (Nat.le_of_ble_eq_true rfl) dX4_setRules_50 (fun H locs hW hS => ?_)
                  obtain ⟨g10, hg10⟩ : ∃ z9, z9 = upd g9 3 y := ⟨_, rfl⟩
                  have hW : wP D A lvM ad (ctM cs ad g10 L B n b 0) H := hW.to (fun r hr => ⟨hr, rfl, by subst hg10; rcases lt11 hr with rfl | rfl | rfl | rfl | rfl | rfl | rfl | rfl | rfl | rfl | rfl <;> rfl⟩)
                  refine lv_aload_n hx hb dX4_setRules_53 rfl (lv_at hl 0 rfl) ?_
                  refine lv_iload_n hx hb dX4_setRules_54 rfl (lv_at hl 3 rfl) ?_
                  refine wb_put (v := .int z) (ty := .int) hx hb hts hinX4 tyX4 tyX4_ok nmX4 hown hK hW hS 0 (Nat.le_of_ble_eq_true rfl) rfl rfl 4 (by decide) hf16 (fun _ h9 => h9) rfl (by decide +kernel) rfl rfl (Nat.le_of_ble_eq_true rfl) dX4_setRules_55 (fun H locs hW hS => ?_)
                  obtain ⟨g11, hg11⟩ : ∃ z9, z9 = upd g10 4 z := ⟨_, rfl⟩
                  have hW : wP D A lvM ad (ctM cs ad g11 L B n b 0) H := hW.to (fun r hr => ⟨hr, rfl, by subst hg11; rcases lt11 hr with rfl | rfl | rfl | rfl | rfl | rfl | rfl | rfl | rfl | rfl | rfl <;> rfl⟩)
                  have hk : kRules x y z = 0 := by simp [kRules, (eq_true hp_1), c_2, (eq_true hp_3), c_4, (eq_true hp_5), c_6, (eq_true hp_7), c_8, hg9, hg10, hg11]
                  exact W.vret hx hb hr (fun t9 ht9 hW9 => ⟨⟨(), rfl, trivial, (by dsimp only; rw [ht9]; simp only [hk, sel_0, sel_1, sel_2, sel_3]; subst hg11 hg10 hg9; exact hW)⟩, hS.F ht9⟩) hS.2.2 dX4_setRules_58
              ·
                exact absurd (by decide) hp_7
          ·
            refine lv_if_eq (tgt := 34) hx hb dX4_setRules_27 (by decide) (fun c_12 => ?_) (fun c_12 => ?_)
            · -- 0 eq 0 : True
              refine lv_iconst (v := 0) hx hb dX4_setRules_34 (by decide) ?_
              refine lv_iconst (v := 1) hx hb dX4_setRules_35 (by decide) ?_
              refine lv_iconst (v := 1) hx hb dX4_setRules_36 (by decide) ?_
              refine va_calli (va_runV (As := [.int 0, .int 1, .int 1]) (rest := []) ⟨hx, hb, hml, hown, hts⟩ (c_X4_goes l D cs A ad g L B n b t hn hb5 0 1 1) (cwV 3 hts gX4_setRules_X4_goes rfl rfl rfl (by decide +kernel) ⟨Nat.le_of_ble_eq_true rfl, Nat.le_of_ble_eq_true rfl⟩) ⟨pM_fb, wb_recv hK hW (r := 0) (Nat.le_of_ble_eq_true rfl) (ci := 5) rfl rfl, fun U hU hV => ⟨rfl, pM_of hK hV.alike hU hW⟩⟩ rfl rfl hl.1 rfl (lv_room (Nat.le_of_ble_eq_true rfl)) dX4_setRules_37 ⟨Nat.zero_le _, Nat.zero_le _⟩) hS (fun _ _ h => h) (fun _ h => h) (fun r_13 u t9 H locs ht hvm hw hB hz1 hk1 hS => ?_)
              have hW : wP D A lvM ad (ctM cs ad g L B n b 1) H := by rw [← ht]; exact hB
              rcases hw with ⟨rfl, hp_13⟩ | ⟨rfl, hp_13⟩
              ·
                exact absurd hp_13 (by decide)
              ·
                refine lv_if_eq (tgt := 58) hx hb dX4_setRules_40 (by decide) (fun c_14 => ?_) (fun c_14 => ?_)
                · -- 0 eq 0 : True
                  have hk : kRules x y z = 1 := by simp [kRules, (eq_true hp_1), c_2, (eq_true hp_3), c_4, (eq_false hp_5), c_12, (eq_false hp_13), c_14]
                  exact W.vret hx hb hr (fun t9 ht9 hW9 => ⟨⟨(), rfl, trivial, (by dsimp only; rw [ht9]; simp only [hk, sel_0, sel_1, sel_2, sel_3]; exact hW)⟩, hS.F ht9⟩) hS.2.2 dX4_setRules_58
                · -- 0 eq 0 : False
                  exact absurd c_14 (by decide)
            · -- 0 eq 0 : False
              exact absurd c_12 (by decide)
      ·
        refine lv_if_eq (tgt := 34) hx hb dX4_setRules_17 (by decide) (fun c_15 => ?_) (fun c_15 => ?_)
        · -- 0 eq 0 : True
          refine lv_iconst (v := 0) hx hb dX4_setRules_34 (by decide) ?_
          refine lv_iconst (v := 1) hx hb dX4_setRules_35 (by decide) ?_
          refine lv_iconst (v := 1) hx hb dX4_setRules_36 (by decide) ?_
          refine va_calli (va_runV (As := [.int 0, .int 1, .int 1]) (rest := []) ⟨hx, hb, hml, hown, hts⟩ (c_X4_goes l D cs A ad g L B n b t hn hb5 0 1 1) (cwV 3 hts gX4_setRules_X4_goes rfl rfl rfl (by decide +kernel) ⟨Nat.le_of_ble_eq_true rfl, Nat.le_of_ble_eq_true rfl⟩) ⟨pM_fb, wb_recv hK hW (r := 0) (Nat.le_of_ble_eq_true rfl) (ci := 5) rfl rfl, fun U hU hV => ⟨rfl, pM_of hK hV.alike hU hW⟩⟩ rfl rfl hl.1 rfl (lv_room (Nat.le_of_ble_eq_true rfl)) dX4_setRules_37 ⟨Nat.zero_le _, Nat.zero_le _⟩) hS (fun _ _ h => h) (fun _ h => h) (fun r_16 u t9 H locs ht hvm hw hB hz1 hk1 hS => ?_)
          have hW : wP D A lvM ad (ctM cs ad g L B n b 1) H := by rw [← ht]; exact hB
          rcases hw with ⟨rfl, hp_16⟩ | ⟨rfl, hp_16⟩
          ·
            exact absurd hp_16 (by decide)
          ·
            refine lv_if_eq (tgt := 58) hx hb dX4_setRules_40 (by decide) (fun c_17 => ?_) (fun c_17 => ?_)
            · -- 0 eq 0 : True
              have hk : kRules x y z = 1 := by simp [kRules, (eq_true hp_1), c_2, (eq_false hp_3), c_15, (eq_false hp_16), c_17]
              exact W.vret hx hb hr (fun t9 ht9 hW9 => ⟨⟨(), rfl, trivial, (by dsimp only; rw [ht9]; simp only [hk, sel_0, sel_1, sel_2, sel_3]; exact hW)⟩, hS.F ht9⟩) hS.2.2 dX4_setRules_58
            · -- 0 eq 0 : False
              exact absurd c_17 (by decide)
        · -- 0 eq 0 : False
          exact absurd c_15 (by decide)
  ·
    refine lv_if_eq (tgt := 34) hx hb dX4_setRules_7 (by decide) (fun c_18 => ?_) (fun c_18 => ?_)
    · -- 0 eq 0 : True
      refine lv_iconst (v := 0) hx hb dX4_setRules_34 (by decide) ?_
      refine lv_iconst (v := 1) hx hb dX4_setRules_35 (by decide) ?_
      refine lv_iconst (v := 1) hx hb dX4_setRules_36 (by decide) ?_
      refine va_calli (va_runV (As := [.int 0, .int 1, .int 1]) (rest := []) ⟨hx, hb, hml, hown, hts⟩ (c_X4_goes l D cs A ad g L B n b t hn hb5 0 1 1) (cwV 3 hts gX4_setRules_X4_goes rfl rfl rfl (by decide +kernel) ⟨Nat.le_of_ble_eq_true rfl, Nat.le_of_ble_eq_true rfl⟩) ⟨pM_fb, wb_recv hK hW (r := 0) (Nat.le_of_ble_eq_true rfl) (ci := 5) rfl rfl, fun U hU hV => ⟨rfl, pM_of hK hV.alike hU hW⟩⟩ rfl rfl hl.1 rfl (lv_room (Nat.le_of_ble_eq_true rfl)) dX4_setRules_37 ⟨Nat.zero_le _, Nat.zero_le _⟩) hS (fun _ _ h => h) (fun _ h => h) (fun r_19 u t9 H locs ht hvm hw hB hz1 hk1 hS => ?_)
      have hW : wP D A lvM ad (ctM cs ad g L B n b 1) H := by rw [← ht]; exact hB
      rcases hw with ⟨rfl, hp_19⟩ | ⟨rfl, hp_19⟩
      ·
        exact absurd hp_19 (by decide)
      ·
        refine lv_if_eq (tgt := 58) hx hb dX4_setRules_40 (by decide) (fun c_20 => ?_) (fun c_20 => ?_)
        · -- 0 eq 0 : True
          have hk : kRules x y z = 1 := by simp [kRules, (eq_false hp_1), c_18, (eq_false hp_19), c_20]
          exact W.vret hx hb hr (fun t9 ht9 hW9 => ⟨⟨(), rfl, trivial, (by dsimp only; rw [ht9]; simp only [hk, sel_0, sel_1, sel_2, sel_3]; exact hW)⟩, hS.F ht9⟩) hS.2.2 dX4_setRules_58
        · -- 0 eq 0 : False
          exact absurd c_20 (by decide)
    · -- 0 eq 0 : False
      exact absurd c_18 (by decide)

set_option maxHeartbeats 4000000 in
set_option maxRecDepth 100000 in
theorem c_X4_holds (l : Launch) (D : va_G) (cs : Nat → ClassId) (A : Nat → Prop) (ad : Nat → Nat) (g : Nat → Int32) (L B : Nat → Nat → Int32) (n b : Nat) (t : Int32) (hn : n ≤ 12) (hb5 : b ≤ 5) (x : Int32) (dv0 : dvOK g L B n b 0) (dvs : dvOK g L B n b (g 4)) : Met l yX4_holds wsX4_holds ({ frames := 5, cells := 0, slots := 0, locals := 118 } : Room) (va_Pc [.ref (ad 0), .int x] (pM D cs A ad g L B n b t)) (va_Qi (fun (r9 : Int32) (_ : Unit) => (r9 = 1 ∧ (kIn 0 2 x = 0 ∧ mLack g L B n b x (mPool L 1 n) = 0)) ∨ (r9 = 0 ∧ ¬ (kIn 0 2 x = 0 ∧ mLack g L B n b x (mPool L 1 n) = 0))) (fun _ t9 => wP D A lvM ad (ctM cs ad g L B n b (kIn 0 2 x)) t9.heap) A) 0 0 A := by
  refine Met.ofW (cc := cX4_holds) (maxL := 2) (ret := (some .boolean)) (by decide) rfl ?_
  intro p e s m args below meth c s₁ BB hml hv
  obtain ⟨rfl, hv⟩ := hv
  obtain ⟨hK, hW⟩ := hv
  have hx := BB.exec
  have hb := BB.bytes
  have hr := BB.returns
  have hts := atoms_spec (ws := wsX4_holds) BB.pre
  have hown : s.vm.findClass RX4 = some m.cls := findClass_of_methodNamed BB.named
  have hlocks := BB.notSynchronized
  have hS : va_S A s.heap s.heap [] := va_S.rf
  have hl := lv_entry ([.ref (ad 0), .int x]) (n := 2) (Nat.le_of_ble_eq_true rfl)
  rw [lg_entry_eq]
  generalize (lg_sl ([.ref (ad 0), .int x]) ++ List.replicate (2 - (lg_sl ([.ref (ad 0), .int x])).length) Slot.unset).toArray = ls at hl ⊢
  have hl : lv_has ls 2 [(0, .ref (ad 0)), (1, .int x)] := hl
  refine lv_aload_n hx hb dX4_holds_0 rfl (lv_at hl 0 rfl) ?_
  refine lv_iload_n hx hb dX4_holds_1 rfl (lv_at hl 1 rfl) ?_
  refine lv_iconst (v := 0) hx hb dX4_holds_2 (by decide) ?_
  refine lv_iconst (v := 2) hx hb dX4_holds_3 (by decide) ?_
  refine va_calli (va_runS (As := [.int x, .int 0, .int 2]) (rest := [.ref (ad 0)]) ⟨hx, hb, hml, hown, hts⟩ (c_X4_isWithin l x 0 2) (va_cwS 3 hts gX4_holds_X4_isWithin rfl rfl rfl (by decide +kernel) ⟨Nat.le_of_ble_eq_true rfl, Nat.le_of_ble_eq_true rfl⟩) ⟨pT_fb, fun U hU hV => ⟨rfl, trivial⟩⟩ rfl rfl hl.1 rfl (lv_room (Nat.le_of_ble_eq_true rfl)) dX4_holds_4 ⟨Nat.zero_le _, Nat.zero_le _⟩) hS (fun _ _ h => h.elim) (fun _ h => h.elim) (fun r_1 u t9 H locs ht hvm hw _ hz1 hk1 hS => ?_)
  have hW := hW.kept hk1
  rcases hw with ⟨rfl, hp_1⟩ | ⟨rfl, hp_1⟩
  ·
    refine lv_iconst (v := 1) hx hb dX4_holds_7 (by decide) ?_
    refine lv_iconst (v := 1) hx hb dX4_holds_8 (by decide) ?_
    refine va_calli (va_runV (As := [.int 1, .int 1, .int 1]) (rest := []) ⟨hx, hb, hml, hown, hts⟩ (c_X4_goes l D cs A ad g L B n b t hn hb5 1 1 1) (cwV 3 hts gX4_holds_X4_goes rfl rfl rfl (by decide +kernel) ⟨Nat.le_of_ble_eq_true rfl, Nat.le_of_ble_eq_true rfl⟩) ⟨pM_fb, wb_recv hK hW (r := 0) (Nat.le_of_ble_eq_true rfl) (ci := 5) rfl rfl, fun U hU hV => ⟨rfl, pM_of hK hV.alike hU hW⟩⟩ rfl rfl hl.1 rfl (lv_room (Nat.le_of_ble_eq_true rfl)) dX4_holds_9 ⟨Nat.zero_le _, Nat.zero_le _⟩) hS (fun _ _ h => h) (fun _ h => h) (fun r_2 u t9 H locs ht hvm hw hB hz1 hk1 hS => ?_)
    have hW : wP D A lvM ad (ctM cs ad g L B n b 0) H := by rw [← ht]; exact hB
    rcases hw with ⟨rfl, hp_2⟩ | ⟨rfl, hp_2⟩
    ·
      refine lv_if_eq (tgt := 33) hx hb dX4_holds_12 (by decide) (fun c_3 => ?_) (fun c_3 => ?_)
      · -- 1 eq 0 : True
        exact absurd c_3 (by decide)
      · -- 1 eq 0 : False
        refine lv_aload_n hx hb dX4_holds_15 rfl (lv_at hl 0 rfl) ?_
        refine lv_iload_n hx hb dX4_holds_16 rfl (lv_at hl 1 rfl) ?_
        refine lv_aload_n hx hb dX4_holds_17 rfl (lv_at hl 0 rfl) ?_
        refine va_calli (va_runV (As := []) (rest := [.int x, .ref (ad 0)]) ⟨hx, hb, hml, hown, hts⟩ (c_X4_pool l D cs A ad g L B n b 0 hn hb5 ) (cwV 0 hts gX4_holds_X4_pool rfl rfl rfl (by decide +kernel) ⟨Nat.le_of_ble_eq_true rfl, Nat.le_of_ble_eq_true rfl⟩) ⟨pM_fb, wb_recv hK hW (r := 0) (Nat.le_of_ble_eq_true rfl) (ci := 5) rfl rfl, fun U hU hV => ⟨rfl, pM_of hK hV.alike hU hW⟩⟩ rfl rfl hl.1 rfl (lv_room (Nat.le_of_ble_eq_true rfl)) dX4_holds_18 ⟨Nat.zero_le _, Nat.zero_le _⟩) hS (fun _ _ h => h.elim) (fun _ h => h.elim) (fun r_4 u t9 H locs ht hvm hw _ hz1 hk1 hS => ?_)
        have hW := hW.kept hk1
        subst hw
        refine va_calll (va_runV (As := [.int x, .int (mPool L 1 n)]) (rest := []) ⟨hx, hb, hml, hown, hts⟩ (c_X4_lack l D cs A ad g L B n b 0 hn hb5 x (mPool L 1 n) dv0 dvs) (cwV 2 hts gX4_holds_X4_lack rfl rfl rfl (by decide +kernel) ⟨Nat.le_of_ble_eq_true rfl, Nat.le_of_ble_eq_true rfl⟩) ⟨pM_fb, wb_recv hK hW (r := 0) (Nat.le_of_ble_eq_true rfl) (ci := 5) rfl rfl, fun U hU hV => ⟨rfl, pM_of hK hV.alike hU hW⟩⟩ rfl rfl hl.1 rfl (lv_room (Nat.le_of_ble_eq_true rfl)) dX4_holds_21 ⟨Nat.zero_le _, Nat.zero_le _⟩) hS (fun _ _ h => h.elim) (fun _ h => h.elim) (fun r_5 u t9 H locs ht hvm hw _ hz1 hk1 hS => ?_)
        have hW := hW.kept hk1
        subst hw
        refine lv_lconst (v := 0) hx hb dX4_holds_24 (by decide) ?_
        refine W.lcmp hx hb dX4_holds_25 ?_
        refine lv_if_ne (tgt := 33) hx hb dX4_holds_26 (by decide) (fun c_6 => ?_) (fun c_6 => ?_)
        · -- lg_cmp (mLack g L B n b x (mPool L 1 n)) 0 ne 0 : True
          rw [lg0_eq] at c_6
          refine lv_iconst (v := 0) hx hb dX4_holds_33 (by decide) ?_
          have hk : kIn 0 2 x = 0 := by simp [kIn, (eq_true hp_1), (eq_true hp_2), c_3, c_6]
          exact W.zret (ty := .boolean) (v := 0) hx hb hr (by decide) (fun t9 ht9 hW9 => ⟨⟨_, (), rfl, Or.inr ⟨rfl, fun q => c_6 q.2⟩, (by dsimp only; rw [ht9]; simp only [hk, sel_0, sel_1, sel_2, sel_3]; exact hW)⟩, hS.F ht9⟩) hS.2.2 dX4_holds_34
        · -- lg_cmp (mLack g L B n b x (mPool L 1 n)) 0 ne 0 : False
          rw [lg0_eq] at c_6
          refine lv_iconst (v := 1) hx hb dX4_holds_29 (by decide) ?_
          refine lv_goto (tgt := 34) hx hb dX4_holds_30 (by decide) ?_
          have hk : kIn 0 2 x = 0 := by simp [kIn, (eq_true hp_1), (eq_true hp_2), c_3, c_6]
          exact W.zret (ty := .boolean) (v := 1) hx hb hr (by decide) (fun t9 ht9 hW9 => ⟨⟨_, (), rfl, Or.inl ⟨rfl, hk, c_6⟩, (by dsimp only; rw [ht9]; simp only [hk, sel_0, sel_1, sel_2, sel_3]; exact hW)⟩, hS.F ht9⟩) hS.2.2 dX4_holds_34
    ·
      exact absurd (by decide) hp_2
  ·
    refine lv_iconst (v := 1) hx hb dX4_holds_7 (by decide) ?_
    refine lv_iconst (v := 1) hx hb dX4_holds_8 (by decide) ?_
    refine va_calli (va_runV (As := [.int 0, .int 1, .int 1]) (rest := []) ⟨hx, hb, hml, hown, hts⟩ (c_X4_goes l D cs A ad g L B n b t hn hb5 0 1 1) (cwV 3 hts gX4_holds_X4_goes rfl rfl rfl (by decide +kernel) ⟨Nat.le_of_ble_eq_true rfl, Nat.le_of_ble_eq_true rfl⟩) ⟨pM_fb, wb_recv hK hW (r := 0) (Nat.le_of_ble_eq_true rfl) (ci := 5) rfl rfl, fun U hU hV => ⟨rfl, pM_of hK hV.alike hU hW⟩⟩ rfl rfl hl.1 rfl (lv_room (Nat.le_of_ble_eq_true rfl)) dX4_holds_9 ⟨Nat.zero_le _, Nat.zero_le _⟩) hS (fun _ _ h => h) (fun _ h => h) (fun r_7 u t9 H locs ht hvm hw hB hz1 hk1 hS => ?_)
    have hW : wP D A lvM ad (ctM cs ad g L B n b 1) H := by rw [← ht]; exact hB
    rcases hw with ⟨rfl, hp_7⟩ | ⟨rfl, hp_7⟩
    ·
      exact absurd hp_7 (by decide)
    ·
      refine lv_if_eq (tgt := 33) hx hb dX4_holds_12 (by decide) (fun c_8 => ?_) (fun c_8 => ?_)
      · -- 0 eq 0 : True
        refine lv_iconst (v := 0) hx hb dX4_holds_33 (by decide) ?_
        have hk : kIn 0 2 x = 1 := by simp [kIn, (eq_false hp_1), (eq_false hp_7), c_8]
        exact W.zret (ty := .boolean) (v := 0) hx hb hr (by decide) (fun t9 ht9 hW9 => ⟨⟨_, (), rfl, Or.inr ⟨rfl, fun q => absurd (hk.symm.trans q.1) (by decide)⟩, (by dsimp only; rw [ht9]; simp only [hk, sel_0, sel_1, sel_2, sel_3]; exact hW)⟩, hS.F ht9⟩) hS.2.2 dX4_holds_34
      · -- 0 eq 0 : False
        exact absurd c_8 (by decide)

set_option maxHeartbeats 4000000 in
set_option maxRecDepth 100000 in
theorem c_X4_lacking (l : Launch) (D : va_G) (cs : Nat → ClassId) (A : Nat → Prop) (ad : Nat → Nat) (g : Nat → Int32) (L B : Nat → Nat → Int32) (n b : Nat) (t : Int32) (hn : n ≤ 12) (hb5 : b ≤ 5) (x : Int32) (dv0 : dvOK g L B n b 0) (dvs : dvOK g L B n b (g 4)) : Met l yX4_lacking wsX4_lacking ({ frames := 5, cells := 0, slots := 0, locals := 118 } : Room) (va_Pc [.ref (ad 0), .int x] (pM D cs A ad g L B n b t)) (va_Ql (fun (r9 : Int64) (_ : Unit) => r9 = sel (kIn 0 2 x) (mLack g L B n b x (mPool L 1 n)) 0) (fun _ t9 => wP D A lvM ad (ctM cs ad g L B n b (kIn 0 2 x)) t9.heap) A) 0 0 A := by
  refine Met.ofW (cc := cX4_lacking) (maxL := 2) (ret := (some .long)) (by decide) rfl ?_
  intro p e s m args below meth c s₁ BB hml hv
  obtain ⟨rfl, hv⟩ := hv
  obtain ⟨hK, hW⟩ := hv
  have hx := BB.exec
  have hb := BB.bytes
  have hr := BB.returns
  have hts := atoms_spec (ws := wsX4_lacking) BB.pre
  have hown : s.vm.findClass RX4 = some m.cls := findClass_of_methodNamed BB.named
  have hlocks := BB.notSynchronized
  have hS : va_S A s.heap s.heap [] := va_S.rf
  have hl := lv_entry ([.ref (ad 0), .int x]) (n := 2) (Nat.le_of_ble_eq_true rfl)
  rw [lg_entry_eq]
  generalize (lg_sl ([.ref (ad 0), .int x]) ++ List.replicate (2 - (lg_sl ([.ref (ad 0), .int x])).length) Slot.unset).toArray = ls at hl ⊢
  have hl : lv_has ls 2 [(0, .ref (ad 0)), (1, .int x)] := hl
  refine lv_aload_n hx hb dX4_lacking_0 rfl (lv_at hl 0 rfl) ?_
  refine lv_iload_n hx hb dX4_lacking_1 rfl (lv_at hl 1 rfl) ?_
  refine lv_iconst (v := 0) hx hb dX4_lacking_2 (by decide) ?_
  refine lv_iconst (v := 2) hx hb dX4_lacking_3 (by decide) ?_
  refine va_calli (va_runS (As := [.int x, .int 0, .int 2]) (rest := [.ref (ad 0)]) ⟨hx, hb, hml, hown, hts⟩ (c_X4_isWithin l x 0 2) (va_cwS 3 hts gX4_lacking_X4_isWithin rfl rfl rfl (by decide +kernel) ⟨Nat.le_of_ble_eq_true rfl, Nat.le_of_ble_eq_true rfl⟩) ⟨pT_fb, fun U hU hV => ⟨rfl, trivial⟩⟩ rfl rfl hl.1 rfl (lv_room (Nat.le_of_ble_eq_true rfl)) dX4_lacking_4 ⟨Nat.zero_le _, Nat.zero_le _⟩) hS (fun _ _ h => h.elim) (fun _ h => h.elim) (fun r_1 u t9 H locs ht hvm hw _ hz1 hk1 hS => ?_)
  have hW := hW.kept hk1
  rcases hw with ⟨rfl, hp_1⟩ | ⟨rfl, hp_1⟩
  ·
    refine lv_iconst (v := 1) hx hb dX4_lacking_7 (by decide) ?_
    refine lv_iconst (v := 1) hx hb dX4_lacking_8 (by decide) ?_
    refine va_calli (va_runV (As := [.int 1, .int 1, .int 1]) (rest := []) ⟨hx, hb, hml, hown, hts⟩ (c_X4_goes l D cs A ad g L B n b t hn hb5 1 1 1) (cwV 3 hts gX4_lacking_X4_goes rfl rfl rfl (by decide +kernel) ⟨Nat.le_of_ble_eq_true rfl, Nat.le_of_ble_eq_true rfl⟩) ⟨pM_fb, wb_recv hK hW (r := 0) (Nat.le_of_ble_eq_true rfl) (ci := 5) rfl rfl, fun U hU hV => ⟨rfl, pM_of hK hV.alike hU hW⟩⟩ rfl rfl hl.1 rfl (lv_room (Nat.le_of_ble_eq_true rfl)) dX4_lacking_9 ⟨Nat.zero_le _, Nat.zero_le _⟩) hS (fun _ _ h => h) (fun _ h => h) (fun r_2 u t9 H locs ht hvm hw hB hz1 hk1 hS => ?_)
    have hW : wP D A lvM ad (ctM cs ad g L B n b 0) H := by rw [← ht]; exact hB
    rcases hw with ⟨rfl, hp_2⟩ | ⟨rfl, hp_2⟩
    ·
      refine lv_if_eq (tgt := 27) hx hb dX4_lacking_12 (by decide) (fun c_3 => ?_) (fun c_3 => ?_)
      · -- 1 eq 0 : True
        exact absurd c_3 (by decide)
      · -- 1 eq 0 : False
        refine lv_aload_n hx hb dX4_lacking_15 rfl (lv_at hl 0 rfl) ?_
        refine lv_iload_n hx hb dX4_lacking_16 rfl (lv_at hl 1 rfl) ?_
        refine lv_aload_n hx hb dX4_lacking_17 rfl (lv_at hl 0 rfl) ?_
        refine va_calli (va_runV (As := []) (rest := [.int x, .ref (ad 0)]) ⟨hx, hb, hml, hown, hts⟩ (c_X4_pool l D cs A ad g L B n b 0 hn hb5 ) (cwV 0 hts gX4_lacking_X4_pool rfl rfl rfl (by decide +kernel) ⟨Nat.le_of_ble_eq_true rfl, Nat.le_of_ble_eq_true rfl⟩) ⟨pM_fb, wb_recv hK hW (r := 0) (Nat.le_of_ble_eq_true rfl) (ci := 5) rfl rfl, fun U hU hV => ⟨rfl, pM_of hK hV.alike hU hW⟩⟩ rfl rfl hl.1 rfl (lv_room (Nat.le_of_ble_eq_true rfl)) dX4_lacking_18 ⟨Nat.zero_le _, Nat.zero_le _⟩) hS (fun _ _ h => h.elim) (fun _ h => h.elim) (fun r_4 u t9 H locs ht hvm hw _ hz1 hk1 hS => ?_)
        have hW := hW.kept hk1
        subst hw
        refine va_calll (va_runV (As := [.int x, .int (mPool L 1 n)]) (rest := []) ⟨hx, hb, hml, hown, hts⟩ (c_X4_lack l D cs A ad g L B n b 0 hn hb5 x (mPool L 1 n) dv0 dvs) (cwV 2 hts gX4_lacking_X4_lack rfl rfl rfl (by decide +kernel) ⟨Nat.le_of_ble_eq_true rfl, Nat.le_of_ble_eq_true rfl⟩) ⟨pM_fb, wb_recv hK hW (r := 0) (Nat.le_of_ble_eq_true rfl) (ci := 5) rfl rfl, fun U hU hV => ⟨rfl, pM_of hK hV.alike hU hW⟩⟩ rfl rfl hl.1 rfl (lv_room (Nat.le_of_ble_eq_true rfl)) dX4_lacking_21 ⟨Nat.zero_le _, Nat.zero_le _⟩) hS (fun _ _ h => h.elim) (fun _ h => h.elim) (fun r_5 u t9 H locs ht hvm hw _ hz1 hk1 hS => ?_)
        have hW := hW.kept hk1
        subst hw
        refine lv_goto (tgt := 28) hx hb dX4_lacking_24 (by decide) ?_
        have hk : kIn 0 2 x = 0 := by simp [kIn, (eq_true hp_1), (eq_true hp_2), c_3]
        exact W.lret (v := mLack g L B n b x (mPool L 1 n)) hx hb hr (fun t9 ht9 hW9 => ⟨⟨_, (), rfl, (by first | (simp only [hk, sel_0, sel_1, sel_2, sel_3]; done) | (simp only [hk, sel_0, sel_1, sel_2, sel_3]; first | rfl | (simp [(eq_true hp_1), (eq_true hp_2), c_3, upd]; done))), (by dsimp only; rw [ht9]; simp only [hk, sel_0, sel_1, sel_2, sel_3]; exact hW)⟩, hS.F ht9⟩) hS.2.2 dX4_lacking_28
    ·
      exact absurd (by decide) hp_2
  ·
    refine lv_iconst (v := 1) hx hb dX4_lacking_7 (by decide) ?_
    refine lv_iconst (v := 1) hx hb dX4_lacking_8 (by decide) ?_
    refine va_calli (va_runV (As := [.int 0, .int 1, .int 1]) (rest := []) ⟨hx, hb, hml, hown, hts⟩ (c_X4_goes l D cs A ad g L B n b t hn hb5 0 1 1) (cwV 3 hts gX4_lacking_X4_goes rfl rfl rfl (by decide +kernel) ⟨Nat.le_of_ble_eq_true rfl, Nat.le_of_ble_eq_true rfl⟩) ⟨pM_fb, wb_recv hK hW (r := 0) (Nat.le_of_ble_eq_true rfl) (ci := 5) rfl rfl, fun U hU hV => ⟨rfl, pM_of hK hV.alike hU hW⟩⟩ rfl rfl hl.1 rfl (lv_room (Nat.le_of_ble_eq_true rfl)) dX4_lacking_9 ⟨Nat.zero_le _, Nat.zero_le _⟩) hS (fun _ _ h => h) (fun _ h => h) (fun r_6 u t9 H locs ht hvm hw hB hz1 hk1 hS => ?_)
    have hW : wP D A lvM ad (ctM cs ad g L B n b 1) H := by rw [← ht]; exact hB
    rcases hw with ⟨rfl, hp_6⟩ | ⟨rfl, hp_6⟩
    ·
      exact absurd hp_6 (by decide)
    ·
      refine lv_if_eq (tgt := 27) hx hb dX4_lacking_12 (by decide) (fun c_7 => ?_) (fun c_7 => ?_)
      · -- 0 eq 0 : True
        refine lv_lconst (v := 0) hx hb dX4_lacking_27 (by decide) ?_
        have hk : kIn 0 2 x = 1 := by simp [kIn, (eq_false hp_1), (eq_false hp_6), c_7]
        exact W.lret (v := 0) hx hb hr (fun t9 ht9 hW9 => ⟨⟨_, (), rfl, (by first | (simp only [hk, sel_0, sel_1, sel_2, sel_3]; done) | (simp only [hk, sel_0, sel_1, sel_2, sel_3]; first | rfl | (simp [(eq_false hp_1), (eq_false hp_6), c_7, upd]; done))), (by dsimp only; rw [ht9]; simp only [hk, sel_0, sel_1, sel_2, sel_3]; exact hW)⟩, hS.F ht9⟩) hS.2.2 dX4_lacking_28
      · -- 0 eq 0 : False
        exact absurd c_7 (by decide)

set_option maxHeartbeats 4000000 in
set_option maxRecDepth 100000 in
theorem c_X4_addLoan (l : Launch) (D : va_G) (cs : Nat → ClassId) (A : Nat → Prop) (ad : Nat → Nat) (g : Nat → Int32) (L B : Nat → Nat → Int32) (n b : Nat) (t : Int32) (hn : n ≤ 12) (hb5 : b ≤ 5) (x : Int32) (y : Int32) (z : Int32) (w : Int32)  : Met l yX4_addLoan wsX4_addLoan ({ frames := 2, cells := 0, slots := 0, locals := 47 } : Room) (va_Pc [.ref (ad 0), .int x, .int y, .int z, .int w] (pM D cs A ad g L B n b t)) (va_Qi (fun (r9 : Int32) (_ : Unit) => r9 = sel (kAddLoan g n x y z w) (nI n) 0) (fun _ t9 => wP D A lvM ad (ctM cs ad g (sel (kAddLoan g n x y z w) (addL L n x y z w) L) B (sel (kAddLoan g n x y z w) (n + 1) n) b (kAddLoan g n x y z w)) t9.heap) A) 0 0 A := by
  refine Met.ofW (cc := cX4_addLoan) (maxL := 6) (ret := (some .int)) (by decide) rfl ?_
  intro p e s m args below meth c s₁ BB hml hv
  obtain ⟨rfl, hv⟩ := hv
  obtain ⟨hK, hW⟩ := hv
  have hx := BB.exec
  have hb := BB.bytes
  have hr := BB.returns
  have hts := atoms_spec (ws := wsX4_addLoan) BB.pre
  have hown : s.vm.findClass RX4 = some m.cls := findClass_of_methodNamed BB.named
  have hlocks := BB.notSynchronized
  have hS : va_S A s.heap s.heap [] := va_S.rf
  have hl := lv_entry ([.ref (ad 0), .int x, .int y, .int z, .int w]) (n := 6) (Nat.le_of_ble_eq_true rfl)
  rw [lg_entry_eq]
  generalize (lg_sl ([.ref (ad 0), .int x, .int y, .int z, .int w]) ++ List.replicate (6 - (lg_sl ([.ref (ad 0), .int x, .int y, .int z, .int w])).length) Slot.unset).toArray = ls at hl ⊢
  have hl : lv_has ls 6 [(0, .ref (ad 0)), (1, .int x), (2, .int y), (3, .int z), (4, .int w)] := hl
  have hf19 := hts (.fieldLink RX4 19 "CoverpoolModel" "amount" "[I") (by decide +kernel)
  have hf23 := hts (.fieldLink RX4 23 "CoverpoolModel" "worth" "[I") (by decide +kernel)
  have hf26 := hts (.fieldLink RX4 26 "CoverpoolModel" "rank" "[I") (by decide +kernel)
  have hf29 := hts (.fieldLink RX4 29 "CoverpoolModel" "due" "[I") (by decide +kernel)
  have hf54 := hts (.fieldLink RX4 54 "CoverpoolModel" "loans" "I") (by decide +kernel)
  have hf67 := hts (.fieldLink RX4 67 "CoverpoolModel" "month" "I") (by decide +kernel)
  have hinX4 : ∀ w ∈ u_ws RX4 TX4 18, w ∈ wsX4_addLoan := by decide +kernel
  refine lv_iload_n hx hb dX4_addLoan_0 rfl (lv_at hl 1 rfl) ?_
  refine lv_iconst (v := 1) hx hb dX4_addLoan_1 (by decide) ?_
  refine lv_sipush (v := 10000) hx hb dX4_addLoan_2 (by decide) ?_
  refine va_calli (va_runS (As := [.int x, .int 1, .int 10000]) (rest := []) ⟨hx, hb, hml, hown, hts⟩ (c_X4_isWithin l x 1 10000) (va_cwS 3 hts gX4_addLoan_X4_isWithin rfl rfl rfl (by decide +kernel) ⟨Nat.le_of_ble_eq_true rfl, Nat.le_of_ble_eq_true rfl⟩) ⟨pT_fb, fun U hU hV => ⟨rfl, trivial⟩⟩ rfl rfl hl.1 rfl (lv_room (Nat.le_of_ble_eq_true rfl)) dX4_addLoan_5 ⟨Nat.zero_le _, Nat.zero_le _⟩) hS (fun _ _ h => h.elim) (fun _ h => h.elim) (fun r_1 u t9 H locs ht hvm hw _ hz1 hk1 hS => ?_)
  have hW := hW.kept hk1
  rcases hw with ⟨rfl, hp_1⟩ | ⟨rfl, hp_1⟩
  ·
    refine lv_if_eq (tgt := 52) hx hb dX4_addLoan_8 (by decide) (fun c_2 => ?_) (fun c_2 => ?_)
    · -- 1 eq 0 : True
      exact absurd c_2 (by decide)
    · -- 1 eq 0 : False
      refine lv_iload_n hx hb dX4_addLoan_11 rfl (lv_at hl 2 rfl) ?_
      refine lv_iconst (v := 0) hx hb dX4_addLoan_12 (by decide) ?_
      refine lv_sipush (v := 20000) hx hb dX4_addLoan_13 (by decide) ?_
      refine va_calli (va_runS (As := [.int y, .int 0, .int 20000]) (rest := []) ⟨hx, hb, hml, hown, hts⟩ (c_X4_isWithin l y 0 20000) (va_cwS 3 hts gX4_addLoan_X4_isWithin rfl rfl rfl (by decide +kernel) ⟨Nat.le_of_ble_eq_true rfl, Nat.le_of_ble_eq_true rfl⟩) ⟨pT_fb, fun U hU hV => ⟨rfl, trivial⟩⟩ rfl rfl hl.1 rfl (lv_room (Nat.le_of_ble_eq_true rfl)) dX4_addLoan_16 ⟨Nat.zero_le _, Nat.zero_le _⟩) hS (fun _ _ h => h.elim) (fun _ h => h.elim) (fun r_3 u t9 H locs ht hvm hw _ hz1 hk1 hS => ?_)
      have hW := hW.kept hk1
      rcases hw with ⟨rfl, hp_3⟩ | ⟨rfl, hp_3⟩
      ·
        refine lv_if_eq (tgt := 52) hx hb dX4_addLoan_19 (by decide) (fun c_4 => ?_) (fun c_4 => ?_)
        · -- 1 eq 0 : True
          exact absurd c_4 (by decide)
        · -- 1 eq 0 : False
          refine lv_iload_n hx hb dX4_addLoan_22 rfl (lv_at hl 3 rfl) ?_
          refine lv_iconst (v := 1) hx hb dX4_addLoan_23 (by decide) ?_
          refine lv_iconst (v := 5) hx hb dX4_addLoan_24 (by decide) ?_
          refine va_calli (va_runS (As := [.int z, .int 1, .int 5]) (rest := []) ⟨hx, hb, hml, hown, hts⟩ (c_X4_isWithin l z 1 5) (va_cwS 3 hts gX4_addLoan_X4_isWithin rfl rfl rfl (by decide +kernel) ⟨Nat.le_of_ble_eq_true rfl, Nat.le_of_ble_eq_true rfl⟩) ⟨pT_fb, fun U hU hV => ⟨rfl, trivial⟩⟩ rfl rfl hl.1 rfl (lv_room (Nat.le_of_ble_eq_true rfl)) dX4_addLoan_25 ⟨Nat.zero_le _, Nat.zero_le _⟩) hS (fun _ _ h => h.elim) (fun _ h => h.elim) (fun r_5 u t9 H locs ht hvm hw _ hz1 hk1 hS => ?_)
          have hW := hW.kept hk1
          rcases hw with ⟨rfl, hp_5⟩ | ⟨rfl, hp_5⟩
          ·
            refine lv_if_eq (tgt := 52) hx hb dX4_addLoan_28 (by decide) (fun c_6 => ?_) (fun c_6 => ?_)
            · -- 1 eq 0 : True
              exact absurd c_6 (by decide)
            · -- 1 eq 0 : False
              refine lv_iload hx hb dX4_addLoan_31 (lv_at hl 4 rfl) ?_
              refine lv_aload_n hx hb dX4_addLoan_33 rfl (lv_at hl 0 rfl) ?_
              refine wb_get hx hb hts hinX4 hown hK hW 0 (Nat.le_of_ble_eq_true rfl) rfl rfl 0 (by decide) hf67 (fun _ h9 => h9) (v := .int (g 0)) rfl dX4_addLoan_34 ?_
              refine lv_icmp_le (tgt := 52) hx hb dX4_addLoan_37 (by decide) (fun c_7 => ?_) (fun c_7 => ?_)
              · -- w le g 0 : True
                refine lv_iconst (v := 0) hx hb dX4_addLoan_52 (by decide) ?_
                refine lv_istore (lv' := [(5, .int 0), (0, .ref (ad 0)), (1, .int x), (2, .int y), (3, .int z), (4, .int w)]) hx hb dX4_addLoan_53 hl (by decide) rfl (fun ls hl => ?_)
                refine lv_aload_n hx hb dX4_addLoan_55 rfl (lv_at hl 1 rfl) ?_
                refine lv_iload hx hb dX4_addLoan_56 (lv_at hl 0 rfl) ?_
                refine lv_aload_n hx hb dX4_addLoan_58 rfl (lv_at hl 1 rfl) ?_
                refine wb_get hx hb hts hinX4 hown hK hW 0 (Nat.le_of_ble_eq_true rfl) rfl rfl 11 (by decide) hf54 (fun _ h9 => h9) (v := .int (nI n)) rfl dX4_addLoan_59 ?_
                refine lv_bipush (v := 12) hx hb dX4_addLoan_62 (by decide) ?_
                refine lv_icmp_ge (tgt := 71) hx hb dX4_addLoan_64 (by decide) (fun c_8 => ?_) (fun c_8 => ?_)
                · -- nI n ge 12 : True
                  refine lv_iconst (v := 0) hx hb dX4_addLoan_71 (by decide) ?_
                  refine lv_iconst (v := 1) hx hb dX4_addLoan_72 (by decide) ?_
                  refine va_calli (va_runV (As := [.int 0, .int 0, .int 1]) (rest := []) ⟨hx, hb, hml, hown, hts⟩ (c_X4_goes l D cs A ad g L B n b t hn hb5 0 0 1) (cwV 3 hts gX4_addLoan_X4_goes rfl rfl rfl (by decide +kernel) ⟨Nat.le_of_ble_eq_true rfl, Nat.le_of_ble_eq_true rfl⟩) ⟨pM_fb, wb_recv hK hW (r := 0) (Nat.le_of_ble_eq_true rfl) (ci := 5) rfl rfl, fun U hU hV => ⟨rfl, pM_of hK hV.alike hU hW⟩⟩ rfl rfl hl.1 rfl (lv_room (Nat.le_of_ble_eq_true rfl)) dX4_addLoan_73 ⟨Nat.zero_le _, Nat.zero_le _⟩) hS (fun _ _ h => h) (fun _ h => h) (fun r_9 u t9 H locs ht hvm hw hB hz1 hk1 hS => ?_)
                  have hW : wP D A lvM ad (ctM cs ad g L B n b 1) H := by rw [← ht]; exact hB
                  rcases hw with ⟨rfl, hp_9⟩ | ⟨rfl, hp_9⟩
                  ·
                    exact absurd hp_9 (by decide)
                  ·
                    refine lv_if_ne (tgt := 81) hx hb dX4_addLoan_76 (by decide) (fun c_10 => ?_) (fun c_10 => ?_)
                    · -- 0 ne 0 : True
                      exact absurd c_10 (by decide)
                    · -- 0 ne 0 : False
                      refine lv_iconst (v := 0) hx hb dX4_addLoan_79 (by decide) ?_
                      have hk : kAddLoan g n x y z w = 1 := by simp [kAddLoan, okLoan, (eq_true hp_1), c_2, (eq_true hp_3), c_4, (eq_true hp_5), c_6, c_7, c_8, (eq_false hp_9), c_10]
                      exact W.iret (v := 0) hx hb hr (fun t9 ht9 hW9 => ⟨⟨_, (), rfl, (by first | (simp only [hk, sel_0, sel_1, sel_2, sel_3]; done) | (simp only [hk, sel_0, sel_1, sel_2, sel_3]; first | rfl | (simp [(eq_true hp_1), c_2, (eq_true hp_3), c_4, (eq_true hp_5), c_6, c_7, c_8, (eq_false hp_9), c_10, upd]; done))), (by dsimp only; rw [ht9]; simp only [hk, sel_0, sel_1, sel_2, sel_3]; exact hW)⟩, hS.F ht9⟩) hS.2.2 dX4_addLoan_80
                · -- nI n ge 12 : False
                  have h12 : n < 12 := by rcases Nat.lt_or_ge n 12 with q | q; exact q; exact absurd (nI_le q (by omega)) c_8
                  refine lv_iconst (v := 1) hx hb dX4_addLoan_67 (by decide) ?_
                  refine lv_goto (tgt := 72) hx hb dX4_addLoan_68 (by decide) ?_
                  refine lv_iconst (v := 1) hx hb dX4_addLoan_72 (by decide) ?_
                  refine va_calli (va_runV (As := [.int 0, .int 1, .int 1]) (rest := []) ⟨hx, hb, hml, hown, hts⟩ (c_X4_goes l D cs A ad g L B n b t hn hb5 0 1 1) (cwV 3 hts gX4_addLoan_X4_goes rfl rfl rfl (by decide +kernel) ⟨Nat.le_of_ble_eq_true rfl, Nat.le_of_ble_eq_true rfl⟩) ⟨pM_fb, wb_recv hK hW (r := 0) (Nat.le_of_ble_eq_true rfl) (ci := 5) rfl rfl, fun U hU hV => ⟨rfl, pM_of hK hV.alike hU hW⟩⟩ rfl rfl hl.1 rfl (lv_room (Nat.le_of_ble_eq_true rfl)) dX4_addLoan_73 ⟨Nat.zero_le _, Nat.zero_le _⟩) hS (fun _ _ h => h) (fun _ h => h) (fun r_11 u t9 H locs ht hvm hw hB hz1 hk1 hS => ?_)
                  have hW : wP D A lvM ad (ctM cs ad g L B n b 1) H := by rw [← ht]; exact hB
                  rcases hw with ⟨rfl, hp_11⟩ | ⟨rfl, hp_11⟩
                  ·
                    exact absurd hp_11 (by decide)
                  ·
                    refine lv_if_ne (tgt := 81) hx hb dX4_addLoan_76 (by decide) (fun c_12 => ?_) (fun c_12 => ?_)
                    · -- 0 ne 0 : True
                      exact absurd c_12 (by decide)
                    · -- 0 ne 0 : False
                      refine lv_iconst (v := 0) hx hb dX4_addLoan_79 (by decide) ?_
                      have hk : kAddLoan g n x y z w = 1 := by simp [kAddLoan, okLoan, (eq_true hp_1), c_2, (eq_true hp_3), c_4, (eq_true hp_5), c_6, c_7, c_8, (eq_false hp_11), c_12]
                      exact W.iret (v := 0) hx hb hr (fun t9 ht9 hW9 => ⟨⟨_, (), rfl, (by first | (simp only [hk, sel_0, sel_1, sel_2, sel_3]; done) | (simp only [hk, sel_0, sel_1, sel_2, sel_3]; first | rfl | (simp [(eq_true hp_1), c_2, (eq_true hp_3), c_4, (eq_true hp_5), c_6, c_7, c_8, (eq_false hp_11), c_12, upd]; done))), (by dsimp only; rw [ht9]; simp only [hk, sel_0, sel_1, sel_2, sel_3]; exact hW)⟩, hS.F ht9⟩) hS.2.2 dX4_addLoan_80
              · -- w le g 0 : False
                refine lv_iload hx hb dX4_addLoan_40 (lv_at hl 4 rfl) ?_
                refine lv_sipush (v := 600) hx hb dX4_addLoan_42 (by decide) ?_
                refine lv_icmp_gt (tgt := 52) hx hb dX4_addLoan_45 (by decide) (fun c_13 => ?_) (fun c_13 => ?_)
                · -- w gt 600 : True
                  refine lv_iconst (v := 0) hx hb dX4_addLoan_52 (by decide) ?_
                  refine lv_istore (lv' := [(5, .int 0), (0, .ref (ad 0)), (1, .int x), (2, .int y), (3, .int z), (4, .int w)]) hx hb dX4_addLoan_53 hl (by decide) rfl (fun ls hl => ?_)
                  refine lv_aload_n hx hb dX4_addLoan_55 rfl (lv_at hl 1 rfl) ?_
                  refine lv_iload hx hb dX4_addLoan_56 (lv_at hl 0 rfl) ?_
                  refine lv_aload_n hx hb dX4_addLoan_58 rfl (lv_at hl 1 rfl) ?_
                  refine wb_get hx hb hts hinX4 hown hK hW 0 (Nat.le_of_ble_eq_true rfl) rfl rfl 11 (by decide) hf54 (fun _ h9 => h9) (v := .int (nI n)) rfl dX4_addLoan_59 ?_
                  refine lv_bipush (v := 12) hx hb dX4_addLoan_62 (by decide) ?_
                  refine lv_icmp_ge (tgt := 71) hx hb dX4_addLoan_64 (by decide) (fun c_14 => ?_) (fun c_14 => ?_)
                  · -- nI n ge 12 : True
                    refine lv_iconst (v := 0) hx hb dX4_addLoan_71 (by decide) ?_
                    refine lv_iconst (v := 1) hx hb dX4_addLoan_72 (by decide) ?_
                    refine va_calli (va_runV (As := [.int 0, .int 0, .int 1]) (rest := []) ⟨hx, hb, hml, hown, hts⟩ (c_X4_goes l D cs A ad g L B n b t hn hb5 0 0 1) (cwV 3 hts gX4_addLoan_X4_goes rfl rfl rfl (by decide +kernel) ⟨Nat.le_of_ble_eq_true rfl, Nat.le_of_ble_eq_true rfl⟩) ⟨pM_fb, wb_recv hK hW (r := 0) (Nat.le_of_ble_eq_true rfl) (ci := 5) rfl rfl, fun U hU hV => ⟨rfl, pM_of hK hV.alike hU hW⟩⟩ rfl rfl hl.1 rfl (lv_room (Nat.le_of_ble_eq_true rfl)) dX4_addLoan_73 ⟨Nat.zero_le _, Nat.zero_le _⟩) hS (fun _ _ h => h) (fun _ h => h) (fun r_15 u t9 H locs ht hvm hw hB hz1 hk1 hS => ?_)
                    have hW : wP D A lvM ad (ctM cs ad g L B n b 1) H := by rw [← ht]; exact hB
                    rcases hw with ⟨rfl, hp_15⟩ | ⟨rfl, hp_15⟩
                    ·
                      exact absurd hp_15 (by decide)
                    ·
                      refine lv_if_ne (tgt := 81) hx hb dX4_addLoan_76 (by decide) (fun c_16 => ?_) (fun c_16 => ?_)
                      · -- 0 ne 0 : True
                        exact absurd c_16 (by decide)
                      · -- 0 ne 0 : False
                        refine lv_iconst (v := 0) hx hb dX4_addLoan_79 (by decide) ?_
                        have hk : kAddLoan g n x y z w = 1 := by simp [kAddLoan, okLoan, (eq_true hp_1), c_2, (eq_true hp_3), c_4, (eq_true hp_5), c_6, c_7, c_13, c_14, (eq_false hp_15), c_16]
                        exact W.iret (v := 0) hx hb hr (fun t9 ht9 hW9 => ⟨⟨_, (), rfl, (by first | (simp only [hk, sel_0, sel_1, sel_2, sel_3]; done) | (simp only [hk, sel_0, sel_1, sel_2, sel_3]; first | rfl | (simp [(eq_true hp_1), c_2, (eq_true hp_3), c_4, (eq_true hp_5), c_6, c_7, c_13, c_14, (eq_false hp_15), c_16, upd]; done))), (by dsimp only; rw [ht9]; simp only [hk, sel_0, sel_1, sel_2, sel_3]; exact hW)⟩, hS.F ht9⟩) hS.2.2 dX4_addLoan_80
                  · -- nI n ge 12 : False
                    have h12 : n < 12 := by rcases Nat.lt_or_ge n 12 with q | q; exact q; exact absurd (nI_le q (by omega)) c_14
                    refine lv_iconst (v := 1) hx hb dX4_addLoan_67 (by decide) ?_
                    refine lv_goto (tgt := 72) hx hb dX4_addLoan_68 (by decide) ?_
                    refine lv_iconst (v := 1) hx hb dX4_addLoan_72 (by decide) ?_
                    refine va_calli (va_runV (As := [.int 0, .int 1, .int 1]) (rest := []) ⟨hx, hb, hml, hown, hts⟩ (c_X4_goes l D cs A ad g L B n b t hn hb5 0 1 1) (cwV 3 hts gX4_addLoan_X4_goes rfl rfl rfl (by decide +kernel) ⟨Nat.le_of_ble_eq_true rfl, Nat.le_of_ble_eq_true rfl⟩) ⟨pM_fb, wb_recv hK hW (r := 0) (Nat.le_of_ble_eq_true rfl) (ci := 5) rfl rfl, fun U hU hV => ⟨rfl, pM_of hK hV.alike hU hW⟩⟩ rfl rfl hl.1 rfl (lv_room (Nat.le_of_ble_eq_true rfl)) dX4_addLoan_73 ⟨Nat.zero_le _, Nat.zero_le _⟩) hS (fun _ _ h => h) (fun _ h => h) (fun r_17 u t9 H locs ht hvm hw hB hz1 hk1 hS => ?_)
                    have hW : wP D A lvM ad (ctM cs ad g L B n b 1) H := by rw [← ht]; exact hB
                    rcases hw with ⟨rfl, hp_17⟩ | ⟨rfl, hp_17⟩
                    ·
                      exact absurd hp_17 (by decide)
                    ·
                      refine lv_if_ne (tgt := 81) hx hb dX4_addLoan_76 (by decide) (fun c_18 => ?_) (fun c_18 => ?_)
                      · -- 0 ne 0 : True
                        exact absurd c_18 (by decide)
                      · -- 0 ne 0 : False
                        refine lv_iconst (v := 0) hx hb dX4_addLoan_79 (by decide) ?_
                        have hk : kAddLoan g n x y z w = 1 := by simp [kAddLoan, okLoan, (eq_true hp_1), c_2, (eq_true hp_3), c_4, (eq_true hp_5), c_6, c_7, c_13, c_14, (eq_false hp_17), c_18]
                        exact W.iret (v := 0) hx hb hr (fun t9 ht9 hW9 => ⟨⟨_, (), rfl, (by first | (simp only [hk, sel_0, sel_1, sel_2, sel_3]; done) | (simp only [hk, sel_0, sel_1, sel_2, sel_3]; first | rfl | (simp [(eq_true hp_1), c_2, (eq_true hp_3), c_4, (eq_true hp_5), c_6, c_7, c_13, c_14, (eq_false hp_17), c_18, upd]; done))), (by dsimp only; rw [ht9]; simp only [hk, sel_0, sel_1, sel_2, sel_3]; exact hW)⟩, hS.F ht9⟩) hS.2.2 dX4_addLoan_80
                · -- w gt 600 : False
                  refine lv_iconst (v := 1) hx hb dX4_addLoan_48 (by decide) ?_
                  refine lv_goto (tgt := 53) hx hb dX4_addLoan_49 (by decide) ?_
                  refine lv_istore (lv' := [(5, .int 1), (0, .ref (ad 0)), (1, .int x), (2, .int y), (3, .int z), (4, .int w)]) hx hb dX4_addLoan_53 hl (by decide) rfl (fun ls hl => ?_)
                  refine lv_aload_n hx hb dX4_addLoan_55 rfl (lv_at hl 1 rfl) ?_
                  refine lv_iload hx hb dX4_addLoan_56 (lv_at hl 0 rfl) ?_
                  refine lv_aload_n hx hb dX4_addLoan_58 rfl (lv_at hl 1 rfl) ?_
                  refine wb_get hx hb hts hinX4 hown hK hW 0 (Nat.le_of_ble_eq_true rfl) rfl rfl 11 (by decide) hf54 (fun _ h9 => h9) (v := .int (nI n)) rfl dX4_addLoan_59 ?_
                  refine lv_bipush (v := 12) hx hb dX4_addLoan_62 (by decide) ?_
                  refine lv_icmp_ge (tgt := 71) hx hb dX4_addLoan_64 (by decide) (fun c_19 => ?_) (fun c_19 => ?_)
                  · -- nI n ge 12 : True
                    refine lv_iconst (v := 0) hx hb dX4_addLoan_71 (by decide) ?_
                    refine lv_iconst (v := 1) hx hb dX4_addLoan_72 (by decide) ?_
                    refine va_calli (va_runV (As := [.int 1, .int 0, .int 1]) (rest := []) ⟨hx, hb, hml, hown, hts⟩ (c_X4_goes l D cs A ad g L B n b t hn hb5 1 0 1) (cwV 3 hts gX4_addLoan_X4_goes rfl rfl rfl (by decide +kernel) ⟨Nat.le_of_ble_eq_true rfl, Nat.le_of_ble_eq_true rfl⟩) ⟨pM_fb, wb_recv hK hW (r := 0) (Nat.le_of_ble_eq_true rfl) (ci := 5) rfl rfl, fun U hU hV => ⟨rfl, pM_of hK hV.alike hU hW⟩⟩ rfl rfl hl.1 rfl (lv_room (Nat.le_of_ble_eq_true rfl)) dX4_addLoan_73 ⟨Nat.zero_le _, Nat.zero_le _⟩) hS (fun _ _ h => h) (fun _ h => h) (fun r_20 u t9 H locs ht hvm hw hB hz1 hk1 hS => ?_)
                    have hW : wP D A lvM ad (ctM cs ad g L B n b 2) H := by rw [← ht]; exact hB
                    rcases hw with ⟨rfl, hp_20⟩ | ⟨rfl, hp_20⟩
                    ·
                      exact absurd hp_20 (by decide)
                    ·
                      refine lv_if_ne (tgt := 81) hx hb dX4_addLoan_76 (by decide) (fun c_21 => ?_) (fun c_21 => ?_)
                      · -- 0 ne 0 : True
                        exact absurd c_21 (by decide)
                      · -- 0 ne 0 : False
                        refine lv_iconst (v := 0) hx hb dX4_addLoan_79 (by decide) ?_
                        have hk : kAddLoan g n x y z w = 2 := by simp [kAddLoan, okLoan, (eq_true hp_1), c_2, (eq_true hp_3), c_4, (eq_true hp_5), c_6, c_7, c_13, c_19, (eq_false hp_20), c_21]
                        exact W.iret (v := 0) hx hb hr (fun t9 ht9 hW9 => ⟨⟨_, (), rfl, (by first | (simp only [hk, sel_0, sel_1, sel_2, sel_3]; done) | (simp only [hk, sel_0, sel_1, sel_2, sel_3]; first | rfl | (simp [(eq_true hp_1), c_2, (eq_true hp_3), c_4, (eq_true hp_5), c_6, c_7, c_13, c_19, (eq_false hp_20), c_21, upd]; done))), (by dsimp only; rw [ht9]; simp only [hk, sel_0, sel_1, sel_2, sel_3]; exact hW)⟩, hS.F ht9⟩) hS.2.2 dX4_addLoan_80
                  · -- nI n ge 12 : False
                    have h12 : n < 12 := by rcases Nat.lt_or_ge n 12 with q | q; exact q; exact absurd (nI_le q (by omega)) c_19
                    refine lv_iconst (v := 1) hx hb dX4_addLoan_67 (by decide) ?_
                    refine lv_goto (tgt := 72) hx hb dX4_addLoan_68 (by decide) ?_
                    refine lv_iconst (v := 1) hx hb dX4_addLoan_72 (by decide) ?_
                    refine va_calli (va_runV (As := [.int 1, .int 1, .int 1]) (rest := []) ⟨hx, hb, hml, hown, hts⟩ (c_X4_goes l D cs A ad g L B n b t hn hb5 1 1 1) (cwV 3 hts gX4_addLoan_X4_goes rfl rfl rfl (by decide +kernel) ⟨Nat.le_of_ble_eq_true rfl, Nat.le_of_ble_eq_true rfl⟩) ⟨pM_fb, wb_recv hK hW (r := 0) (Nat.le_of_ble_eq_true rfl) (ci := 5) rfl rfl, fun U hU hV => ⟨rfl, pM_of hK hV.alike hU hW⟩⟩ rfl rfl hl.1 rfl (lv_room (Nat.le_of_ble_eq_true rfl)) dX4_addLoan_73 ⟨Nat.zero_le _, Nat.zero_le _⟩) hS (fun _ _ h => h) (fun _ h => h) (fun r_22 u t9 H locs ht hvm hw hB hz1 hk1 hS => ?_)
                    have hW : wP D A lvM ad (ctM cs ad g L B n b 0) H := by rw [← ht]; exact hB
                    rcases hw with ⟨rfl, hp_22⟩ | ⟨rfl, hp_22⟩
                    ·
                      refine lv_if_ne (tgt := 81) hx hb dX4_addLoan_76 (by decide) (fun c_23 => ?_) (fun c_23 => ?_)
                      · -- 1 ne 0 : True
                        refine lv_aload_n hx hb dX4_addLoan_81 rfl (lv_at hl 1 rfl) ?_
                        refine wb_get hx hb hts hinX4 hown hK hW 0 (Nat.le_of_ble_eq_true rfl) rfl rfl 5 (by decide) hf19 (fun _ h9 => h9) (v := .ref (ad 1)) rfl dX4_addLoan_82 ?_
                        refine lv_aload_n hx hb dX4_addLoan_85 rfl (lv_at hl 1 rfl) ?_
                        refine wb_get hx hb hts hinX4 hown hK hW 0 (Nat.le_of_ble_eq_true rfl) rfl rfl 11 (by decide) hf54 (fun _ h9 => h9) (v := .int (nI n)) rfl dX4_addLoan_86 ?_
                        refine lv_iload_n hx hb dX4_addLoan_89 rfl (lv_at hl 2 rfl) ?_
                        refine wb_iast hx hb hK hW hS 1 (Nat.le_of_ble_eq_true rfl) 0 rfl rfl n rfl (by omega) (by decide) dX4_addLoan_90 (fun H locs hW hS => ?_)
                        obtain ⟨L24, hL24⟩ : ∃ z9, z9 = updL L 0 n x := ⟨_, rfl⟩
                        have hW : wP D A lvM ad (ctM cs ad g L24 B n b 0) H := hW.to (fun r hr => ⟨hr, rfl, by subst hL24; rcases lt11 hr with rfl | rfl | rfl | rfl | rfl | rfl | rfl | rfl | rfl | rfl | rfl <;> rfl⟩)
                        refine lv_aload_n hx hb dX4_addLoan_91 rfl (lv_at hl 1 rfl) ?_
                        refine wb_get hx hb hts hinX4 hown hK hW 0 (Nat.le_of_ble_eq_true rfl) rfl rfl 6 (by decide) hf23 (fun _ h9 => h9) (v := .ref (ad 2)) rfl dX4_addLoan_92 ?_
                        refine lv_aload_n hx hb dX4_addLoan_95 rfl (lv_at hl 1 rfl) ?_
                        refine wb_get hx hb hts hinX4 hown hK hW 0 (Nat.le_of_ble_eq_true rfl) rfl rfl 11 (by decide) hf54 (fun _ h9 => h9) (v := .int (nI n)) rfl dX4_addLoan_96 ?_
                        refine lv_iload_n hx hb dX4_addLoan_99 rfl (lv_at hl 3 rfl) ?_
                        refine wb_iast hx hb hK hW hS 2 (Nat.le_of_ble_eq_true rfl) 0 rfl rfl n rfl (by omega) (by decide) dX4_addLoan_100 (fun H locs hW hS => ?_)
                        obtain ⟨L25, hL25⟩ : ∃ z9, z9 = updL L24 1 n y := ⟨_, rfl⟩
                        have hW : wP D A lvM ad (ctM cs ad g L25 B n b 0) H := hW.to (fun r hr => ⟨hr, rfl, by subst hL25; rcases lt11 hr with rfl | rfl | rfl | rfl | rfl | rfl | rfl | rfl | rfl | rfl | rfl <;> rfl⟩)
                        refine lv_aload_n hx hb dX4_addLoan_101 rfl (lv_at hl 1 rfl) ?_
                        refine wb_get hx hb hts hinX4 hown hK hW 0 (Nat.le_of_ble_eq_true rfl) rfl rfl 7 (by decide) hf26 (fun _ h9 => h9) (v := .ref (ad 3)) rfl dX4_addLoan_102 ?_
                        refine lv_aload_n hx hb dX4_addLoan_105 rfl (lv_at hl 1 rfl) ?_
                        refine wb_get hx hb hts hinX4 hown hK hW 0 (Nat.le_of_ble_eq_true rfl) rfl rfl 11 (by decide) hf54 (fun _ h9 => h9) (v := .int (nI n)) rfl dX4_addLoan_106 ?_
                        refine lv_iload_n hx hb dX4_addLoan_109 rfl (lv_at hl 4 rfl) ?_
                        refine wb_iast hx hb hK hW hS 3 (Nat.le_of_ble_eq_true rfl) 0 rfl rfl n rfl (by omega) (by decide) dX4_addLoan_110 (fun H locs hW hS => ?_)
                        obtain ⟨L26, hL26⟩ : ∃ z9, z9 = updL L25 2 n z := ⟨_, rfl⟩
                        have hW : wP D A lvM ad (ctM cs ad g L26 B n b 0) H := hW.to (fun r hr => ⟨hr, rfl, by subst hL26; rcases lt11 hr with rfl | rfl | rfl | rfl | rfl | rfl | rfl | rfl | rfl | rfl | rfl <;> rfl⟩)
                        refine lv_aload_n hx hb dX4_addLoan_111 rfl (lv_at hl 1 rfl) ?_
                        refine wb_get hx hb hts hinX4 hown hK hW 0 (Nat.le_of_ble_eq_true rfl) rfl rfl 8 (by decide) hf29 (fun _ h9 => h9) (v := .ref (ad 4)) rfl dX4_addLoan_112 ?_
                        refine lv_aload_n hx hb dX4_addLoan_115 rfl (lv_at hl 1 rfl) ?_
                        refine wb_get hx hb hts hinX4 hown hK hW 0 (Nat.le_of_ble_eq_true rfl) rfl rfl 11 (by decide) hf54 (fun _ h9 => h9) (v := .int (nI n)) rfl dX4_addLoan_116 ?_
                        refine lv_iload hx hb dX4_addLoan_119 (lv_at hl 5 rfl) ?_
                        refine wb_iast hx hb hK hW hS 4 (Nat.le_of_ble_eq_true rfl) 0 rfl rfl n rfl (by omega) (by decide) dX4_addLoan_121 (fun H locs hW hS => ?_)
                        obtain ⟨L27, hL27⟩ : ∃ z9, z9 = updL L26 3 n w := ⟨_, rfl⟩
                        have hW : wP D A lvM ad (ctM cs ad g L27 B n b 0) H := hW.to (fun r hr => ⟨hr, rfl, by subst hL27; rcases lt11 hr with rfl | rfl | rfl | rfl | rfl | rfl | rfl | rfl | rfl | rfl | rfl <;> rfl⟩)
                        refine lv_aload_n hx hb dX4_addLoan_122 rfl (lv_at hl 1 rfl) ?_
                        refine lv_dup hx hb dX4_addLoan_123 rfl ?_
                        refine wb_get hx hb hts hinX4 hown hK hW 0 (Nat.le_of_ble_eq_true rfl) rfl rfl 11 (by decide) hf54 (fun _ h9 => h9) (v := .int (nI n)) rfl dX4_addLoan_124 ?_
                        refine lv_iconst (v := 1) hx hb dX4_addLoan_127 (by decide) ?_
                        refine lv_iadd hx hb dX4_addLoan_128 ?_
                        rw [nI_1]
                        refine wb_put (v := .int (nI (n + 1))) (ty := .int) hx hb hts hinX4 tyX4 tyX4_ok nmX4 hown hK hW hS 0 (Nat.le_of_ble_eq_true rfl) rfl rfl 11 (by decide) hf54 (fun _ h9 => h9) rfl (by decide +kernel) rfl rfl (Nat.le_of_ble_eq_true rfl) dX4_addLoan_129 (fun H locs hW hS => ?_)
                        have hW : wP D A lvM ad (ctM cs ad g L27 B (n + 1) b 0) H := hW.to (fun r hr => ⟨hr, rfl, by rcases lt11 hr with rfl | rfl | rfl | rfl | rfl | rfl | rfl | rfl | rfl | rfl | rfl <;> rfl⟩)
                        refine lv_aload_n hx hb dX4_addLoan_132 rfl (lv_at hl 1 rfl) ?_
                        refine wb_get hx hb hts hinX4 hown hK hW 0 (Nat.le_of_ble_eq_true rfl) rfl rfl 11 (by decide) hf54 (fun _ h9 => h9) (v := .int (nI (n + 1))) rfl dX4_addLoan_133 ?_
                        refine lv_iconst (v := 1) hx hb dX4_addLoan_136 (by decide) ?_
                        refine lv_isub hx hb dX4_addLoan_137 ?_
                        rw [nI_pred]
                        have hk : kAddLoan g n x y z w = 0 := by simp [kAddLoan, okLoan, (eq_true hp_1), c_2, (eq_true hp_3), c_4, (eq_true hp_5), c_6, c_7, c_13, c_19, (eq_true hp_22), c_23, hL24, hL25, hL26, hL27]
                        exact W.iret (v := nI n) hx hb hr (fun t9 ht9 hW9 => ⟨⟨_, (), rfl, (by first | (simp only [hk, sel_0, sel_1, sel_2, sel_3]; done) | (simp only [hk, sel_0, sel_1, sel_2, sel_3]; first | rfl | (simp [(eq_true hp_1), c_2, (eq_true hp_3), c_4, (eq_true hp_5), c_6, c_7, c_13, c_19, (eq_true hp_22), c_23, hL24, hL25, hL26, hL27, upd]; done))), (by dsimp only; rw [ht9]; simp only [hk, sel_0, sel_1, sel_2, sel_3]; subst hL27 hL26 hL25 hL24; exact hW)⟩, hS.F ht9⟩) hS.2.2 dX4_addLoan_138
                      · -- 1 ne 0 : False
                        exact absurd c_23 (by decide)
                    ·
                      exact absurd (by decide) hp_22
          ·
            refine lv_if_eq (tgt := 52) hx hb dX4_addLoan_28 (by decide) (fun c_29 => ?_) (fun c_29 => ?_)
            · -- 0 eq 0 : True
              refine lv_iconst (v := 0) hx hb dX4_addLoan_52 (by decide) ?_
              refine lv_istore (lv' := [(5, .int 0), (0, .ref (ad 0)), (1, .int x), (2, .int y), (3, .int z), (4, .int w)]) hx hb dX4_addLoan_53 hl (by decide) rfl (fun ls hl => ?_)
              refine lv_aload_n hx hb dX4_addLoan_55 rfl (lv_at hl 1 rfl) ?_
              refine lv_iload hx hb dX4_addLoan_56 (lv_at hl 0 rfl) ?_
              refine lv_aload_n hx hb dX4_addLoan_58 rfl (lv_at hl 1 rfl) ?_
              refine wb_get hx hb hts hinX4 hown hK hW 0 (Nat.le_of_ble_eq_true rfl) rfl rfl 11 (by decide) hf54 (fun _ h9 => h9) (v := .int (nI n)) rfl dX4_addLoan_59 ?_
              refine lv_bipush (v := 12) hx hb dX4_addLoan_62 (by decide) ?_
              refine lv_icmp_ge (tgt := 71) hx hb dX4_addLoan_64 (by decide) (fun c_30 => ?_) (fun c_30 => ?_)
              · -- nI n ge 12 : True
                refine lv_iconst (v := 0) hx hb dX4_addLoan_71 (by decide) ?_
                refine lv_iconst (v := 1) hx hb dX4_addLoan_72 (by decide) ?_
                refine va_calli (va_runV (As := [.int 0, .int 0, .int 1]) (rest := []) ⟨hx, hb, hml, hown, hts⟩ (c_X4_goes l D cs A ad g L B n b t hn hb5 0 0 1) (cwV 3 hts gX4_addLoan_X4_goes rfl rfl rfl (by decide +kernel) ⟨Nat.le_of_ble_eq_true rfl, Nat.le_of_ble_eq_true rfl⟩) ⟨pM_fb, wb_recv hK hW (r := 0) (Nat.le_of_ble_eq_true rfl) (ci := 5) rfl rfl, fun U hU hV => ⟨rfl, pM_of hK hV.alike hU hW⟩⟩ rfl rfl hl.1 rfl (lv_room (Nat.le_of_ble_eq_true rfl)) dX4_addLoan_73 ⟨Nat.zero_le _, Nat.zero_le _⟩) hS (fun _ _ h => h) (fun _ h => h) (fun r_31 u t9 H locs ht hvm hw hB hz1 hk1 hS => ?_)
                have hW : wP D A lvM ad (ctM cs ad g L B n b 1) H := by rw [← ht]; exact hB
                rcases hw with ⟨rfl, hp_31⟩ | ⟨rfl, hp_31⟩
                ·
                  exact absurd hp_31 (by decide)
                ·
                  refine lv_if_ne (tgt := 81) hx hb dX4_addLoan_76 (by decide) (fun c_32 => ?_) (fun c_32 => ?_)
                  · -- 0 ne 0 : True
                    exact absurd c_32 (by decide)
                  · -- 0 ne 0 : False
                    refine lv_iconst (v := 0) hx hb dX4_addLoan_79 (by decide) ?_
                    have hk : kAddLoan g n x y z w = 1 := by simp [kAddLoan, okLoan, (eq_true hp_1), c_2, (eq_true hp_3), c_4, (eq_false hp_5), c_29, c_30, (eq_false hp_31), c_32]
                    exact W.iret (v := 0) hx hb hr (fun t9 ht9 hW9 => ⟨⟨_, (), rfl, (by first | (simp only [hk, sel_0, sel_1, sel_2, sel_3]; done) | (simp only [hk, sel_0, sel_1, sel_2, sel_3]; first | rfl | (simp [(eq_true hp_1), c_2, (eq_true hp_3), c_4, (eq_false hp_5), c_29, c_30, (eq_false hp_31), c_32, upd]; done))), (by dsimp only; rw [ht9]; simp only [hk, sel_0, sel_1, sel_2, sel_3]; exact hW)⟩, hS.F ht9⟩) hS.2.2 dX4_addLoan_80
              · -- nI n ge 12 : False
                have h12 : n < 12 := by rcases Nat.lt_or_ge n 12 with q | q; exact q; exact absurd (nI_le q (by omega)) c_30
                refine lv_iconst (v := 1) hx hb dX4_addLoan_67 (by decide) ?_
                refine lv_goto (tgt := 72) hx hb dX4_addLoan_68 (by decide) ?_
                refine lv_iconst (v := 1) hx hb dX4_addLoan_72 (by decide) ?_
                refine va_calli (va_runV (As := [.int 0, .int 1, .int 1]) (rest := []) ⟨hx, hb, hml, hown, hts⟩ (c_X4_goes l D cs A ad g L B n b t hn hb5 0 1 1) (cwV 3 hts gX4_addLoan_X4_goes rfl rfl rfl (by decide +kernel) ⟨Nat.le_of_ble_eq_true rfl, Nat.le_of_ble_eq_true rfl⟩) ⟨pM_fb, wb_recv hK hW (r := 0) (Nat.le_of_ble_eq_true rfl) (ci := 5) rfl rfl, fun U hU hV => ⟨rfl, pM_of hK hV.alike hU hW⟩⟩ rfl rfl hl.1 rfl (lv_room (Nat.le_of_ble_eq_true rfl)) dX4_addLoan_73 ⟨Nat.zero_le _, Nat.zero_le _⟩) hS (fun _ _ h => h) (fun _ h => h) (fun r_33 u t9 H locs ht hvm hw hB hz1 hk1 hS => ?_)
                have hW : wP D A lvM ad (ctM cs ad g L B n b 1) H := by rw [← ht]; exact hB
                rcases hw with ⟨rfl, hp_33⟩ | ⟨rfl, hp_33⟩
                ·
                  exact absurd hp_33 (by decide)
                ·
                  refine lv_if_ne (tgt := 81) hx hb dX4_addLoan_76 (by decide) (fun c_34 => ?_) (fun c_34 => ?_)
                  · -- 0 ne 0 : True
                    exact absurd c_34 (by decide)
                  · -- 0 ne 0 : False
                    refine lv_iconst (v := 0) hx hb dX4_addLoan_79 (by decide) ?_
                    have hk : kAddLoan g n x y z w = 1 := by simp [kAddLoan, okLoan, (eq_true hp_1), c_2, (eq_true hp_3), c_4, (eq_false hp_5), c_29, c_30, (eq_false hp_33), c_34]
                    exact W.iret (v := 0) hx hb hr (fun t9 ht9 hW9 => ⟨⟨_, (), rfl, (by first | (simp only [hk, sel_0, sel_1, sel_2, sel_3]; done) | (simp only [hk, sel_0, sel_1, sel_2, sel_3]; first | rfl | (simp [(eq_true hp_1), c_2, (eq_true hp_3), c_4, (eq_false hp_5), c_29, c_30, (eq_false hp_33), c_34, upd]; done))), (by dsimp only; rw [ht9]; simp only [hk, sel_0, sel_1, sel_2, sel_3]; exact hW)⟩, hS.F ht9⟩) hS.2.2 dX4_addLoan_80
            · -- 0 eq 0 : False
              exact absurd c_29 (by decide)
      ·
        refine lv_if_eq (tgt := 52) hx hb dX4_addLoan_19 (by decide) (fun c_35 => ?_) (fun c_35 => ?_)
        · -- 0 eq 0 : True
          refine lv_iconst (v := 0) hx hb dX4_addLoan_52 (by decide) ?_
          refine lv_istore (lv' := [(5, .int 0), (0, .ref (ad 0)), (1, .int x), (2, .int y), (3, .int z), (4, .int w)]) hx hb dX4_addLoan_53 hl (by decide) rfl (fun ls hl => ?_)
          refine lv_aload_n hx hb dX4_addLoan_55 rfl (lv_at hl 1 rfl) ?_
          refine lv_iload hx hb dX4_addLoan_56 (lv_at hl 0 rfl) ?_
          refine lv_aload_n hx hb dX4_addLoan_58 rfl (lv_at hl 1 rfl) ?_
          refine wb_get hx hb hts hinX4 hown hK hW 0 (Nat.le_of_ble_eq_true rfl) rfl rfl 11 (by decide) hf54 (fun _ h9 => h9) (v := .int (nI n)) rfl dX4_addLoan_59 ?_
          refine lv_bipush (v := 12) hx hb dX4_addLoan_62 (by decide) ?_
          refine lv_icmp_ge (tgt := 71) hx hb dX4_addLoan_64 (by decide) (fun c_36 => ?_) (fun c_36 => ?_)
          · -- nI n ge 12 : True
            refine lv_iconst (v := 0) hx hb dX4_addLoan_71 (by decide) ?_
            refine lv_iconst (v := 1) hx hb dX4_addLoan_72 (by decide) ?_
            refine va_calli (va_runV (As := [.int 0, .int 0, .int 1]) (rest := []) ⟨hx, hb, hml, hown, hts⟩ (c_X4_goes l D cs A ad g L B n b t hn hb5 0 0 1) (cwV 3 hts gX4_addLoan_X4_goes rfl rfl rfl (by decide +kernel) ⟨Nat.le_of_ble_eq_true rfl, Nat.le_of_ble_eq_true rfl⟩) ⟨pM_fb, wb_recv hK hW (r := 0) (Nat.le_of_ble_eq_true rfl) (ci := 5) rfl rfl, fun U hU hV => ⟨rfl, pM_of hK hV.alike hU hW⟩⟩ rfl rfl hl.1 rfl (lv_room (Nat.le_of_ble_eq_true rfl)) dX4_addLoan_73 ⟨Nat.zero_le _, Nat.zero_le _⟩) hS (fun _ _ h => h) (fun _ h => h) (fun r_37 u t9 H locs ht hvm hw hB hz1 hk1 hS => ?_)
            have hW : wP D A lvM ad (ctM cs ad g L B n b 1) H := by rw [← ht]; exact hB
            rcases hw with ⟨rfl, hp_37⟩ | ⟨rfl, hp_37⟩
            ·
              exact absurd hp_37 (by decide)
            ·
              refine lv_if_ne (tgt := 81) hx hb dX4_addLoan_76 (by decide) (fun c_38 => ?_) (fun c_38 => ?_)
              · -- 0 ne 0 : True
                exact absurd c_38 (by decide)
              · -- 0 ne 0 : False
                refine lv_iconst (v := 0) hx hb dX4_addLoan_79 (by decide) ?_
                have hk : kAddLoan g n x y z w = 1 := by simp [kAddLoan, okLoan, (eq_true hp_1), c_2, (eq_false hp_3), c_35, c_36, (eq_false hp_37), c_38]
                exact W.iret (v := 0) hx hb hr (fun t9 ht9 hW9 => ⟨⟨_, (), rfl, (by first | (simp only [hk, sel_0, sel_1, sel_2, sel_3]; done) | (simp only [hk, sel_0, sel_1, sel_2, sel_3]; first | rfl | (simp [(eq_true hp_1), c_2, (eq_false hp_3), c_35, c_36, (eq_false hp_37), c_38, upd]; done))), (by dsimp only; rw [ht9]; simp only [hk, sel_0, sel_1, sel_2, sel_3]; exact hW)⟩, hS.F ht9⟩) hS.2.2 dX4_addLoan_80
          · -- nI n ge 12 : False
            have h12 : n < 12 := by rcases Nat.lt_or_ge n 12 with q | q; exact q; exact absurd (nI_le q (by omega)) c_36
            refine lv_iconst (v := 1) hx hb dX4_addLoan_67 (by decide) ?_
            refine lv_goto (tgt := 72) hx hb dX4_addLoan_68 (by decide) ?_
            refine lv_iconst (v := 1) hx hb dX4_addLoan_72 (by decide) ?_
            refine va_calli (va_runV (As := [.int 0, .int 1, .int 1]) (rest := []) ⟨hx, hb, hml, hown, hts⟩ (c_X4_goes l D cs A ad g L B n b t hn hb5 0 1 1) (cwV 3 hts gX4_addLoan_X4_goes rfl rfl rfl (by decide +kernel) ⟨Nat.le_of_ble_eq_true rfl, Nat.le_of_ble_eq_true rfl⟩) ⟨pM_fb, wb_recv hK hW (r := 0) (Nat.le_of_ble_eq_true rfl) (ci := 5) rfl rfl, fun U hU hV => ⟨rfl, pM_of hK hV.alike hU hW⟩⟩ rfl rfl hl.1 rfl (lv_room (Nat.le_of_ble_eq_true rfl)) dX4_addLoan_73 ⟨Nat.zero_le _, Nat.zero_le _⟩) hS (fun _ _ h => h) (fun _ h => h) (fun r_39 u t9 H locs ht hvm hw hB hz1 hk1 hS => ?_)
            have hW : wP D A lvM ad (ctM cs ad g L B n b 1) H := by rw [← ht]; exact hB
            rcases hw with ⟨rfl, hp_39⟩ | ⟨rfl, hp_39⟩
            ·
              exact absurd hp_39 (by decide)
            ·
              refine lv_if_ne (tgt := 81) hx hb dX4_addLoan_76 (by decide) (fun c_40 => ?_) (fun c_40 => ?_)
              · -- 0 ne 0 : True
                exact absurd c_40 (by decide)
              · -- 0 ne 0 : False
                refine lv_iconst (v := 0) hx hb dX4_addLoan_79 (by decide) ?_
                have hk : kAddLoan g n x y z w = 1 := by simp [kAddLoan, okLoan, (eq_true hp_1), c_2, (eq_false hp_3), c_35, c_36, (eq_false hp_39), c_40]
                exact W.iret (v := 0) hx hb hr (fun t9 ht9 hW9 => ⟨⟨_, (), rfl, (by first | (simp only [hk, sel_0, sel_1, sel_2, sel_3]; done) | (simp only [hk, sel_0, sel_1, sel_2, sel_3]; first | rfl | (simp [(eq_true hp_1), c_2, (eq_false hp_3), c_35, c_36, (eq_false hp_39), c_40, upd]; done))), (by dsimp only; rw [ht9]; simp only [hk, sel_0, sel_1, sel_2, sel_3]; exact hW)⟩, hS.F ht9⟩) hS.2.2 dX4_addLoan_80
        · -- 0 eq 0 : False
          exact absurd c_35 (by decide)
  ·
    refine lv_if_eq (tgt := 52) hx hb dX4_addLoan_8 (by decide) (fun c_41 => ?_) (fun c_41 => ?_)
    · -- 0 eq 0 : True
      refine lv_iconst (v := 0) hx hb dX4_addLoan_52 (by decide) ?_
      refine lv_istore (lv' := [(5, .int 0), (0, .ref (ad 0)), (1, .int x), (2, .int y), (3, .int z), (4, .int w)]) hx hb dX4_addLoan_53 hl (by decide) rfl (fun ls hl => ?_)
      refine lv_aload_n hx hb dX4_addLoan_55 rfl (lv_at hl 1 rfl) ?_
      refine lv_iload hx hb dX4_addLoan_56 (lv_at hl 0 rfl) ?_
      refine lv_aload_n hx hb dX4_addLoan_58 rfl (lv_at hl 1 rfl) ?_
      refine wb_get hx hb hts hinX4 hown hK hW 0 (Nat.le_of_ble_eq_true rfl) rfl rfl 11 (by decide) hf54 (fun _ h9 => h9) (v := .int (nI n)) rfl dX4_addLoan_59 ?_
      refine lv_bipush (v := 12) hx hb dX4_addLoan_62 (by decide) ?_
      refine lv_icmp_ge (tgt := 71) hx hb dX4_addLoan_64 (by decide) (fun c_42 => ?_) (fun c_42 => ?_)
      · -- nI n ge 12 : True
        refine lv_iconst (v := 0) hx hb dX4_addLoan_71 (by decide) ?_
        refine lv_iconst (v := 1) hx hb dX4_addLoan_72 (by decide) ?_
        refine va_calli (va_runV (As := [.int 0, .int 0, .int 1]) (rest := []) ⟨hx, hb, hml, hown, hts⟩ (c_X4_goes l D cs A ad g L B n b t hn hb5 0 0 1) (cwV 3 hts gX4_addLoan_X4_goes rfl rfl rfl (by decide +kernel) ⟨Nat.le_of_ble_eq_true rfl, Nat.le_of_ble_eq_true rfl⟩) ⟨pM_fb, wb_recv hK hW (r := 0) (Nat.le_of_ble_eq_true rfl) (ci := 5) rfl rfl, fun U hU hV => ⟨rfl, pM_of hK hV.alike hU hW⟩⟩ rfl rfl hl.1 rfl (lv_room (Nat.le_of_ble_eq_true rfl)) dX4_addLoan_73 ⟨Nat.zero_le _, Nat.zero_le _⟩) hS (fun _ _ h => h) (fun _ h => h) (fun r_43 u t9 H locs ht hvm hw hB hz1 hk1 hS => ?_)
        have hW : wP D A lvM ad (ctM cs ad g L B n b 1) H := by rw [← ht]; exact hB
        rcases hw with ⟨rfl, hp_43⟩ | ⟨rfl, hp_43⟩
        ·
          exact absurd hp_43 (by decide)
        ·
          refine lv_if_ne (tgt := 81) hx hb dX4_addLoan_76 (by decide) (fun c_44 => ?_) (fun c_44 => ?_)
          · -- 0 ne 0 : True
            exact absurd c_44 (by decide)
          · -- 0 ne 0 : False
            refine lv_iconst (v := 0) hx hb dX4_addLoan_79 (by decide) ?_
            have hk : kAddLoan g n x y z w = 1 := by simp [kAddLoan, okLoan, (eq_false hp_1), c_41, c_42, (eq_false hp_43), c_44]
            exact W.iret (v := 0) hx hb hr (fun t9 ht9 hW9 => ⟨⟨_, (), rfl, (by first | (simp only [hk, sel_0, sel_1, sel_2, sel_3]; done) | (simp only [hk, sel_0, sel_1, sel_2, sel_3]; first | rfl | (simp [(eq_false hp_1), c_41, c_42, (eq_false hp_43), c_44, upd]; done))), (by dsimp only; rw [ht9]; simp only [hk, sel_0, sel_1, sel_2, sel_3]; exact hW)⟩, hS.F ht9⟩) hS.2.2 dX4_addLoan_80
      · -- nI n ge 12 : False
        have h12 : n < 12 := by rcases Nat.lt_or_ge n 12 with q | q; exact q; exact absurd (nI_le q (by omega)) c_42
        refine lv_iconst (v := 1) hx hb dX4_addLoan_67 (by decide) ?_
        refine lv_goto (tgt := 72) hx hb dX4_addLoan_68 (by decide) ?_
        refine lv_iconst (v := 1) hx hb dX4_addLoan_72 (by decide) ?_
        refine va_calli (va_runV (As := [.int 0, .int 1, .int 1]) (rest := []) ⟨hx, hb, hml, hown, hts⟩ (c_X4_goes l D cs A ad g L B n b t hn hb5 0 1 1) (cwV 3 hts gX4_addLoan_X4_goes rfl rfl rfl (by decide +kernel) ⟨Nat.le_of_ble_eq_true rfl, Nat.le_of_ble_eq_true rfl⟩) ⟨pM_fb, wb_recv hK hW (r := 0) (Nat.le_of_ble_eq_true rfl) (ci := 5) rfl rfl, fun U hU hV => ⟨rfl, pM_of hK hV.alike hU hW⟩⟩ rfl rfl hl.1 rfl (lv_room (Nat.le_of_ble_eq_true rfl)) dX4_addLoan_73 ⟨Nat.zero_le _, Nat.zero_le _⟩) hS (fun _ _ h => h) (fun _ h => h) (fun r_45 u t9 H locs ht hvm hw hB hz1 hk1 hS => ?_)
        have hW : wP D A lvM ad (ctM cs ad g L B n b 1) H := by rw [← ht]; exact hB
        rcases hw with ⟨rfl, hp_45⟩ | ⟨rfl, hp_45⟩
        ·
          exact absurd hp_45 (by decide)
        ·
          refine lv_if_ne (tgt := 81) hx hb dX4_addLoan_76 (by decide) (fun c_46 => ?_) (fun c_46 => ?_)
          · -- 0 ne 0 : True
            exact absurd c_46 (by decide)
          · -- 0 ne 0 : False
            refine lv_iconst (v := 0) hx hb dX4_addLoan_79 (by decide) ?_
            have hk : kAddLoan g n x y z w = 1 := by simp [kAddLoan, okLoan, (eq_false hp_1), c_41, c_42, (eq_false hp_45), c_46]
            exact W.iret (v := 0) hx hb hr (fun t9 ht9 hW9 => ⟨⟨_, (), rfl, (by first | (simp only [hk, sel_0, sel_1, sel_2, sel_3]; done) | (simp only [hk, sel_0, sel_1, sel_2, sel_3]; first | rfl | (simp [(eq_false hp_1), c_41, c_42, (eq_false hp_45), c_46, upd]; done))), (by dsimp only; rw [ht9]; simp only [hk, sel_0, sel_1, sel_2, sel_3]; exact hW)⟩, hS.F ht9⟩) hS.2.2 dX4_addLoan_80
    · -- 0 eq 0 : False
      exact absurd c_41 (by decide)

set_option maxHeartbeats 4000000 in
set_option maxRecDepth 100000 in
theorem c_X4_addBond (l : Launch) (D : va_G) (cs : Nat → ClassId) (A : Nat → Prop) (ad : Nat → Nat) (g : Nat → Int32) (L B : Nat → Nat → Int32) (n b : Nat) (t : Int32) (hn : n ≤ 12) (hb5 : b ≤ 5) (x : Int32) (y : Int32)  : Met l yX4_addBond wsX4_addBond ({ frames := 2, cells := 0, slots := 0, locals := 47 } : Room) (va_Pc [.ref (ad 0), .int x, .int y] (pM D cs A ad g L B n b t)) (va_Qi (fun (r9 : Int32) (_ : Unit) => r9 = sel (kAddBond g b x y) (nI b) 0) (fun _ t9 => wP D A lvM ad (ctM cs ad (sel (kAddBond g b x y) (upd g 1 (g 1 + x)) g) L (sel (kAddBond g b x y) (addB B b x y) B) n (sel (kAddBond g b x y) (b + 1) b) (kAddBond g b x y)) t9.heap) A) 0 0 A := by
  refine Met.ofW (cc := cX4_addBond) (maxL := 3) (ret := (some .int)) (by decide) rfl ?_
  intro p e s m args below meth c s₁ BB hml hv
  obtain ⟨rfl, hv⟩ := hv
  obtain ⟨hK, hW⟩ := hv
  have hx := BB.exec
  have hb := BB.bytes
  have hr := BB.returns
  have hts := atoms_spec (ws := wsX4_addBond) BB.pre
  have hown : s.vm.findClass RX4 = some m.cls := findClass_of_methodNamed BB.named
  have hlocks := BB.notSynchronized
  have hS : va_S A s.heap s.heap [] := va_S.rf
  have hl := lv_entry ([.ref (ad 0), .int x, .int y]) (n := 3) (Nat.le_of_ble_eq_true rfl)
  rw [lg_entry_eq]
  generalize (lg_sl ([.ref (ad 0), .int x, .int y]) ++ List.replicate (3 - (lg_sl ([.ref (ad 0), .int x, .int y])).length) Slot.unset).toArray = ls at hl ⊢
  have hl : lv_has ls 3 [(0, .ref (ad 0)), (1, .int x), (2, .int y)] := hl
  have hf38 := hts (.fieldLink RX4 38 "CoverpoolModel" "bondAmount" "[I") (by decide +kernel)
  have hf41 := hts (.fieldLink RX4 41 "CoverpoolModel" "bondDue" "[I") (by decide +kernel)
  have hf57 := hts (.fieldLink RX4 57 "CoverpoolModel" "bonds" "I") (by decide +kernel)
  have hf64 := hts (.fieldLink RX4 64 "CoverpoolModel" "cash" "I") (by decide +kernel)
  have hf67 := hts (.fieldLink RX4 67 "CoverpoolModel" "month" "I") (by decide +kernel)
  have hinX4 : ∀ w ∈ u_ws RX4 TX4 18, w ∈ wsX4_addBond := by decide +kernel
  refine lv_aload_n hx hb dX4_addBond_0 rfl (lv_at hl 0 rfl) ?_
  refine lv_iload_n hx hb dX4_addBond_1 rfl (lv_at hl 1 rfl) ?_
  refine lv_iconst (v := 1) hx hb dX4_addBond_2 (by decide) ?_
  refine lv_ldc (v := 50000) hx hb hown (hts (.constant RX4 115 (50000)) (by decide +kernel)) dX4_addBond_3 ?_
  refine va_calli (va_runS (As := [.int x, .int 1, .int 50000]) (rest := [.ref (ad 0)]) ⟨hx, hb, hml, hown, hts⟩ (c_X4_isWithin l x 1 50000) (va_cwS 3 hts gX4_addBond_X4_isWithin rfl rfl rfl (by decide +kernel) ⟨Nat.le_of_ble_eq_true rfl, Nat.le_of_ble_eq_true rfl⟩) ⟨pT_fb, fun U hU hV => ⟨rfl, trivial⟩⟩ rfl rfl hl.1 rfl (lv_room (Nat.le_of_ble_eq_true rfl)) dX4_addBond_5 ⟨Nat.zero_le _, Nat.zero_le _⟩) hS (fun _ _ h => h.elim) (fun _ h => h.elim) (fun r_1 u t9 H locs ht hvm hw _ hz1 hk1 hS => ?_)
  have hW := hW.kept hk1
  rcases hw with ⟨rfl, hp_1⟩ | ⟨rfl, hp_1⟩
  ·
    refine lv_if_eq (tgt := 30) hx hb dX4_addBond_8 (by decide) (fun c_2 => ?_) (fun c_2 => ?_)
    · -- 1 eq 0 : True
      exact absurd c_2 (by decide)
    · -- 1 eq 0 : False
      refine lv_iload_n hx hb dX4_addBond_11 rfl (lv_at hl 2 rfl) ?_
      refine lv_aload_n hx hb dX4_addBond_12 rfl (lv_at hl 0 rfl) ?_
      refine wb_get hx hb hts hinX4 hown hK hW 0 (Nat.le_of_ble_eq_true rfl) rfl rfl 0 (by decide) hf67 (fun _ h9 => h9) (v := .int (g 0)) rfl dX4_addBond_13 ?_
      refine lv_icmp_le (tgt := 30) hx hb dX4_addBond_16 (by decide) (fun c_3 => ?_) (fun c_3 => ?_)
      · -- y le g 0 : True
        refine lv_iconst (v := 0) hx hb dX4_addBond_30 (by decide) ?_
        refine lv_aload_n hx hb dX4_addBond_31 rfl (lv_at hl 0 rfl) ?_
        refine wb_get hx hb hts hinX4 hown hK hW 0 (Nat.le_of_ble_eq_true rfl) rfl rfl 16 (by decide) hf57 (fun _ h9 => h9) (v := .int (nI b)) rfl dX4_addBond_32 ?_
        refine lv_iconst (v := 5) hx hb dX4_addBond_35 (by decide) ?_
        refine lv_icmp_ge (tgt := 43) hx hb dX4_addBond_36 (by decide) (fun c_4 => ?_) (fun c_4 => ?_)
        · -- nI b ge 5 : True
          refine lv_iconst (v := 0) hx hb dX4_addBond_43 (by decide) ?_
          refine lv_iconst (v := 1) hx hb dX4_addBond_44 (by decide) ?_
          refine va_calli (va_runV (As := [.int 0, .int 0, .int 1]) (rest := []) ⟨hx, hb, hml, hown, hts⟩ (c_X4_goes l D cs A ad g L B n b t hn hb5 0 0 1) (cwV 3 hts gX4_addBond_X4_goes rfl rfl rfl (by decide +kernel) ⟨Nat.le_of_ble_eq_true rfl, Nat.le_of_ble_eq_true rfl⟩) ⟨pM_fb, wb_recv hK hW (r := 0) (Nat.le_of_ble_eq_true rfl) (ci := 5) rfl rfl, fun U hU hV => ⟨rfl, pM_of hK hV.alike hU hW⟩⟩ rfl rfl hl.1 rfl (lv_room (Nat.le_of_ble_eq_true rfl)) dX4_addBond_45 ⟨Nat.zero_le _, Nat.zero_le _⟩) hS (fun _ _ h => h) (fun _ h => h) (fun r_5 u t9 H locs ht hvm hw hB hz1 hk1 hS => ?_)
          have hW : wP D A lvM ad (ctM cs ad g L B n b 1) H := by rw [← ht]; exact hB
          rcases hw with ⟨rfl, hp_5⟩ | ⟨rfl, hp_5⟩
          ·
            exact absurd hp_5 (by decide)
          ·
            refine lv_if_ne (tgt := 53) hx hb dX4_addBond_48 (by decide) (fun c_6 => ?_) (fun c_6 => ?_)
            · -- 0 ne 0 : True
              exact absurd c_6 (by decide)
            · -- 0 ne 0 : False
              refine lv_iconst (v := 0) hx hb dX4_addBond_51 (by decide) ?_
              have hk : kAddBond g b x y = 1 := by simp [kAddBond, okBond, (eq_true hp_1), c_2, c_3, c_4, (eq_false hp_5), c_6]
              exact W.iret (v := 0) hx hb hr (fun t9 ht9 hW9 => ⟨⟨_, (), rfl, (by first | (simp only [hk, sel_0, sel_1, sel_2, sel_3]; done) | (simp only [hk, sel_0, sel_1, sel_2, sel_3]; first | rfl | (simp [(eq_true hp_1), c_2, c_3, c_4, (eq_false hp_5), c_6, upd]; done))), (by dsimp only; rw [ht9]; simp only [hk, sel_0, sel_1, sel_2, sel_3]; exact hW)⟩, hS.F ht9⟩) hS.2.2 dX4_addBond_52
        · -- nI b ge 5 : False
          have h12 : b < 5 := by rcases Nat.lt_or_ge b 5 with q | q; exact q; exact absurd (nI_le q (by omega)) c_4
          refine lv_iconst (v := 1) hx hb dX4_addBond_39 (by decide) ?_
          refine lv_goto (tgt := 44) hx hb dX4_addBond_40 (by decide) ?_
          refine lv_iconst (v := 1) hx hb dX4_addBond_44 (by decide) ?_
          refine va_calli (va_runV (As := [.int 0, .int 1, .int 1]) (rest := []) ⟨hx, hb, hml, hown, hts⟩ (c_X4_goes l D cs A ad g L B n b t hn hb5 0 1 1) (cwV 3 hts gX4_addBond_X4_goes rfl rfl rfl (by decide +kernel) ⟨Nat.le_of_ble_eq_true rfl, Nat.le_of_ble_eq_true rfl⟩) ⟨pM_fb, wb_recv hK hW (r := 0) (Nat.le_of_ble_eq_true rfl) (ci := 5) rfl rfl, fun U hU hV => ⟨rfl, pM_of hK hV.alike hU hW⟩⟩ rfl rfl hl.1 rfl (lv_room (Nat.le_of_ble_eq_true rfl)) dX4_addBond_45 ⟨Nat.zero_le _, Nat.zero_le _⟩) hS (fun _ _ h => h) (fun _ h => h) (fun r_7 u t9 H locs ht hvm hw hB hz1 hk1 hS => ?_)
          have hW : wP D A lvM ad (ctM cs ad g L B n b 1) H := by rw [← ht]; exact hB
          rcases hw with ⟨rfl, hp_7⟩ | ⟨rfl, hp_7⟩
          ·
            exact absurd hp_7 (by decide)
          ·
            refine lv_if_ne (tgt := 53) hx hb dX4_addBond_48 (by decide) (fun c_8 => ?_) (fun c_8 => ?_)
            · -- 0 ne 0 : True
              exact absurd c_8 (by decide)
            · -- 0 ne 0 : False
              refine lv_iconst (v := 0) hx hb dX4_addBond_51 (by decide) ?_
              have hk : kAddBond g b x y = 1 := by simp [kAddBond, okBond, (eq_true hp_1), c_2, c_3, c_4, (eq_false hp_7), c_8]
              exact W.iret (v := 0) hx hb hr (fun t9 ht9 hW9 => ⟨⟨_, (), rfl, (by first | (simp only [hk, sel_0, sel_1, sel_2, sel_3]; done) | (simp only [hk, sel_0, sel_1, sel_2, sel_3]; first | rfl | (simp [(eq_true hp_1), c_2, c_3, c_4, (eq_false hp_7), c_8, upd]; done))), (by dsimp only; rw [ht9]; simp only [hk, sel_0, sel_1, sel_2, sel_3]; exact hW)⟩, hS.F ht9⟩) hS.2.2 dX4_addBond_52
      · -- y le g 0 : False
        refine lv_iload_n hx hb dX4_addBond_19 rfl (lv_at hl 2 rfl) ?_
        refine lv_sipush (v := 600) hx hb dX4_addBond_20 (by decide) ?_
        refine lv_icmp_gt (tgt := 30) hx hb dX4_addBond_23 (by decide) (fun c_9 => ?_) (fun c_9 => ?_)
        · -- y gt 600 : True
          refine lv_iconst (v := 0) hx hb dX4_addBond_30 (by decide) ?_
          refine lv_aload_n hx hb dX4_addBond_31 rfl (lv_at hl 0 rfl) ?_
          refine wb_get hx hb hts hinX4 hown hK hW 0 (Nat.le_of_ble_eq_true rfl) rfl rfl 16 (by decide) hf57 (fun _ h9 => h9) (v := .int (nI b)) rfl dX4_addBond_32 ?_
          refine lv_iconst (v := 5) hx hb dX4_addBond_35 (by decide) ?_
          refine lv_icmp_ge (tgt := 43) hx hb dX4_addBond_36 (by decide) (fun c_10 => ?_) (fun c_10 => ?_)
          · -- nI b ge 5 : True
            refine lv_iconst (v := 0) hx hb dX4_addBond_43 (by decide) ?_
            refine lv_iconst (v := 1) hx hb dX4_addBond_44 (by decide) ?_
            refine va_calli (va_runV (As := [.int 0, .int 0, .int 1]) (rest := []) ⟨hx, hb, hml, hown, hts⟩ (c_X4_goes l D cs A ad g L B n b t hn hb5 0 0 1) (cwV 3 hts gX4_addBond_X4_goes rfl rfl rfl (by decide +kernel) ⟨Nat.le_of_ble_eq_true rfl, Nat.le_of_ble_eq_true rfl⟩) ⟨pM_fb, wb_recv hK hW (r := 0) (Nat.le_of_ble_eq_true rfl) (ci := 5) rfl rfl, fun U hU hV => ⟨rfl, pM_of hK hV.alike hU hW⟩⟩ rfl rfl hl.1 rfl (lv_room (Nat.le_of_ble_eq_true rfl)) dX4_addBond_45 ⟨Nat.zero_le _, Nat.zero_le _⟩) hS (fun _ _ h => h) (fun _ h => h) (fun r_11 u t9 H locs ht hvm hw hB hz1 hk1 hS => ?_)
            have hW : wP D A lvM ad (ctM cs ad g L B n b 1) H := by rw [← ht]; exact hB
            rcases hw with ⟨rfl, hp_11⟩ | ⟨rfl, hp_11⟩
            ·
              exact absurd hp_11 (by decide)
            ·
              refine lv_if_ne (tgt := 53) hx hb dX4_addBond_48 (by decide) (fun c_12 => ?_) (fun c_12 => ?_)
              · -- 0 ne 0 : True
                exact absurd c_12 (by decide)
              · -- 0 ne 0 : False
                refine lv_iconst (v := 0) hx hb dX4_addBond_51 (by decide) ?_
                have hk : kAddBond g b x y = 1 := by simp [kAddBond, okBond, (eq_true hp_1), c_2, c_3, c_9, c_10, (eq_false hp_11), c_12]
                exact W.iret (v := 0) hx hb hr (fun t9 ht9 hW9 => ⟨⟨_, (), rfl, (by first | (simp only [hk, sel_0, sel_1, sel_2, sel_3]; done) | (simp only [hk, sel_0, sel_1, sel_2, sel_3]; first | rfl | (simp [(eq_true hp_1), c_2, c_3, c_9, c_10, (eq_false hp_11), c_12, upd]; done))), (by dsimp only; rw [ht9]; simp only [hk, sel_0, sel_1, sel_2, sel_3]; exact hW)⟩, hS.F ht9⟩) hS.2.2 dX4_addBond_52
          · -- nI b ge 5 : False
            have h12 : b < 5 := by rcases Nat.lt_or_ge b 5 with q | q; exact q; exact absurd (nI_le q (by omega)) c_10
            refine lv_iconst (v := 1) hx hb dX4_addBond_39 (by decide) ?_
            refine lv_goto (tgt := 44) hx hb dX4_addBond_40 (by decide) ?_
            refine lv_iconst (v := 1) hx hb dX4_addBond_44 (by decide) ?_
            refine va_calli (va_runV (As := [.int 0, .int 1, .int 1]) (rest := []) ⟨hx, hb, hml, hown, hts⟩ (c_X4_goes l D cs A ad g L B n b t hn hb5 0 1 1) (cwV 3 hts gX4_addBond_X4_goes rfl rfl rfl (by decide +kernel) ⟨Nat.le_of_ble_eq_true rfl, Nat.le_of_ble_eq_true rfl⟩) ⟨pM_fb, wb_recv hK hW (r := 0) (Nat.le_of_ble_eq_true rfl) (ci := 5) rfl rfl, fun U hU hV => ⟨rfl, pM_of hK hV.alike hU hW⟩⟩ rfl rfl hl.1 rfl (lv_room (Nat.le_of_ble_eq_true rfl)) dX4_addBond_45 ⟨Nat.zero_le _, Nat.zero_le _⟩) hS (fun _ _ h => h) (fun _ h => h) (fun r_13 u t9 H locs ht hvm hw hB hz1 hk1 hS => ?_)
            have hW : wP D A lvM ad (ctM cs ad g L B n b 1) H := by rw [← ht]; exact hB
            rcases hw with ⟨rfl, hp_13⟩ | ⟨rfl, hp_13⟩
            ·
              exact absurd hp_13 (by decide)
            ·
              refine lv_if_ne (tgt := 53) hx hb dX4_addBond_48 (by decide) (fun c_14 => ?_) (fun c_14 => ?_)
              · -- 0 ne 0 : True
                exact absurd c_14 (by decide)
              · -- 0 ne 0 : False
                refine lv_iconst (v := 0) hx hb dX4_addBond_51 (by decide) ?_
                have hk : kAddBond g b x y = 1 := by simp [kAddBond, okBond, (eq_true hp_1), c_2, c_3, c_9, c_10, (eq_false hp_13), c_14]
                exact W.iret (v := 0) hx hb hr (fun t9 ht9 hW9 => ⟨⟨_, (), rfl, (by first | (simp only [hk, sel_0, sel_1, sel_2, sel_3]; done) | (simp only [hk, sel_0, sel_1, sel_2, sel_3]; first | rfl | (simp [(eq_true hp_1), c_2, c_3, c_9, c_10, (eq_false hp_13), c_14, upd]; done))), (by dsimp only; rw [ht9]; simp only [hk, sel_0, sel_1, sel_2, sel_3]; exact hW)⟩, hS.F ht9⟩) hS.2.2 dX4_addBond_52
        · -- y gt 600 : False
          refine lv_iconst (v := 1) hx hb dX4_addBond_26 (by decide) ?_
          refine lv_goto (tgt := 31) hx hb dX4_addBond_27 (by decide) ?_
          refine lv_aload_n hx hb dX4_addBond_31 rfl (lv_at hl 0 rfl) ?_
          refine wb_get hx hb hts hinX4 hown hK hW 0 (Nat.le_of_ble_eq_true rfl) rfl rfl 16 (by decide) hf57 (fun _ h9 => h9) (v := .int (nI b)) rfl dX4_addBond_32 ?_
          refine lv_iconst (v := 5) hx hb dX4_addBond_35 (by decide) ?_
          refine lv_icmp_ge (tgt := 43) hx hb dX4_addBond_36 (by decide) (fun c_15 => ?_) (fun c_15 => ?_)
          · -- nI b ge 5 : True
            refine lv_iconst (v := 0) hx hb dX4_addBond_43 (by decide) ?_
            refine lv_iconst (v := 1) hx hb dX4_addBond_44 (by decide) ?_
            refine va_calli (va_runV (As := [.int 1, .int 0, .int 1]) (rest := []) ⟨hx, hb, hml, hown, hts⟩ (c_X4_goes l D cs A ad g L B n b t hn hb5 1 0 1) (cwV 3 hts gX4_addBond_X4_goes rfl rfl rfl (by decide +kernel) ⟨Nat.le_of_ble_eq_true rfl, Nat.le_of_ble_eq_true rfl⟩) ⟨pM_fb, wb_recv hK hW (r := 0) (Nat.le_of_ble_eq_true rfl) (ci := 5) rfl rfl, fun U hU hV => ⟨rfl, pM_of hK hV.alike hU hW⟩⟩ rfl rfl hl.1 rfl (lv_room (Nat.le_of_ble_eq_true rfl)) dX4_addBond_45 ⟨Nat.zero_le _, Nat.zero_le _⟩) hS (fun _ _ h => h) (fun _ h => h) (fun r_16 u t9 H locs ht hvm hw hB hz1 hk1 hS => ?_)
            have hW : wP D A lvM ad (ctM cs ad g L B n b 2) H := by rw [← ht]; exact hB
            rcases hw with ⟨rfl, hp_16⟩ | ⟨rfl, hp_16⟩
            ·
              exact absurd hp_16 (by decide)
            ·
              refine lv_if_ne (tgt := 53) hx hb dX4_addBond_48 (by decide) (fun c_17 => ?_) (fun c_17 => ?_)
              · -- 0 ne 0 : True
                exact absurd c_17 (by decide)
              · -- 0 ne 0 : False
                refine lv_iconst (v := 0) hx hb dX4_addBond_51 (by decide) ?_
                have hk : kAddBond g b x y = 2 := by simp [kAddBond, okBond, (eq_true hp_1), c_2, c_3, c_9, c_15, (eq_false hp_16), c_17]
                exact W.iret (v := 0) hx hb hr (fun t9 ht9 hW9 => ⟨⟨_, (), rfl, (by first | (simp only [hk, sel_0, sel_1, sel_2, sel_3]; done) | (simp only [hk, sel_0, sel_1, sel_2, sel_3]; first | rfl | (simp [(eq_true hp_1), c_2, c_3, c_9, c_15, (eq_false hp_16), c_17, upd]; done))), (by dsimp only; rw [ht9]; simp only [hk, sel_0, sel_1, sel_2, sel_3]; exact hW)⟩, hS.F ht9⟩) hS.2.2 dX4_addBond_52
          · -- nI b ge 5 : False
            have h12 : b < 5 := by rcases Nat.lt_or_ge b 5 with q | q; exact q; exact absurd (nI_le q (by omega)) c_15
            refine lv_iconst (v := 1) hx hb dX4_addBond_39 (by decide) ?_
            refine lv_goto (tgt := 44) hx hb dX4_addBond_40 (by decide) ?_
            refine lv_iconst (v := 1) hx hb dX4_addBond_44 (by decide) ?_
            refine va_calli (va_runV (As := [.int 1, .int 1, .int 1]) (rest := []) ⟨hx, hb, hml, hown, hts⟩ (c_X4_goes l D cs A ad g L B n b t hn hb5 1 1 1) (cwV 3 hts gX4_addBond_X4_goes rfl rfl rfl (by decide +kernel) ⟨Nat.le_of_ble_eq_true rfl, Nat.le_of_ble_eq_true rfl⟩) ⟨pM_fb, wb_recv hK hW (r := 0) (Nat.le_of_ble_eq_true rfl) (ci := 5) rfl rfl, fun U hU hV => ⟨rfl, pM_of hK hV.alike hU hW⟩⟩ rfl rfl hl.1 rfl (lv_room (Nat.le_of_ble_eq_true rfl)) dX4_addBond_45 ⟨Nat.zero_le _, Nat.zero_le _⟩) hS (fun _ _ h => h) (fun _ h => h) (fun r_18 u t9 H locs ht hvm hw hB hz1 hk1 hS => ?_)
            have hW : wP D A lvM ad (ctM cs ad g L B n b 0) H := by rw [← ht]; exact hB
            rcases hw with ⟨rfl, hp_18⟩ | ⟨rfl, hp_18⟩
            ·
              refine lv_if_ne (tgt := 53) hx hb dX4_addBond_48 (by decide) (fun c_19 => ?_) (fun c_19 => ?_)
              · -- 1 ne 0 : True
                refine lv_aload_n hx hb dX4_addBond_53 rfl (lv_at hl 0 rfl) ?_
                refine wb_get hx hb hts hinX4 hown hK hW 0 (Nat.le_of_ble_eq_true rfl) rfl rfl 12 (by decide) hf38 (fun _ h9 => h9) (v := .ref (ad 7)) rfl dX4_addBond_54 ?_
                refine lv_aload_n hx hb dX4_addBond_57 rfl (lv_at hl 0 rfl) ?_
                refine wb_get hx hb hts hinX4 hown hK hW 0 (Nat.le_of_ble_eq_true rfl) rfl rfl 16 (by decide) hf57 (fun _ h9 => h9) (v := .int (nI b)) rfl dX4_addBond_58 ?_
                refine lv_iload_n hx hb dX4_addBond_61 rfl (lv_at hl 1 rfl) ?_
                refine wb_iast hx hb hK hW hS 7 (Nat.le_of_ble_eq_true rfl) 0 rfl rfl b rfl (by omega) (by decide) dX4_addBond_62 (fun H locs hW hS => ?_)
                obtain ⟨B20, hB20⟩ : ∃ z9, z9 = updL B 0 b x := ⟨_, rfl⟩
                have hW : wP D A lvM ad (ctM cs ad g L B20 n b 0) H := hW.to (fun r hr => ⟨hr, rfl, by subst hB20; rcases lt11 hr with rfl | rfl | rfl | rfl | rfl | rfl | rfl | rfl | rfl | rfl | rfl <;> rfl⟩)
                refine lv_aload_n hx hb dX4_addBond_63 rfl (lv_at hl 0 rfl) ?_
                refine wb_get hx hb hts hinX4 hown hK hW 0 (Nat.le_of_ble_eq_true rfl) rfl rfl 13 (by decide) hf41 (fun _ h9 => h9) (v := .ref (ad 8)) rfl dX4_addBond_64 ?_
                refine lv_aload_n hx hb dX4_addBond_67 rfl (lv_at hl 0 rfl) ?_
                refine wb_get hx hb hts hinX4 hown hK hW 0 (Nat.le_of_ble_eq_true rfl) rfl rfl 16 (by decide) hf57 (fun _ h9 => h9) (v := .int (nI b)) rfl dX4_addBond_68 ?_
                refine lv_iload_n hx hb dX4_addBond_71 rfl (lv_at hl 2 rfl) ?_
                refine wb_iast hx hb hK hW hS 8 (Nat.le_of_ble_eq_true rfl) 0 rfl rfl b rfl (by omega) (by decide) dX4_addBond_72 (fun H locs hW hS => ?_)
                obtain ⟨B21, hB21⟩ : ∃ z9, z9 = updL B20 1 b y := ⟨_, rfl⟩
                have hW : wP D A lvM ad (ctM cs ad g L B21 n b 0) H := hW.to (fun r hr => ⟨hr, rfl, by subst hB21; rcases lt11 hr with rfl | rfl | rfl | rfl | rfl | rfl | rfl | rfl | rfl | rfl | rfl <;> rfl⟩)
                refine lv_aload_n hx hb dX4_addBond_73 rfl (lv_at hl 0 rfl) ?_
                refine lv_dup hx hb dX4_addBond_74 rfl ?_
                refine wb_get hx hb hts hinX4 hown hK hW 0 (Nat.le_of_ble_eq_true rfl) rfl rfl 16 (by decide) hf57 (fun _ h9 => h9) (v := .int (nI b)) rfl dX4_addBond_75 ?_
                refine lv_iconst (v := 1) hx hb dX4_addBond_78 (by decide) ?_
                refine lv_iadd hx hb dX4_addBond_79 ?_
                rw [nI_1]
                refine wb_put (v := .int (nI (b + 1))) (ty := .int) hx hb hts hinX4 tyX4 tyX4_ok nmX4 hown hK hW hS 0 (Nat.le_of_ble_eq_true rfl) rfl rfl 16 (by decide) hf57 (fun _ h9 => h9) rfl (by decide +kernel) rfl rfl (Nat.le_of_ble_eq_true rfl) dX4_addBond_80 (fun H locs hW hS => ?_)
                have hW : wP D A lvM ad (ctM cs ad g L B21 n (b + 1) 0) H := hW.to (fun r hr => ⟨hr, rfl, by rcases lt11 hr with rfl | rfl | rfl | rfl | rfl | rfl | rfl | rfl | rfl | rfl | rfl <;> rfl⟩)
                refine lv_aload_n hx hb dX4_addBond_83 rfl (lv_at hl 0 rfl) ?_
                refine lv_dup hx hb dX4_addBond_84 rfl ?_
                refine wb_get hx hb hts hinX4 hown hK hW 0 (Nat.le_of_ble_eq_true rfl) rfl rfl 1 (by decide) hf64 (fun _ h9 => h9) (v := .int (g 1)) rfl dX4_addBond_85 ?_
                refine lv_iload_n hx hb dX4_addBond_88 rfl (lv_at hl 1 rfl) ?_
                refine lv_iadd hx hb dX4_addBond_89 ?_
                refine wb_put (v := .int ((g 1) + x)) (ty := .int) hx hb hts hinX4 tyX4 tyX4_ok nmX4 hown hK hW hS 0 (Nat.le_of_ble_eq_true rfl) rfl rfl 1 (by decide) hf64 (fun _ h9 => h9) rfl (by decide +kernel) rfl rfl (Nat.le_of_ble_eq_true rfl) dX4_addBond_90 (fun H locs hW hS => ?_)
                obtain ⟨g23, hg23⟩ : ∃ z9, z9 = upd g 1 ((g 1) + x) := ⟨_, rfl⟩
                have hW : wP D A lvM ad (ctM cs ad g23 L B21 n (b + 1) 0) H := hW.to (fun r hr => ⟨hr, rfl, by subst hg23; rcases lt11 hr with rfl | rfl | rfl | rfl | rfl | rfl | rfl | rfl | rfl | rfl | rfl <;> rfl⟩)
                refine lv_aload_n hx hb dX4_addBond_93 rfl (lv_at hl 0 rfl) ?_
                refine wb_get hx hb hts hinX4 hown hK hW 0 (Nat.le_of_ble_eq_true rfl) rfl rfl 16 (by decide) hf57 (fun _ h9 => h9) (v := .int (nI (b + 1))) rfl dX4_addBond_94 ?_
                refine lv_iconst (v := 1) hx hb dX4_addBond_97 (by decide) ?_
                refine lv_isub hx hb dX4_addBond_98 ?_
                rw [nI_pred]
                have hk : kAddBond g b x y = 0 := by simp [kAddBond, okBond, (eq_true hp_1), c_2, c_3, c_9, c_15, (eq_true hp_18), c_19, hB20, hB21, hg23]
                exact W.iret (v := nI b) hx hb hr (fun t9 ht9 hW9 => ⟨⟨_, (), rfl, (by first | (simp only [hk, sel_0, sel_1, sel_2, sel_3]; done) | (simp only [hk, sel_0, sel_1, sel_2, sel_3]; first | rfl | (simp [(eq_true hp_1), c_2, c_3, c_9, c_15, (eq_true hp_18), c_19, hB20, hB21, hg23, upd]; done))), (by dsimp only; rw [ht9]; simp only [hk, sel_0, sel_1, sel_2, sel_3]; subst hg23 hB21 hB20; exact hW)⟩, hS.F ht9⟩) hS.2.2 dX4_addBond_99
              · -- 1 ne 0 : False
                exact absurd c_19 (by decide)
            ·
              exact absurd (by decide) hp_18
  ·
    refine lv_if_eq (tgt := 30) hx hb dX4_addBond_8 (by decide) (fun c_24 => ?_) (fun c_24 => ?_)
    · -- 0 eq 0 : True
      refine lv_iconst (v := 0) hx hb dX4_addBond_30 (by decide) ?_
      refine lv_aload_n hx hb dX4_addBond_31 rfl (lv_at hl 0 rfl) ?_
      refine wb_get hx hb hts hinX4 hown hK hW 0 (Nat.le_of_ble_eq_true rfl) rfl rfl 16 (by decide) hf57 (fun _ h9 => h9) (v := .int (nI b)) rfl dX4_addBond_32 ?_
      refine lv_iconst (v := 5) hx hb dX4_addBond_35 (by decide) ?_
      refine lv_icmp_ge (tgt := 43) hx hb dX4_addBond_36 (by decide) (fun c_25 => ?_) (fun c_25 => ?_)
      · -- nI b ge 5 : True
        refine lv_iconst (v := 0) hx hb dX4_addBond_43 (by decide) ?_
        refine lv_iconst (v := 1) hx hb dX4_addBond_44 (by decide) ?_
        refine va_calli (va_runV (As := [.int 0, .int 0, .int 1]) (rest := []) ⟨hx, hb, hml, hown, hts⟩ (c_X4_goes l D cs A ad g L B n b t hn hb5 0 0 1) (cwV 3 hts gX4_addBond_X4_goes rfl rfl rfl (by decide +kernel) ⟨Nat.le_of_ble_eq_true rfl, Nat.le_of_ble_eq_true rfl⟩) ⟨pM_fb, wb_recv hK hW (r := 0) (Nat.le_of_ble_eq_true rfl) (ci := 5) rfl rfl, fun U hU hV => ⟨rfl, pM_of hK hV.alike hU hW⟩⟩ rfl rfl hl.1 rfl (lv_room (Nat.le_of_ble_eq_true rfl)) dX4_addBond_45 ⟨Nat.zero_le _, Nat.zero_le _⟩) hS (fun _ _ h => h) (fun _ h => h) (fun r_26 u t9 H locs ht hvm hw hB hz1 hk1 hS => ?_)
        have hW : wP D A lvM ad (ctM cs ad g L B n b 1) H := by rw [← ht]; exact hB
        rcases hw with ⟨rfl, hp_26⟩ | ⟨rfl, hp_26⟩
        ·
          exact absurd hp_26 (by decide)
        ·
          refine lv_if_ne (tgt := 53) hx hb dX4_addBond_48 (by decide) (fun c_27 => ?_) (fun c_27 => ?_)
          · -- 0 ne 0 : True
            exact absurd c_27 (by decide)
          · -- 0 ne 0 : False
            refine lv_iconst (v := 0) hx hb dX4_addBond_51 (by decide) ?_
            have hk : kAddBond g b x y = 1 := by simp [kAddBond, okBond, (eq_false hp_1), c_24, c_25, (eq_false hp_26), c_27]
            exact W.iret (v := 0) hx hb hr (fun t9 ht9 hW9 => ⟨⟨_, (), rfl, (by first | (simp only [hk, sel_0, sel_1, sel_2, sel_3]; done) | (simp only [hk, sel_0, sel_1, sel_2, sel_3]; first | rfl | (simp [(eq_false hp_1), c_24, c_25, (eq_false hp_26), c_27, upd]; done))), (by dsimp only; rw [ht9]; simp only [hk, sel_0, sel_1, sel_2, sel_3]; exact hW)⟩, hS.F ht9⟩) hS.2.2 dX4_addBond_52
      · -- nI b ge 5 : False
        have h12 : b < 5 := by rcases Nat.lt_or_ge b 5 with q | q; exact q; exact absurd (nI_le q (by omega)) c_25
        refine lv_iconst (v := 1) hx hb dX4_addBond_39 (by decide) ?_
        refine lv_goto (tgt := 44) hx hb dX4_addBond_40 (by decide) ?_
        refine lv_iconst (v := 1) hx hb dX4_addBond_44 (by decide) ?_
        refine va_calli (va_runV (As := [.int 0, .int 1, .int 1]) (rest := []) ⟨hx, hb, hml, hown, hts⟩ (c_X4_goes l D cs A ad g L B n b t hn hb5 0 1 1) (cwV 3 hts gX4_addBond_X4_goes rfl rfl rfl (by decide +kernel) ⟨Nat.le_of_ble_eq_true rfl, Nat.le_of_ble_eq_true rfl⟩) ⟨pM_fb, wb_recv hK hW (r := 0) (Nat.le_of_ble_eq_true rfl) (ci := 5) rfl rfl, fun U hU hV => ⟨rfl, pM_of hK hV.alike hU hW⟩⟩ rfl rfl hl.1 rfl (lv_room (Nat.le_of_ble_eq_true rfl)) dX4_addBond_45 ⟨Nat.zero_le _, Nat.zero_le _⟩) hS (fun _ _ h => h) (fun _ h => h) (fun r_28 u t9 H locs ht hvm hw hB hz1 hk1 hS => ?_)
        have hW : wP D A lvM ad (ctM cs ad g L B n b 1) H := by rw [← ht]; exact hB
        rcases hw with ⟨rfl, hp_28⟩ | ⟨rfl, hp_28⟩
        ·
          exact absurd hp_28 (by decide)
        ·
          refine lv_if_ne (tgt := 53) hx hb dX4_addBond_48 (by decide) (fun c_29 => ?_) (fun c_29 => ?_)
          · -- 0 ne 0 : True
            exact absurd c_29 (by decide)
          · -- 0 ne 0 : False
            refine lv_iconst (v := 0) hx hb dX4_addBond_51 (by decide) ?_
            have hk : kAddBond g b x y = 1 := by simp [kAddBond, okBond, (eq_false hp_1), c_24, c_25, (eq_false hp_28), c_29]
            exact W.iret (v := 0) hx hb hr (fun t9 ht9 hW9 => ⟨⟨_, (), rfl, (by first | (simp only [hk, sel_0, sel_1, sel_2, sel_3]; done) | (simp only [hk, sel_0, sel_1, sel_2, sel_3]; first | rfl | (simp [(eq_false hp_1), c_24, c_25, (eq_false hp_28), c_29, upd]; done))), (by dsimp only; rw [ht9]; simp only [hk, sel_0, sel_1, sel_2, sel_3]; exact hW)⟩, hS.F ht9⟩) hS.2.2 dX4_addBond_52
    · -- 0 eq 0 : False
      exact absurd c_24 (by decide)
