set_option maxHeartbeats 4000000 in
set_option maxRecDepth 100000 in
theorem c_X3_enter (l : Launch) (hst : l.stackTraces = false) (D : va_G) (cs : Nat → ClassId) (A : Nat → Prop) (z0 : Nat) (sa : Nat → Nat) (ad : Nat → Nat) (g : Nat → Int32) (L B : Nat → Nat → Int32) (n b : Nat) (y1 y2 : Int32) (N1 N2 : Nat) (nd : Nat → Int32) (gv : Nat → Nat → Int32) (hn : n ≤ 12) (hb5 : b ≤ 5) (hN1 : n ≤ N1 ∧ N1 < 1000) (hN2 : b ≤ N2 ∧ N2 < 1000) (x : Int32)  : vx_Met l yX3_enter wsX3_enter ({ frames := 8, cells := 1, slots := 6, locals := 121 } : Room) (va_Pc [.ref (ad 0), .int x] (pC D cs A z0 sa (lvC n b) ad (ctC cs ad z0 g L B n b y1 y2 N1 N2 nd gv))) (va_Qi (fun (r9 : Int32) (_ : Unit) => kSt L n 0 x = 0 ∧ r9 = mCount g (updL L 5 (ixN x) 1) (ixN x)) (fun _ t9 => RC D cs A z0 (ad 0) g (updL L 5 (ixN x) 1) B n b t9.heap) A) (vx_X (fun (_ : Unit) => True) (fun E9 _ t9 => ((kSt L n 0 x = 1 ∧ E9 = xI) ∨ (kSt L n 0 x = 2 ∧ E9 = xS)) ∧ wP D A (lvC n b) ad (ctC cs ad z0 g L B n b y1 y2 N1 N2 nd gv) t9.heap) A) 1 6 A := by
  refine vx_ofW (cc := cX3_enter) (maxL := 3) (ret := (some .int)) (by decide) rfl ?_
  intro p e s m args below meth c s₁ BB hml htab hv
  obtain ⟨rfl, hv⟩ := hv
  obtain ⟨hE, hW⟩ := hv
  have hK := hE.1
  have hx := BB.exec
  have hb := BB.bytes
  have hr := BB.returns
  have hts := atoms_spec (ws := wsX3_enter) BB.pre
  have hown : s.vm.findClass RX3 = some m.cls := findClass_of_methodNamed BB.named
  have hlocks := BB.notSynchronized
  have hS : va_S A s.heap s.heap [] := va_S.rf
  have hl := lv_entry ([.ref (ad 0), .int x]) (n := 3) (Nat.le_of_ble_eq_true rfl)
  rw [lg_entry_eq]
  generalize (lg_sl ([.ref (ad 0), .int x]) ++ List.replicate (3 - (lg_sl ([.ref (ad 0), .int x])).length) Slot.unset).toArray = ls at hl ⊢
  have hl : lv_has ls 3 [(0, .ref (ad 0)), (1, .int x)] := hl
  have hf78 := hts (.fieldLink RX3 78 "Coverpool$Loan" "state" "I") (by decide +kernel)
  have hinX1 : ∀ w ∈ u_ws RX1 TX1 6, w ∈ wsX3_enter := by decide +kernel
  rcases isIx_cases n (by omega) x with hx_x | ⟨j, h_j, rfl⟩
  ·
    refine lv_aload_n hx hb dX3_enter_0 rfl (lv_at hl 0 rfl) ?_
    refine lv_iload_n hx hb dX3_enter_1 rfl (lv_at hl 1 rfl) ?_
    refine vx_callv (vx_runV (As := [.int x]) (rest := []) ⟨hx, hb, hml, hown, hts⟩ (c_X3_loanAtbad l hst D cs A z0 sa ad g L B n b y1 y2 N1 N2 nd gv hn hb5 hN1 hN2 x hx_x) (cwV 1 hts gX3_enter_X3_loanAt rfl rfl rfl (by decide +kernel) ⟨Nat.le_of_ble_eq_true rfl, Nat.le_of_ble_eq_true rfl⟩) ⟨pC_fb, wb_recv hK hW (r := 0) (lvC_0 (by decide)) (ci := 4) rfl rfl, fun U hU hV => ⟨rfl, hE.at (fun _ h => h) hS hV hU, by rw [hU]; exact hW⟩⟩ rfl rfl hl.1 rfl (lv_room (Nat.le_of_ble_eq_true rfl)) dX3_enter_2 ⟨Nat.le_of_ble_eq_true rfl, Nat.le_of_ble_eq_true rfl⟩) hS (fun _ _ h => h.elim) (fun _ h => h.elim) (fun _ _ h => h.elim) (fun E9 ce9 q9 u9 t9 H9 locs9 ht9 hvm9 hpx9 hbx9 hz9 hk9 hS9 hc9 hv9 hl9 => ?_) (fun u t9 H locs ht hvm hw hB hz1 hk1 hS => hw.elim)
    exact vx_out (fun x h => (htab x h).elim) hlocks hc9 hv9 hl9 (fun t8 ht8 hvm8 => ⟨(), trivial, ⟨by subst hbx9; exact Or.inl ⟨by simp [kSt, (eq_false hx_x)], rfl⟩, by rw [ht8]; exact hW.kept hk9⟩, hS9.F ht8⟩) hS9.2.2 (Nat.le_of_ble_eq_true rfl) (Nat.le_of_ble_eq_true rfl)
  ·
    have hx_x : isIx n (nI j) := isIx_nI h_j (by omega)
    have hn_x : ixN (nI j) = j := ixN_nI (by omega)
    refine lv_aload_n hx hb dX3_enter_0 rfl (lv_at hl 0 rfl) ?_
    refine lv_iload_n hx hb dX3_enter_1 rfl (lv_at hl 1 rfl) ?_
    refine va_callr (va_runV (As := [.int (nI j)]) (rest := []) ⟨hx, hb, hml, hown, hts⟩ (c_X3_loanAtok l D cs A z0 sa ad g L B n b y1 y2 N1 N2 nd gv hn hb5 hN1 hN2 j (by omega)) (cwV 1 hts gX3_enter_X3_loanAt rfl rfl rfl (by decide +kernel) ⟨Nat.le_of_ble_eq_true rfl, Nat.le_of_ble_eq_true rfl⟩) ⟨pC_fb, wb_recv hK hW (r := 0) (lvC_0 (by decide)) (ci := 4) rfl rfl, fun U hU hV => ⟨rfl, hE.at (fun _ h => h) hS hV hU, by rw [hU]; exact hW⟩⟩ rfl rfl hl.1 rfl (lv_room (Nat.le_of_ble_eq_true rfl)) dX3_enter_2 ⟨Nat.zero_le _, Nat.zero_le _⟩) hS (fun _ _ h => h.elim) (fun _ h => h.elim) (fun u r_2 t9 H locs ht hvm hw hB hz1 hk1 hS => ?_)
    have hW := hW.kept hk1
    subst hB
    refine lv_astore_n (lv' := [(2, .ref (ad (20 + j))), (0, .ref (ad 0)), (1, .int (nI j))]) hx hb dX3_enter_5 rfl hl (by decide) rfl (fun ls hl => ?_)
    refine lv_aload_n hx hb dX3_enter_6 rfl (lv_at hl 0 rfl) ?_
    refine lv_iconst (v := 0) hx hb dX3_enter_7 (by decide) ?_
    by_cases hp_3 : L 5 j = 0
    ·
      refine va_callv (va_runS (As := [.ref (ad (20 + j)), .int 0]) (rest := []) ⟨hx, hb, hml, hown, hts⟩ (c_X3_requireStateok l D cs A z0 sa ad g L B n b y1 y2 N1 N2 nd gv hn hb5 hN1 hN2 j (by omega) 0 hp_3) (va_cwS 2 hts gX3_enter_X3_requireState rfl rfl rfl (by decide +kernel) ⟨Nat.le_of_ble_eq_true rfl, Nat.le_of_ble_eq_true rfl⟩) ⟨pC_fb, fun U hU hV => ⟨rfl, hE.at (fun _ h => h) hS hV hU, by rw [hU]; exact hW⟩⟩ rfl rfl hl.1 rfl (lv_room (Nat.le_of_ble_eq_true rfl)) dX3_enter_8 ⟨Nat.zero_le _, Nat.zero_le _⟩) hS (fun _ _ h => h.elim) (fun _ h => h.elim) (fun u t9 H locs ht hvm hw _ hz1 hk1 hS => ?_)
      have hW := hW.kept hk1
      refine lv_aload_n hx hb dX3_enter_11 rfl (lv_at hl 0 rfl) ?_
      refine lv_iconst (v := 1) hx hb dX3_enter_12 (by decide) ?_
      refine wb_put (v := .int 1) (ty := .int) hx hb hts hinX1 tyX1 tyX1_ok nmX1 hown hK hW hS (20 + j) (lvC_ln (by omega)) (ctC_ln (by omega)) rfl 5 (by decide) hf78 (fun _ h9 => h9) rfl (by decide +kernel) rfl rfl (Nat.le_of_ble_eq_true rfl) dX3_enter_13 (fun H locs hW hS => ?_)
      obtain ⟨L5, hL5⟩ : ∃ z9, z9 = updL L 5 j 1 := ⟨_, rfl⟩
      have hW : wP D A (lvC n b) ad (ctC cs ad z0 g L5 B n b y1 y2 N1 N2 nd gv) H := by subst hL5; exact hW.up (by rw [ctC_ln (by omega)]; simp [updL_at, updL_nk]) (fun r _ hr => ctC_L (fun i9 k9 h8 _ => updL_ni _ _ _ _ (by omega)))
      refine lv_aload_n hx hb dX3_enter_16 rfl (lv_at hl 1 rfl) ?_
      refine lv_aload_n hx hb dX3_enter_17 rfl (lv_at hl 0 rfl) ?_
      refine va_calli (va_runV (As := [.ref (ad (20 + j))]) (rest := []) ⟨hx, hb, hml, hown, hts⟩ (c_X3_countOf l D cs A z0 sa ad g L5 B n b y1 y2 N1 N2 nd gv hn hb5 hN1 hN2 j (by omega)) (cwV 1 hts gX3_enter_X3_countOf rfl rfl rfl (by decide +kernel) ⟨Nat.le_of_ble_eq_true rfl, Nat.le_of_ble_eq_true rfl⟩) ⟨pC_fb, wb_recv hK hW (r := 0) (lvC_0 (by decide)) (ci := 4) rfl rfl, fun U hU hV => ⟨rfl, hE.at (fun _ h => h) hS hV hU, by rw [hU]; exact hW⟩⟩ rfl rfl hl.1 rfl (lv_room (Nat.le_of_ble_eq_true rfl)) dX3_enter_18 ⟨Nat.zero_le _, Nat.zero_le _⟩) hS (fun _ _ h => h.elim) (fun _ h => h.elim) (fun r_6 u t9 H locs ht hvm hw _ hz1 hk1 hS => ?_)
      have hW := hW.kept hk1
      subst hw
      have hk : kSt L n 0 (nI j) = 0 := by simp [kSt, (eq_true hx_x), hn_x, (eq_true hp_3), hL5]
      refine W.widen (k := 1) (n := 6) (Nat.le_of_ble_eq_true rfl) (Nat.le_of_ble_eq_true rfl) ?_
      exact vx_ret (W.iret (v := mCount g L5 j) hx hb hr (fun t9 ht9 hW9 => ⟨⟨_, (), rfl, ⟨hk, (by first | rfl | (simp only [hn_x]; done) | (simp only [hn_x]; first | rfl | (simp [(eq_true hx_x), hn_x, (eq_true hp_3), hL5, upd]; done)))⟩, (by dsimp only; rw [ht9]; (try simp only [hn_x]); subst hL5; exact ⟨ad, y1, y2, N1, N2, nd, gv, rfl, hN1, hN2, hW⟩)⟩, hS.F ht9⟩) hS.2.2 dX3_enter_21)
    ·
      refine vx_callv (vx_runS (As := [.ref (ad (20 + j)), .int 0]) (rest := []) ⟨hx, hb, hml, hown, hts⟩ (c_X3_requireStatebad l hst D cs A z0 sa ad g L B n b y1 y2 N1 N2 nd gv hn hb5 hN1 hN2 j (by omega) 0 hp_3) (va_cwS 2 hts gX3_enter_X3_requireState rfl rfl rfl (by decide +kernel) ⟨Nat.le_of_ble_eq_true rfl, Nat.le_of_ble_eq_true rfl⟩) ⟨pC_fb, fun U hU hV => ⟨rfl, hE.at (fun _ h => h) hS hV hU, by rw [hU]; exact hW⟩⟩ rfl rfl hl.1 rfl (lv_room (Nat.le_of_ble_eq_true rfl)) dX3_enter_8 ⟨Nat.le_of_ble_eq_true rfl, Nat.le_of_ble_eq_true rfl⟩) hS (fun _ _ h => h.elim) (fun _ h => h.elim) (fun _ _ h => h.elim) (fun E9 ce9 q9 u9 t9 H9 locs9 ht9 hvm9 hpx9 hbx9 hz9 hk9 hS9 hc9 hv9 hl9 => ?_) (fun u t9 H locs ht hvm hw hB hz1 hk1 hS => hw.elim)
      exact vx_out (fun x h => (htab x h).elim) hlocks hc9 hv9 hl9 (fun t8 ht8 hvm8 => ⟨(), trivial, ⟨by subst hbx9; exact Or.inr (⟨by simp [kSt, (eq_true hx_x), hn_x, (eq_false hp_3)], rfl⟩), by rw [ht8]; exact hW.kept hk9⟩, hS9.F ht8⟩) hS9.2.2 (Nat.le_of_ble_eq_true rfl) (Nat.le_of_ble_eq_true rfl)

set_option maxHeartbeats 4000000 in
set_option maxRecDepth 100000 in
theorem c_X3_leave (l : Launch) (hst : l.stackTraces = false) (D : va_G) (cs : Nat → ClassId) (A : Nat → Prop) (z0 : Nat) (sa : Nat → Nat) (ad : Nat → Nat) (g : Nat → Int32) (L B : Nat → Nat → Int32) (n b : Nat) (y1 y2 : Int32) (N1 N2 : Nat) (nd : Nat → Int32) (gv : Nat → Nat → Int32) (hn : n ≤ 12) (hb5 : b ≤ 5) (hN1 : n ≤ N1 ∧ N1 < 1000) (hN2 : b ≤ N2 ∧ N2 < 1000) (x : Int32)  : vx_Met l yX3_leave wsX3_leave ({ frames := 8, cells := 1, slots := 6, locals := 176 } : Room) (va_Pc [.ref (ad 0), .int x] (pC D cs A z0 sa (lvC n b) ad (ctC cs ad z0 g L B n b y1 y2 N1 N2 nd gv))) (va_Qi (fun (r9 u9 : Int32) => kSt L n 1 x = 0 ∧ u9 = r9 ∧ ((r9 = 1 ∧ (cAll (fsN nd g B b) (gvS gv g L n) (outOf L n x))) ∨ (r9 = 0 ∧ ¬ (cAll (fsN nd g B b) (gvS gv g L n) (outOf L n x))))) (fun u9 t9 => RC D cs A z0 (ad 0) g (if u9 = 1 then (updL L 5 (ixN x) 0) else L) B n b t9.heap) A) (vx_X (fun (_ : Unit) => True) (fun E9 _ t9 => ((kSt L n 1 x = 1 ∧ E9 = xI) ∨ (kSt L n 1 x = 2 ∧ E9 = xS)) ∧ wP D A (lvC n b) ad (ctC cs ad z0 g L B n b y1 y2 N1 N2 nd gv) t9.heap) A) 1 6 A := by
  refine vx_ofW (cc := cX3_leave) (maxL := 3) (ret := (some .boolean)) (by decide) rfl ?_
  intro p e s m args below meth c s₁ BB hml htab hv
  obtain ⟨rfl, hv⟩ := hv
  obtain ⟨hE, hW⟩ := hv
  have hK := hE.1
  have hx := BB.exec
  have hb := BB.bytes
  have hr := BB.returns
  have hts := atoms_spec (ws := wsX3_leave) BB.pre
  have hown : s.vm.findClass RX3 = some m.cls := findClass_of_methodNamed BB.named
  have hlocks := BB.notSynchronized
  have hS : va_S A s.heap s.heap [] := va_S.rf
  have hl := lv_entry ([.ref (ad 0), .int x]) (n := 3) (Nat.le_of_ble_eq_true rfl)
  rw [lg_entry_eq]
  generalize (lg_sl ([.ref (ad 0), .int x]) ++ List.replicate (3 - (lg_sl ([.ref (ad 0), .int x])).length) Slot.unset).toArray = ls at hl ⊢
  have hl : lv_has ls 3 [(0, .ref (ad 0)), (1, .int x)] := hl
  have hf22 := hts (.fieldLink RX3 22 "Coverpool" "sheet" "LCoverpool$Sheet;") (by decide +kernel)
  have hf78 := hts (.fieldLink RX3 78 "Coverpool$Loan" "state" "I") (by decide +kernel)
  have hinX1 : ∀ w ∈ u_ws RX1 TX1 6, w ∈ wsX3_leave := by decide +kernel
  have hinX3 : ∀ w ∈ u_ws RX3 TX3 8, w ∈ wsX3_leave := by decide +kernel
  rcases isIx_cases n (by omega) x with hx_x | ⟨j, h_j, rfl⟩
  ·
    refine lv_aload_n hx hb dX3_leave_0 rfl (lv_at hl 0 rfl) ?_
    refine lv_iload_n hx hb dX3_leave_1 rfl (lv_at hl 1 rfl) ?_
    refine vx_callv (vx_runV (As := [.int x]) (rest := []) ⟨hx, hb, hml, hown, hts⟩ (c_X3_loanAtbad l hst D cs A z0 sa ad g L B n b y1 y2 N1 N2 nd gv hn hb5 hN1 hN2 x hx_x) (cwV 1 hts gX3_leave_X3_loanAt rfl rfl rfl (by decide +kernel) ⟨Nat.le_of_ble_eq_true rfl, Nat.le_of_ble_eq_true rfl⟩) ⟨pC_fb, wb_recv hK hW (r := 0) (lvC_0 (by decide)) (ci := 4) rfl rfl, fun U hU hV => ⟨rfl, hE.at (fun _ h => h) hS hV hU, by rw [hU]; exact hW⟩⟩ rfl rfl hl.1 rfl (lv_room (Nat.le_of_ble_eq_true rfl)) dX3_leave_2 ⟨Nat.le_of_ble_eq_true rfl, Nat.le_of_ble_eq_true rfl⟩) hS (fun _ _ h => h.elim) (fun _ h => h.elim) (fun _ _ h => h.elim) (fun E9 ce9 q9 u9 t9 H9 locs9 ht9 hvm9 hpx9 hbx9 hz9 hk9 hS9 hc9 hv9 hl9 => ?_) (fun u t9 H locs ht hvm hw hB hz1 hk1 hS => hw.elim)
    exact vx_out (fun x h => (htab x h).elim) hlocks hc9 hv9 hl9 (fun t8 ht8 hvm8 => ⟨(), trivial, ⟨by subst hbx9; exact Or.inl ⟨by simp [kSt, (eq_false hx_x)], rfl⟩, by rw [ht8]; exact hW.kept hk9⟩, hS9.F ht8⟩) hS9.2.2 (Nat.le_of_ble_eq_true rfl) (Nat.le_of_ble_eq_true rfl)
  ·
    have hx_x : isIx n (nI j) := isIx_nI h_j (by omega)
    have hn_x : ixN (nI j) = j := ixN_nI (by omega)
    refine lv_aload_n hx hb dX3_leave_0 rfl (lv_at hl 0 rfl) ?_
    refine lv_iload_n hx hb dX3_leave_1 rfl (lv_at hl 1 rfl) ?_
    refine va_callr (va_runV (As := [.int (nI j)]) (rest := []) ⟨hx, hb, hml, hown, hts⟩ (c_X3_loanAtok l D cs A z0 sa ad g L B n b y1 y2 N1 N2 nd gv hn hb5 hN1 hN2 j (by omega)) (cwV 1 hts gX3_leave_X3_loanAt rfl rfl rfl (by decide +kernel) ⟨Nat.le_of_ble_eq_true rfl, Nat.le_of_ble_eq_true rfl⟩) ⟨pC_fb, wb_recv hK hW (r := 0) (lvC_0 (by decide)) (ci := 4) rfl rfl, fun U hU hV => ⟨rfl, hE.at (fun _ h => h) hS hV hU, by rw [hU]; exact hW⟩⟩ rfl rfl hl.1 rfl (lv_room (Nat.le_of_ble_eq_true rfl)) dX3_leave_2 ⟨Nat.zero_le _, Nat.zero_le _⟩) hS (fun _ _ h => h.elim) (fun _ h => h.elim) (fun u r_2 t9 H locs ht hvm hw hB hz1 hk1 hS => ?_)
    have hW := hW.kept hk1
    subst hB
    refine lv_astore_n (lv' := [(2, .ref (ad (20 + j))), (0, .ref (ad 0)), (1, .int (nI j))]) hx hb dX3_leave_5 rfl hl (by decide) rfl (fun ls hl => ?_)
    refine lv_aload_n hx hb dX3_leave_6 rfl (lv_at hl 0 rfl) ?_
    refine lv_iconst (v := 1) hx hb dX3_leave_7 (by decide) ?_
    by_cases hp_3 : L 5 j = 1
    ·
      refine va_callv (va_runS (As := [.ref (ad (20 + j)), .int 1]) (rest := []) ⟨hx, hb, hml, hown, hts⟩ (c_X3_requireStateok l D cs A z0 sa ad g L B n b y1 y2 N1 N2 nd gv hn hb5 hN1 hN2 j (by omega) 1 hp_3) (va_cwS 2 hts gX3_leave_X3_requireState rfl rfl rfl (by decide +kernel) ⟨Nat.le_of_ble_eq_true rfl, Nat.le_of_ble_eq_true rfl⟩) ⟨pC_fb, fun U hU hV => ⟨rfl, hE.at (fun _ h => h) hS hV hU, by rw [hU]; exact hW⟩⟩ rfl rfl hl.1 rfl (lv_room (Nat.le_of_ble_eq_true rfl)) dX3_leave_8 ⟨Nat.zero_le _, Nat.zero_le _⟩) hS (fun _ _ h => h.elim) (fun _ h => h.elim) (fun u t9 H locs ht hvm hw _ hz1 hk1 hS => ?_)
      have hW := hW.kept hk1
      refine lv_aload_n hx hb dX3_leave_11 rfl (lv_at hl 1 rfl) ?_
      refine va_callv (va_runV (As := []) (rest := []) ⟨hx, hb, hml, hown, hts⟩ (c_X3_fillSheet l D cs A z0 sa ad g L B n b y1 y2 N1 N2 nd gv hn hb5 hN1 hN2 ) (cwV 0 hts gX3_leave_X3_fillSheet rfl rfl rfl (by decide +kernel) ⟨Nat.le_of_ble_eq_true rfl, Nat.le_of_ble_eq_true rfl⟩) ⟨pC_fb, wb_recv hK hW (r := 0) (lvC_0 (by decide)) (ci := 4) rfl rfl, fun U hU hV => ⟨rfl, hE.at (fun _ h => h) hS hV hU, by rw [hU]; exact hW⟩⟩ rfl rfl hl.1 rfl (lv_room (Nat.le_of_ble_eq_true rfl)) dX3_leave_12 ⟨Nat.zero_le _, Nat.zero_le _⟩) hS (fun _ _ h => h) (fun _ h => h) (fun u t9 H locs ht hvm hw hB hz1 hk1 hS => ?_)
      have hW : wP D A (lvC n b) ad (ctC cs ad z0 g L B n b y1 y2 N1 N2 (fsN nd g B b) (gvS gv g L n)) H := by rw [← ht]; exact hB
      refine lv_aload_n hx hb dX3_leave_15 rfl (lv_at hl 1 rfl) ?_
      refine wb_get hx hb hts hinX3 hown hK hW 0 (lvC_0 (by decide)) rfl rfl 2 (by decide) hf22 (fun _ h9 => h9) (v := .ref (ad 3)) rfl dX3_leave_16 ?_
      refine lv_aload_n hx hb dX3_leave_19 rfl (lv_at hl 1 rfl) ?_
      refine lv_iconst (v := 1) hx hb dX3_leave_20 (by decide) ?_
      refine va_calli (va_runV (As := [.int 1]) (rest := [.ref (ad 3)]) ⟨hx, hb, hml, hown, hts⟩ (c_X3_loansThatAre l D cs A z0 sa ad g L B n b y1 y2 N1 N2 (fsN nd g B b) (gvS gv g L n) hn hb5 hN1 hN2 1) (cwV 1 hts gX3_leave_X3_loansThatAre rfl rfl rfl (by decide +kernel) ⟨Nat.le_of_ble_eq_true rfl, Nat.le_of_ble_eq_true rfl⟩) ⟨pC_fb, wb_recv hK hW (r := 0) (lvC_0 (by decide)) (ci := 4) rfl rfl, fun U hU hV => ⟨rfl, hE.at (fun _ h => h) hS hV hU, by rw [hU]; exact hW⟩⟩ rfl rfl hl.1 rfl (lv_room (Nat.le_of_ble_eq_true rfl)) dX3_leave_21 ⟨Nat.zero_le _, Nat.zero_le _⟩) hS (fun _ _ h => h.elim) (fun _ h => h.elim) (fun r_5 u t9 H locs ht hvm hw _ hz1 hk1 hS => ?_)
      have hW := hW.kept hk1
      subst hw
      refine lv_iconst (v := 1) hx hb dX3_leave_24 (by decide) ?_
      refine lv_iload_n hx hb dX3_leave_25 rfl (lv_at hl 2 rfl) ?_
      refine lv_ishl hx hb dX3_leave_26 ?_
      refine lv_iconst (v := (-1)) hx hb dX3_leave_27 (by decide) ?_
      refine lv_ixor hx hb dX3_leave_28 ?_
      refine lv_iand hx hb dX3_leave_29 ?_
      refine va_calli (va_runV (As := [.int ((mPool L 1 n) &&& (((1 : Int32) <<< ((nI j) &&& 31)) ^^^ (-1)))]) (rest := []) ⟨hx, hb, hml, hown, hts⟩ (c_X2_allHold l D cs A z0 sa ad g L B n b y1 y2 N1 N2 (fsN nd g B b) (gvS gv g L n) hn hb5 hN1 hN2 ((mPool L 1 n) &&& (((1 : Int32) <<< ((nI j) &&& 31)) ^^^ (-1)))) (cwV 1 hts gX3_leave_X2_allHold rfl rfl rfl (by decide +kernel) ⟨Nat.le_of_ble_eq_true rfl, Nat.le_of_ble_eq_true rfl⟩) ⟨pC_fb, wb_recv hK hW (r := 3) (lvC_0 (by decide)) (ci := 3) rfl rfl, fun U hU hV => ⟨rfl, hE.at (fun _ h => h) hS hV hU, by rw [hU]; exact hW⟩⟩ rfl rfl hl.1 rfl (lv_room (Nat.le_of_ble_eq_true rfl)) dX3_leave_30 ⟨Nat.zero_le _, Nat.zero_le _⟩) hS (fun _ _ h => h.elim) (fun _ h => h.elim) (fun r_6 u t9 H locs ht hvm hw _ hz1 hk1 hS => ?_)
      have hW := hW.kept hk1
      rcases hw with ⟨rfl, hp_6⟩ | ⟨rfl, hp_6⟩
      ·
        refine lv_if_ne (tgt := 38) hx hb dX3_leave_33 (by decide) (fun c_7 => ?_) (fun c_7 => ?_)
        · -- 1 ne 0 : True
          refine lv_aload_n hx hb dX3_leave_38 rfl (lv_at hl 0 rfl) ?_
          refine lv_iconst (v := 0) hx hb dX3_leave_39 (by decide) ?_
          refine wb_put (v := .int 0) (ty := .int) hx hb hts hinX1 tyX1 tyX1_ok nmX1 hown hK hW hS (20 + j) (lvC_ln (by omega)) (ctC_ln (by omega)) rfl 5 (by decide) hf78 (fun _ h9 => h9) rfl (by decide +kernel) rfl rfl (Nat.le_of_ble_eq_true rfl) dX3_leave_40 (fun H locs hW hS => ?_)
          obtain ⟨L9, hL9⟩ : ∃ z9, z9 = updL L 5 j 0 := ⟨_, rfl⟩
          have hW : wP D A (lvC n b) ad (ctC cs ad z0 g L9 B n b y1 y2 N1 N2 (fsN nd g B b) (gvS gv g L n)) H := by subst hL9; exact hW.up (by rw [ctC_ln (by omega)]; simp [updL_at, updL_nk]) (fun r _ hr => ctC_L (fun i9 k9 h8 _ => updL_ni _ _ _ _ (by omega)))
          refine lv_iconst (v := 1) hx hb dX3_leave_43 (by decide) ?_
          have hk : kSt L n 1 (nI j) = 0 := by simp [kSt, (eq_true hx_x), hn_x, (eq_true hp_3), (eq_true hp_6), c_7, hL9]
          refine W.widen (k := 1) (n := 6) (Nat.le_of_ble_eq_true rfl) (Nat.le_of_ble_eq_true rfl) ?_
          exact vx_ret (W.zret (ty := .boolean) (v := 1) hx hb hr (by decide) (fun t9 ht9 hW9 => ⟨⟨_, 1, rfl, ⟨hk, rfl, Or.inl ⟨rfl, hp_6⟩⟩, (by dsimp only; rw [ht9]; rw [if_pos (by decide)]; (try simp only [hn_x]); subst hL9; exact ⟨ad, y1, y2, N1, N2, (fsN nd g B b), (gvS gv g L n), rfl, hN1, hN2, hW⟩)⟩, hS.F ht9⟩) hS.2.2 dX3_leave_44)
        · -- 1 ne 0 : False
          exact absurd c_7 (by decide)
      ·
        refine lv_if_ne (tgt := 38) hx hb dX3_leave_33 (by decide) (fun c_10 => ?_) (fun c_10 => ?_)
        · -- 0 ne 0 : True
          exact absurd c_10 (by decide)
        · -- 0 ne 0 : False
          refine lv_iconst (v := 0) hx hb dX3_leave_36 (by decide) ?_
          have hk : kSt L n 1 (nI j) = 0 := by simp [kSt, (eq_true hx_x), hn_x, (eq_true hp_3), (eq_false hp_6), c_10]
          refine W.widen (k := 1) (n := 6) (Nat.le_of_ble_eq_true rfl) (Nat.le_of_ble_eq_true rfl) ?_
          exact vx_ret (W.zret (ty := .boolean) (v := 0) hx hb hr (by decide) (fun t9 ht9 hW9 => ⟨⟨_, 0, rfl, ⟨hk, rfl, Or.inr ⟨rfl, hp_6⟩⟩, (by dsimp only; rw [ht9]; rw [if_neg (by decide)]; (try simp only [hn_x]); exact ⟨ad, y1, y2, N1, N2, (fsN nd g B b), (gvS gv g L n), rfl, hN1, hN2, hW⟩)⟩, hS.F ht9⟩) hS.2.2 dX3_leave_37)
    ·
      refine vx_callv (vx_runS (As := [.ref (ad (20 + j)), .int 1]) (rest := []) ⟨hx, hb, hml, hown, hts⟩ (c_X3_requireStatebad l hst D cs A z0 sa ad g L B n b y1 y2 N1 N2 nd gv hn hb5 hN1 hN2 j (by omega) 1 hp_3) (va_cwS 2 hts gX3_leave_X3_requireState rfl rfl rfl (by decide +kernel) ⟨Nat.le_of_ble_eq_true rfl, Nat.le_of_ble_eq_true rfl⟩) ⟨pC_fb, fun U hU hV => ⟨rfl, hE.at (fun _ h => h) hS hV hU, by rw [hU]; exact hW⟩⟩ rfl rfl hl.1 rfl (lv_room (Nat.le_of_ble_eq_true rfl)) dX3_leave_8 ⟨Nat.le_of_ble_eq_true rfl, Nat.le_of_ble_eq_true rfl⟩) hS (fun _ _ h => h.elim) (fun _ h => h.elim) (fun _ _ h => h.elim) (fun E9 ce9 q9 u9 t9 H9 locs9 ht9 hvm9 hpx9 hbx9 hz9 hk9 hS9 hc9 hv9 hl9 => ?_) (fun u t9 H locs ht hvm hw hB hz1 hk1 hS => hw.elim)
      exact vx_out (fun x h => (htab x h).elim) hlocks hc9 hv9 hl9 (fun t8 ht8 hvm8 => ⟨(), trivial, ⟨by subst hbx9; exact Or.inr (⟨by simp [kSt, (eq_true hx_x), hn_x, (eq_false hp_3)], rfl⟩), by rw [ht8]; exact hW.kept hk9⟩, hS9.F ht8⟩) hS9.2.2 (Nat.le_of_ble_eq_true rfl) (Nat.le_of_ble_eq_true rfl)

set_option maxHeartbeats 4000000 in
set_option maxRecDepth 100000 in
theorem c_X3_setArrears (l : Launch) (hst : l.stackTraces = false) (D : va_G) (cs : Nat → ClassId) (A : Nat → Prop) (z0 : Nat) (sa : Nat → Nat) (ad : Nat → Nat) (g : Nat → Int32) (L B : Nat → Nat → Int32) (n b : Nat) (y1 y2 : Int32) (N1 N2 : Nat) (nd : Nat → Int32) (gv : Nat → Nat → Int32) (hn : n ≤ 12) (hb5 : b ≤ 5) (hN1 : n ≤ N1 ∧ N1 < 1000) (hN2 : b ≤ N2 ∧ N2 < 1000) (x : Int32) (y : Int32)  : vx_Met l yX3_setArrears wsX3_setArrears ({ frames := 8, cells := 1, slots := 6, locals := 122 } : Room) (va_Pc [.ref (ad 0), .int x, .int y] (pC D cs A z0 sa (lvC n b) ad (ctC cs ad z0 g L B n b y1 y2 N1 N2 nd gv))) (va_Qi (fun (r9 : Int32) (_ : Unit) => kArr L n x y = 0 ∧ r9 = L 4 (ixN x)) (fun _ t9 => RC D cs A z0 (ad 0) g (updL L 4 (ixN x) y) B n b t9.heap) A) (vx_X (fun (_ : Unit) => True) (fun E9 _ t9 => ((kArr L n x y = 1 ∧ E9 = xI) ∨ (kArr L n x y = 2 ∧ E9 = xA) ∨ (kArr L n x y = 3 ∧ E9 = xS)) ∧ wP D A (lvC n b) ad (ctC cs ad z0 g L B n b y1 y2 N1 N2 nd gv) t9.heap) A) 1 6 A := by
  refine vx_ofW (cc := cX3_setArrears) (maxL := 5) (ret := (some .int)) (by decide) rfl ?_
  intro p e s m args below meth c s₁ BB hml htab hv
  obtain ⟨rfl, hv⟩ := hv
  obtain ⟨hE, hW⟩ := hv
  have hK := hE.1
  have hx := BB.exec
  have hb := BB.bytes
  have hr := BB.returns
  have hts := atoms_spec (ws := wsX3_setArrears) BB.pre
  have hown : s.vm.findClass RX3 = some m.cls := findClass_of_methodNamed BB.named
  have hlocks := BB.notSynchronized
  have hS : va_S A s.heap s.heap [] := va_S.rf
  have hl := lv_entry ([.ref (ad 0), .int x, .int y]) (n := 5) (Nat.le_of_ble_eq_true rfl)
  rw [lg_entry_eq]
  generalize (lg_sl ([.ref (ad 0), .int x, .int y]) ++ List.replicate (5 - (lg_sl ([.ref (ad 0), .int x, .int y])).length) Slot.unset).toArray = ls at hl ⊢
  have hl : lv_has ls 5 [(0, .ref (ad 0)), (1, .int x), (2, .int y)] := hl
  have hf78 := hts (.fieldLink RX3 78 "Coverpool$Loan" "state" "I") (by decide +kernel)
  have hf102 := hts (.fieldLink RX3 102 "Coverpool$Loan" "arrears" "I") (by decide +kernel)
  have hinX1 : ∀ w ∈ u_ws RX1 TX1 6, w ∈ wsX3_setArrears := by decide +kernel
  rcases isIx_cases n (by omega) x with hx_x | ⟨j, h_j, rfl⟩
  ·
    refine lv_aload_n hx hb dX3_setArrears_0 rfl (lv_at hl 0 rfl) ?_
    refine lv_iload_n hx hb dX3_setArrears_1 rfl (lv_at hl 1 rfl) ?_
    refine vx_callv (vx_runV (As := [.int x]) (rest := []) ⟨hx, hb, hml, hown, hts⟩ (c_X3_loanAtbad l hst D cs A z0 sa ad g L B n b y1 y2 N1 N2 nd gv hn hb5 hN1 hN2 x hx_x) (cwV 1 hts gX3_setArrears_X3_loanAt rfl rfl rfl (by decide +kernel) ⟨Nat.le_of_ble_eq_true rfl, Nat.le_of_ble_eq_true rfl⟩) ⟨pC_fb, wb_recv hK hW (r := 0) (lvC_0 (by decide)) (ci := 4) rfl rfl, fun U hU hV => ⟨rfl, hE.at (fun _ h => h) hS hV hU, by rw [hU]; exact hW⟩⟩ rfl rfl hl.1 rfl (lv_room (Nat.le_of_ble_eq_true rfl)) dX3_setArrears_2 ⟨Nat.le_of_ble_eq_true rfl, Nat.le_of_ble_eq_true rfl⟩) hS (fun _ _ h => h.elim) (fun _ h => h.elim) (fun _ _ h => h.elim) (fun E9 ce9 q9 u9 t9 H9 locs9 ht9 hvm9 hpx9 hbx9 hz9 hk9 hS9 hc9 hv9 hl9 => ?_) (fun u t9 H locs ht hvm hw hB hz1 hk1 hS => hw.elim)
    exact vx_out (fun x h => (htab x h).elim) hlocks hc9 hv9 hl9 (fun t8 ht8 hvm8 => ⟨(), trivial, ⟨by subst hbx9; exact Or.inl ⟨by simp [kArr, (eq_false hx_x)], rfl⟩, by rw [ht8]; exact hW.kept hk9⟩, hS9.F ht8⟩) hS9.2.2 (Nat.le_of_ble_eq_true rfl) (Nat.le_of_ble_eq_true rfl)
  ·
    have hx_x : isIx n (nI j) := isIx_nI h_j (by omega)
    have hn_x : ixN (nI j) = j := ixN_nI (by omega)
    refine lv_aload_n hx hb dX3_setArrears_0 rfl (lv_at hl 0 rfl) ?_
    refine lv_iload_n hx hb dX3_setArrears_1 rfl (lv_at hl 1 rfl) ?_
    refine va_callr (va_runV (As := [.int (nI j)]) (rest := []) ⟨hx, hb, hml, hown, hts⟩ (c_X3_loanAtok l D cs A z0 sa ad g L B n b y1 y2 N1 N2 nd gv hn hb5 hN1 hN2 j (by omega)) (cwV 1 hts gX3_setArrears_X3_loanAt rfl rfl rfl (by decide +kernel) ⟨Nat.le_of_ble_eq_true rfl, Nat.le_of_ble_eq_true rfl⟩) ⟨pC_fb, wb_recv hK hW (r := 0) (lvC_0 (by decide)) (ci := 4) rfl rfl, fun U hU hV => ⟨rfl, hE.at (fun _ h => h) hS hV hU, by rw [hU]; exact hW⟩⟩ rfl rfl hl.1 rfl (lv_room (Nat.le_of_ble_eq_true rfl)) dX3_setArrears_2 ⟨Nat.zero_le _, Nat.zero_le _⟩) hS (fun _ _ h => h.elim) (fun _ h => h.elim) (fun u r_2 t9 H locs ht hvm hw hB hz1 hk1 hS => ?_)
    have hW := hW.kept hk1
    subst hB
    refine lv_astore_n (lv' := [(3, .ref (ad (20 + j))), (0, .ref (ad 0)), (1, .int (nI j)), (2, .int y)]) hx hb dX3_setArrears_5 rfl hl (by decide) rfl (fun ls hl => ?_)
    refine lv_iload_n hx hb dX3_setArrears_6 rfl (lv_at hl 3 rfl) ?_
    refine lv_iconst (v := 0) hx hb dX3_setArrears_7 (by decide) ?_
    refine lv_bipush (v := 60) hx hb dX3_setArrears_8 (by decide) ?_
    by_cases hp_3 : wi y 0 60
    ·
      refine va_callv (va_runS (As := [.int y, .int 0, .int 60]) (rest := []) ⟨hx, hb, hml, hown, hts⟩ (c_X3_requireWithinok l y 0 60 hp_3) (va_cwS 3 hts gX3_setArrears_X3_requireWithin rfl rfl rfl (by decide +kernel) ⟨Nat.le_of_ble_eq_true rfl, Nat.le_of_ble_eq_true rfl⟩) ⟨pT_fb, fun U hU hV => ⟨rfl, trivial⟩⟩ rfl rfl hl.1 rfl (lv_room (Nat.le_of_ble_eq_true rfl)) dX3_setArrears_10 ⟨Nat.zero_le _, Nat.zero_le _⟩) hS (fun _ _ h => h.elim) (fun _ h => h.elim) (fun u t9 H locs ht hvm hw _ hz1 hk1 hS => ?_)
      have hW := hW.kept hk1
      refine lv_aload_n hx hb dX3_setArrears_13 rfl (lv_at hl 0 rfl) ?_
      refine wb_get hx hb hts hinX1 hown hK hW (20 + j) (lvC_ln (by omega)) (ctC_ln (by omega)) rfl 5 (by decide) hf78 (fun _ h9 => h9) (v := .int (L 5 j)) rfl dX3_setArrears_14 ?_
      refine lv_iconst (v := 2) hx hb dX3_setArrears_17 (by decide) ?_
      refine lv_icmp_ne (tgt := 31) hx hb dX3_setArrears_18 (by decide) (fun c_4 => ?_) (fun c_4 => ?_)
      · -- L 5 j ne 2 : True
        refine lv_aload_n hx hb dX3_setArrears_31 rfl (lv_at hl 0 rfl) ?_
        refine wb_get hx hb hts hinX1 hown hK hW (20 + j) (lvC_ln (by omega)) (ctC_ln (by omega)) rfl 4 (by decide) hf102 (fun _ h9 => h9) (v := .int (L 4 j)) rfl dX3_setArrears_32 ?_
        refine lv_istore (lv' := [(4, .int (L 4 j)), (3, .ref (ad (20 + j))), (0, .ref (ad 0)), (1, .int (nI j)), (2, .int y)]) hx hb dX3_setArrears_35 hl (by decide) rfl (fun ls hl => ?_)
        refine lv_aload_n hx hb dX3_setArrears_37 rfl (lv_at hl 1 rfl) ?_
        refine lv_iload_n hx hb dX3_setArrears_38 rfl (lv_at hl 4 rfl) ?_
        refine wb_put (v := .int y) (ty := .int) hx hb hts hinX1 tyX1 tyX1_ok nmX1 hown hK hW hS (20 + j) (lvC_ln (by omega)) (ctC_ln (by omega)) rfl 4 (by decide) hf102 (fun _ h9 => h9) rfl (by decide +kernel) rfl rfl (Nat.le_of_ble_eq_true rfl) dX3_setArrears_39 (fun H locs hW hS => ?_)
        obtain ⟨L6, hL6⟩ : ∃ z9, z9 = updL L 4 j y := ⟨_, rfl⟩
        have hW : wP D A (lvC n b) ad (ctC cs ad z0 g L6 B n b y1 y2 N1 N2 nd gv) H := by subst hL6; exact hW.up (by rw [ctC_ln (by omega)]; simp [updL_at, updL_nk]) (fun r _ hr => ctC_L (fun i9 k9 h8 _ => updL_ni _ _ _ _ (by omega)))
        refine lv_iload hx hb dX3_setArrears_42 (lv_at hl 0 rfl) ?_
        have hk : kArr L n (nI j) y = 0 := by simp [kArr, (eq_true hx_x), hn_x, (eq_true hp_3), c_4, hL6]
        refine W.widen (k := 1) (n := 6) (Nat.le_of_ble_eq_true rfl) (Nat.le_of_ble_eq_true rfl) ?_
        exact vx_ret (W.iret (v := L 4 j) hx hb hr (fun t9 ht9 hW9 => ⟨⟨_, (), rfl, ⟨hk, (by first | rfl | (simp only [hn_x]; done) | (simp only [hn_x]; first | rfl | (simp [(eq_true hx_x), hn_x, (eq_true hp_3), c_4, hL6, upd]; done)))⟩, (by dsimp only; rw [ht9]; (try simp only [hn_x]); subst hL6; exact ⟨ad, y1, y2, N1, N2, nd, gv, rfl, hN1, hN2, hW⟩)⟩, hS.F ht9⟩) hS.2.2 dX3_setArrears_44)
      · -- L 5 j ne 2 : False
        exact vx_throwS (sa := sa 100) hx hb hst hown (by decide) (by decide) (hts (.classLink RX3 54 "java/lang/IllegalStateException") (by decide +kernel)) (hts (.initialized "java/lang/IllegalStateException") (by decide +kernel)) (hE.2.2.2.2.2.2.1 (100, "the loan is paid") (by decide)) (vx_hat (fun w h => hts w (by first | exact List.mem_cons_of_mem _ (List.mem_append_right _ h) | exact List.mem_cons_of_mem _ (List.mem_append_left _ (List.mem_append_right _ h)) | exact List.mem_cons_of_mem _ (List.mem_append_left _ (List.mem_append_left _ (List.mem_append_right _ h))))) x3s_ok (cbad_use hE.2.2.2.2.2.2.2.1)) x3s_g hE.2.2.2.2.1 hE.2.2.2.2.2.1 hS (hl.1.trans hml.symm) dX3_setArrears_21 dX3_setArrears_24 dX3_setArrears_25 dX3_setArrears_27 dX3_setArrears_30 (fun x h => (htab x h).elim) (Nat.le_of_ble_eq_true rfl) (Nat.le_of_ble_eq_true rfl) (Nat.le_of_ble_eq_true rfl) (Nat.le_of_ble_eq_true rfl) hlocks (fun t8 hvm8 hz8 hk8 => ⟨(), trivial, ⟨Or.inr (Or.inr (⟨by simp [kArr, (eq_true hx_x), hn_x, (eq_true hp_3), c_4], rfl⟩)), hW.kept (fun q hq _ => hk8 q hq)⟩, xFA hS hz8 hk8⟩) hS.2.2 (Nat.le_of_ble_eq_true rfl) (Nat.le_of_ble_eq_true rfl)
    ·
      refine vx_callv (vx_runS (As := [.int y, .int 0, .int 60]) (rest := []) ⟨hx, hb, hml, hown, hts⟩ (c_X3_requireWithinbad l hst D cs A z0 sa y 0 60 hp_3) (va_cwS 3 hts gX3_setArrears_X3_requireWithin rfl rfl rfl (by decide +kernel) ⟨Nat.le_of_ble_eq_true rfl, Nat.le_of_ble_eq_true rfl⟩) ⟨pE_fb, fun U hU hV => ⟨rfl, hE.at (fun _ h => h) hS hV hU⟩⟩ rfl rfl hl.1 rfl (lv_room (Nat.le_of_ble_eq_true rfl)) dX3_setArrears_10 ⟨Nat.le_of_ble_eq_true rfl, Nat.le_of_ble_eq_true rfl⟩) hS (fun _ _ h => h.elim) (fun _ h => h.elim) (fun _ _ h => h.elim) (fun E9 ce9 q9 u9 t9 H9 locs9 ht9 hvm9 hpx9 hbx9 hz9 hk9 hS9 hc9 hv9 hl9 => ?_) (fun u t9 H locs ht hvm hw hB hz1 hk1 hS => hw.elim)
      exact vx_out (fun x h => (htab x h).elim) hlocks hc9 hv9 hl9 (fun t8 ht8 hvm8 => ⟨(), trivial, ⟨by subst hbx9; exact Or.inr (Or.inl ⟨by simp [kArr, (eq_true hx_x), hn_x, (eq_false hp_3)], rfl⟩), by rw [ht8]; exact hW.kept hk9⟩, hS9.F ht8⟩) hS9.2.2 (Nat.le_of_ble_eq_true rfl) (Nat.le_of_ble_eq_true rfl)

set_option maxHeartbeats 4000000 in
set_option maxRecDepth 100000 in
theorem c_X3_setWorth (l : Launch) (hst : l.stackTraces = false) (D : va_G) (cs : Nat → ClassId) (A : Nat → Prop) (z0 : Nat) (sa : Nat → Nat) (ad : Nat → Nat) (g : Nat → Int32) (L B : Nat → Nat → Int32) (n b : Nat) (y1 y2 : Int32) (N1 N2 : Nat) (nd : Nat → Int32) (gv : Nat → Nat → Int32) (hn : n ≤ 12) (hb5 : b ≤ 5) (hN1 : n ≤ N1 ∧ N1 < 1000) (hN2 : b ≤ N2 ∧ N2 < 1000) (x : Int32) (y : Int32)  : vx_Met l yX3_setWorth wsX3_setWorth ({ frames := 8, cells := 1, slots := 6, locals := 122 } : Room) (va_Pc [.ref (ad 0), .int x, .int y] (pC D cs A z0 sa (lvC n b) ad (ctC cs ad z0 g L B n b y1 y2 N1 N2 nd gv))) (va_Qi (fun (r9 : Int32) (_ : Unit) => kWorth n x y = 0 ∧ r9 = L 1 (ixN x)) (fun _ t9 => RC D cs A z0 (ad 0) g (updL L 1 (ixN x) y) B n b t9.heap) A) (vx_X (fun (_ : Unit) => True) (fun E9 _ t9 => ((kWorth n x y = 1 ∧ E9 = xI) ∨ (kWorth n x y = 2 ∧ E9 = xA)) ∧ wP D A (lvC n b) ad (ctC cs ad z0 g L B n b y1 y2 N1 N2 nd gv) t9.heap) A) 1 6 A := by
  refine vx_ofW (cc := cX3_setWorth) (maxL := 5) (ret := (some .int)) (by decide) rfl ?_
  intro p e s m args below meth c s₁ BB hml htab hv
  obtain ⟨rfl, hv⟩ := hv
  obtain ⟨hE, hW⟩ := hv
  have hK := hE.1
  have hx := BB.exec
  have hb := BB.bytes
  have hr := BB.returns
  have hts := atoms_spec (ws := wsX3_setWorth) BB.pre
  have hown : s.vm.findClass RX3 = some m.cls := findClass_of_methodNamed BB.named
  have hlocks := BB.notSynchronized
  have hS : va_S A s.heap s.heap [] := va_S.rf
  have hl := lv_entry ([.ref (ad 0), .int x, .int y]) (n := 5) (Nat.le_of_ble_eq_true rfl)
  rw [lg_entry_eq]
  generalize (lg_sl ([.ref (ad 0), .int x, .int y]) ++ List.replicate (5 - (lg_sl ([.ref (ad 0), .int x, .int y])).length) Slot.unset).toArray = ls at hl ⊢
  have hl : lv_has ls 5 [(0, .ref (ad 0)), (1, .int x), (2, .int y)] := hl
  have hf105 := hts (.fieldLink RX3 105 "Coverpool$Loan" "worth" "I") (by decide +kernel)
  have hinX1 : ∀ w ∈ u_ws RX1 TX1 6, w ∈ wsX3_setWorth := by decide +kernel
  rcases isIx_cases n (by omega) x with hx_x | ⟨j, h_j, rfl⟩
  ·
    refine lv_aload_n hx hb dX3_setWorth_0 rfl (lv_at hl 0 rfl) ?_
    refine lv_iload_n hx hb dX3_setWorth_1 rfl (lv_at hl 1 rfl) ?_
    refine vx_callv (vx_runV (As := [.int x]) (rest := []) ⟨hx, hb, hml, hown, hts⟩ (c_X3_loanAtbad l hst D cs A z0 sa ad g L B n b y1 y2 N1 N2 nd gv hn hb5 hN1 hN2 x hx_x) (cwV 1 hts gX3_setWorth_X3_loanAt rfl rfl rfl (by decide +kernel) ⟨Nat.le_of_ble_eq_true rfl, Nat.le_of_ble_eq_true rfl⟩) ⟨pC_fb, wb_recv hK hW (r := 0) (lvC_0 (by decide)) (ci := 4) rfl rfl, fun U hU hV => ⟨rfl, hE.at (fun _ h => h) hS hV hU, by rw [hU]; exact hW⟩⟩ rfl rfl hl.1 rfl (lv_room (Nat.le_of_ble_eq_true rfl)) dX3_setWorth_2 ⟨Nat.le_of_ble_eq_true rfl, Nat.le_of_ble_eq_true rfl⟩) hS (fun _ _ h => h.elim) (fun _ h => h.elim) (fun _ _ h => h.elim) (fun E9 ce9 q9 u9 t9 H9 locs9 ht9 hvm9 hpx9 hbx9 hz9 hk9 hS9 hc9 hv9 hl9 => ?_) (fun u t9 H locs ht hvm hw hB hz1 hk1 hS => hw.elim)
    exact vx_out (fun x h => (htab x h).elim) hlocks hc9 hv9 hl9 (fun t8 ht8 hvm8 => ⟨(), trivial, ⟨by subst hbx9; exact Or.inl ⟨by simp [kWorth, (eq_false hx_x)], rfl⟩, by rw [ht8]; exact hW.kept hk9⟩, hS9.F ht8⟩) hS9.2.2 (Nat.le_of_ble_eq_true rfl) (Nat.le_of_ble_eq_true rfl)
  ·
    have hx_x : isIx n (nI j) := isIx_nI h_j (by omega)
    have hn_x : ixN (nI j) = j := ixN_nI (by omega)
    refine lv_aload_n hx hb dX3_setWorth_0 rfl (lv_at hl 0 rfl) ?_
    refine lv_iload_n hx hb dX3_setWorth_1 rfl (lv_at hl 1 rfl) ?_
    refine va_callr (va_runV (As := [.int (nI j)]) (rest := []) ⟨hx, hb, hml, hown, hts⟩ (c_X3_loanAtok l D cs A z0 sa ad g L B n b y1 y2 N1 N2 nd gv hn hb5 hN1 hN2 j (by omega)) (cwV 1 hts gX3_setWorth_X3_loanAt rfl rfl rfl (by decide +kernel) ⟨Nat.le_of_ble_eq_true rfl, Nat.le_of_ble_eq_true rfl⟩) ⟨pC_fb, wb_recv hK hW (r := 0) (lvC_0 (by decide)) (ci := 4) rfl rfl, fun U hU hV => ⟨rfl, hE.at (fun _ h => h) hS hV hU, by rw [hU]; exact hW⟩⟩ rfl rfl hl.1 rfl (lv_room (Nat.le_of_ble_eq_true rfl)) dX3_setWorth_2 ⟨Nat.zero_le _, Nat.zero_le _⟩) hS (fun _ _ h => h.elim) (fun _ h => h.elim) (fun u r_2 t9 H locs ht hvm hw hB hz1 hk1 hS => ?_)
    have hW := hW.kept hk1
    subst hB
    refine lv_astore_n (lv' := [(3, .ref (ad (20 + j))), (0, .ref (ad 0)), (1, .int (nI j)), (2, .int y)]) hx hb dX3_setWorth_5 rfl hl (by decide) rfl (fun ls hl => ?_)
    refine lv_iload_n hx hb dX3_setWorth_6 rfl (lv_at hl 3 rfl) ?_
    refine lv_iconst (v := 0) hx hb dX3_setWorth_7 (by decide) ?_
    refine lv_sipush (v := 20000) hx hb dX3_setWorth_8 (by decide) ?_
    by_cases hp_3 : wi y 0 20000
    ·
      refine va_callv (va_runS (As := [.int y, .int 0, .int 20000]) (rest := []) ⟨hx, hb, hml, hown, hts⟩ (c_X3_requireWithinok l y 0 20000 hp_3) (va_cwS 3 hts gX3_setWorth_X3_requireWithin rfl rfl rfl (by decide +kernel) ⟨Nat.le_of_ble_eq_true rfl, Nat.le_of_ble_eq_true rfl⟩) ⟨pT_fb, fun U hU hV => ⟨rfl, trivial⟩⟩ rfl rfl hl.1 rfl (lv_room (Nat.le_of_ble_eq_true rfl)) dX3_setWorth_11 ⟨Nat.zero_le _, Nat.zero_le _⟩) hS (fun _ _ h => h.elim) (fun _ h => h.elim) (fun u t9 H locs ht hvm hw _ hz1 hk1 hS => ?_)
      have hW := hW.kept hk1
      refine lv_aload_n hx hb dX3_setWorth_14 rfl (lv_at hl 0 rfl) ?_
      refine wb_get hx hb hts hinX1 hown hK hW (20 + j) (lvC_ln (by omega)) (ctC_ln (by omega)) rfl 3 (by decide) hf105 (fun _ h9 => h9) (v := .int (L 1 j)) rfl dX3_setWorth_15 ?_
      refine lv_istore (lv' := [(4, .int (L 1 j)), (3, .ref (ad (20 + j))), (0, .ref (ad 0)), (1, .int (nI j)), (2, .int y)]) hx hb dX3_setWorth_18 hl (by decide) rfl (fun ls hl => ?_)
      refine lv_aload_n hx hb dX3_setWorth_20 rfl (lv_at hl 1 rfl) ?_
      refine lv_iload_n hx hb dX3_setWorth_21 rfl (lv_at hl 4 rfl) ?_
      refine wb_put (v := .int y) (ty := .int) hx hb hts hinX1 tyX1 tyX1_ok nmX1 hown hK hW hS (20 + j) (lvC_ln (by omega)) (ctC_ln (by omega)) rfl 3 (by decide) hf105 (fun _ h9 => h9) rfl (by decide +kernel) rfl rfl (Nat.le_of_ble_eq_true rfl) dX3_setWorth_22 (fun H locs hW hS => ?_)
      obtain ⟨L5, hL5⟩ : ∃ z9, z9 = updL L 1 j y := ⟨_, rfl⟩
      have hW : wP D A (lvC n b) ad (ctC cs ad z0 g L5 B n b y1 y2 N1 N2 nd gv) H := by subst hL5; exact hW.up (by rw [ctC_ln (by omega)]; simp [updL_at, updL_nk]) (fun r _ hr => ctC_L (fun i9 k9 h8 _ => updL_ni _ _ _ _ (by omega)))
      refine lv_iload hx hb dX3_setWorth_25 (lv_at hl 0 rfl) ?_
      have hk : kWorth n (nI j) y = 0 := by simp [kWorth, (eq_true hx_x), hn_x, (eq_true hp_3), hL5]
      refine W.widen (k := 1) (n := 6) (Nat.le_of_ble_eq_true rfl) (Nat.le_of_ble_eq_true rfl) ?_
      exact vx_ret (W.iret (v := L 1 j) hx hb hr (fun t9 ht9 hW9 => ⟨⟨_, (), rfl, ⟨hk, (by first | rfl | (simp only [hn_x]; done) | (simp only [hn_x]; first | rfl | (simp [(eq_true hx_x), hn_x, (eq_true hp_3), hL5, upd]; done)))⟩, (by dsimp only; rw [ht9]; (try simp only [hn_x]); subst hL5; exact ⟨ad, y1, y2, N1, N2, nd, gv, rfl, hN1, hN2, hW⟩)⟩, hS.F ht9⟩) hS.2.2 dX3_setWorth_27)
    ·
      refine vx_callv (vx_runS (As := [.int y, .int 0, .int 20000]) (rest := []) ⟨hx, hb, hml, hown, hts⟩ (c_X3_requireWithinbad l hst D cs A z0 sa y 0 20000 hp_3) (va_cwS 3 hts gX3_setWorth_X3_requireWithin rfl rfl rfl (by decide +kernel) ⟨Nat.le_of_ble_eq_true rfl, Nat.le_of_ble_eq_true rfl⟩) ⟨pE_fb, fun U hU hV => ⟨rfl, hE.at (fun _ h => h) hS hV hU⟩⟩ rfl rfl hl.1 rfl (lv_room (Nat.le_of_ble_eq_true rfl)) dX3_setWorth_11 ⟨Nat.le_of_ble_eq_true rfl, Nat.le_of_ble_eq_true rfl⟩) hS (fun _ _ h => h.elim) (fun _ h => h.elim) (fun _ _ h => h.elim) (fun E9 ce9 q9 u9 t9 H9 locs9 ht9 hvm9 hpx9 hbx9 hz9 hk9 hS9 hc9 hv9 hl9 => ?_) (fun u t9 H locs ht hvm hw hB hz1 hk1 hS => hw.elim)
      exact vx_out (fun x h => (htab x h).elim) hlocks hc9 hv9 hl9 (fun t8 ht8 hvm8 => ⟨(), trivial, ⟨by subst hbx9; exact Or.inr (⟨by simp [kWorth, (eq_true hx_x), hn_x, (eq_false hp_3)], rfl⟩), by rw [ht8]; exact hW.kept hk9⟩, hS9.F ht8⟩) hS9.2.2 (Nat.le_of_ble_eq_true rfl) (Nat.le_of_ble_eq_true rfl)

set_option maxHeartbeats 4000000 in
set_option maxRecDepth 100000 in
theorem c_X3_stateOf (l : Launch) (hst : l.stackTraces = false) (D : va_G) (cs : Nat → ClassId) (A : Nat → Prop) (z0 : Nat) (sa : Nat → Nat) (ad : Nat → Nat) (g : Nat → Int32) (L B : Nat → Nat → Int32) (n b : Nat) (y1 y2 : Int32) (N1 N2 : Nat) (nd : Nat → Int32) (gv : Nat → Nat → Int32) (hn : n ≤ 12) (hb5 : b ≤ 5) (hN1 : n ≤ N1 ∧ N1 < 1000) (hN2 : b ≤ N2 ∧ N2 < 1000) (x : Int32)  : vx_Met l yX3_stateOf wsX3_stateOf ({ frames := 8, cells := 1, slots := 6, locals := 121 } : Room) (va_Pc [.ref (ad 0), .int x] (pC D cs A z0 sa (lvC n b) ad (ctC cs ad z0 g L B n b y1 y2 N1 N2 nd gv))) (va_Qi (fun (r9 : Int32) (_ : Unit) => kIx n x = 0 ∧ r9 = L 5 (ixN x)) (fun _ t9 => RC D cs A z0 (ad 0) g L B n b t9.heap) A) (vx_X (fun (_ : Unit) => True) (fun E9 _ t9 => ((kIx n x = 1 ∧ E9 = xI)) ∧ wP D A (lvC n b) ad (ctC cs ad z0 g L B n b y1 y2 N1 N2 nd gv) t9.heap) A) 1 6 A := by
  refine vx_ofW (cc := cX3_stateOf) (maxL := 2) (ret := (some .int)) (by decide) rfl ?_
  intro p e s m args below meth c s₁ BB hml htab hv
  obtain ⟨rfl, hv⟩ := hv
  obtain ⟨hE, hW⟩ := hv
  have hK := hE.1
  have hx := BB.exec
  have hb := BB.bytes
  have hr := BB.returns
  have hts := atoms_spec (ws := wsX3_stateOf) BB.pre
  have hown : s.vm.findClass RX3 = some m.cls := findClass_of_methodNamed BB.named
  have hlocks := BB.notSynchronized
  have hS : va_S A s.heap s.heap [] := va_S.rf
  have hl := lv_entry ([.ref (ad 0), .int x]) (n := 2) (Nat.le_of_ble_eq_true rfl)
  rw [lg_entry_eq]
  generalize (lg_sl ([.ref (ad 0), .int x]) ++ List.replicate (2 - (lg_sl ([.ref (ad 0), .int x])).length) Slot.unset).toArray = ls at hl ⊢
  have hl : lv_has ls 2 [(0, .ref (ad 0)), (1, .int x)] := hl
  have hf78 := hts (.fieldLink RX3 78 "Coverpool$Loan" "state" "I") (by decide +kernel)
  have hinX1 : ∀ w ∈ u_ws RX1 TX1 6, w ∈ wsX3_stateOf := by decide +kernel
  rcases isIx_cases n (by omega) x with hx_x | ⟨j, h_j, rfl⟩
  ·
    refine lv_aload_n hx hb dX3_stateOf_0 rfl (lv_at hl 0 rfl) ?_
    refine lv_iload_n hx hb dX3_stateOf_1 rfl (lv_at hl 1 rfl) ?_
    refine vx_callv (vx_runV (As := [.int x]) (rest := []) ⟨hx, hb, hml, hown, hts⟩ (c_X3_loanAtbad l hst D cs A z0 sa ad g L B n b y1 y2 N1 N2 nd gv hn hb5 hN1 hN2 x hx_x) (cwV 1 hts gX3_stateOf_X3_loanAt rfl rfl rfl (by decide +kernel) ⟨Nat.le_of_ble_eq_true rfl, Nat.le_of_ble_eq_true rfl⟩) ⟨pC_fb, wb_recv hK hW (r := 0) (lvC_0 (by decide)) (ci := 4) rfl rfl, fun U hU hV => ⟨rfl, hE.at (fun _ h => h) hS hV hU, by rw [hU]; exact hW⟩⟩ rfl rfl hl.1 rfl (lv_room (Nat.le_of_ble_eq_true rfl)) dX3_stateOf_2 ⟨Nat.le_of_ble_eq_true rfl, Nat.le_of_ble_eq_true rfl⟩) hS (fun _ _ h => h.elim) (fun _ h => h.elim) (fun _ _ h => h.elim) (fun E9 ce9 q9 u9 t9 H9 locs9 ht9 hvm9 hpx9 hbx9 hz9 hk9 hS9 hc9 hv9 hl9 => ?_) (fun u t9 H locs ht hvm hw hB hz1 hk1 hS => hw.elim)
    exact vx_out (fun x h => (htab x h).elim) hlocks hc9 hv9 hl9 (fun t8 ht8 hvm8 => ⟨(), trivial, ⟨by subst hbx9; exact ⟨by simp [kIx, (eq_false hx_x)], rfl⟩, by rw [ht8]; exact hW.kept hk9⟩, hS9.F ht8⟩) hS9.2.2 (Nat.le_of_ble_eq_true rfl) (Nat.le_of_ble_eq_true rfl)
  ·
    have hx_x : isIx n (nI j) := isIx_nI h_j (by omega)
    have hn_x : ixN (nI j) = j := ixN_nI (by omega)
    refine lv_aload_n hx hb dX3_stateOf_0 rfl (lv_at hl 0 rfl) ?_
    refine lv_iload_n hx hb dX3_stateOf_1 rfl (lv_at hl 1 rfl) ?_
    refine va_callr (va_runV (As := [.int (nI j)]) (rest := []) ⟨hx, hb, hml, hown, hts⟩ (c_X3_loanAtok l D cs A z0 sa ad g L B n b y1 y2 N1 N2 nd gv hn hb5 hN1 hN2 j (by omega)) (cwV 1 hts gX3_stateOf_X3_loanAt rfl rfl rfl (by decide +kernel) ⟨Nat.le_of_ble_eq_true rfl, Nat.le_of_ble_eq_true rfl⟩) ⟨pC_fb, wb_recv hK hW (r := 0) (lvC_0 (by decide)) (ci := 4) rfl rfl, fun U hU hV => ⟨rfl, hE.at (fun _ h => h) hS hV hU, by rw [hU]; exact hW⟩⟩ rfl rfl hl.1 rfl (lv_room (Nat.le_of_ble_eq_true rfl)) dX3_stateOf_2 ⟨Nat.zero_le _, Nat.zero_le _⟩) hS (fun _ _ h => h.elim) (fun _ h => h.elim) (fun u r_2 t9 H locs ht hvm hw hB hz1 hk1 hS => ?_)
    have hW := hW.kept hk1
    subst hB
    refine wb_get hx hb hts hinX1 hown hK hW (20 + j) (lvC_ln (by omega)) (ctC_ln (by omega)) rfl 5 (by decide) hf78 (fun _ h9 => h9) (v := .int (L 5 j)) rfl dX3_stateOf_5 ?_
    have hk : kIx n (nI j) = 0 := by simp [kIx, (eq_true hx_x), hn_x]
    refine W.widen (k := 1) (n := 6) (Nat.le_of_ble_eq_true rfl) (Nat.le_of_ble_eq_true rfl) ?_
    exact vx_ret (W.iret (v := L 5 j) hx hb hr (fun t9 ht9 hW9 => ⟨⟨_, (), rfl, ⟨hk, (by first | rfl | (simp only [hn_x]; done) | (simp only [hn_x]; first | rfl | (simp [(eq_true hx_x), hn_x, upd]; done)))⟩, (by dsimp only; rw [ht9]; (try simp only [hn_x]); exact ⟨ad, y1, y2, N1, N2, nd, gv, rfl, hN1, hN2, hW⟩)⟩, hS.F ht9⟩) hS.2.2 dX3_stateOf_8)

set_option maxHeartbeats 4000000 in
set_option maxRecDepth 100000 in
theorem c_X3_counts (l : Launch) (hst : l.stackTraces = false) (D : va_G) (cs : Nat → ClassId) (A : Nat → Prop) (z0 : Nat) (sa : Nat → Nat) (ad : Nat → Nat) (g : Nat → Int32) (L B : Nat → Nat → Int32) (n b : Nat) (y1 y2 : Int32) (N1 N2 : Nat) (nd : Nat → Int32) (gv : Nat → Nat → Int32) (hn : n ≤ 12) (hb5 : b ≤ 5) (hN1 : n ≤ N1 ∧ N1 < 1000) (hN2 : b ≤ N2 ∧ N2 < 1000) (x : Int32)  : vx_Met l yX3_counts wsX3_counts ({ frames := 8, cells := 1, slots := 6, locals := 121 } : Room) (va_Pc [.ref (ad 0), .int x] (pC D cs A z0 sa (lvC n b) ad (ctC cs ad z0 g L B n b y1 y2 N1 N2 nd gv))) (va_Qi (fun (r9 : Int32) (_ : Unit) => kIx n x = 0 ∧ r9 = mCount g L (ixN x)) (fun _ t9 => RC D cs A z0 (ad 0) g L B n b t9.heap) A) (vx_X (fun (_ : Unit) => True) (fun E9 _ t9 => ((kIx n x = 1 ∧ E9 = xI)) ∧ wP D A (lvC n b) ad (ctC cs ad z0 g L B n b y1 y2 N1 N2 nd gv) t9.heap) A) 1 6 A := by
  refine vx_ofW (cc := cX3_counts) (maxL := 2) (ret := (some .int)) (by decide) rfl ?_
  intro p e s m args below meth c s₁ BB hml htab hv
  obtain ⟨rfl, hv⟩ := hv
  obtain ⟨hE, hW⟩ := hv
  have hK := hE.1
  have hx := BB.exec
  have hb := BB.bytes
  have hr := BB.returns
  have hts := atoms_spec (ws := wsX3_counts) BB.pre
  have hown : s.vm.findClass RX3 = some m.cls := findClass_of_methodNamed BB.named
  have hlocks := BB.notSynchronized
  have hS : va_S A s.heap s.heap [] := va_S.rf
  have hl := lv_entry ([.ref (ad 0), .int x]) (n := 2) (Nat.le_of_ble_eq_true rfl)
  rw [lg_entry_eq]
  generalize (lg_sl ([.ref (ad 0), .int x]) ++ List.replicate (2 - (lg_sl ([.ref (ad 0), .int x])).length) Slot.unset).toArray = ls at hl ⊢
  have hl : lv_has ls 2 [(0, .ref (ad 0)), (1, .int x)] := hl
  rcases isIx_cases n (by omega) x with hx_x | ⟨j, h_j, rfl⟩
  ·
    refine lv_aload_n hx hb dX3_counts_0 rfl (lv_at hl 0 rfl) ?_
    refine lv_aload_n hx hb dX3_counts_1 rfl (lv_at hl 0 rfl) ?_
    refine lv_iload_n hx hb dX3_counts_2 rfl (lv_at hl 1 rfl) ?_
    refine vx_callv (vx_runV (As := [.int x]) (rest := [.ref (ad 0)]) ⟨hx, hb, hml, hown, hts⟩ (c_X3_loanAtbad l hst D cs A z0 sa ad g L B n b y1 y2 N1 N2 nd gv hn hb5 hN1 hN2 x hx_x) (cwV 1 hts gX3_counts_X3_loanAt rfl rfl rfl (by decide +kernel) ⟨Nat.le_of_ble_eq_true rfl, Nat.le_of_ble_eq_true rfl⟩) ⟨pC_fb, wb_recv hK hW (r := 0) (lvC_0 (by decide)) (ci := 4) rfl rfl, fun U hU hV => ⟨rfl, hE.at (fun _ h => h) hS hV hU, by rw [hU]; exact hW⟩⟩ rfl rfl hl.1 rfl (lv_room (Nat.le_of_ble_eq_true rfl)) dX3_counts_3 ⟨Nat.le_of_ble_eq_true rfl, Nat.le_of_ble_eq_true rfl⟩) hS (fun _ _ h => h.elim) (fun _ h => h.elim) (fun _ _ h => h.elim) (fun E9 ce9 q9 u9 t9 H9 locs9 ht9 hvm9 hpx9 hbx9 hz9 hk9 hS9 hc9 hv9 hl9 => ?_) (fun u t9 H locs ht hvm hw hB hz1 hk1 hS => hw.elim)
    exact vx_out (fun x h => (htab x h).elim) hlocks hc9 hv9 hl9 (fun t8 ht8 hvm8 => ⟨(), trivial, ⟨by subst hbx9; exact ⟨by simp [kIx, (eq_false hx_x)], rfl⟩, by rw [ht8]; exact hW.kept hk9⟩, hS9.F ht8⟩) hS9.2.2 (Nat.le_of_ble_eq_true rfl) (Nat.le_of_ble_eq_true rfl)
  ·
    have hx_x : isIx n (nI j) := isIx_nI h_j (by omega)
    have hn_x : ixN (nI j) = j := ixN_nI (by omega)
    refine lv_aload_n hx hb dX3_counts_0 rfl (lv_at hl 0 rfl) ?_
    refine lv_aload_n hx hb dX3_counts_1 rfl (lv_at hl 0 rfl) ?_
    refine lv_iload_n hx hb dX3_counts_2 rfl (lv_at hl 1 rfl) ?_
    refine va_callr (va_runV (As := [.int (nI j)]) (rest := [.ref (ad 0)]) ⟨hx, hb, hml, hown, hts⟩ (c_X3_loanAtok l D cs A z0 sa ad g L B n b y1 y2 N1 N2 nd gv hn hb5 hN1 hN2 j (by omega)) (cwV 1 hts gX3_counts_X3_loanAt rfl rfl rfl (by decide +kernel) ⟨Nat.le_of_ble_eq_true rfl, Nat.le_of_ble_eq_true rfl⟩) ⟨pC_fb, wb_recv hK hW (r := 0) (lvC_0 (by decide)) (ci := 4) rfl rfl, fun U hU hV => ⟨rfl, hE.at (fun _ h => h) hS hV hU, by rw [hU]; exact hW⟩⟩ rfl rfl hl.1 rfl (lv_room (Nat.le_of_ble_eq_true rfl)) dX3_counts_3 ⟨Nat.zero_le _, Nat.zero_le _⟩) hS (fun _ _ h => h.elim) (fun _ h => h.elim) (fun u r_2 t9 H locs ht hvm hw hB hz1 hk1 hS => ?_)
    have hW := hW.kept hk1
    subst hB
    refine va_calli (va_runV (As := [.ref (ad (20 + j))]) (rest := []) ⟨hx, hb, hml, hown, hts⟩ (c_X3_countOf l D cs A z0 sa ad g L B n b y1 y2 N1 N2 nd gv hn hb5 hN1 hN2 j (by omega)) (cwV 1 hts gX3_counts_X3_countOf rfl rfl rfl (by decide +kernel) ⟨Nat.le_of_ble_eq_true rfl, Nat.le_of_ble_eq_true rfl⟩) ⟨pC_fb, wb_recv hK hW (r := 0) (lvC_0 (by decide)) (ci := 4) rfl rfl, fun U hU hV => ⟨rfl, hE.at (fun _ h => h) hS hV hU, by rw [hU]; exact hW⟩⟩ rfl rfl hl.1 rfl (lv_room (Nat.le_of_ble_eq_true rfl)) dX3_counts_6 ⟨Nat.zero_le _, Nat.zero_le _⟩) hS (fun _ _ h => h.elim) (fun _ h => h.elim) (fun r_3 u t9 H locs ht hvm hw _ hz1 hk1 hS => ?_)
    have hW := hW.kept hk1
    subst hw
    have hk : kIx n (nI j) = 0 := by simp [kIx, (eq_true hx_x), hn_x]
    refine W.widen (k := 1) (n := 6) (Nat.le_of_ble_eq_true rfl) (Nat.le_of_ble_eq_true rfl) ?_
    exact vx_ret (W.iret (v := mCount g L j) hx hb hr (fun t9 ht9 hW9 => ⟨⟨_, (), rfl, ⟨hk, (by first | rfl | (simp only [hn_x]; done) | (simp only [hn_x]; first | rfl | (simp [(eq_true hx_x), hn_x, upd]; done)))⟩, (by dsimp only; rw [ht9]; (try simp only [hn_x]); exact ⟨ad, y1, y2, N1, N2, nd, gv, rfl, hN1, hN2, hW⟩)⟩, hS.F ht9⟩) hS.2.2 dX3_counts_9)

set_option maxHeartbeats 4000000 in
set_option maxRecDepth 100000 in
theorem c_X3_bondState (l : Launch) (hst : l.stackTraces = false) (D : va_G) (cs : Nat → ClassId) (A : Nat → Prop) (z0 : Nat) (sa : Nat → Nat) (ad : Nat → Nat) (g : Nat → Int32) (L B : Nat → Nat → Int32) (n b : Nat) (y1 y2 : Int32) (N1 N2 : Nat) (nd : Nat → Int32) (gv : Nat → Nat → Int32) (hn : n ≤ 12) (hb5 : b ≤ 5) (hN1 : n ≤ N1 ∧ N1 < 1000) (hN2 : b ≤ N2 ∧ N2 < 1000) (x : Int32)  : vx_Met l yX3_bondState wsX3_bondState ({ frames := 8, cells := 1, slots := 6, locals := 121 } : Room) (va_Pc [.ref (ad 0), .int x] (pC D cs A z0 sa (lvC n b) ad (ctC cs ad z0 g L B n b y1 y2 N1 N2 nd gv))) (va_Qi (fun (r9 : Int32) (_ : Unit) => kIx b x = 0 ∧ r9 = B 2 (ixN x)) (fun _ t9 => RC D cs A z0 (ad 0) g L B n b t9.heap) A) (vx_X (fun (_ : Unit) => True) (fun E9 _ t9 => ((kIx b x = 1 ∧ E9 = xI)) ∧ wP D A (lvC n b) ad (ctC cs ad z0 g L B n b y1 y2 N1 N2 nd gv) t9.heap) A) 1 6 A := by
  refine vx_ofW (cc := cX3_bondState) (maxL := 2) (ret := (some .int)) (by decide) rfl ?_
  intro p e s m args below meth c s₁ BB hml htab hv
  obtain ⟨rfl, hv⟩ := hv
  obtain ⟨hE, hW⟩ := hv
  have hK := hE.1
  have hx := BB.exec
  have hb := BB.bytes
  have hr := BB.returns
  have hts := atoms_spec (ws := wsX3_bondState) BB.pre
  have hown : s.vm.findClass RX3 = some m.cls := findClass_of_methodNamed BB.named
  have hlocks := BB.notSynchronized
  have hS : va_S A s.heap s.heap [] := va_S.rf
  have hl := lv_entry ([.ref (ad 0), .int x]) (n := 2) (Nat.le_of_ble_eq_true rfl)
  rw [lg_entry_eq]
  generalize (lg_sl ([.ref (ad 0), .int x]) ++ List.replicate (2 - (lg_sl ([.ref (ad 0), .int x])).length) Slot.unset).toArray = ls at hl ⊢
  have hl : lv_has ls 2 [(0, .ref (ad 0)), (1, .int x)] := hl
  have hf123 := hts (.fieldLink RX3 123 "Coverpool$Bond" "state" "I") (by decide +kernel)
  have hinX0 : ∀ w ∈ u_ws RX0 TX0 4, w ∈ wsX3_bondState := by decide +kernel
  rcases isIx_cases b (by omega) x with hx_x | ⟨j, h_j, rfl⟩
  ·
    refine lv_aload_n hx hb dX3_bondState_0 rfl (lv_at hl 0 rfl) ?_
    refine lv_iload_n hx hb dX3_bondState_1 rfl (lv_at hl 1 rfl) ?_
    refine vx_callv (vx_runV (As := [.int x]) (rest := []) ⟨hx, hb, hml, hown, hts⟩ (c_X3_bondAtbad l hst D cs A z0 sa ad g L B n b y1 y2 N1 N2 nd gv hn hb5 hN1 hN2 x hx_x) (cwV 1 hts gX3_bondState_X3_bondAt rfl rfl rfl (by decide +kernel) ⟨Nat.le_of_ble_eq_true rfl, Nat.le_of_ble_eq_true rfl⟩) ⟨pC_fb, wb_recv hK hW (r := 0) (lvC_0 (by decide)) (ci := 4) rfl rfl, fun U hU hV => ⟨rfl, hE.at (fun _ h => h) hS hV hU, by rw [hU]; exact hW⟩⟩ rfl rfl hl.1 rfl (lv_room (Nat.le_of_ble_eq_true rfl)) dX3_bondState_2 ⟨Nat.le_of_ble_eq_true rfl, Nat.le_of_ble_eq_true rfl⟩) hS (fun _ _ h => h.elim) (fun _ h => h.elim) (fun _ _ h => h.elim) (fun E9 ce9 q9 u9 t9 H9 locs9 ht9 hvm9 hpx9 hbx9 hz9 hk9 hS9 hc9 hv9 hl9 => ?_) (fun u t9 H locs ht hvm hw hB hz1 hk1 hS => hw.elim)
    exact vx_out (fun x h => (htab x h).elim) hlocks hc9 hv9 hl9 (fun t8 ht8 hvm8 => ⟨(), trivial, ⟨by subst hbx9; exact ⟨by simp [kIx, (eq_false hx_x)], rfl⟩, by rw [ht8]; exact hW.kept hk9⟩, hS9.F ht8⟩) hS9.2.2 (Nat.le_of_ble_eq_true rfl) (Nat.le_of_ble_eq_true rfl)
  ·
    have hx_x : isIx b (nI j) := isIx_nI h_j (by omega)
    have hn_x : ixN (nI j) = j := ixN_nI (by omega)
    refine lv_aload_n hx hb dX3_bondState_0 rfl (lv_at hl 0 rfl) ?_
    refine lv_iload_n hx hb dX3_bondState_1 rfl (lv_at hl 1 rfl) ?_
    refine va_callr (va_runV (As := [.int (nI j)]) (rest := []) ⟨hx, hb, hml, hown, hts⟩ (c_X3_bondAtok l D cs A z0 sa ad g L B n b y1 y2 N1 N2 nd gv hn hb5 hN1 hN2 j (by omega)) (cwV 1 hts gX3_bondState_X3_bondAt rfl rfl rfl (by decide +kernel) ⟨Nat.le_of_ble_eq_true rfl, Nat.le_of_ble_eq_true rfl⟩) ⟨pC_fb, wb_recv hK hW (r := 0) (lvC_0 (by decide)) (ci := 4) rfl rfl, fun U hU hV => ⟨rfl, hE.at (fun _ h => h) hS hV hU, by rw [hU]; exact hW⟩⟩ rfl rfl hl.1 rfl (lv_room (Nat.le_of_ble_eq_true rfl)) dX3_bondState_2 ⟨Nat.zero_le _, Nat.zero_le _⟩) hS (fun _ _ h => h.elim) (fun _ h => h.elim) (fun u r_2 t9 H locs ht hvm hw hB hz1 hk1 hS => ?_)
    have hW := hW.kept hk1
    subst hB
    refine wb_get hx hb hts hinX0 hown hK hW (32 + j) (lvC_bd (by omega)) ctC_bd rfl 2 (by decide) hf123 (fun _ h9 => h9) (v := .int (B 2 j)) rfl dX3_bondState_5 ?_
    have hk : kIx b (nI j) = 0 := by simp [kIx, (eq_true hx_x), hn_x]
    refine W.widen (k := 1) (n := 6) (Nat.le_of_ble_eq_true rfl) (Nat.le_of_ble_eq_true rfl) ?_
    exact vx_ret (W.iret (v := B 2 j) hx hb hr (fun t9 ht9 hW9 => ⟨⟨_, (), rfl, ⟨hk, (by first | rfl | (simp only [hn_x]; done) | (simp only [hn_x]; first | rfl | (simp [(eq_true hx_x), hn_x, upd]; done)))⟩, (by dsimp only; rw [ht9]; (try simp only [hn_x]); exact ⟨ad, y1, y2, N1, N2, nd, gv, rfl, hN1, hN2, hW⟩)⟩, hS.F ht9⟩) hS.2.2 dX3_bondState_8)

set_option maxHeartbeats 4000000 in
set_option maxRecDepth 100000 in
theorem c_X3_dueOf (l : Launch) (hst : l.stackTraces = false) (D : va_G) (cs : Nat → ClassId) (A : Nat → Prop) (z0 : Nat) (sa : Nat → Nat) (ad : Nat → Nat) (g : Nat → Int32) (L B : Nat → Nat → Int32) (n b : Nat) (y1 y2 : Int32) (N1 N2 : Nat) (nd : Nat → Int32) (gv : Nat → Nat → Int32) (hn : n ≤ 12) (hb5 : b ≤ 5) (hN1 : n ≤ N1 ∧ N1 < 1000) (hN2 : b ≤ N2 ∧ N2 < 1000) (x : Int32)  : vx_Met l yX3_dueOf wsX3_dueOf ({ frames := 8, cells := 1, slots := 6, locals := 121 } : Room) (va_Pc [.ref (ad 0), .int x] (pC D cs A z0 sa (lvC n b) ad (ctC cs ad z0 g L B n b y1 y2 N1 N2 nd gv))) (va_Qi (fun (r9 : Int32) (_ : Unit) => kIx b x = 0 ∧ r9 = B 1 (ixN x)) (fun _ t9 => RC D cs A z0 (ad 0) g L B n b t9.heap) A) (vx_X (fun (_ : Unit) => True) (fun E9 _ t9 => ((kIx b x = 1 ∧ E9 = xI)) ∧ wP D A (lvC n b) ad (ctC cs ad z0 g L B n b y1 y2 N1 N2 nd gv) t9.heap) A) 1 6 A := by
  refine vx_ofW (cc := cX3_dueOf) (maxL := 2) (ret := (some .int)) (by decide) rfl ?_
  intro p e s m args below meth c s₁ BB hml htab hv
  obtain ⟨rfl, hv⟩ := hv
  obtain ⟨hE, hW⟩ := hv
  have hK := hE.1
  have hx := BB.exec
  have hb := BB.bytes
  have hr := BB.returns
  have hts := atoms_spec (ws := wsX3_dueOf) BB.pre
  have hown : s.vm.findClass RX3 = some m.cls := findClass_of_methodNamed BB.named
  have hlocks := BB.notSynchronized
  have hS : va_S A s.heap s.heap [] := va_S.rf
  have hl := lv_entry ([.ref (ad 0), .int x]) (n := 2) (Nat.le_of_ble_eq_true rfl)
  rw [lg_entry_eq]
  generalize (lg_sl ([.ref (ad 0), .int x]) ++ List.replicate (2 - (lg_sl ([.ref (ad 0), .int x])).length) Slot.unset).toArray = ls at hl ⊢
  have hl : lv_has ls 2 [(0, .ref (ad 0)), (1, .int x)] := hl
  have hf124 := hts (.fieldLink RX3 124 "Coverpool$Bond" "due" "I") (by decide +kernel)
  have hinX0 : ∀ w ∈ u_ws RX0 TX0 4, w ∈ wsX3_dueOf := by decide +kernel
  rcases isIx_cases b (by omega) x with hx_x | ⟨j, h_j, rfl⟩
  ·
    refine lv_aload_n hx hb dX3_dueOf_0 rfl (lv_at hl 0 rfl) ?_
    refine lv_iload_n hx hb dX3_dueOf_1 rfl (lv_at hl 1 rfl) ?_
    refine vx_callv (vx_runV (As := [.int x]) (rest := []) ⟨hx, hb, hml, hown, hts⟩ (c_X3_bondAtbad l hst D cs A z0 sa ad g L B n b y1 y2 N1 N2 nd gv hn hb5 hN1 hN2 x hx_x) (cwV 1 hts gX3_dueOf_X3_bondAt rfl rfl rfl (by decide +kernel) ⟨Nat.le_of_ble_eq_true rfl, Nat.le_of_ble_eq_true rfl⟩) ⟨pC_fb, wb_recv hK hW (r := 0) (lvC_0 (by decide)) (ci := 4) rfl rfl, fun U hU hV => ⟨rfl, hE.at (fun _ h => h) hS hV hU, by rw [hU]; exact hW⟩⟩ rfl rfl hl.1 rfl (lv_room (Nat.le_of_ble_eq_true rfl)) dX3_dueOf_2 ⟨Nat.le_of_ble_eq_true rfl, Nat.le_of_ble_eq_true rfl⟩) hS (fun _ _ h => h.elim) (fun _ h => h.elim) (fun _ _ h => h.elim) (fun E9 ce9 q9 u9 t9 H9 locs9 ht9 hvm9 hpx9 hbx9 hz9 hk9 hS9 hc9 hv9 hl9 => ?_) (fun u t9 H locs ht hvm hw hB hz1 hk1 hS => hw.elim)
    exact vx_out (fun x h => (htab x h).elim) hlocks hc9 hv9 hl9 (fun t8 ht8 hvm8 => ⟨(), trivial, ⟨by subst hbx9; exact ⟨by simp [kIx, (eq_false hx_x)], rfl⟩, by rw [ht8]; exact hW.kept hk9⟩, hS9.F ht8⟩) hS9.2.2 (Nat.le_of_ble_eq_true rfl) (Nat.le_of_ble_eq_true rfl)
  ·
    have hx_x : isIx b (nI j) := isIx_nI h_j (by omega)
    have hn_x : ixN (nI j) = j := ixN_nI (by omega)
    refine lv_aload_n hx hb dX3_dueOf_0 rfl (lv_at hl 0 rfl) ?_
    refine lv_iload_n hx hb dX3_dueOf_1 rfl (lv_at hl 1 rfl) ?_
    refine va_callr (va_runV (As := [.int (nI j)]) (rest := []) ⟨hx, hb, hml, hown, hts⟩ (c_X3_bondAtok l D cs A z0 sa ad g L B n b y1 y2 N1 N2 nd gv hn hb5 hN1 hN2 j (by omega)) (cwV 1 hts gX3_dueOf_X3_bondAt rfl rfl rfl (by decide +kernel) ⟨Nat.le_of_ble_eq_true rfl, Nat.le_of_ble_eq_true rfl⟩) ⟨pC_fb, wb_recv hK hW (r := 0) (lvC_0 (by decide)) (ci := 4) rfl rfl, fun U hU hV => ⟨rfl, hE.at (fun _ h => h) hS hV hU, by rw [hU]; exact hW⟩⟩ rfl rfl hl.1 rfl (lv_room (Nat.le_of_ble_eq_true rfl)) dX3_dueOf_2 ⟨Nat.zero_le _, Nat.zero_le _⟩) hS (fun _ _ h => h.elim) (fun _ h => h.elim) (fun u r_2 t9 H locs ht hvm hw hB hz1 hk1 hS => ?_)
    have hW := hW.kept hk1
    subst hB
    refine wb_get hx hb hts hinX0 hown hK hW (32 + j) (lvC_bd (by omega)) ctC_bd rfl 1 (by decide) hf124 (fun _ h9 => h9) (v := .int (B 1 j)) rfl dX3_dueOf_5 ?_
    have hk : kIx b (nI j) = 0 := by simp [kIx, (eq_true hx_x), hn_x]
    refine W.widen (k := 1) (n := 6) (Nat.le_of_ble_eq_true rfl) (Nat.le_of_ble_eq_true rfl) ?_
    exact vx_ret (W.iret (v := B 1 j) hx hb hr (fun t9 ht9 hW9 => ⟨⟨_, (), rfl, ⟨hk, (by first | rfl | (simp only [hn_x]; done) | (simp only [hn_x]; first | rfl | (simp [(eq_true hx_x), hn_x, upd]; done)))⟩, (by dsimp only; rw [ht9]; (try simp only [hn_x]); exact ⟨ad, y1, y2, N1, N2, nd, gv, rfl, hN1, hN2, hW⟩)⟩, hS.F ht9⟩) hS.2.2 dX3_dueOf_8)

set_option maxHeartbeats 4000000 in
set_option maxRecDepth 100000 in
theorem c_X3_takeCash (l : Launch) (hst : l.stackTraces = false) (D : va_G) (cs : Nat → ClassId) (A : Nat → Prop) (z0 : Nat) (sa : Nat → Nat) (ad : Nat → Nat) (g : Nat → Int32) (L B : Nat → Nat → Int32) (n b : Nat) (y1 y2 : Int32) (N1 N2 : Nat) (nd : Nat → Int32) (gv : Nat → Nat → Int32) (hn : n ≤ 12) (hb5 : b ≤ 5) (hN1 : n ≤ N1 ∧ N1 < 1000) (hN2 : b ≤ N2 ∧ N2 < 1000) (x : Int32)  : vx_Met l yX3_takeCash wsX3_takeCash ({ frames := 8, cells := 1, slots := 6, locals := 122 } : Room) (va_Pc [.ref (ad 0), .int x] (pC D cs A z0 sa (lvC n b) ad (ctC cs ad z0 g L B n b y1 y2 N1 N2 nd gv))) (va_Qi (fun (r9 : Int32) (_ : Unit) => kTake g x = 0 ∧ r9 = g 1 - x) (fun _ t9 => RC D cs A z0 (ad 0) (upd g 1 (g 1 - x)) L B n b t9.heap) A) (vx_X (fun (_ : Unit) => True) (fun E9 _ t9 => ((kTake g x = 1 ∧ E9 = xA) ∨ (kTake g x = 2 ∧ E9 = xS)) ∧ wP D A (lvC n b) ad (ctC cs ad z0 g L B n b y1 y2 N1 N2 nd gv) t9.heap) A) 1 6 A := by
  refine vx_ofW (cc := cX3_takeCash) (maxL := 2) (ret := (some .int)) (by decide) rfl ?_
  intro p e s m args below meth c s₁ BB hml htab hv
  obtain ⟨rfl, hv⟩ := hv
  obtain ⟨hE, hW⟩ := hv
  have hK := hE.1
  have hx := BB.exec
  have hb := BB.bytes
  have hr := BB.returns
  have hts := atoms_spec (ws := wsX3_takeCash) BB.pre
  have hown : s.vm.findClass RX3 = some m.cls := findClass_of_methodNamed BB.named
  have hlocks := BB.notSynchronized
  have hS : va_S A s.heap s.heap [] := va_S.rf
  have hl := lv_entry ([.ref (ad 0), .int x]) (n := 2) (Nat.le_of_ble_eq_true rfl)
  rw [lg_entry_eq]
  generalize (lg_sl ([.ref (ad 0), .int x]) ++ List.replicate (2 - (lg_sl ([.ref (ad 0), .int x])).length) Slot.unset).toArray = ls at hl ⊢
  have hl : lv_has ls 2 [(0, .ref (ad 0)), (1, .int x)] := hl
  have hf30 := hts (.fieldLink RX3 30 "Coverpool" "cash" "I") (by decide +kernel)
  have hinX3 : ∀ w ∈ u_ws RX3 TX3 8, w ∈ wsX3_takeCash := by decide +kernel
  refine lv_iload_n hx hb dX3_takeCash_0 rfl (lv_at hl 1 rfl) ?_
  refine lv_iconst (v := 1) hx hb dX3_takeCash_1 (by decide) ?_
  refine lv_ldc (v := 100000) hx hb hown (hts (.constant RX3 116 (100000)) (by decide +kernel)) dX3_takeCash_2 ?_
  by_cases hp_1 : wi x 1 100000
  ·
    refine va_callv (va_runS (As := [.int x, .int 1, .int 100000]) (rest := []) ⟨hx, hb, hml, hown, hts⟩ (c_X3_requireWithinok l x 1 100000 hp_1) (va_cwS 3 hts gX3_takeCash_X3_requireWithin rfl rfl rfl (by decide +kernel) ⟨Nat.le_of_ble_eq_true rfl, Nat.le_of_ble_eq_true rfl⟩) ⟨pT_fb, fun U hU hV => ⟨rfl, trivial⟩⟩ rfl rfl hl.1 rfl (lv_room (Nat.le_of_ble_eq_true rfl)) dX3_takeCash_4 ⟨Nat.zero_le _, Nat.zero_le _⟩) hS (fun _ _ h => h.elim) (fun _ h => h.elim) (fun u t9 H locs ht hvm hw _ hz1 hk1 hS => ?_)
    have hW := hW.kept hk1
    refine lv_aload_n hx hb dX3_takeCash_7 rfl (lv_at hl 0 rfl) ?_
    refine wb_get hx hb hts hinX3 hown hK hW 0 (lvC_0 (by decide)) rfl rfl 4 (by decide) hf30 (fun _ h9 => h9) (v := .int (g 1)) rfl dX3_takeCash_8 ?_
    refine lv_iload_n hx hb dX3_takeCash_11 rfl (lv_at hl 1 rfl) ?_
    refine lv_icmp_ge (tgt := 25) hx hb dX3_takeCash_12 (by decide) (fun c_2 => ?_) (fun c_2 => ?_)
    · -- g 1 ge x : True
      refine lv_aload_n hx hb dX3_takeCash_25 rfl (lv_at hl 0 rfl) ?_
      refine lv_dup hx hb dX3_takeCash_26 rfl ?_
      refine wb_get hx hb hts hinX3 hown hK hW 0 (lvC_0 (by decide)) rfl rfl 4 (by decide) hf30 (fun _ h9 => h9) (v := .int (g 1)) rfl dX3_takeCash_27 ?_
      refine lv_iload_n hx hb dX3_takeCash_30 rfl (lv_at hl 1 rfl) ?_
      refine lv_isub hx hb dX3_takeCash_31 ?_
      refine wb_put (v := .int ((g 1) - x)) (ty := .int) hx hb hts hinX3 tyX3 tyX3_ok nmX3 hown hK hW hS 0 (lvC_0 (by decide)) rfl rfl 4 (by decide) hf30 (fun _ h9 => h9) rfl (by decide +kernel) rfl rfl (Nat.le_of_ble_eq_true rfl) dX3_takeCash_32 (fun H locs hW hS => ?_)
      obtain ⟨g4, hg4⟩ : ∃ z9, z9 = upd g 1 ((g 1) - x) := ⟨_, rfl⟩
      have hW : wP D A (lvC n b) ad (ctC cs ad z0 g4 L B n b y1 y2 N1 N2 nd gv) H := by subst hg4; exact hW.up rfl (fun r _ hr => ctC_g hr)
      refine lv_aload_n hx hb dX3_takeCash_35 rfl (lv_at hl 0 rfl) ?_
      refine wb_get hx hb hts hinX3 hown hK hW 0 (lvC_0 (by decide)) rfl rfl 4 (by decide) hf30 (fun _ h9 => h9) (v := .int (g4 1)) rfl dX3_takeCash_36 ?_
      have hk : kTake g x = 0 := by simp [kTake, (eq_true hp_1), c_2, hg4]
      refine W.widen (k := 1) (n := 6) (Nat.le_of_ble_eq_true rfl) (Nat.le_of_ble_eq_true rfl) ?_
      exact vx_ret (W.iret (v := g4 1) hx hb hr (fun t9 ht9 hW9 => ⟨⟨_, (), rfl, ⟨hk, (by first | rfl | (first | rfl | (simp [(eq_true hp_1), c_2, hg4, upd]; done)))⟩, (by dsimp only; rw [ht9]; subst hg4; exact ⟨ad, y1, y2, N1, N2, nd, gv, rfl, hN1, hN2, hW⟩)⟩, hS.F ht9⟩) hS.2.2 dX3_takeCash_39)
    · -- g 1 ge x : False
      exact vx_throwS (sa := sa 117) hx hb hst hown (by decide) (by decide) (hts (.classLink RX3 54 "java/lang/IllegalStateException") (by decide +kernel)) (hts (.initialized "java/lang/IllegalStateException") (by decide +kernel)) (hE.2.2.2.2.2.2.1 (117, "there is less cash") (by decide)) (vx_hat (fun w h => hts w (by first | exact List.mem_cons_of_mem _ (List.mem_append_right _ h) | exact List.mem_cons_of_mem _ (List.mem_append_left _ (List.mem_append_right _ h)) | exact List.mem_cons_of_mem _ (List.mem_append_left _ (List.mem_append_left _ (List.mem_append_right _ h))))) x3s_ok (cbad_use hE.2.2.2.2.2.2.2.1)) x3s_g hE.2.2.2.2.1 hE.2.2.2.2.2.1 hS (hl.1.trans hml.symm) dX3_takeCash_15 dX3_takeCash_18 dX3_takeCash_19 dX3_takeCash_21 dX3_takeCash_24 (fun x h => (htab x h).elim) (Nat.le_of_ble_eq_true rfl) (Nat.le_of_ble_eq_true rfl) (Nat.le_of_ble_eq_true rfl) (Nat.le_of_ble_eq_true rfl) hlocks (fun t8 hvm8 hz8 hk8 => ⟨(), trivial, ⟨Or.inr (⟨by simp [kTake, (eq_true hp_1), c_2], rfl⟩), hW.kept (fun q hq _ => hk8 q hq)⟩, xFA hS hz8 hk8⟩) hS.2.2 (Nat.le_of_ble_eq_true rfl) (Nat.le_of_ble_eq_true rfl)
  ·
    refine vx_callv (vx_runS (As := [.int x, .int 1, .int 100000]) (rest := []) ⟨hx, hb, hml, hown, hts⟩ (c_X3_requireWithinbad l hst D cs A z0 sa x 1 100000 hp_1) (va_cwS 3 hts gX3_takeCash_X3_requireWithin rfl rfl rfl (by decide +kernel) ⟨Nat.le_of_ble_eq_true rfl, Nat.le_of_ble_eq_true rfl⟩) ⟨pE_fb, fun U hU hV => ⟨rfl, hE.at (fun _ h => h) hS hV hU⟩⟩ rfl rfl hl.1 rfl (lv_room (Nat.le_of_ble_eq_true rfl)) dX3_takeCash_4 ⟨Nat.le_of_ble_eq_true rfl, Nat.le_of_ble_eq_true rfl⟩) hS (fun _ _ h => h.elim) (fun _ h => h.elim) (fun _ _ h => h.elim) (fun E9 ce9 q9 u9 t9 H9 locs9 ht9 hvm9 hpx9 hbx9 hz9 hk9 hS9 hc9 hv9 hl9 => ?_) (fun u t9 H locs ht hvm hw hB hz1 hk1 hS => hw.elim)
    exact vx_out (fun x h => (htab x h).elim) hlocks hc9 hv9 hl9 (fun t8 ht8 hvm8 => ⟨(), trivial, ⟨by subst hbx9; exact Or.inl ⟨by simp [kTake, (eq_false hp_1)], rfl⟩, by rw [ht8]; exact hW.kept hk9⟩, hS9.F ht8⟩) hS9.2.2 (Nat.le_of_ble_eq_true rfl) (Nat.le_of_ble_eq_true rfl)

set_option maxHeartbeats 4000000 in
set_option maxRecDepth 100000 in
theorem c_X3_setRules (l : Launch) (hst : l.stackTraces = false) (D : va_G) (cs : Nat → ClassId) (A : Nat → Prop) (z0 : Nat) (sa : Nat → Nat) (ad : Nat → Nat) (g : Nat → Int32) (L B : Nat → Nat → Int32) (n b : Nat) (y1 y2 : Int32) (N1 N2 : Nat) (nd : Nat → Int32) (gv : Nat → Nat → Int32) (hn : n ≤ 12) (hb5 : b ≤ 5) (hN1 : n ≤ N1 ∧ N1 < 1000) (hN2 : b ≤ N2 ∧ N2 < 1000) (x : Int32) (y : Int32) (z : Int32)  : vx_Met l yX3_setRules wsX3_setRules ({ frames := 8, cells := 1, slots := 6, locals := 122 } : Room) (va_Pc [.ref (ad 0), .int x, .int y, .int z] (pC D cs A z0 sa (lvC n b) ad (ctC cs ad z0 g L B n b y1 y2 N1 N2 nd gv))) (va_Qv (fun (_ : Unit) => kRules x y z = 0) (fun _ t9 => RC D cs A z0 (ad 0) (rulesG g x y z) L B n b t9.heap) A) (vx_X (fun (_ : Unit) => True) (fun E9 _ t9 => ((kRules x y z = 1 ∧ E9 = xA)) ∧ wP D A (lvC n b) ad (ctC cs ad z0 g L B n b y1 y2 N1 N2 nd gv) t9.heap) A) 1 6 A := by
  refine vx_ofW (cc := cX3_setRules) (maxL := 4) (ret := none) (by decide) rfl ?_
  intro p e s m args below meth c s₁ BB hml htab hv
  obtain ⟨rfl, hv⟩ := hv
  obtain ⟨hE, hW⟩ := hv
  have hK := hE.1
  have hx := BB.exec
  have hb := BB.bytes
  have hr := BB.returns
  have hts := atoms_spec (ws := wsX3_setRules) BB.pre
  have hown : s.vm.findClass RX3 = some m.cls := findClass_of_methodNamed BB.named
  have hlocks := BB.notSynchronized
  have hS : va_S A s.heap s.heap [] := va_S.rf
  have hl := lv_entry ([.ref (ad 0), .int x, .int y, .int z]) (n := 4) (Nat.le_of_ble_eq_true rfl)
  rw [lg_entry_eq]
  generalize (lg_sl ([.ref (ad 0), .int x, .int y, .int z]) ++ List.replicate (4 - (lg_sl ([.ref (ad 0), .int x, .int y, .int z])).length) Slot.unset).toArray = ls at hl ⊢
  have hl : lv_has ls 4 [(0, .ref (ad 0)), (1, .int x), (2, .int y), (3, .int z)] := hl
  have hf33 := hts (.fieldLink RX3 33 "Coverpool" "rankThatCounts" "I") (by decide +kernel)
  have hf36 := hts (.fieldLink RX3 36 "Coverpool" "cover" "I") (by decide +kernel)
  have hf39 := hts (.fieldLink RX3 39 "Coverpool" "rate" "I") (by decide +kernel)
  have hinX3 : ∀ w ∈ u_ws RX3 TX3 8, w ∈ wsX3_setRules := by decide +kernel
  refine lv_iload_n hx hb dX3_setRules_0 rfl (lv_at hl 1 rfl) ?_
  refine lv_iconst (v := 1) hx hb dX3_setRules_1 (by decide) ?_
  refine lv_iconst (v := 5) hx hb dX3_setRules_2 (by decide) ?_
  by_cases hp_1 : wi x 1 5
  ·
    refine va_callv (va_runS (As := [.int x, .int 1, .int 5]) (rest := []) ⟨hx, hb, hml, hown, hts⟩ (c_X3_requireWithinok l x 1 5 hp_1) (va_cwS 3 hts gX3_setRules_X3_requireWithin rfl rfl rfl (by decide +kernel) ⟨Nat.le_of_ble_eq_true rfl, Nat.le_of_ble_eq_true rfl⟩) ⟨pT_fb, fun U hU hV => ⟨rfl, trivial⟩⟩ rfl rfl hl.1 rfl (lv_room (Nat.le_of_ble_eq_true rfl)) dX3_setRules_3 ⟨Nat.zero_le _, Nat.zero_le _⟩) hS (fun _ _ h => h.elim) (fun _ h => h.elim) (fun u t9 H locs ht hvm hw _ hz1 hk1 hS => ?_)
    have hW := hW.kept hk1
    refine lv_iload_n hx hb dX3_setRules_6 rfl (lv_at hl 2 rfl) ?_
    refine lv_iconst (v := 0) hx hb dX3_setRules_7 (by decide) ?_
    refine lv_bipush (v := 50) hx hb dX3_setRules_8 (by decide) ?_
    by_cases hp_2 : wi y 0 50
    ·
      refine va_callv (va_runS (As := [.int y, .int 0, .int 50]) (rest := []) ⟨hx, hb, hml, hown, hts⟩ (c_X3_requireWithinok l y 0 50 hp_2) (va_cwS 3 hts gX3_setRules_X3_requireWithin rfl rfl rfl (by decide +kernel) ⟨Nat.le_of_ble_eq_true rfl, Nat.le_of_ble_eq_true rfl⟩) ⟨pT_fb, fun U hU hV => ⟨rfl, trivial⟩⟩ rfl rfl hl.1 rfl (lv_room (Nat.le_of_ble_eq_true rfl)) dX3_setRules_10 ⟨Nat.zero_le _, Nat.zero_le _⟩) hS (fun _ _ h => h.elim) (fun _ h => h.elim) (fun u t9 H locs ht hvm hw _ hz1 hk1 hS => ?_)
      have hW := hW.kept hk1
      refine lv_iload_n hx hb dX3_setRules_13 rfl (lv_at hl 3 rfl) ?_
      refine lv_iconst (v := 0) hx hb dX3_setRules_14 (by decide) ?_
      refine lv_bipush (v := 20) hx hb dX3_setRules_15 (by decide) ?_
      by_cases hp_3 : wi z 0 20
      ·
        refine va_callv (va_runS (As := [.int z, .int 0, .int 20]) (rest := []) ⟨hx, hb, hml, hown, hts⟩ (c_X3_requireWithinok l z 0 20 hp_3) (va_cwS 3 hts gX3_setRules_X3_requireWithin rfl rfl rfl (by decide +kernel) ⟨Nat.le_of_ble_eq_true rfl, Nat.le_of_ble_eq_true rfl⟩) ⟨pT_fb, fun U hU hV => ⟨rfl, trivial⟩⟩ rfl rfl hl.1 rfl (lv_room (Nat.le_of_ble_eq_true rfl)) dX3_setRules_17 ⟨Nat.zero_le _, Nat.zero_le _⟩) hS (fun _ _ h => h.elim) (fun _ h => h.elim) (fun u t9 H locs ht hvm hw _ hz1 hk1 hS => ?_)
        have hW := hW.kept hk1
        refine lv_aload_n hx hb dX3_setRules_20 rfl (lv_at hl 0 rfl) ?_
        refine lv_iload_n hx hb dX3_setRules_21 rfl (lv_at hl 1 rfl) ?_
        refine wb_put (v := .int x) (ty := .int) hx hb hts hinX3 tyX3 tyX3_ok nmX3 hown hK hW hS 0 (lvC_0 (by decide)) rfl rfl 5 (by decide) hf33 (fun _ h9 => h9) rfl (by decide +kernel) rfl rfl (Nat.le_of_ble_eq_true rfl) dX3_setRules_22 (fun H locs hW hS => ?_)
        obtain ⟨g5, hg5⟩ : ∃ z9, z9 = upd g 2 x := ⟨_, rfl⟩
        have hW : wP D A (lvC n b) ad (ctC cs ad z0 g5 L B n b y1 y2 N1 N2 nd gv) H := by subst hg5; exact hW.up rfl (fun r _ hr => ctC_g hr)
        refine lv_aload_n hx hb dX3_setRules_25 rfl (lv_at hl 0 rfl) ?_
        refine lv_iload_n hx hb dX3_setRules_26 rfl (lv_at hl 2 rfl) ?_
        refine wb_put (v := .int y) (ty := .int) hx hb hts hinX3 tyX3 tyX3_ok nmX3 hown hK hW hS 0 (lvC_0 (by decide)) rfl rfl 6 (by decide) hf36 (fun _ h9 => h9) rfl (by decide +kernel) rfl rfl (Nat.le_of_ble_eq_true rfl) dX3_setRules_27 (fun H locs hW hS => ?_)
        obtain ⟨g7, hg7⟩ : ∃ z9, z9 = upd g5 3 y := ⟨_, rfl⟩
        have hW : wP D A (lvC n b) ad (ctC cs ad z0 g7 L B n b y1 y2 N1 N2 nd gv) H := by subst hg7; exact hW.up rfl (fun r _ hr => ctC_g hr)
        refine lv_aload_n hx hb dX3_setRules_30 rfl (lv_at hl 0 rfl) ?_
        refine lv_iload_n hx hb dX3_setRules_31 rfl (lv_at hl 3 rfl) ?_
        refine wb_put (v := .int z) (ty := .int) hx hb hts hinX3 tyX3 tyX3_ok nmX3 hown hK hW hS 0 (lvC_0 (by decide)) rfl rfl 7 (by decide) hf39 (fun _ h9 => h9) rfl (by decide +kernel) rfl rfl (Nat.le_of_ble_eq_true rfl) dX3_setRules_32 (fun H locs hW hS => ?_)
        obtain ⟨g9, hg9⟩ : ∃ z9, z9 = upd g7 4 z := ⟨_, rfl⟩
        have hW : wP D A (lvC n b) ad (ctC cs ad z0 g9 L B n b y1 y2 N1 N2 nd gv) H := by subst hg9; exact hW.up rfl (fun r _ hr => ctC_g hr)
        have hk : kRules x y z = 0 := by simp [kRules, (eq_true hp_1), (eq_true hp_2), (eq_true hp_3), hg5, hg7, hg9]
        refine W.widen (k := 1) (n := 6) (Nat.le_of_ble_eq_true rfl) (Nat.le_of_ble_eq_true rfl) ?_
        exact vx_ret (W.vret hx hb hr (fun t9 ht9 hW9 => ⟨⟨(), rfl, hk, (by dsimp only; rw [ht9]; subst hg9 hg7 hg5; exact ⟨ad, y1, y2, N1, N2, nd, gv, rfl, hN1, hN2, hW⟩)⟩, hS.F ht9⟩) hS.2.2 dX3_setRules_35)
      ·
        refine vx_callv (vx_runS (As := [.int z, .int 0, .int 20]) (rest := []) ⟨hx, hb, hml, hown, hts⟩ (c_X3_requireWithinbad l hst D cs A z0 sa z 0 20 hp_3) (va_cwS 3 hts gX3_setRules_X3_requireWithin rfl rfl rfl (by decide +kernel) ⟨Nat.le_of_ble_eq_true rfl, Nat.le_of_ble_eq_true rfl⟩) ⟨pE_fb, fun U hU hV => ⟨rfl, hE.at (fun _ h => h) hS hV hU⟩⟩ rfl rfl hl.1 rfl (lv_room (Nat.le_of_ble_eq_true rfl)) dX3_setRules_17 ⟨Nat.le_of_ble_eq_true rfl, Nat.le_of_ble_eq_true rfl⟩) hS (fun _ _ h => h.elim) (fun _ h => h.elim) (fun _ _ h => h.elim) (fun E9 ce9 q9 u9 t9 H9 locs9 ht9 hvm9 hpx9 hbx9 hz9 hk9 hS9 hc9 hv9 hl9 => ?_) (fun u t9 H locs ht hvm hw hB hz1 hk1 hS => hw.elim)
        exact vx_out (fun x h => (htab x h).elim) hlocks hc9 hv9 hl9 (fun t8 ht8 hvm8 => ⟨(), trivial, ⟨by subst hbx9; exact ⟨by simp [kRules, (eq_true hp_1), (eq_true hp_2), (eq_false hp_3)], rfl⟩, by rw [ht8]; exact hW.kept hk9⟩, hS9.F ht8⟩) hS9.2.2 (Nat.le_of_ble_eq_true rfl) (Nat.le_of_ble_eq_true rfl)
    ·
      refine vx_callv (vx_runS (As := [.int y, .int 0, .int 50]) (rest := []) ⟨hx, hb, hml, hown, hts⟩ (c_X3_requireWithinbad l hst D cs A z0 sa y 0 50 hp_2) (va_cwS 3 hts gX3_setRules_X3_requireWithin rfl rfl rfl (by decide +kernel) ⟨Nat.le_of_ble_eq_true rfl, Nat.le_of_ble_eq_true rfl⟩) ⟨pE_fb, fun U hU hV => ⟨rfl, hE.at (fun _ h => h) hS hV hU⟩⟩ rfl rfl hl.1 rfl (lv_room (Nat.le_of_ble_eq_true rfl)) dX3_setRules_10 ⟨Nat.le_of_ble_eq_true rfl, Nat.le_of_ble_eq_true rfl⟩) hS (fun _ _ h => h.elim) (fun _ h => h.elim) (fun _ _ h => h.elim) (fun E9 ce9 q9 u9 t9 H9 locs9 ht9 hvm9 hpx9 hbx9 hz9 hk9 hS9 hc9 hv9 hl9 => ?_) (fun u t9 H locs ht hvm hw hB hz1 hk1 hS => hw.elim)
      exact vx_out (fun x h => (htab x h).elim) hlocks hc9 hv9 hl9 (fun t8 ht8 hvm8 => ⟨(), trivial, ⟨by subst hbx9; exact ⟨by simp [kRules, (eq_true hp_1), (eq_false hp_2)], rfl⟩, by rw [ht8]; exact hW.kept hk9⟩, hS9.F ht8⟩) hS9.2.2 (Nat.le_of_ble_eq_true rfl) (Nat.le_of_ble_eq_true rfl)
  ·
    refine vx_callv (vx_runS (As := [.int x, .int 1, .int 5]) (rest := []) ⟨hx, hb, hml, hown, hts⟩ (c_X3_requireWithinbad l hst D cs A z0 sa x 1 5 hp_1) (va_cwS 3 hts gX3_setRules_X3_requireWithin rfl rfl rfl (by decide +kernel) ⟨Nat.le_of_ble_eq_true rfl, Nat.le_of_ble_eq_true rfl⟩) ⟨pE_fb, fun U hU hV => ⟨rfl, hE.at (fun _ h => h) hS hV hU⟩⟩ rfl rfl hl.1 rfl (lv_room (Nat.le_of_ble_eq_true rfl)) dX3_setRules_3 ⟨Nat.le_of_ble_eq_true rfl, Nat.le_of_ble_eq_true rfl⟩) hS (fun _ _ h => h.elim) (fun _ h => h.elim) (fun _ _ h => h.elim) (fun E9 ce9 q9 u9 t9 H9 locs9 ht9 hvm9 hpx9 hbx9 hz9 hk9 hS9 hc9 hv9 hl9 => ?_) (fun u t9 H locs ht hvm hw hB hz1 hk1 hS => hw.elim)
    exact vx_out (fun x h => (htab x h).elim) hlocks hc9 hv9 hl9 (fun t8 ht8 hvm8 => ⟨(), trivial, ⟨by subst hbx9; exact ⟨by simp [kRules, (eq_false hp_1)], rfl⟩, by rw [ht8]; exact hW.kept hk9⟩, hS9.F ht8⟩) hS9.2.2 (Nat.le_of_ble_eq_true rfl) (Nat.le_of_ble_eq_true rfl)

set_option maxHeartbeats 4000000 in
set_option maxRecDepth 100000 in
theorem c_X3_lacking (l : Launch) (hst : l.stackTraces = false) (D : va_G) (cs : Nat → ClassId) (A : Nat → Prop) (z0 : Nat) (sa : Nat → Nat) (ad : Nat → Nat) (g : Nat → Int32) (L B : Nat → Nat → Int32) (n b : Nat) (y1 y2 : Int32) (N1 N2 : Nat) (nd : Nat → Int32) (gv : Nat → Nat → Int32) (hn : n ≤ 12) (hb5 : b ≤ 5) (hN1 : n ≤ N1 ∧ N1 < 1000) (hN2 : b ≤ N2 ∧ N2 < 1000) (x : Int32)  : vx_Met l yX3_lacking wsX3_lacking ({ frames := 8, cells := 1, slots := 6, locals := 176 } : Room) (va_Pc [.ref (ad 0), .int x] (pC D cs A z0 sa (lvC n b) ad (ctC cs ad z0 g L B n b y1 y2 N1 N2 nd gv))) (va_Ql (fun (r9 : Int64) (_ : Unit) => kIn 0 2 x = 0 ∧ r9 = (cMost (fsN nd g B b) (gvS gv g L n) x (mPool L 1 n) 9).toInt64) (fun _ t9 => RC D cs A z0 (ad 0) g L B n b t9.heap) A) (vx_X (fun (_ : Unit) => True) (fun E9 _ t9 => ((kIn 0 2 x = 1 ∧ E9 = xA)) ∧ wP D A (lvC n b) ad (ctC cs ad z0 g L B n b y1 y2 N1 N2 nd gv) t9.heap) A) 1 6 A := by
  refine vx_ofW (cc := cX3_lacking) (maxL := 2) (ret := (some .long)) (by decide) rfl ?_
  intro p e s m args below meth c s₁ BB hml htab hv
  obtain ⟨rfl, hv⟩ := hv
  obtain ⟨hE, hW⟩ := hv
  have hK := hE.1
  have hx := BB.exec
  have hb := BB.bytes
  have hr := BB.returns
  have hts := atoms_spec (ws := wsX3_lacking) BB.pre
  have hown : s.vm.findClass RX3 = some m.cls := findClass_of_methodNamed BB.named
  have hlocks := BB.notSynchronized
  have hS : va_S A s.heap s.heap [] := va_S.rf
  have hl := lv_entry ([.ref (ad 0), .int x]) (n := 2) (Nat.le_of_ble_eq_true rfl)
  rw [lg_entry_eq]
  generalize (lg_sl ([.ref (ad 0), .int x]) ++ List.replicate (2 - (lg_sl ([.ref (ad 0), .int x])).length) Slot.unset).toArray = ls at hl ⊢
  have hl : lv_has ls 2 [(0, .ref (ad 0)), (1, .int x)] := hl
  have hf22 := hts (.fieldLink RX3 22 "Coverpool" "sheet" "LCoverpool$Sheet;") (by decide +kernel)
  have hinX3 : ∀ w ∈ u_ws RX3 TX3 8, w ∈ wsX3_lacking := by decide +kernel
  refine lv_iload_n hx hb dX3_lacking_0 rfl (lv_at hl 1 rfl) ?_
  refine lv_iconst (v := 0) hx hb dX3_lacking_1 (by decide) ?_
  refine lv_iconst (v := 2) hx hb dX3_lacking_2 (by decide) ?_
  by_cases hp_1 : wi x 0 2
  ·
    refine va_callv (va_runS (As := [.int x, .int 0, .int 2]) (rest := []) ⟨hx, hb, hml, hown, hts⟩ (c_X3_requireWithinok l x 0 2 hp_1) (va_cwS 3 hts gX3_lacking_X3_requireWithin rfl rfl rfl (by decide +kernel) ⟨Nat.le_of_ble_eq_true rfl, Nat.le_of_ble_eq_true rfl⟩) ⟨pT_fb, fun U hU hV => ⟨rfl, trivial⟩⟩ rfl rfl hl.1 rfl (lv_room (Nat.le_of_ble_eq_true rfl)) dX3_lacking_3 ⟨Nat.zero_le _, Nat.zero_le _⟩) hS (fun _ _ h => h.elim) (fun _ h => h.elim) (fun u t9 H locs ht hvm hw _ hz1 hk1 hS => ?_)
    have hW := hW.kept hk1
    refine lv_aload_n hx hb dX3_lacking_6 rfl (lv_at hl 0 rfl) ?_
    refine va_callv (va_runV (As := []) (rest := []) ⟨hx, hb, hml, hown, hts⟩ (c_X3_fillSheet l D cs A z0 sa ad g L B n b y1 y2 N1 N2 nd gv hn hb5 hN1 hN2 ) (cwV 0 hts gX3_lacking_X3_fillSheet rfl rfl rfl (by decide +kernel) ⟨Nat.le_of_ble_eq_true rfl, Nat.le_of_ble_eq_true rfl⟩) ⟨pC_fb, wb_recv hK hW (r := 0) (lvC_0 (by decide)) (ci := 4) rfl rfl, fun U hU hV => ⟨rfl, hE.at (fun _ h => h) hS hV hU, by rw [hU]; exact hW⟩⟩ rfl rfl hl.1 rfl (lv_room (Nat.le_of_ble_eq_true rfl)) dX3_lacking_7 ⟨Nat.zero_le _, Nat.zero_le _⟩) hS (fun _ _ h => h) (fun _ h => h) (fun u t9 H locs ht hvm hw hB hz1 hk1 hS => ?_)
    have hW : wP D A (lvC n b) ad (ctC cs ad z0 g L B n b y1 y2 N1 N2 (fsN nd g B b) (gvS gv g L n)) H := by rw [← ht]; exact hB
    refine lv_aload_n hx hb dX3_lacking_10 rfl (lv_at hl 0 rfl) ?_
    refine wb_get hx hb hts hinX3 hown hK hW 0 (lvC_0 (by decide)) rfl rfl 2 (by decide) hf22 (fun _ h9 => h9) (v := .ref (ad 3)) rfl dX3_lacking_11 ?_
    refine lv_iload_n hx hb dX3_lacking_14 rfl (lv_at hl 1 rfl) ?_
    refine lv_aload_n hx hb dX3_lacking_15 rfl (lv_at hl 0 rfl) ?_
    refine lv_iconst (v := 1) hx hb dX3_lacking_16 (by decide) ?_
    refine va_calli (va_runV (As := [.int 1]) (rest := [.int x, .ref (ad 3)]) ⟨hx, hb, hml, hown, hts⟩ (c_X3_loansThatAre l D cs A z0 sa ad g L B n b y1 y2 N1 N2 (fsN nd g B b) (gvS gv g L n) hn hb5 hN1 hN2 1) (cwV 1 hts gX3_lacking_X3_loansThatAre rfl rfl rfl (by decide +kernel) ⟨Nat.le_of_ble_eq_true rfl, Nat.le_of_ble_eq_true rfl⟩) ⟨pC_fb, wb_recv hK hW (r := 0) (lvC_0 (by decide)) (ci := 4) rfl rfl, fun U hU hV => ⟨rfl, hE.at (fun _ h => h) hS hV hU, by rw [hU]; exact hW⟩⟩ rfl rfl hl.1 rfl (lv_room (Nat.le_of_ble_eq_true rfl)) dX3_lacking_17 ⟨Nat.zero_le _, Nat.zero_le _⟩) hS (fun _ _ h => h.elim) (fun _ h => h.elim) (fun r_3 u t9 H locs ht hvm hw _ hz1 hk1 hS => ?_)
    have hW := hW.kept hk1
    subst hw
    refine va_calli (va_runV (As := [.int x, .int (mPool L 1 n)]) (rest := []) ⟨hx, hb, hml, hown, hts⟩ (c_X2_mostMissing l D cs A z0 sa ad g L B n b y1 y2 N1 N2 (fsN nd g B b) (gvS gv g L n) hn hb5 hN1 hN2 x (mPool L 1 n)) (cwV 2 hts gX3_lacking_X2_mostMissing rfl rfl rfl (by decide +kernel) ⟨Nat.le_of_ble_eq_true rfl, Nat.le_of_ble_eq_true rfl⟩) ⟨pC_fb, wb_recv hK hW (r := 3) (lvC_0 (by decide)) (ci := 3) rfl rfl, fun U hU hV => ⟨rfl, hE.at (fun _ h => h) hS hV hU, by rw [hU]; exact hW⟩⟩ rfl rfl hl.1 rfl (lv_room (Nat.le_of_ble_eq_true rfl)) dX3_lacking_20 ⟨Nat.zero_le _, Nat.zero_le _⟩) hS (fun _ _ h => h.elim) (fun _ h => h.elim) (fun r_4 u t9 H locs ht hvm hw _ hz1 hk1 hS => ?_)
    have hW := hW.kept hk1
    subst hw
    refine lv_i2l (v := (cMost (fsN nd g B b) (gvS gv g L n) x (mPool L 1 n) 9).toInt64) hx hb dX3_lacking_23 rfl ?_
    have hk : kIn 0 2 x = 0 := by simp [kIn, (eq_true hp_1)]
    refine W.widen (k := 1) (n := 6) (Nat.le_of_ble_eq_true rfl) (Nat.le_of_ble_eq_true rfl) ?_
    exact vx_ret (W.lret (v := (cMost (fsN nd g B b) (gvS gv g L n) x (mPool L 1 n) 9).toInt64) hx hb hr (fun t9 ht9 hW9 => ⟨⟨_, (), rfl, ⟨hk, (by first | rfl | (first | rfl | (simp [(eq_true hp_1), upd]; done)))⟩, (by dsimp only; rw [ht9]; exact ⟨ad, y1, y2, N1, N2, (fsN nd g B b), (gvS gv g L n), rfl, hN1, hN2, hW⟩)⟩, hS.F ht9⟩) hS.2.2 dX3_lacking_24)
  ·
    refine vx_callv (vx_runS (As := [.int x, .int 0, .int 2]) (rest := []) ⟨hx, hb, hml, hown, hts⟩ (c_X3_requireWithinbad l hst D cs A z0 sa x 0 2 hp_1) (va_cwS 3 hts gX3_lacking_X3_requireWithin rfl rfl rfl (by decide +kernel) ⟨Nat.le_of_ble_eq_true rfl, Nat.le_of_ble_eq_true rfl⟩) ⟨pE_fb, fun U hU hV => ⟨rfl, hE.at (fun _ h => h) hS hV hU⟩⟩ rfl rfl hl.1 rfl (lv_room (Nat.le_of_ble_eq_true rfl)) dX3_lacking_3 ⟨Nat.le_of_ble_eq_true rfl, Nat.le_of_ble_eq_true rfl⟩) hS (fun _ _ h => h.elim) (fun _ h => h.elim) (fun _ _ h => h.elim) (fun E9 ce9 q9 u9 t9 H9 locs9 ht9 hvm9 hpx9 hbx9 hz9 hk9 hS9 hc9 hv9 hl9 => ?_) (fun u t9 H locs ht hvm hw hB hz1 hk1 hS => hw.elim)
    exact vx_out (fun x h => (htab x h).elim) hlocks hc9 hv9 hl9 (fun t8 ht8 hvm8 => ⟨(), trivial, ⟨by subst hbx9; exact ⟨by simp [kIn, (eq_false hp_1)], rfl⟩, by rw [ht8]; exact hW.kept hk9⟩, hS9.F ht8⟩) hS9.2.2 (Nat.le_of_ble_eq_true rfl) (Nat.le_of_ble_eq_true rfl)

set_option maxHeartbeats 4000000 in
set_option maxRecDepth 100000 in
theorem c_X3_pass (l : Launch) (hst : l.stackTraces = false) (D : va_G) (cs : Nat → ClassId) (A : Nat → Prop) (z0 : Nat) (sa : Nat → Nat) (ad : Nat → Nat) (g : Nat → Int32) (L B : Nat → Nat → Int32) (n b : Nat) (y1 y2 : Int32) (N1 N2 : Nat) (nd : Nat → Int32) (gv : Nat → Nat → Int32) (hn : n ≤ 12) (hb5 : b ≤ 5) (hN1 : n ≤ N1 ∧ N1 < 1000) (hN2 : b ≤ N2 ∧ N2 < 1000) (x : Int32)  : vx_Met l yX3_pass wsX3_pass ({ frames := 8, cells := 1, slots := 6, locals := 122 } : Room) (va_Pc [.ref (ad 0), .int x] (pC D cs A z0 sa (lvC n b) ad (ctC cs ad z0 g L B n b y1 y2 N1 N2 nd gv))) (va_Qi (fun (r9 : Int32) (_ : Unit) => kIn 1 24 x = 0 ∧ r9 = (lvMany n b (g, L, B) (ixN x)).1 0) (fun _ t9 => RC D cs A z0 (ad 0) ((lvMany n b (g, L, B) (ixN x)).1) ((lvMany n b (g, L, B) (ixN x)).2.1) ((lvMany n b (g, L, B) (ixN x)).2.2) n b t9.heap) A) (vx_X (fun (_ : Unit) => True) (fun E9 _ t9 => ((kIn 1 24 x = 1 ∧ E9 = xA)) ∧ wP D A (lvC n b) ad (ctC cs ad z0 g L B n b y1 y2 N1 N2 nd gv) t9.heap) A) 1 6 A := by
  refine vx_ofW (cc := cX3_pass) (maxL := 3) (ret := (some .int)) (by decide) rfl ?_
  intro p e s m args below meth c s₁ BB hml htab hv
  obtain ⟨rfl, hv⟩ := hv
  obtain ⟨hE, hW⟩ := hv
  have hK := hE.1
  have hx := BB.exec
  have hb := BB.bytes
  have hr := BB.returns
  have hts := atoms_spec (ws := wsX3_pass) BB.pre
  have hown : s.vm.findClass RX3 = some m.cls := findClass_of_methodNamed BB.named
  have hlocks := BB.notSynchronized
  have hS : va_S A s.heap s.heap [] := va_S.rf
  have hl := lv_entry ([.ref (ad 0), .int x]) (n := 3) (Nat.le_of_ble_eq_true rfl)
  rw [lg_entry_eq]
  generalize (lg_sl ([.ref (ad 0), .int x]) ++ List.replicate (3 - (lg_sl ([.ref (ad 0), .int x])).length) Slot.unset).toArray = ls at hl ⊢
  have hl : lv_has ls 3 [(0, .ref (ad 0)), (1, .int x)] := hl
  have hf26 := hts (.fieldLink RX3 26 "Coverpool" "month" "I") (by decide +kernel)
  have hinX3 : ∀ w ∈ u_ws RX3 TX3 8, w ∈ wsX3_pass := by decide +kernel
  refine lv_iload_n hx hb dX3_pass_0 rfl (lv_at hl 1 rfl) ?_
  refine lv_iconst (v := 1) hx hb dX3_pass_1 (by decide) ?_
  refine lv_bipush (v := 24) hx hb dX3_pass_2 (by decide) ?_
  by_cases hp_1 : wi x 1 24
  ·
    refine va_callv (va_runS (As := [.int x, .int 1, .int 24]) (rest := []) ⟨hx, hb, hml, hown, hts⟩ (c_X3_requireWithinok l x 1 24 hp_1) (va_cwS 3 hts gX3_pass_X3_requireWithin rfl rfl rfl (by decide +kernel) ⟨Nat.le_of_ble_eq_true rfl, Nat.le_of_ble_eq_true rfl⟩) ⟨pT_fb, fun U hU hV => ⟨rfl, trivial⟩⟩ rfl rfl hl.1 rfl (lv_room (Nat.le_of_ble_eq_true rfl)) dX3_pass_4 ⟨Nat.zero_le _, Nat.zero_le _⟩) hS (fun _ _ h => h.elim) (fun _ h => h.elim) (fun u t9 H locs ht hvm hw _ hz1 hk1 hS => ?_)
    have hW := hW.kept hk1
    obtain ⟨k9, -, hk9, rfl⟩ := wi_nI (lo := 1) (hi := 24) (by decide) (by decide) (by decide) hp_1
    have hn_x : ixN (nI k9) = k9 := ixN_nI (by omega)
    refine lv_iconst (v := 0) hx hb dX3_pass_7 (by decide) ?_
    refine lv_istore_n (lv' := [(2, .int 0), (0, .ref (ad 0)), (1, .int (nI k9))]) hx hb dX3_pass_8 rfl hl (by decide) rfl (fun ls hl => ?_)
    have loop_2 : ∀ (k2 j2 : Nat), j2 + k2 = k9 → ∀ (H : Heap) (locs : List Loc), wP D A (lvC n b) ad (ctC cs ad z0 ((lvMany n b (g, L, B) j2).1) ((lvMany n b (g, L, B) j2).2.1) ((lvMany n b (g, L, B) j2).2.2) n b y1 y2 N1 N2 nd gv) H → va_S A s.heap H locs → ∀ (ls : Array Slot), lv_has ls 3 [(2, .int (nI j2)), (0, .ref (ad 0)), (1, .int (nI k9))] → W p l e ({ frames := 8, cells := 1, slots := 6, locals := 122 } : Room) s m (([.ref (ad 0), .int (nI k9)] : List Value).toArray) below meth c H locs 0 0 (vx_MQ below (va_Qi (fun (r9 : Int32) (_ : Unit) => kIn 1 24 (nI k9) = 0 ∧ r9 = (lvMany n b (g, L, B) (ixN (nI k9))).1 0) (fun _ t9 => RC D cs A z0 (ad 0) ((lvMany n b (g, L, B) (ixN (nI k9))).1) ((lvMany n b (g, L, B) (ixN (nI k9))).2.1) ((lvMany n b (g, L, B) (ixN (nI k9))).2.2) n b t9.heap) A) (vx_X (fun (_ : Unit) => True) (fun E9 _ t9 => ((kIn 1 24 (nI k9) = 1 ∧ E9 = xA)) ∧ wP D A (lvC n b) ad (ctC cs ad z0 g L B n b y1 y2 N1 N2 nd gv) t9.heap) A) (([.ref (ad 0), .int (nI k9)] : List Value).toArray) s 1 6 A) (F0 m 9 ls []) := by
      intro k2
      induction k2 with
      | zero =>
        intro j2 hj_2  H locs hW hS ls hl
        obtain rfl : k9 = j2 := by omega
        refine lv_iload_n hx hb dX3_pass_9 rfl (lv_at hl 0 rfl) ?_
        refine lv_iload_n hx hb dX3_pass_10 rfl (lv_at hl 2 rfl) ?_
        refine lv_icmp_ge (tgt := 38) hx hb dX3_pass_11 (by decide) (fun c_3 => ?_) (fun c_3 => ?_)
        · -- nI k9 ge nI k9 : True
          refine lv_aload_n hx hb dX3_pass_38 rfl (lv_at hl 1 rfl) ?_
          refine wb_get hx hb hts hinX3 hown hK hW 0 (lvC_0 (by decide)) rfl rfl 3 (by decide) hf26 (fun _ h9 => h9) (v := .int (((lvMany n b (g, L, B) k9).1) 0)) rfl dX3_pass_39 ?_
          have hk : kIn 1 24 (nI k9) = 0 := by simp [kIn, (eq_true hp_1), hn_x, c_3]
          refine W.widen (k := 1) (n := 6) (Nat.le_of_ble_eq_true rfl) (Nat.le_of_ble_eq_true rfl) ?_
          exact vx_ret (W.iret (v := ((lvMany n b (g, L, B) k9).1) 0) hx hb hr (fun t9 ht9 hW9 => ⟨⟨_, (), rfl, ⟨hk, (by first | rfl | (simp only [hn_x]; done) | (simp only [hn_x]; first | rfl | (simp [(eq_true hp_1), hn_x, c_3, upd]; done)))⟩, (by dsimp only; rw [ht9]; (try simp only [hn_x]); exact ⟨ad, y1, y2, N1, N2, nd, gv, rfl, hN1, hN2, hW⟩)⟩, hS.F ht9⟩) hS.2.2 dX3_pass_42)
        · -- nI k9 ge nI k9 : False
          exact absurd (by first | exact Int32.le_refl _ | decide) c_3
      | succ k2 ih_2 =>
        intro j2 hj_2  H locs hW hS ls hl
        refine lv_iload_n hx hb dX3_pass_9 rfl (lv_at hl 0 rfl) ?_
        refine lv_iload_n hx hb dX3_pass_10 rfl (lv_at hl 2 rfl) ?_
        refine lv_icmp_ge (tgt := 38) hx hb dX3_pass_11 (by decide) (fun c_4 => ?_) (fun c_4 => ?_)
        · -- nI j2 ge nI k9 : True
          exact absurd c_4 (nI_ge (by omega) (by omega))
        · -- nI j2 ge nI k9 : False
          refine lv_aload_n hx hb dX3_pass_14 rfl (lv_at hl 1 rfl) ?_
          refine lv_dup hx hb dX3_pass_15 rfl ?_
          refine wb_get hx hb hts hinX3 hown hK hW 0 (lvC_0 (by decide)) rfl rfl 3 (by decide) hf26 (fun _ h9 => h9) (v := .int (((lvMany n b (g, L, B) j2).1) 0)) rfl dX3_pass_16 ?_
          refine lv_iconst (v := 1) hx hb dX3_pass_19 (by decide) ?_
          refine lv_iadd hx hb dX3_pass_20 ?_
          refine wb_put (v := .int ((((lvMany n b (g, L, B) j2).1) 0) + 1)) (ty := .int) hx hb hts hinX3 tyX3 tyX3_ok nmX3 hown hK hW hS 0 (lvC_0 (by decide)) rfl rfl 3 (by decide) hf26 (fun _ h9 => h9) rfl (by decide +kernel) rfl rfl (Nat.le_of_ble_eq_true rfl) dX3_pass_21 (fun H locs hW hS => ?_)
          obtain ⟨g6, hg6⟩ : ∃ z9, z9 = upd ((lvMany n b (g, L, B) j2).1) 0 ((((lvMany n b (g, L, B) j2).1) 0) + 1) := ⟨_, rfl⟩
          have hW : wP D A (lvC n b) ad (ctC cs ad z0 g6 ((lvMany n b (g, L, B) j2).2.1) ((lvMany n b (g, L, B) j2).2.2) n b y1 y2 N1 N2 nd gv) H := by subst hg6; exact hW.up rfl (fun r _ hr => ctC_g hr)
          refine lv_aload_n hx hb dX3_pass_24 rfl (lv_at hl 1 rfl) ?_
          refine va_callv (va_runV (As := []) (rest := []) ⟨hx, hb, hml, hown, hts⟩ (c_X3_receiveDueLoans l D cs A z0 sa ad g6 ((lvMany n b (g, L, B) j2).2.1) ((lvMany n b (g, L, B) j2).2.2) n b y1 y2 N1 N2 nd gv hn hb5 hN1 hN2 ) (cwV 0 hts gX3_pass_X3_receiveDueLoans rfl rfl rfl (by decide +kernel) ⟨Nat.le_of_ble_eq_true rfl, Nat.le_of_ble_eq_true rfl⟩) ⟨pC_fb, wb_recv hK hW (r := 0) (lvC_0 (by decide)) (ci := 4) rfl rfl, fun U hU hV => ⟨rfl, hE.at (fun _ h => h) hS hV hU, by rw [hU]; exact hW⟩⟩ rfl rfl hl.1 rfl (lv_room (Nat.le_of_ble_eq_true rfl)) dX3_pass_25 ⟨Nat.zero_le _, Nat.zero_le _⟩) hS (fun _ _ h => h) (fun _ h => h) (fun u t9 H locs ht hvm hw hB hz1 hk1 hS => ?_)
          have hW : wP D A (lvC n b) ad (ctC cs ad z0 (upd g6 1 (lvCash ((lvMany n b (g, L, B) j2).2.1) (g6 0) (g6 1) n)) (lvL ((lvMany n b (g, L, B) j2).2.1) (g6 0) n) ((lvMany n b (g, L, B) j2).2.2) n b y1 y2 N1 N2 nd gv) H := by rw [← ht]; exact hB
          refine lv_aload_n hx hb dX3_pass_28 rfl (lv_at hl 1 rfl) ?_
          refine va_callv (va_runV (As := []) (rest := []) ⟨hx, hb, hml, hown, hts⟩ (c_X3_settleDueBonds l D cs A z0 sa ad (upd g6 1 (lvCash ((lvMany n b (g, L, B) j2).2.1) (g6 0) (g6 1) n)) (lvL ((lvMany n b (g, L, B) j2).2.1) (g6 0) n) ((lvMany n b (g, L, B) j2).2.2) n b y1 y2 N1 N2 nd gv hn hb5 hN1 hN2 ) (cwV 0 hts gX3_pass_X3_settleDueBonds rfl rfl rfl (by decide +kernel) ⟨Nat.le_of_ble_eq_true rfl, Nat.le_of_ble_eq_true rfl⟩) ⟨pC_fb, wb_recv hK hW (r := 0) (lvC_0 (by decide)) (ci := 4) rfl rfl, fun U hU hV => ⟨rfl, hE.at (fun _ h => h) hS hV hU, by rw [hU]; exact hW⟩⟩ rfl rfl hl.1 rfl (lv_room (Nat.le_of_ble_eq_true rfl)) dX3_pass_29 ⟨Nat.zero_le _, Nat.zero_le _⟩) hS (fun _ _ h => h) (fun _ h => h) (fun u t9 H locs ht hvm hw hB hz1 hk1 hS => ?_)
          have hW : wP D A (lvC n b) ad (ctC cs ad z0 (upd (upd g6 1 (lvCash ((lvMany n b (g, L, B) j2).2.1) (g6 0) (g6 1) n)) 1 (bdS ((upd g6 1 (lvCash ((lvMany n b (g, L, B) j2).2.1) (g6 0) (g6 1) n)) 0) ((upd g6 1 (lvCash ((lvMany n b (g, L, B) j2).2.1) (g6 0) (g6 1) n)) 1) ((lvMany n b (g, L, B) j2).2.2) b).1) (lvL ((lvMany n b (g, L, B) j2).2.1) (g6 0) n) ((bdS ((upd g6 1 (lvCash ((lvMany n b (g, L, B) j2).2.1) (g6 0) (g6 1) n)) 0) ((upd g6 1 (lvCash ((lvMany n b (g, L, B) j2).2.1) (g6 0) (g6 1) n)) 1) ((lvMany n b (g, L, B) j2).2.2) b).2) n b y1 y2 N1 N2 nd gv) H := by rw [← ht]; exact hB
          refine lv_iinc (v := nI (j2 + 1)) (lv' := [(2, .int (nI (j2 + 1))), (0, .ref (ad 0)), (1, .int (nI k9))]) hx hb dX3_pass_32 hl (k := 0) rfl (nI_1 _) (by decide) rfl (fun ls hl => ?_)
          refine lv_goto (tgt := 9) hx hb dX3_pass_35 (by decide) ?_
          have hW : wP D A (lvC n b) ad (ctC cs ad z0 ((lvMany n b (g, L, B) (j2 + 1)).1) ((lvMany n b (g, L, B) (j2 + 1)).2.1) ((lvMany n b (g, L, B) (j2 + 1)).2.2) n b y1 y2 N1 N2 nd gv) H := by subst hg6; exact hW
          exact ih_2 (j2 + 1) (by omega)   _ _ hW hS ls (lv_sub hl [0, 1, 2] rfl)
    exact loop_2 (k9) 0 (by omega)   _ _ hW hS ls (lv_sub hl [0, 1, 2] rfl)
  ·
    refine vx_callv (vx_runS (As := [.int x, .int 1, .int 24]) (rest := []) ⟨hx, hb, hml, hown, hts⟩ (c_X3_requireWithinbad l hst D cs A z0 sa x 1 24 hp_1) (va_cwS 3 hts gX3_pass_X3_requireWithin rfl rfl rfl (by decide +kernel) ⟨Nat.le_of_ble_eq_true rfl, Nat.le_of_ble_eq_true rfl⟩) ⟨pE_fb, fun U hU hV => ⟨rfl, hE.at (fun _ h => h) hS hV hU⟩⟩ rfl rfl hl.1 rfl (lv_room (Nat.le_of_ble_eq_true rfl)) dX3_pass_4 ⟨Nat.le_of_ble_eq_true rfl, Nat.le_of_ble_eq_true rfl⟩) hS (fun _ _ h => h.elim) (fun _ h => h.elim) (fun _ _ h => h.elim) (fun E9 ce9 q9 u9 t9 H9 locs9 ht9 hvm9 hpx9 hbx9 hz9 hk9 hS9 hc9 hv9 hl9 => ?_) (fun u t9 H locs ht hvm hw hB hz1 hk1 hS => hw.elim)
    exact vx_out (fun x h => (htab x h).elim) hlocks hc9 hv9 hl9 (fun t8 ht8 hvm8 => ⟨(), trivial, ⟨by subst hbx9; exact ⟨by simp [kIn, (eq_false hp_1)], rfl⟩, by rw [ht8]; exact hW.kept hk9⟩, hS9.F ht8⟩) hS9.2.2 (Nat.le_of_ble_eq_true rfl) (Nat.le_of_ble_eq_true rfl)

set_option maxHeartbeats 4000000 in
set_option maxRecDepth 100000 in
theorem c_X3_swap (l : Launch) (hst : l.stackTraces = false) (D : va_G) (cs : Nat → ClassId) (A : Nat → Prop) (z0 : Nat) (sa : Nat → Nat) (ad : Nat → Nat) (g : Nat → Int32) (L B : Nat → Nat → Int32) (n b : Nat) (y1 y2 : Int32) (N1 N2 : Nat) (nd : Nat → Int32) (gv : Nat → Nat → Int32) (hn : n ≤ 12) (hb5 : b ≤ 5) (hN1 : n ≤ N1 ∧ N1 < 1000) (hN2 : b ≤ N2 ∧ N2 < 1000) (x : Int32) (y : Int32)  : vx_Met l yX3_swap wsX3_swap ({ frames := 8, cells := 1, slots := 6, locals := 176 } : Room) (va_Pc [.ref (ad 0), .int x, .int y] (pC D cs A z0 sa (lvC n b) ad (ctC cs ad z0 g L B n b y1 y2 N1 N2 nd gv))) (va_Qi (fun (r9 u9 : Int32) => kSwap L n x y = 0 ∧ u9 = r9 ∧ ((r9 = 1 ∧ (cSwap (fsN nd g B b) (gvS gv g L n) (mPool L 1 n) (thenOf L n x y))) ∨ (r9 = 0 ∧ ¬ (cSwap (fsN nd g B b) (gvS gv g L n) (mPool L 1 n) (thenOf L n x y))))) (fun u9 t9 => RC D cs A z0 (ad 0) g (if u9 = 1 then (updL (updL L 5 (ixN x) 0) 5 (ixN y) 1) else L) B n b t9.heap) A) (vx_X (fun (_ : Unit) => True) (fun E9 _ t9 => ((kSwap L n x y = 1 ∧ E9 = xI) ∨ (kSwap L n x y = 2 ∧ E9 = xS)) ∧ wP D A (lvC n b) ad (ctC cs ad z0 g L B n b y1 y2 N1 N2 nd gv) t9.heap) A) 1 6 A := by
  refine vx_ofW (cc := cX3_swap) (maxL := 8) (ret := (some .boolean)) (by decide) rfl ?_
  intro p e s m args below meth c s₁ BB hml htab hv
  obtain ⟨rfl, hv⟩ := hv
  obtain ⟨hE, hW⟩ := hv
  have hK := hE.1
  have hx := BB.exec
  have hb := BB.bytes
  have hr := BB.returns
  have hts := atoms_spec (ws := wsX3_swap) BB.pre
  have hown : s.vm.findClass RX3 = some m.cls := findClass_of_methodNamed BB.named
  have hlocks := BB.notSynchronized
  have hS : va_S A s.heap s.heap [] := va_S.rf
  have hl := lv_entry ([.ref (ad 0), .int x, .int y]) (n := 8) (Nat.le_of_ble_eq_true rfl)
  rw [lg_entry_eq]
  generalize (lg_sl ([.ref (ad 0), .int x, .int y]) ++ List.replicate (8 - (lg_sl ([.ref (ad 0), .int x, .int y])).length) Slot.unset).toArray = ls at hl ⊢
  have hl : lv_has ls 8 [(0, .ref (ad 0)), (1, .int x), (2, .int y)] := hl
  have hf22 := hts (.fieldLink RX3 22 "Coverpool" "sheet" "LCoverpool$Sheet;") (by decide +kernel)
  have hf78 := hts (.fieldLink RX3 78 "Coverpool$Loan" "state" "I") (by decide +kernel)
  have hinX1 : ∀ w ∈ u_ws RX1 TX1 6, w ∈ wsX3_swap := by decide +kernel
  have hinX3 : ∀ w ∈ u_ws RX3 TX3 8, w ∈ wsX3_swap := by decide +kernel
  rcases isIx_cases n (by omega) x with hx_x | ⟨j, h_j, rfl⟩
  ·
    rcases isIx_cases n (by omega) y with hx_y | ⟨k, h_k, rfl⟩
    ·
      refine lv_aload_n hx hb dX3_swap_0 rfl (lv_at hl 0 rfl) ?_
      refine lv_iload_n hx hb dX3_swap_1 rfl (lv_at hl 1 rfl) ?_
      refine vx_callv (vx_runV (As := [.int x]) (rest := []) ⟨hx, hb, hml, hown, hts⟩ (c_X3_loanAtbad l hst D cs A z0 sa ad g L B n b y1 y2 N1 N2 nd gv hn hb5 hN1 hN2 x hx_x) (cwV 1 hts gX3_swap_X3_loanAt rfl rfl rfl (by decide +kernel) ⟨Nat.le_of_ble_eq_true rfl, Nat.le_of_ble_eq_true rfl⟩) ⟨pC_fb, wb_recv hK hW (r := 0) (lvC_0 (by decide)) (ci := 4) rfl rfl, fun U hU hV => ⟨rfl, hE.at (fun _ h => h) hS hV hU, by rw [hU]; exact hW⟩⟩ rfl rfl hl.1 rfl (lv_room (Nat.le_of_ble_eq_true rfl)) dX3_swap_2 ⟨Nat.le_of_ble_eq_true rfl, Nat.le_of_ble_eq_true rfl⟩) hS (fun _ _ h => h.elim) (fun _ h => h.elim) (fun _ _ h => h.elim) (fun E9 ce9 q9 u9 t9 H9 locs9 ht9 hvm9 hpx9 hbx9 hz9 hk9 hS9 hc9 hv9 hl9 => ?_) (fun u t9 H locs ht hvm hw hB hz1 hk1 hS => hw.elim)
      exact vx_out (fun x h => (htab x h).elim) hlocks hc9 hv9 hl9 (fun t8 ht8 hvm8 => ⟨(), trivial, ⟨by subst hbx9; exact Or.inl ⟨by simp [kSwap, (eq_false hx_x), (eq_false hx_y)], rfl⟩, by rw [ht8]; exact hW.kept hk9⟩, hS9.F ht8⟩) hS9.2.2 (Nat.le_of_ble_eq_true rfl) (Nat.le_of_ble_eq_true rfl)
    ·
      have hx_y : isIx n (nI k) := isIx_nI h_k (by omega)
      have hn_y : ixN (nI k) = k := ixN_nI (by omega)
      refine lv_aload_n hx hb dX3_swap_0 rfl (lv_at hl 0 rfl) ?_
      refine lv_iload_n hx hb dX3_swap_1 rfl (lv_at hl 1 rfl) ?_
      refine vx_callv (vx_runV (As := [.int x]) (rest := []) ⟨hx, hb, hml, hown, hts⟩ (c_X3_loanAtbad l hst D cs A z0 sa ad g L B n b y1 y2 N1 N2 nd gv hn hb5 hN1 hN2 x hx_x) (cwV 1 hts gX3_swap_X3_loanAt rfl rfl rfl (by decide +kernel) ⟨Nat.le_of_ble_eq_true rfl, Nat.le_of_ble_eq_true rfl⟩) ⟨pC_fb, wb_recv hK hW (r := 0) (lvC_0 (by decide)) (ci := 4) rfl rfl, fun U hU hV => ⟨rfl, hE.at (fun _ h => h) hS hV hU, by rw [hU]; exact hW⟩⟩ rfl rfl hl.1 rfl (lv_room (Nat.le_of_ble_eq_true rfl)) dX3_swap_2 ⟨Nat.le_of_ble_eq_true rfl, Nat.le_of_ble_eq_true rfl⟩) hS (fun _ _ h => h.elim) (fun _ h => h.elim) (fun _ _ h => h.elim) (fun E9 ce9 q9 u9 t9 H9 locs9 ht9 hvm9 hpx9 hbx9 hz9 hk9 hS9 hc9 hv9 hl9 => ?_) (fun u t9 H locs ht hvm hw hB hz1 hk1 hS => hw.elim)
      exact vx_out (fun x h => (htab x h).elim) hlocks hc9 hv9 hl9 (fun t8 ht8 hvm8 => ⟨(), trivial, ⟨by subst hbx9; exact Or.inl ⟨by simp [kSwap, (eq_false hx_x), (eq_true hx_y), hn_y], rfl⟩, by rw [ht8]; exact hW.kept hk9⟩, hS9.F ht8⟩) hS9.2.2 (Nat.le_of_ble_eq_true rfl) (Nat.le_of_ble_eq_true rfl)
  ·
    have hx_x : isIx n (nI j) := isIx_nI h_j (by omega)
    have hn_x : ixN (nI j) = j := ixN_nI (by omega)
    rcases isIx_cases n (by omega) y with hx_y | ⟨k, h_k, rfl⟩
    ·
      refine lv_aload_n hx hb dX3_swap_0 rfl (lv_at hl 0 rfl) ?_
      refine lv_iload_n hx hb dX3_swap_1 rfl (lv_at hl 1 rfl) ?_
      refine va_callr (va_runV (As := [.int (nI j)]) (rest := []) ⟨hx, hb, hml, hown, hts⟩ (c_X3_loanAtok l D cs A z0 sa ad g L B n b y1 y2 N1 N2 nd gv hn hb5 hN1 hN2 j (by omega)) (cwV 1 hts gX3_swap_X3_loanAt rfl rfl rfl (by decide +kernel) ⟨Nat.le_of_ble_eq_true rfl, Nat.le_of_ble_eq_true rfl⟩) ⟨pC_fb, wb_recv hK hW (r := 0) (lvC_0 (by decide)) (ci := 4) rfl rfl, fun U hU hV => ⟨rfl, hE.at (fun _ h => h) hS hV hU, by rw [hU]; exact hW⟩⟩ rfl rfl hl.1 rfl (lv_room (Nat.le_of_ble_eq_true rfl)) dX3_swap_2 ⟨Nat.zero_le _, Nat.zero_le _⟩) hS (fun _ _ h => h.elim) (fun _ h => h.elim) (fun u r_3 t9 H locs ht hvm hw hB hz1 hk1 hS => ?_)
      have hW := hW.kept hk1
      subst hB
      refine lv_astore_n (lv' := [(3, .ref (ad (20 + j))), (0, .ref (ad 0)), (1, .int (nI j)), (2, .int y)]) hx hb dX3_swap_5 rfl hl (by decide) rfl (fun ls hl => ?_)
      refine lv_aload_n hx hb dX3_swap_6 rfl (lv_at hl 1 rfl) ?_
      refine lv_iload_n hx hb dX3_swap_7 rfl (lv_at hl 3 rfl) ?_
      refine vx_callv (vx_runV (As := [.int y]) (rest := []) ⟨hx, hb, hml, hown, hts⟩ (c_X3_loanAtbad l hst D cs A z0 sa ad g L B n b y1 y2 N1 N2 nd gv hn hb5 hN1 hN2 y hx_y) (cwV 1 hts gX3_swap_X3_loanAt rfl rfl rfl (by decide +kernel) ⟨Nat.le_of_ble_eq_true rfl, Nat.le_of_ble_eq_true rfl⟩) ⟨pC_fb, wb_recv hK hW (r := 0) (lvC_0 (by decide)) (ci := 4) rfl rfl, fun U hU hV => ⟨rfl, hE.at (fun _ h => h) hS hV hU, by rw [hU]; exact hW⟩⟩ rfl rfl hl.1 rfl (lv_room (Nat.le_of_ble_eq_true rfl)) dX3_swap_8 ⟨Nat.le_of_ble_eq_true rfl, Nat.le_of_ble_eq_true rfl⟩) hS (fun _ _ h => h.elim) (fun _ h => h.elim) (fun _ _ h => h.elim) (fun E9 ce9 q9 u9 t9 H9 locs9 ht9 hvm9 hpx9 hbx9 hz9 hk9 hS9 hc9 hv9 hl9 => ?_) (fun u t9 H locs ht hvm hw hB hz1 hk1 hS => hw.elim)
      exact vx_out (fun x h => (htab x h).elim) hlocks hc9 hv9 hl9 (fun t8 ht8 hvm8 => ⟨(), trivial, ⟨by subst hbx9; exact Or.inl ⟨by simp [kSwap, (eq_true hx_x), hn_x, (eq_false hx_y)], rfl⟩, by rw [ht8]; exact hW.kept hk9⟩, hS9.F ht8⟩) hS9.2.2 (Nat.le_of_ble_eq_true rfl) (Nat.le_of_ble_eq_true rfl)
    ·
      have hx_y : isIx n (nI k) := isIx_nI h_k (by omega)
      have hn_y : ixN (nI k) = k := ixN_nI (by omega)
      refine lv_aload_n hx hb dX3_swap_0 rfl (lv_at hl 0 rfl) ?_
      refine lv_iload_n hx hb dX3_swap_1 rfl (lv_at hl 1 rfl) ?_
      refine va_callr (va_runV (As := [.int (nI j)]) (rest := []) ⟨hx, hb, hml, hown, hts⟩ (c_X3_loanAtok l D cs A z0 sa ad g L B n b y1 y2 N1 N2 nd gv hn hb5 hN1 hN2 j (by omega)) (cwV 1 hts gX3_swap_X3_loanAt rfl rfl rfl (by decide +kernel) ⟨Nat.le_of_ble_eq_true rfl, Nat.le_of_ble_eq_true rfl⟩) ⟨pC_fb, wb_recv hK hW (r := 0) (lvC_0 (by decide)) (ci := 4) rfl rfl, fun U hU hV => ⟨rfl, hE.at (fun _ h => h) hS hV hU, by rw [hU]; exact hW⟩⟩ rfl rfl hl.1 rfl (lv_room (Nat.le_of_ble_eq_true rfl)) dX3_swap_2 ⟨Nat.zero_le _, Nat.zero_le _⟩) hS (fun _ _ h => h.elim) (fun _ h => h.elim) (fun u r_5 t9 H locs ht hvm hw hB hz1 hk1 hS => ?_)
      have hW := hW.kept hk1
      subst hB
      refine lv_astore_n (lv' := [(3, .ref (ad (20 + j))), (0, .ref (ad 0)), (1, .int (nI j)), (2, .int (nI k))]) hx hb dX3_swap_5 rfl hl (by decide) rfl (fun ls hl => ?_)
      refine lv_aload_n hx hb dX3_swap_6 rfl (lv_at hl 1 rfl) ?_
      refine lv_iload_n hx hb dX3_swap_7 rfl (lv_at hl 3 rfl) ?_
      refine va_callr (va_runV (As := [.int (nI k)]) (rest := []) ⟨hx, hb, hml, hown, hts⟩ (c_X3_loanAtok l D cs A z0 sa ad g L B n b y1 y2 N1 N2 nd gv hn hb5 hN1 hN2 k (by omega)) (cwV 1 hts gX3_swap_X3_loanAt rfl rfl rfl (by decide +kernel) ⟨Nat.le_of_ble_eq_true rfl, Nat.le_of_ble_eq_true rfl⟩) ⟨pC_fb, wb_recv hK hW (r := 0) (lvC_0 (by decide)) (ci := 4) rfl rfl, fun U hU hV => ⟨rfl, hE.at (fun _ h => h) hS hV hU, by rw [hU]; exact hW⟩⟩ rfl rfl hl.1 rfl (lv_room (Nat.le_of_ble_eq_true rfl)) dX3_swap_8 ⟨Nat.zero_le _, Nat.zero_le _⟩) hS (fun _ _ h => h.elim) (fun _ h => h.elim) (fun u r_6 t9 H locs ht hvm hw hB hz1 hk1 hS => ?_)
      have hW := hW.kept hk1
      subst hB
      refine lv_astore (lv' := [(4, .ref (ad (20 + k))), (3, .ref (ad (20 + j))), (0, .ref (ad 0)), (1, .int (nI j)), (2, .int (nI k))]) hx hb dX3_swap_11 hl (by decide) rfl (fun ls hl => ?_)
      refine lv_aload_n hx hb dX3_swap_13 rfl (lv_at hl 1 rfl) ?_
      refine lv_iconst (v := 1) hx hb dX3_swap_14 (by decide) ?_
      by_cases hp_7 : L 5 j = 1
      ·
        refine va_callv (va_runS (As := [.ref (ad (20 + j)), .int 1]) (rest := []) ⟨hx, hb, hml, hown, hts⟩ (c_X3_requireStateok l D cs A z0 sa ad g L B n b y1 y2 N1 N2 nd gv hn hb5 hN1 hN2 j (by omega) 1 hp_7) (va_cwS 2 hts gX3_swap_X3_requireState rfl rfl rfl (by decide +kernel) ⟨Nat.le_of_ble_eq_true rfl, Nat.le_of_ble_eq_true rfl⟩) ⟨pC_fb, fun U hU hV => ⟨rfl, hE.at (fun _ h => h) hS hV hU, by rw [hU]; exact hW⟩⟩ rfl rfl hl.1 rfl (lv_room (Nat.le_of_ble_eq_true rfl)) dX3_swap_15 ⟨Nat.zero_le _, Nat.zero_le _⟩) hS (fun _ _ h => h.elim) (fun _ h => h.elim) (fun u t9 H locs ht hvm hw _ hz1 hk1 hS => ?_)
        have hW := hW.kept hk1
        refine lv_aload hx hb dX3_swap_18 (lv_at hl 0 rfl) ?_
        refine lv_iconst (v := 0) hx hb dX3_swap_20 (by decide) ?_
        by_cases hp_8 : L 5 k = 0
        ·
          refine va_callv (va_runS (As := [.ref (ad (20 + k)), .int 0]) (rest := []) ⟨hx, hb, hml, hown, hts⟩ (c_X3_requireStateok l D cs A z0 sa ad g L B n b y1 y2 N1 N2 nd gv hn hb5 hN1 hN2 k (by omega) 0 hp_8) (va_cwS 2 hts gX3_swap_X3_requireState rfl rfl rfl (by decide +kernel) ⟨Nat.le_of_ble_eq_true rfl, Nat.le_of_ble_eq_true rfl⟩) ⟨pC_fb, fun U hU hV => ⟨rfl, hE.at (fun _ h => h) hS hV hU, by rw [hU]; exact hW⟩⟩ rfl rfl hl.1 rfl (lv_room (Nat.le_of_ble_eq_true rfl)) dX3_swap_21 ⟨Nat.zero_le _, Nat.zero_le _⟩) hS (fun _ _ h => h.elim) (fun _ h => h.elim) (fun u t9 H locs ht hvm hw _ hz1 hk1 hS => ?_)
          have hW := hW.kept hk1
          refine lv_aload_n hx hb dX3_swap_24 rfl (lv_at hl 2 rfl) ?_
          refine lv_iconst (v := 1) hx hb dX3_swap_25 (by decide) ?_
          refine va_calli (va_runV (As := [.int 1]) (rest := []) ⟨hx, hb, hml, hown, hts⟩ (c_X3_loansThatAre l D cs A z0 sa ad g L B n b y1 y2 N1 N2 nd gv hn hb5 hN1 hN2 1) (cwV 1 hts gX3_swap_X3_loansThatAre rfl rfl rfl (by decide +kernel) ⟨Nat.le_of_ble_eq_true rfl, Nat.le_of_ble_eq_true rfl⟩) ⟨pC_fb, wb_recv hK hW (r := 0) (lvC_0 (by decide)) (ci := 4) rfl rfl, fun U hU hV => ⟨rfl, hE.at (fun _ h => h) hS hV hU, by rw [hU]; exact hW⟩⟩ rfl rfl hl.1 rfl (lv_room (Nat.le_of_ble_eq_true rfl)) dX3_swap_26 ⟨Nat.zero_le _, Nat.zero_le _⟩) hS (fun _ _ h => h.elim) (fun _ h => h.elim) (fun r_9 u t9 H locs ht hvm hw _ hz1 hk1 hS => ?_)
          have hW := hW.kept hk1
          subst hw
          refine lv_istore (lv' := [(5, .int (mPool L 1 n)), (4, .ref (ad (20 + k))), (3, .ref (ad (20 + j))), (0, .ref (ad 0)), (1, .int (nI j)), (2, .int (nI k))]) hx hb dX3_swap_29 hl (by decide) rfl (fun ls hl => ?_)
          refine lv_iload hx hb dX3_swap_31 (lv_at hl 0 rfl) ?_
          refine lv_iconst (v := 1) hx hb dX3_swap_33 (by decide) ?_
          refine lv_iload_n hx hb dX3_swap_34 rfl (lv_at hl 4 rfl) ?_
          refine lv_ishl hx hb dX3_swap_35 ?_
          refine lv_iconst (v := (-1)) hx hb dX3_swap_36 (by decide) ?_
          refine lv_ixor hx hb dX3_swap_37 ?_
          refine lv_iand hx hb dX3_swap_38 ?_
          refine lv_iconst (v := 1) hx hb dX3_swap_39 (by decide) ?_
          refine lv_iload_n hx hb dX3_swap_40 rfl (lv_at hl 5 rfl) ?_
          refine lv_ishl hx hb dX3_swap_41 ?_
          refine lv_ior hx hb dX3_swap_42 ?_
          refine lv_istore (lv' := [(6, .int (thenOf L n (nI j) (nI k))), (5, .int (mPool L 1 n)), (4, .ref (ad (20 + k))), (3, .ref (ad (20 + j))), (0, .ref (ad 0)), (1, .int (nI j)), (2, .int (nI k))]) hx hb dX3_swap_43 hl (by decide) rfl (fun ls hl => ?_)
          refine lv_aload_n hx hb dX3_swap_45 rfl (lv_at hl 4 rfl) ?_
          refine va_callv (va_runV (As := []) (rest := []) ⟨hx, hb, hml, hown, hts⟩ (c_X3_fillSheet l D cs A z0 sa ad g L B n b y1 y2 N1 N2 nd gv hn hb5 hN1 hN2 ) (cwV 0 hts gX3_swap_X3_fillSheet rfl rfl rfl (by decide +kernel) ⟨Nat.le_of_ble_eq_true rfl, Nat.le_of_ble_eq_true rfl⟩) ⟨pC_fb, wb_recv hK hW (r := 0) (lvC_0 (by decide)) (ci := 4) rfl rfl, fun U hU hV => ⟨rfl, hE.at (fun _ h => h) hS hV hU, by rw [hU]; exact hW⟩⟩ rfl rfl hl.1 rfl (lv_room (Nat.le_of_ble_eq_true rfl)) dX3_swap_46 ⟨Nat.zero_le _, Nat.zero_le _⟩) hS (fun _ _ h => h) (fun _ h => h) (fun u t9 H locs ht hvm hw hB hz1 hk1 hS => ?_)
          have hW : wP D A (lvC n b) ad (ctC cs ad z0 g L B n b y1 y2 N1 N2 (fsN nd g B b) (gvS gv g L n)) H := by rw [← ht]; exact hB
          refine lv_iconst (v := 0) hx hb dX3_swap_49 (by decide) ?_
          refine lv_istore (lv' := [(7, .int 0), (6, .int (thenOf L n (nI j) (nI k))), (5, .int (mPool L 1 n)), (4, .ref (ad (20 + k))), (3, .ref (ad (20 + j))), (0, .ref (ad 0)), (1, .int (nI j)), (2, .int (nI k))]) hx hb dX3_swap_50 hl (by decide) rfl (fun ls hl => ?_)
          have loop_11 : ∀ (k11 j11 : Nat), j11 + k11 = 3 → (∀ i9, i9 < j11 → ¬ (cMost (fsN nd g B b) (gvS gv g L n) (nI i9) (mPool L 1 n) 9 = 0 ∧ 0 < cMost (fsN nd g B b) (gvS gv g L n) (nI i9) (thenOf L n (nI j) (nI k)) 9)) → ∀ (H : Heap) (locs : List Loc), wP D A (lvC n b) ad (ctC cs ad z0 g L B n b y1 y2 N1 N2 (fsN nd g B b) (gvS gv g L n)) H → va_S A s.heap H locs → ∀ (ls : Array Slot), lv_has ls 8 [(7, .int (nI j11)), (6, .int (thenOf L n (nI j) (nI k))), (5, .int (mPool L 1 n)), (4, .ref (ad (20 + k))), (3, .ref (ad (20 + j))), (0, .ref (ad 0)), (1, .int (nI j)), (2, .int (nI k))] → W p l e ({ frames := 8, cells := 1, slots := 6, locals := 176 } : Room) s m (([.ref (ad 0), .int (nI j), .int (nI k)] : List Value).toArray) below meth c H locs 0 0 (vx_MQ below (va_Qi (fun (r9 u9 : Int32) => kSwap L n (nI j) (nI k) = 0 ∧ u9 = r9 ∧ ((r9 = 1 ∧ (cSwap (fsN nd g B b) (gvS gv g L n) (mPool L 1 n) (thenOf L n (nI j) (nI k)))) ∨ (r9 = 0 ∧ ¬ (cSwap (fsN nd g B b) (gvS gv g L n) (mPool L 1 n) (thenOf L n (nI j) (nI k)))))) (fun u9 t9 => RC D cs A z0 (ad 0) g (if u9 = 1 then (updL (updL L 5 (ixN (nI j)) 0) 5 (ixN (nI k)) 1) else L) B n b t9.heap) A) (vx_X (fun (_ : Unit) => True) (fun E9 _ t9 => ((kSwap L n (nI j) (nI k) = 1 ∧ E9 = xI) ∨ (kSwap L n (nI j) (nI k) = 2 ∧ E9 = xS)) ∧ wP D A (lvC n b) ad (ctC cs ad z0 g L B n b y1 y2 N1 N2 nd gv) t9.heap) A) (([.ref (ad 0), .int (nI j), .int (nI k)] : List Value).toArray) s 1 6 A) (F0 m 52 ls []) := by
            intro k11
            induction k11 with
            | zero =>
              intro j11 hj_11  hi11_0 H locs hW hS ls hl
              obtain rfl : 3 = j11 := by omega
              refine lv_iload hx hb dX3_swap_52 (lv_at hl 0 rfl) ?_
              refine lv_iconst (v := 2) hx hb dX3_swap_54 (by decide) ?_
              refine lv_icmp_gt (tgt := 94) hx hb dX3_swap_55 (by decide) (fun c_12 => ?_) (fun c_12 => ?_)
              · -- nI 3 gt 2 : True
                refine lv_aload_n hx hb dX3_swap_94 rfl (lv_at hl 4 rfl) ?_
                refine lv_iconst (v := 0) hx hb dX3_swap_95 (by decide) ?_
                refine wb_put (v := .int 0) (ty := .int) hx hb hts hinX1 tyX1 tyX1_ok nmX1 hown hK hW hS (20 + j) (lvC_ln (by omega)) (ctC_ln (by omega)) rfl 5 (by decide) hf78 (fun _ h9 => h9) rfl (by decide +kernel) rfl rfl (Nat.le_of_ble_eq_true rfl) dX3_swap_96 (fun H locs hW hS => ?_)
                obtain ⟨L14, hL14⟩ : ∃ z9, z9 = updL L 5 j 0 := ⟨_, rfl⟩
                have hW : wP D A (lvC n b) ad (ctC cs ad z0 g L14 B n b y1 y2 N1 N2 (fsN nd g B b) (gvS gv g L n)) H := by subst hL14; exact hW.up (by rw [ctC_ln (by omega)]; simp [updL_at, updL_nk]) (fun r _ hr => ctC_L (fun i9 k9 h8 _ => updL_ni _ _ _ _ (by omega)))
                refine lv_aload hx hb dX3_swap_99 (lv_at hl 3 rfl) ?_
                refine lv_iconst (v := 1) hx hb dX3_swap_101 (by decide) ?_
                refine wb_put (v := .int 1) (ty := .int) hx hb hts hinX1 tyX1 tyX1_ok nmX1 hown hK hW hS (20 + k) (lvC_ln (by omega)) (ctC_ln (by omega)) rfl 5 (by decide) hf78 (fun _ h9 => h9) rfl (by decide +kernel) rfl rfl (Nat.le_of_ble_eq_true rfl) dX3_swap_102 (fun H locs hW hS => ?_)
                obtain ⟨L16, hL16⟩ : ∃ z9, z9 = updL L14 5 k 1 := ⟨_, rfl⟩
                have hW : wP D A (lvC n b) ad (ctC cs ad z0 g L16 B n b y1 y2 N1 N2 (fsN nd g B b) (gvS gv g L n)) H := by subst hL16; exact hW.up (by rw [ctC_ln (by omega)]; simp [updL_at, updL_nk]) (fun r _ hr => ctC_L (fun i9 k9 h8 _ => updL_ni _ _ _ _ (by omega)))
                refine lv_iconst (v := 1) hx hb dX3_swap_105 (by decide) ?_
                have hk : kSwap L n (nI j) (nI k) = 0 := by simp [kSwap, (eq_true hx_x), hn_x, (eq_true hx_y), hn_y, (eq_true hp_7), (eq_true hp_8), c_12, hL14, hL16]
                refine W.widen (k := 1) (n := 6) (Nat.le_of_ble_eq_true rfl) (Nat.le_of_ble_eq_true rfl) ?_
                exact vx_ret (W.zret (ty := .boolean) (v := 1) hx hb hr (by decide) (fun t9 ht9 hW9 => ⟨⟨_, 1, rfl, ⟨hk, rfl, Or.inl ⟨rfl, (fun i9 h9 => hi11_0 i9 h9)⟩⟩, (by dsimp only; rw [ht9]; rw [if_pos (by decide)]; (try simp only [hn_x, hn_y]); subst hL16 hL14; exact ⟨ad, y1, y2, N1, N2, (fsN nd g B b), (gvS gv g L n), rfl, hN1, hN2, hW⟩)⟩, hS.F ht9⟩) hS.2.2 dX3_swap_106)
              · -- nI 3 gt 2 : False
                exact absurd (by decide) c_12
            | succ k11 ih_11 =>
              intro j11 hj_11  hi11_0 H locs hW hS ls hl
              refine lv_iload hx hb dX3_swap_52 (lv_at hl 0 rfl) ?_
              refine lv_iconst (v := 2) hx hb dX3_swap_54 (by decide) ?_
              refine lv_icmp_gt (tgt := 94) hx hb dX3_swap_55 (by decide) (fun c_17 => ?_) (fun c_17 => ?_)
              · -- nI j11 gt 2 : True
                exact absurd (show nI 2 < _ from c_17) (nI_nlt (by omega) (by omega))
              · -- nI j11 gt 2 : False
                refine lv_aload_n hx hb dX3_swap_58 rfl (lv_at hl 5 rfl) ?_
                refine wb_get hx hb hts hinX3 hown hK hW 0 (lvC_0 (by decide)) rfl rfl 2 (by decide) hf22 (fun _ h9 => h9) (v := .ref (ad 3)) rfl dX3_swap_59 ?_
                refine lv_iload hx hb dX3_swap_62 (lv_at hl 0 rfl) ?_
                refine lv_iload hx hb dX3_swap_64 (lv_at hl 2 rfl) ?_
                refine va_calli (va_runV (As := [.int (nI j11), .int (mPool L 1 n)]) (rest := []) ⟨hx, hb, hml, hown, hts⟩ (c_X2_mostMissing l D cs A z0 sa ad g L B n b y1 y2 N1 N2 (fsN nd g B b) (gvS gv g L n) hn hb5 hN1 hN2 (nI j11) (mPool L 1 n)) (cwV 2 hts gX3_swap_X2_mostMissing rfl rfl rfl (by decide +kernel) ⟨Nat.le_of_ble_eq_true rfl, Nat.le_of_ble_eq_true rfl⟩) ⟨pC_fb, wb_recv hK hW (r := 3) (lvC_0 (by decide)) (ci := 3) rfl rfl, fun U hU hV => ⟨rfl, hE.at (fun _ h => h) hS hV hU, by rw [hU]; exact hW⟩⟩ rfl rfl hl.1 rfl (lv_room (Nat.le_of_ble_eq_true rfl)) dX3_swap_66 ⟨Nat.zero_le _, Nat.zero_le _⟩) hS (fun _ _ h => h.elim) (fun _ h => h.elim) (fun r_18 u t9 H locs ht hvm hw _ hz1 hk1 hS => ?_)
                have hW := hW.kept hk1
                subst hw
                refine lv_if_ne (tgt := 88) hx hb dX3_swap_69 (by decide) (fun c_19 => ?_) (fun c_19 => ?_)
                · -- cMost (fsN nd g B b) (gvS gv g L n) (nI j11) (mPool L 1 n) 9 ne 0 : True
                  refine lv_iinc (v := nI (j11 + 1)) (lv' := [(7, .int (nI (j11 + 1))), (6, .int (thenOf L n (nI j) (nI k))), (5, .int (mPool L 1 n)), (4, .ref (ad (20 + k))), (3, .ref (ad (20 + j))), (0, .ref (ad 0)), (1, .int (nI j)), (2, .int (nI k))]) hx hb dX3_swap_88 hl (k := 0) rfl (nI_1 _) (by decide) rfl (fun ls hl => ?_)
                  refine lv_goto (tgt := 52) hx hb dX3_swap_91 (by decide) ?_
                  exact ih_11 (j11 + 1) (by omega)  (fun i9 h9 => by rcases Nat.lt_or_ge i9 j11 with q | q; exact hi11_0 i9 q; rw [show i9 = j11 by omega]; exact fun q9 => c_19 q9.1) _ _ hW hS ls (lv_sub hl [0, 1, 2, 3, 4, 5, 6, 7] rfl)
                · -- cMost (fsN nd g B b) (gvS gv g L n) (nI j11) (mPool L 1 n) 9 ne 0 : False
                  refine lv_aload_n hx hb dX3_swap_72 rfl (lv_at hl 5 rfl) ?_
                  refine wb_get hx hb hts hinX3 hown hK hW 0 (lvC_0 (by decide)) rfl rfl 2 (by decide) hf22 (fun _ h9 => h9) (v := .ref (ad 3)) rfl dX3_swap_73 ?_
                  refine lv_iload hx hb dX3_swap_76 (lv_at hl 0 rfl) ?_
                  refine lv_iload hx hb dX3_swap_78 (lv_at hl 1 rfl) ?_
                  refine va_calli (va_runV (As := [.int (nI j11), .int (thenOf L n (nI j) (nI k))]) (rest := []) ⟨hx, hb, hml, hown, hts⟩ (c_X2_mostMissing l D cs A z0 sa ad g L B n b y1 y2 N1 N2 (fsN nd g B b) (gvS gv g L n) hn hb5 hN1 hN2 (nI j11) (thenOf L n (nI j) (nI k))) (cwV 2 hts gX3_swap_X2_mostMissing rfl rfl rfl (by decide +kernel) ⟨Nat.le_of_ble_eq_true rfl, Nat.le_of_ble_eq_true rfl⟩) ⟨pC_fb, wb_recv hK hW (r := 3) (lvC_0 (by decide)) (ci := 3) rfl rfl, fun U hU hV => ⟨rfl, hE.at (fun _ h => h) hS hV hU, by rw [hU]; exact hW⟩⟩ rfl rfl hl.1 rfl (lv_room (Nat.le_of_ble_eq_true rfl)) dX3_swap_80 ⟨Nat.zero_le _, Nat.zero_le _⟩) hS (fun _ _ h => h.elim) (fun _ h => h.elim) (fun r_20 u t9 H locs ht hvm hw _ hz1 hk1 hS => ?_)
                  have hW := hW.kept hk1
                  subst hw
                  refine lv_if_le (tgt := 88) hx hb dX3_swap_83 (by decide) (fun c_21 => ?_) (fun c_21 => ?_)
                  · -- cMost (fsN nd g B b) (gvS gv g L n) (nI j11) (thenOf L n (nI j) (nI k)) 9 le 0 : True
                    refine lv_iinc (v := nI (j11 + 1)) (lv' := [(7, .int (nI (j11 + 1))), (6, .int (thenOf L n (nI j) (nI k))), (5, .int (mPool L 1 n)), (4, .ref (ad (20 + k))), (3, .ref (ad (20 + j))), (0, .ref (ad 0)), (1, .int (nI j)), (2, .int (nI k))]) hx hb dX3_swap_88 hl (k := 0) rfl (nI_1 _) (by decide) rfl (fun ls hl => ?_)
                    refine lv_goto (tgt := 52) hx hb dX3_swap_91 (by decide) ?_
                    exact ih_11 (j11 + 1) (by omega)  (fun i9 h9 => by rcases Nat.lt_or_ge i9 j11 with q | q; exact hi11_0 i9 q; rw [show i9 = j11 by omega]; exact fun q9 => absurd q9.2 (Int32.not_lt.mpr c_21)) _ _ hW hS ls (lv_sub hl [0, 1, 2, 3, 4, 5, 6, 7] rfl)
                  · -- cMost (fsN nd g B b) (gvS gv g L n) (nI j11) (thenOf L n (nI j) (nI k)) 9 le 0 : False
                    refine lv_iconst (v := 0) hx hb dX3_swap_86 (by decide) ?_
                    have hk : kSwap L n (nI j) (nI k) = 0 := by simp [kSwap, (eq_true hx_x), hn_x, (eq_true hx_y), hn_y, (eq_true hp_7), (eq_true hp_8), c_17, c_19, c_21]
                    refine W.widen (k := 1) (n := 6) (Nat.le_of_ble_eq_true rfl) (Nat.le_of_ble_eq_true rfl) ?_
                    exact vx_ret (W.zret (ty := .boolean) (v := 0) hx hb hr (by decide) (fun t9 ht9 hW9 => ⟨⟨_, 0, rfl, ⟨hk, rfl, Or.inr ⟨rfl, (fun q9 => q9 j11 (by omega) ⟨c_19, Int32.not_le.mp c_21⟩)⟩⟩, (by dsimp only; rw [ht9]; rw [if_neg (by decide)]; (try simp only [hn_x, hn_y]); exact ⟨ad, y1, y2, N1, N2, (fsN nd g B b), (gvS gv g L n), rfl, hN1, hN2, hW⟩)⟩, hS.F ht9⟩) hS.2.2 dX3_swap_87)
          exact loop_11 (3) 0 (by omega)  (fun _ h => absurd h (Nat.not_lt_zero _)) _ _ hW hS ls (lv_sub hl [0, 1, 2, 3, 4, 5, 6, 7] rfl)
        ·
          refine vx_callv (vx_runS (As := [.ref (ad (20 + k)), .int 0]) (rest := []) ⟨hx, hb, hml, hown, hts⟩ (c_X3_requireStatebad l hst D cs A z0 sa ad g L B n b y1 y2 N1 N2 nd gv hn hb5 hN1 hN2 k (by omega) 0 hp_8) (va_cwS 2 hts gX3_swap_X3_requireState rfl rfl rfl (by decide +kernel) ⟨Nat.le_of_ble_eq_true rfl, Nat.le_of_ble_eq_true rfl⟩) ⟨pC_fb, fun U hU hV => ⟨rfl, hE.at (fun _ h => h) hS hV hU, by rw [hU]; exact hW⟩⟩ rfl rfl hl.1 rfl (lv_room (Nat.le_of_ble_eq_true rfl)) dX3_swap_21 ⟨Nat.le_of_ble_eq_true rfl, Nat.le_of_ble_eq_true rfl⟩) hS (fun _ _ h => h.elim) (fun _ h => h.elim) (fun _ _ h => h.elim) (fun E9 ce9 q9 u9 t9 H9 locs9 ht9 hvm9 hpx9 hbx9 hz9 hk9 hS9 hc9 hv9 hl9 => ?_) (fun u t9 H locs ht hvm hw hB hz1 hk1 hS => hw.elim)
          exact vx_out (fun x h => (htab x h).elim) hlocks hc9 hv9 hl9 (fun t8 ht8 hvm8 => ⟨(), trivial, ⟨by subst hbx9; exact Or.inr (⟨by simp [kSwap, (eq_true hx_x), hn_x, (eq_true hx_y), hn_y, (eq_true hp_7), (eq_false hp_8)], rfl⟩), by rw [ht8]; exact hW.kept hk9⟩, hS9.F ht8⟩) hS9.2.2 (Nat.le_of_ble_eq_true rfl) (Nat.le_of_ble_eq_true rfl)
      ·
        refine vx_callv (vx_runS (As := [.ref (ad (20 + j)), .int 1]) (rest := []) ⟨hx, hb, hml, hown, hts⟩ (c_X3_requireStatebad l hst D cs A z0 sa ad g L B n b y1 y2 N1 N2 nd gv hn hb5 hN1 hN2 j (by omega) 1 hp_7) (va_cwS 2 hts gX3_swap_X3_requireState rfl rfl rfl (by decide +kernel) ⟨Nat.le_of_ble_eq_true rfl, Nat.le_of_ble_eq_true rfl⟩) ⟨pC_fb, fun U hU hV => ⟨rfl, hE.at (fun _ h => h) hS hV hU, by rw [hU]; exact hW⟩⟩ rfl rfl hl.1 rfl (lv_room (Nat.le_of_ble_eq_true rfl)) dX3_swap_15 ⟨Nat.le_of_ble_eq_true rfl, Nat.le_of_ble_eq_true rfl⟩) hS (fun _ _ h => h.elim) (fun _ h => h.elim) (fun _ _ h => h.elim) (fun E9 ce9 q9 u9 t9 H9 locs9 ht9 hvm9 hpx9 hbx9 hz9 hk9 hS9 hc9 hv9 hl9 => ?_) (fun u t9 H locs ht hvm hw hB hz1 hk1 hS => hw.elim)
        exact vx_out (fun x h => (htab x h).elim) hlocks hc9 hv9 hl9 (fun t8 ht8 hvm8 => ⟨(), trivial, ⟨by subst hbx9; exact Or.inr (⟨by simp [kSwap, (eq_true hx_x), hn_x, (eq_true hx_y), hn_y, (eq_false hp_7)], rfl⟩), by rw [ht8]; exact hW.kept hk9⟩, hS9.F ht8⟩) hS9.2.2 (Nat.le_of_ble_eq_true rfl) (Nat.le_of_ble_eq_true rfl)
