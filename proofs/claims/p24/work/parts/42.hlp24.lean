set_option maxHeartbeats 4000000 in
set_option maxRecDepth 100000 in
theorem c_L_addLoan_0 (l : Launch) (hst : l.stackTraces = false) (D : va_G) (cs : Nat → ClassId) (A : Nat → Prop) (z0 : Nat) (sa : Nat → Nat) (o : Nat) (g : Nat → Int32) (L B : Nat → Nat → Int32) (n b : Nat) (hn : n ≤ 12) (hb5 : b ≤ 5) (x : Int32) (y : Int32) (z : Int32) (w : Int32) (hz : L 4 n = 0 ∧ L 5 n = 0) (hk : kAddLoan g n x y z w = 0) : vx_Met l yL_addLoan wsL_addLoan ({ frames := 13, cells := 2, slots := 30, locals := 424 } : Room) (va_Pc [.ref o, .int x, .int y, .int z, .int w] (pR D cs A z0 sa o g L B n b)) (va_Qi (fun (r9 : Int32) (_ : Unit) => r9 = nI n) (fun _ t9 => RC D cs A z0 o g (addL L n x y z w) B (n + 1) b t9.heap) A) (vx_X (fun (_ : Unit) => False) (fun _ _ _ => True) (fun _ => False)) 2 30 A := by
  refine vx_ofWH (cc := cL_addLoan) (maxL := 6) (ret := (some .int)) (hh := [(0, 9, 10, 15), (0, 9, 15, 17)]) (by decide) rfl ?_
  intro p e s m args below meth c s₁ BB hml hv
  obtain ⟨rfl, hv⟩ := hv
  obtain ⟨hE, hR, hc1, hc2, hc3⟩ := hv
  obtain ⟨ad, y1, y2, N1, N2, nd, gv, ho, hN1, hN2, hW⟩ := hR
  subst ho
  have hK := hE.1
  have hx := BB.exec
  have hb := BB.bytes
  have hr := BB.returns
  have hts := atoms_spec (ws := wsL_addLoan) BB.pre
  have hown : s.vm.findClass RL = some m.cls := findClass_of_methodNamed BB.named
  have hlocks := BB.notSynchronized
  have hS : va_S A s.heap s.heap [] := va_S.rf
  have hl := lv_entry ([.ref (ad 0), .int x, .int y, .int z, .int w]) (n := 6) (Nat.le_of_ble_eq_true rfl)
  rw [lg_entry_eq]
  generalize (lg_sl ([.ref (ad 0), .int x, .int y, .int z, .int w]) ++ List.replicate (6 - (lg_sl ([.ref (ad 0), .int x, .int y, .int z, .int w])).length) Slot.unset).toArray = ls at hl ⊢
  have hl : lv_has ls 6 [(0, .ref (ad 0)), (1, .int x), (2, .int y), (3, .int z), (4, .int w)] := hl
  have htb := vx_table (x := yL_addLoan) BB (hts (.codeWith yL_addLoan cL_addLoan 6 (some .int) [(0, 9, 10, 15), (0, 9, 15, 17)]) (by decide +kernel))
  refine lv_aload_n hx hb dL_addLoan_0 rfl (lv_at hl 0 rfl) ?_
  refine lv_iload_n hx hb dL_addLoan_1 rfl (lv_at hl 1 rfl) ?_
  refine lv_iload_n hx hb dL_addLoan_2 rfl (lv_at hl 2 rfl) ?_
  refine lv_iload_n hx hb dL_addLoan_3 rfl (lv_at hl 3 rfl) ?_
  refine lv_iload hx hb dL_addLoan_4 (lv_at hl 4 rfl) ?_
  refine vx_calli (vx_runV (As := [.int x, .int y, .int z, .int w]) (rest := []) ⟨hx, hb, hml, hown, hts⟩ (c_X3_addLoan l hst D cs A z0 sa ad g L B n b y1 y2 N1 N2 nd gv hn hb5 hN1 hN2 x y z w hz) (cwV 4 hts gL_addLoan_X3_addLoan rfl rfl rfl (by decide +kernel) ⟨Nat.le_of_ble_eq_true rfl, Nat.le_of_ble_eq_true rfl⟩) ⟨pC_fb, wb_recv hK hW (r := 0) (lvC_0 (by decide)) (ci := 4) rfl rfl, fun U hU hV => ⟨rfl, hE.at (A' := fun _ => False) (fun _ h => h.elim) va_S.rf hV hU, by rw [hU]; exact hW⟩⟩ rfl rfl hl.1 rfl (lv_room (Nat.le_of_ble_eq_true rfl)) dL_addLoan_6 ⟨Nat.le_of_ble_eq_true rfl, Nat.le_of_ble_eq_true rfl⟩) hS (fun _ _ h => h) (fun _ h => h) (fun _ _ h => h) (fun E9 ce9 q9 u9 t9 H9 locs9 ht9 hvm9 hpx9 hbx9 hz9 hk9 hS9 hc9 hv9 hl9 => ?_) (fun r_9 u t9 H locs ht hvm hw hB hz1 hk1 hS => ?_)
  · obtain ⟨hx9, hW9⟩ := hbx9
    rcases hx9 with ⟨hk9, rfl⟩ | ⟨hk9, rfl⟩
    ·
      exact absurd (hk9.symm.trans hk) (by decide)
    ·
      exact absurd (hk9.symm.trans hk) (by decide)
  ·
    rw [ht] at hB
    have hR9 : RC D cs A z0 (ad 0) g (addL L n x y z w) B (n + 1) b H := hB
    obtain rfl : r_9 = nI n := hw.2
    refine W.widen (k := 2) (n := 30) (Nat.le_of_ble_eq_true rfl) (Nat.le_of_ble_eq_true rfl) ?_
    exact vx_ret (W.iret (v := nI n) hx hb hr (fun t8 ht8 hW8 => ⟨⟨_, (), rfl, rfl, by dsimp only; rw [ht8]; exact hR9⟩, hS.F ht8⟩) hS.2.2 dL_addLoan_9)

set_option maxHeartbeats 4000000 in
set_option maxRecDepth 100000 in
theorem c_L_addLoan_1 (l : Launch) (hst : l.stackTraces = false) (D : va_G) (cs : Nat → ClassId) (A : Nat → Prop) (z0 : Nat) (sa : Nat → Nat) (o : Nat) (g : Nat → Int32) (L B : Nat → Nat → Int32) (n b : Nat) (hn : n ≤ 12) (hb5 : b ≤ 5) (x : Int32) (y : Int32) (z : Int32) (w : Int32) (hz : L 4 n = 0 ∧ L 5 n = 0) (hk : kAddLoan g n x y z w = 1) : vx_Met l yL_addLoan wsL_addLoan ({ frames := 13, cells := 2, slots := 30, locals := 424 } : Room) (va_Pc [.ref o, .int x, .int y, .int z, .int w] (pR D cs A z0 sa o g L B n b)) (va_Qi (fun (r9 : Int32) (_ : Unit) => r9 = (-102)) (fun _ t9 => RC D cs A z0 o g L B n b t9.heap) A) (vx_X (fun (_ : Unit) => False) (fun _ _ _ => True) (fun _ => False)) 2 30 A := by
  refine vx_ofWH (cc := cL_addLoan) (maxL := 6) (ret := (some .int)) (hh := [(0, 9, 10, 15), (0, 9, 15, 17)]) (by decide) rfl ?_
  intro p e s m args below meth c s₁ BB hml hv
  obtain ⟨rfl, hv⟩ := hv
  obtain ⟨hE, hR, hc1, hc2, hc3⟩ := hv
  obtain ⟨ad, y1, y2, N1, N2, nd, gv, ho, hN1, hN2, hW⟩ := hR
  subst ho
  have hK := hE.1
  have hx := BB.exec
  have hb := BB.bytes
  have hr := BB.returns
  have hts := atoms_spec (ws := wsL_addLoan) BB.pre
  have hown : s.vm.findClass RL = some m.cls := findClass_of_methodNamed BB.named
  have hlocks := BB.notSynchronized
  have hS : va_S A s.heap s.heap [] := va_S.rf
  have hl := lv_entry ([.ref (ad 0), .int x, .int y, .int z, .int w]) (n := 6) (Nat.le_of_ble_eq_true rfl)
  rw [lg_entry_eq]
  generalize (lg_sl ([.ref (ad 0), .int x, .int y, .int z, .int w]) ++ List.replicate (6 - (lg_sl ([.ref (ad 0), .int x, .int y, .int z, .int w])).length) Slot.unset).toArray = ls at hl ⊢
  have hl : lv_has ls 6 [(0, .ref (ad 0)), (1, .int x), (2, .int y), (3, .int z), (4, .int w)] := hl
  have htb := vx_table (x := yL_addLoan) BB (hts (.codeWith yL_addLoan cL_addLoan 6 (some .int) [(0, 9, 10, 15), (0, 9, 15, 17)]) (by decide +kernel))
  refine lv_aload_n hx hb dL_addLoan_0 rfl (lv_at hl 0 rfl) ?_
  refine lv_iload_n hx hb dL_addLoan_1 rfl (lv_at hl 1 rfl) ?_
  refine lv_iload_n hx hb dL_addLoan_2 rfl (lv_at hl 2 rfl) ?_
  refine lv_iload_n hx hb dL_addLoan_3 rfl (lv_at hl 3 rfl) ?_
  refine lv_iload hx hb dL_addLoan_4 (lv_at hl 4 rfl) ?_
  refine vx_calli (vx_runV (As := [.int x, .int y, .int z, .int w]) (rest := []) ⟨hx, hb, hml, hown, hts⟩ (c_X3_addLoan l hst D cs A z0 sa ad g L B n b y1 y2 N1 N2 nd gv hn hb5 hN1 hN2 x y z w hz) (cwV 4 hts gL_addLoan_X3_addLoan rfl rfl rfl (by decide +kernel) ⟨Nat.le_of_ble_eq_true rfl, Nat.le_of_ble_eq_true rfl⟩) ⟨pC_fb, wb_recv hK hW (r := 0) (lvC_0 (by decide)) (ci := 4) rfl rfl, fun U hU hV => ⟨rfl, hE.at (A' := fun _ => False) (fun _ h => h.elim) va_S.rf hV hU, by rw [hU]; exact hW⟩⟩ rfl rfl hl.1 rfl (lv_room (Nat.le_of_ble_eq_true rfl)) dL_addLoan_6 ⟨Nat.le_of_ble_eq_true rfl, Nat.le_of_ble_eq_true rfl⟩) hS (fun _ _ h => h) (fun _ h => h) (fun _ _ h => h) (fun E9 ce9 q9 u9 t9 H9 locs9 ht9 hvm9 hpx9 hbx9 hz9 hk9 hS9 hc9 hv9 hl9 => ?_) (fun r_9 u t9 H locs ht hvm hw hB hz1 hk1 hS => ?_)
  · obtain ⟨hx9, hW9⟩ := hbx9
    rcases hx9 with ⟨hk9, rfl⟩ | ⟨hk9, rfl⟩
    ·
      rw [ht9] at hW9
      have hR9 : RC D cs A z0 (ad 0) g L B n b H9 := ⟨ad, y1, y2, N1, N2, nd, gv, rfl, hN1, hN2, hW9⟩
      refine vx_catch (name := "java/lang/IllegalArgumentException") hown (tableOf []) ⟨0, 9, 10, 15⟩ (tableOf [(0, 9, 15, 17)]) htb (fun z hz => absurd hz List.not_mem_nil) rfl (by decide) (hts (.classLink RL 15 "java/lang/IllegalArgumentException") (by decide +kernel)) (va_Nw.use rfl (hE.2.2.2.2.2.2.2.1 (.castable "java/lang/IllegalArgumentException" "java/lang/IllegalArgumentException") (by decide))) hc9 hv9 hl9 ?_
      refine lv_astore (lv' := [(5, .ref q9), (0, .ref (ad 0)), (1, .int x), (2, .int y), (3, .int z), (4, .int w)]) hx hb dL_addLoan_10 hl (by decide) rfl (fun ls hl => ?_)
      refine lv_bipush (v := (-102)) hx hb dL_addLoan_12 (by decide) ?_
      refine W.widen (k := 2) (n := 30) (Nat.le_of_ble_eq_true rfl) (Nat.le_of_ble_eq_true rfl) ?_
      exact vx_ret (W.iret (v := (-102)) hx hb hr (fun t8 ht8 hW8 => ⟨⟨_, (), rfl, rfl, by dsimp only; rw [ht8]; exact hR9⟩, hS9.F ht8⟩) hS9.2.2 dL_addLoan_14)
    ·
      exact absurd (hk9.symm.trans hk) (by decide)
  ·
    exact absurd (hw.1.symm.trans hk) (by decide)

set_option maxHeartbeats 4000000 in
set_option maxRecDepth 100000 in
theorem c_L_addLoan_2 (l : Launch) (hst : l.stackTraces = false) (D : va_G) (cs : Nat → ClassId) (A : Nat → Prop) (z0 : Nat) (sa : Nat → Nat) (o : Nat) (g : Nat → Int32) (L B : Nat → Nat → Int32) (n b : Nat) (hn : n ≤ 12) (hb5 : b ≤ 5) (x : Int32) (y : Int32) (z : Int32) (w : Int32) (hz : L 4 n = 0 ∧ L 5 n = 0) (hk : kAddLoan g n x y z w = 2) : vx_Met l yL_addLoan wsL_addLoan ({ frames := 13, cells := 2, slots := 30, locals := 424 } : Room) (va_Pc [.ref o, .int x, .int y, .int z, .int w] (pR D cs A z0 sa o g L B n b)) (va_Qi (fun (r9 : Int32) (_ : Unit) => r9 = (-103)) (fun _ t9 => RC D cs A z0 o g L B n b t9.heap) A) (vx_X (fun (_ : Unit) => False) (fun _ _ _ => True) (fun _ => False)) 2 30 A := by
  refine vx_ofWH (cc := cL_addLoan) (maxL := 6) (ret := (some .int)) (hh := [(0, 9, 10, 15), (0, 9, 15, 17)]) (by decide) rfl ?_
  intro p e s m args below meth c s₁ BB hml hv
  obtain ⟨rfl, hv⟩ := hv
  obtain ⟨hE, hR, hc1, hc2, hc3⟩ := hv
  obtain ⟨ad, y1, y2, N1, N2, nd, gv, ho, hN1, hN2, hW⟩ := hR
  subst ho
  have hK := hE.1
  have hx := BB.exec
  have hb := BB.bytes
  have hr := BB.returns
  have hts := atoms_spec (ws := wsL_addLoan) BB.pre
  have hown : s.vm.findClass RL = some m.cls := findClass_of_methodNamed BB.named
  have hlocks := BB.notSynchronized
  have hS : va_S A s.heap s.heap [] := va_S.rf
  have hl := lv_entry ([.ref (ad 0), .int x, .int y, .int z, .int w]) (n := 6) (Nat.le_of_ble_eq_true rfl)
  rw [lg_entry_eq]
  generalize (lg_sl ([.ref (ad 0), .int x, .int y, .int z, .int w]) ++ List.replicate (6 - (lg_sl ([.ref (ad 0), .int x, .int y, .int z, .int w])).length) Slot.unset).toArray = ls at hl ⊢
  have hl : lv_has ls 6 [(0, .ref (ad 0)), (1, .int x), (2, .int y), (3, .int z), (4, .int w)] := hl
  have htb := vx_table (x := yL_addLoan) BB (hts (.codeWith yL_addLoan cL_addLoan 6 (some .int) [(0, 9, 10, 15), (0, 9, 15, 17)]) (by decide +kernel))
  refine lv_aload_n hx hb dL_addLoan_0 rfl (lv_at hl 0 rfl) ?_
  refine lv_iload_n hx hb dL_addLoan_1 rfl (lv_at hl 1 rfl) ?_
  refine lv_iload_n hx hb dL_addLoan_2 rfl (lv_at hl 2 rfl) ?_
  refine lv_iload_n hx hb dL_addLoan_3 rfl (lv_at hl 3 rfl) ?_
  refine lv_iload hx hb dL_addLoan_4 (lv_at hl 4 rfl) ?_
  refine vx_calli (vx_runV (As := [.int x, .int y, .int z, .int w]) (rest := []) ⟨hx, hb, hml, hown, hts⟩ (c_X3_addLoan l hst D cs A z0 sa ad g L B n b y1 y2 N1 N2 nd gv hn hb5 hN1 hN2 x y z w hz) (cwV 4 hts gL_addLoan_X3_addLoan rfl rfl rfl (by decide +kernel) ⟨Nat.le_of_ble_eq_true rfl, Nat.le_of_ble_eq_true rfl⟩) ⟨pC_fb, wb_recv hK hW (r := 0) (lvC_0 (by decide)) (ci := 4) rfl rfl, fun U hU hV => ⟨rfl, hE.at (A' := fun _ => False) (fun _ h => h.elim) va_S.rf hV hU, by rw [hU]; exact hW⟩⟩ rfl rfl hl.1 rfl (lv_room (Nat.le_of_ble_eq_true rfl)) dL_addLoan_6 ⟨Nat.le_of_ble_eq_true rfl, Nat.le_of_ble_eq_true rfl⟩) hS (fun _ _ h => h) (fun _ h => h) (fun _ _ h => h) (fun E9 ce9 q9 u9 t9 H9 locs9 ht9 hvm9 hpx9 hbx9 hz9 hk9 hS9 hc9 hv9 hl9 => ?_) (fun r_9 u t9 H locs ht hvm hw hB hz1 hk1 hS => ?_)
  · obtain ⟨hx9, hW9⟩ := hbx9
    rcases hx9 with ⟨hk9, rfl⟩ | ⟨hk9, rfl⟩
    ·
      exact absurd (hk9.symm.trans hk) (by decide)
    ·
      rw [ht9] at hW9
      have hR9 : RC D cs A z0 (ad 0) g L B n b H9 := ⟨ad, y1, y2, N1, N2, nd, gv, rfl, hN1, hN2, hW9⟩
      refine vx_catch (name := "java/lang/IllegalStateException") hown (tableOf [(0, 9, 10, 15)]) ⟨0, 9, 15, 17⟩ (tableOf []) htb (fun z hz => by cases List.mem_singleton.mp hz; exact Or.inr ⟨by decide, "java/lang/IllegalArgumentException", hts (.classLink RL 15 "java/lang/IllegalArgumentException") (by decide +kernel), hc1⟩) rfl (by decide) (hts (.classLink RL 17 "java/lang/IllegalStateException") (by decide +kernel)) (va_Nw.use rfl (hE.2.2.2.2.2.2.2.1 (.castable "java/lang/IllegalStateException" "java/lang/IllegalStateException") (by decide))) hc9 hv9 hl9 ?_
      refine lv_astore (lv' := [(5, .ref q9), (0, .ref (ad 0)), (1, .int x), (2, .int y), (3, .int z), (4, .int w)]) hx hb dL_addLoan_15 hl (by decide) rfl (fun ls hl => ?_)
      refine lv_bipush (v := (-103)) hx hb dL_addLoan_17 (by decide) ?_
      refine W.widen (k := 2) (n := 30) (Nat.le_of_ble_eq_true rfl) (Nat.le_of_ble_eq_true rfl) ?_
      exact vx_ret (W.iret (v := (-103)) hx hb hr (fun t8 ht8 hW8 => ⟨⟨_, (), rfl, rfl, by dsimp only; rw [ht8]; exact hR9⟩, hS9.F ht8⟩) hS9.2.2 dL_addLoan_19)
  ·
    exact absurd (hw.1.symm.trans hk) (by decide)

set_option maxHeartbeats 4000000 in
set_option maxRecDepth 100000 in
theorem c_L_enter_0 (l : Launch) (hst : l.stackTraces = false) (D : va_G) (cs : Nat → ClassId) (A : Nat → Prop) (z0 : Nat) (sa : Nat → Nat) (o : Nat) (g : Nat → Int32) (L B : Nat → Nat → Int32) (n b : Nat) (hn : n ≤ 12) (hb5 : b ≤ 5) (x : Int32)  (hk : kSt L n 0 x = 0) : vx_Met l yL_enter wsL_enter ({ frames := 9, cells := 1, slots := 6, locals := 143 } : Room) (va_Pc [.ref o, .int x] (pR D cs A z0 sa o g L B n b)) (va_Qi (fun (r9 : Int32) (_ : Unit) => r9 = mCount g (updL L 5 (ixN x) 1) (ixN x)) (fun _ t9 => RC D cs A z0 o g (updL L 5 (ixN x) 1) B n b t9.heap) A) (vx_X (fun (_ : Unit) => False) (fun _ _ _ => True) (fun _ => False)) 1 6 A := by
  refine vx_ofWH (cc := cL_enter) (maxL := 3) (ret := (some .int)) (hh := [(0, 5, 6, 23), (0, 5, 10, 17)]) (by decide) rfl ?_
  intro p e s m args below meth c s₁ BB hml hv
  obtain ⟨rfl, hv⟩ := hv
  obtain ⟨hE, hR, hc1, hc2, hc3⟩ := hv
  obtain ⟨ad, y1, y2, N1, N2, nd, gv, ho, hN1, hN2, hW⟩ := hR
  subst ho
  have hK := hE.1
  have hx := BB.exec
  have hb := BB.bytes
  have hr := BB.returns
  have hts := atoms_spec (ws := wsL_enter) BB.pre
  have hown : s.vm.findClass RL = some m.cls := findClass_of_methodNamed BB.named
  have hlocks := BB.notSynchronized
  have hS : va_S A s.heap s.heap [] := va_S.rf
  have hl := lv_entry ([.ref (ad 0), .int x]) (n := 3) (Nat.le_of_ble_eq_true rfl)
  rw [lg_entry_eq]
  generalize (lg_sl ([.ref (ad 0), .int x]) ++ List.replicate (3 - (lg_sl ([.ref (ad 0), .int x])).length) Slot.unset).toArray = ls at hl ⊢
  have hl : lv_has ls 3 [(0, .ref (ad 0)), (1, .int x)] := hl
  have htb := vx_table (x := yL_enter) BB (hts (.codeWith yL_enter cL_enter 3 (some .int) [(0, 5, 6, 23), (0, 5, 10, 17)]) (by decide +kernel))
  refine lv_aload_n hx hb dL_enter_0 rfl (lv_at hl 0 rfl) ?_
  refine lv_iload_n hx hb dL_enter_1 rfl (lv_at hl 1 rfl) ?_
  refine vx_calli (vx_runV (As := [.int x]) (rest := []) ⟨hx, hb, hml, hown, hts⟩ (c_X3_enter l hst D cs A z0 sa ad g L B n b y1 y2 N1 N2 nd gv hn hb5 hN1 hN2 x) (cwV 1 hts gL_enter_X3_enter rfl rfl rfl (by decide +kernel) ⟨Nat.le_of_ble_eq_true rfl, Nat.le_of_ble_eq_true rfl⟩) ⟨pC_fb, wb_recv hK hW (r := 0) (lvC_0 (by decide)) (ci := 4) rfl rfl, fun U hU hV => ⟨rfl, hE.at (A' := fun _ => False) (fun _ h => h.elim) va_S.rf hV hU, by rw [hU]; exact hW⟩⟩ rfl rfl hl.1 rfl (lv_room (Nat.le_of_ble_eq_true rfl)) dL_enter_2 ⟨Nat.le_of_ble_eq_true rfl, Nat.le_of_ble_eq_true rfl⟩) hS (fun _ _ h => h) (fun _ h => h) (fun _ _ h => h) (fun E9 ce9 q9 u9 t9 H9 locs9 ht9 hvm9 hpx9 hbx9 hz9 hk9 hS9 hc9 hv9 hl9 => ?_) (fun r_9 u t9 H locs ht hvm hw hB hz1 hk1 hS => ?_)
  · obtain ⟨hx9, hW9⟩ := hbx9
    rcases hx9 with ⟨hk9, rfl⟩ | ⟨hk9, rfl⟩
    ·
      exact absurd (hk9.symm.trans hk) (by decide)
    ·
      exact absurd (hk9.symm.trans hk) (by decide)
  ·
    rw [ht] at hB
    have hR9 : RC D cs A z0 (ad 0) g (updL L 5 (ixN x) 1) B n b H := hB
    obtain rfl : r_9 = mCount g (updL L 5 (ixN x) 1) (ixN x) := hw.2
    refine W.widen (k := 1) (n := 6) (Nat.le_of_ble_eq_true rfl) (Nat.le_of_ble_eq_true rfl) ?_
    exact vx_ret (W.iret (v := mCount g (updL L 5 (ixN x) 1) (ixN x)) hx hb hr (fun t8 ht8 hW8 => ⟨⟨_, (), rfl, rfl, by dsimp only; rw [ht8]; exact hR9⟩, hS.F ht8⟩) hS.2.2 dL_enter_5)

set_option maxHeartbeats 4000000 in
set_option maxRecDepth 100000 in
theorem c_L_enter_2 (l : Launch) (hst : l.stackTraces = false) (D : va_G) (cs : Nat → ClassId) (A : Nat → Prop) (z0 : Nat) (sa : Nat → Nat) (o : Nat) (g : Nat → Int32) (L B : Nat → Nat → Int32) (n b : Nat) (hn : n ≤ 12) (hb5 : b ≤ 5) (x : Int32)  (hk : kSt L n 0 x = 2) : vx_Met l yL_enter wsL_enter ({ frames := 9, cells := 1, slots := 6, locals := 143 } : Room) (va_Pc [.ref o, .int x] (pR D cs A z0 sa o g L B n b)) (va_Qi (fun (r9 : Int32) (_ : Unit) => r9 = (-103)) (fun _ t9 => RC D cs A z0 o g L B n b t9.heap) A) (vx_X (fun (_ : Unit) => False) (fun _ _ _ => True) (fun _ => False)) 1 6 A := by
  refine vx_ofWH (cc := cL_enter) (maxL := 3) (ret := (some .int)) (hh := [(0, 5, 6, 23), (0, 5, 10, 17)]) (by decide) rfl ?_
  intro p e s m args below meth c s₁ BB hml hv
  obtain ⟨rfl, hv⟩ := hv
  obtain ⟨hE, hR, hc1, hc2, hc3⟩ := hv
  obtain ⟨ad, y1, y2, N1, N2, nd, gv, ho, hN1, hN2, hW⟩ := hR
  subst ho
  have hK := hE.1
  have hx := BB.exec
  have hb := BB.bytes
  have hr := BB.returns
  have hts := atoms_spec (ws := wsL_enter) BB.pre
  have hown : s.vm.findClass RL = some m.cls := findClass_of_methodNamed BB.named
  have hlocks := BB.notSynchronized
  have hS : va_S A s.heap s.heap [] := va_S.rf
  have hl := lv_entry ([.ref (ad 0), .int x]) (n := 3) (Nat.le_of_ble_eq_true rfl)
  rw [lg_entry_eq]
  generalize (lg_sl ([.ref (ad 0), .int x]) ++ List.replicate (3 - (lg_sl ([.ref (ad 0), .int x])).length) Slot.unset).toArray = ls at hl ⊢
  have hl : lv_has ls 3 [(0, .ref (ad 0)), (1, .int x)] := hl
  have htb := vx_table (x := yL_enter) BB (hts (.codeWith yL_enter cL_enter 3 (some .int) [(0, 5, 6, 23), (0, 5, 10, 17)]) (by decide +kernel))
  refine lv_aload_n hx hb dL_enter_0 rfl (lv_at hl 0 rfl) ?_
  refine lv_iload_n hx hb dL_enter_1 rfl (lv_at hl 1 rfl) ?_
  refine vx_calli (vx_runV (As := [.int x]) (rest := []) ⟨hx, hb, hml, hown, hts⟩ (c_X3_enter l hst D cs A z0 sa ad g L B n b y1 y2 N1 N2 nd gv hn hb5 hN1 hN2 x) (cwV 1 hts gL_enter_X3_enter rfl rfl rfl (by decide +kernel) ⟨Nat.le_of_ble_eq_true rfl, Nat.le_of_ble_eq_true rfl⟩) ⟨pC_fb, wb_recv hK hW (r := 0) (lvC_0 (by decide)) (ci := 4) rfl rfl, fun U hU hV => ⟨rfl, hE.at (A' := fun _ => False) (fun _ h => h.elim) va_S.rf hV hU, by rw [hU]; exact hW⟩⟩ rfl rfl hl.1 rfl (lv_room (Nat.le_of_ble_eq_true rfl)) dL_enter_2 ⟨Nat.le_of_ble_eq_true rfl, Nat.le_of_ble_eq_true rfl⟩) hS (fun _ _ h => h) (fun _ h => h) (fun _ _ h => h) (fun E9 ce9 q9 u9 t9 H9 locs9 ht9 hvm9 hpx9 hbx9 hz9 hk9 hS9 hc9 hv9 hl9 => ?_) (fun r_9 u t9 H locs ht hvm hw hB hz1 hk1 hS => ?_)
  · obtain ⟨hx9, hW9⟩ := hbx9
    rcases hx9 with ⟨hk9, rfl⟩ | ⟨hk9, rfl⟩
    ·
      exact absurd (hk9.symm.trans hk) (by decide)
    ·
      rw [ht9] at hW9
      have hR9 : RC D cs A z0 (ad 0) g L B n b H9 := ⟨ad, y1, y2, N1, N2, nd, gv, rfl, hN1, hN2, hW9⟩
      refine vx_catch (name := "java/lang/IllegalStateException") hown (tableOf [(0, 5, 6, 23)]) ⟨0, 5, 10, 17⟩ (tableOf []) htb (fun z hz => by cases List.mem_singleton.mp hz; exact Or.inr ⟨by decide, "java/lang/IndexOutOfBoundsException", hts (.classLink RL 23 "java/lang/IndexOutOfBoundsException") (by decide +kernel), hc2⟩) rfl (by decide) (hts (.classLink RL 17 "java/lang/IllegalStateException") (by decide +kernel)) (va_Nw.use rfl (hE.2.2.2.2.2.2.2.1 (.castable "java/lang/IllegalStateException" "java/lang/IllegalStateException") (by decide))) hc9 hv9 hl9 ?_
      refine lv_astore_n (lv' := [(2, .ref q9), (0, .ref (ad 0)), (1, .int x)]) hx hb dL_enter_10 rfl hl (by decide) rfl (fun ls hl => ?_)
      refine lv_bipush (v := (-103)) hx hb dL_enter_11 (by decide) ?_
      refine W.widen (k := 1) (n := 6) (Nat.le_of_ble_eq_true rfl) (Nat.le_of_ble_eq_true rfl) ?_
      exact vx_ret (W.iret (v := (-103)) hx hb hr (fun t8 ht8 hW8 => ⟨⟨_, (), rfl, rfl, by dsimp only; rw [ht8]; exact hR9⟩, hS9.F ht8⟩) hS9.2.2 dL_enter_13)
  ·
    exact absurd (hw.1.symm.trans hk) (by decide)

set_option maxHeartbeats 4000000 in
set_option maxRecDepth 100000 in
theorem c_L_leave_0t (l : Launch) (hst : l.stackTraces = false) (D : va_G) (cs : Nat → ClassId) (A : Nat → Prop) (z0 : Nat) (sa : Nat → Nat) (o : Nat) (g : Nat → Int32) (L B : Nat → Nat → Int32) (n b : Nat) (hn : n ≤ 12) (hb5 : b ≤ 5) (x : Int32)  (hbd : Bd g L B n b) (hk : kSt L n 1 x = 0) (hP : mSafe g L B n b (outOf L n x)) : vx_Met l yL_leave wsL_leave ({ frames := 9, cells := 1, slots := 6, locals := 198 } : Room) (va_Pc [.ref o, .int x] (pR D cs A z0 sa o g L B n b)) (va_Qi (fun (r9 : Int32) (_ : Unit) => r9 = 1) (fun _ t9 => RC D cs A z0 o g (updL L 5 (ixN x) 0) B n b t9.heap) A) (vx_X (fun (_ : Unit) => False) (fun _ _ _ => True) (fun _ => False)) 1 6 A := by
  refine vx_ofWH (cc := cL_leave) (maxL := 3) (ret := (some .int)) (hh := [(0, 13, 14, 23), (0, 13, 18, 17)]) (by decide) rfl ?_
  intro p e s m args below meth c s₁ BB hml hv
  obtain ⟨rfl, hv⟩ := hv
  obtain ⟨hE, hR, hc1, hc2, hc3⟩ := hv
  obtain ⟨ad, y1, y2, N1, N2, nd, gv, ho, hN1, hN2, hW⟩ := hR
  subst ho
  have hK := hE.1
  have hx := BB.exec
  have hb := BB.bytes
  have hr := BB.returns
  have hts := atoms_spec (ws := wsL_leave) BB.pre
  have hown : s.vm.findClass RL = some m.cls := findClass_of_methodNamed BB.named
  have hlocks := BB.notSynchronized
  have hS : va_S A s.heap s.heap [] := va_S.rf
  have hl := lv_entry ([.ref (ad 0), .int x]) (n := 3) (Nat.le_of_ble_eq_true rfl)
  rw [lg_entry_eq]
  generalize (lg_sl ([.ref (ad 0), .int x]) ++ List.replicate (3 - (lg_sl ([.ref (ad 0), .int x])).length) Slot.unset).toArray = ls at hl ⊢
  have hl : lv_has ls 3 [(0, .ref (ad 0)), (1, .int x)] := hl
  have htb := vx_table (x := yL_leave) BB (hts (.codeWith yL_leave cL_leave 3 (some .int) [(0, 13, 14, 23), (0, 13, 18, 17)]) (by decide +kernel))
  refine lv_aload_n hx hb dL_leave_0 rfl (lv_at hl 0 rfl) ?_
  refine lv_iload_n hx hb dL_leave_1 rfl (lv_at hl 1 rfl) ?_
  refine vx_calli (vx_runV (As := [.int x]) (rest := []) ⟨hx, hb, hml, hown, hts⟩ (c_X3_leave l hst D cs A z0 sa ad g L B n b y1 y2 N1 N2 nd gv hn hb5 hN1 hN2 x) (cwV 1 hts gL_leave_X3_leave rfl rfl rfl (by decide +kernel) ⟨Nat.le_of_ble_eq_true rfl, Nat.le_of_ble_eq_true rfl⟩) ⟨pC_fb, wb_recv hK hW (r := 0) (lvC_0 (by decide)) (ci := 4) rfl rfl, fun U hU hV => ⟨rfl, hE.at (A' := fun _ => False) (fun _ h => h.elim) va_S.rf hV hU, by rw [hU]; exact hW⟩⟩ rfl rfl hl.1 rfl (lv_room (Nat.le_of_ble_eq_true rfl)) dL_leave_2 ⟨Nat.le_of_ble_eq_true rfl, Nat.le_of_ble_eq_true rfl⟩) hS (fun _ _ h => h) (fun _ h => h) (fun _ _ h => h) (fun E9 ce9 q9 u9 t9 H9 locs9 ht9 hvm9 hpx9 hbx9 hz9 hk9 hS9 hc9 hv9 hl9 => ?_) (fun r_9 u t9 H locs ht hvm hw hB hz1 hk1 hS => ?_)
  · obtain ⟨hx9, hW9⟩ := hbx9
    rcases hx9 with ⟨hk9, rfl⟩ | ⟨hk9, rfl⟩
    ·
      exact absurd (hk9.symm.trans hk) (by decide)
    ·
      exact absurd (hk9.symm.trans hk) (by decide)
  ·
    rw [ht] at hB
    obtain ⟨-, rfl, hpp⟩ := hw
    rcases hpp with ⟨rfl, hq⟩ | ⟨rfl, hq⟩
    ·
      have hP2 : mSafe g L B n b (outOf L n x) := (cAll_eq hbd nd gv (okS_out L hn x)).mp hq
      rw [if_pos rfl] at hB
      have hR9 : RC D cs A z0 (ad 0) g (updL L 5 (ixN x) 0) B n b H := hB
      refine lv_if_eq (tgt := 12) hx hb dL_leave_5 (by decide) (fun c_1 => ?_) (fun c_1 => ?_)
      · -- 1 eq 0 : True
        exact absurd c_1 (by decide)
      · -- 1 eq 0 : False
        refine lv_iconst (v := 1) hx hb dL_leave_8 (by decide) ?_
        refine lv_goto (tgt := 13) hx hb dL_leave_9 (by decide) ?_
        refine W.widen (k := 1) (n := 6) (Nat.le_of_ble_eq_true rfl) (Nat.le_of_ble_eq_true rfl) ?_
        exact vx_ret (W.iret (v := 1) hx hb hr (fun t8 ht8 hW8 => ⟨⟨_, (), rfl, rfl, by dsimp only; rw [ht8]; exact hR9⟩, hS.F ht8⟩) hS.2.2 dL_leave_13)
    ·
      have hP2 : ¬ (mSafe g L B n b (outOf L n x)) := fun z9 => hq ((cAll_eq hbd nd gv (okS_out L hn x)).mpr z9)
      exact (hP2 hP).elim

set_option maxHeartbeats 4000000 in
set_option maxRecDepth 100000 in
theorem c_L_leave_0f (l : Launch) (hst : l.stackTraces = false) (D : va_G) (cs : Nat → ClassId) (A : Nat → Prop) (z0 : Nat) (sa : Nat → Nat) (o : Nat) (g : Nat → Int32) (L B : Nat → Nat → Int32) (n b : Nat) (hn : n ≤ 12) (hb5 : b ≤ 5) (x : Int32)  (hbd : Bd g L B n b) (hk : kSt L n 1 x = 0) (hP : ¬ (mSafe g L B n b (outOf L n x))) : vx_Met l yL_leave wsL_leave ({ frames := 9, cells := 1, slots := 6, locals := 198 } : Room) (va_Pc [.ref o, .int x] (pR D cs A z0 sa o g L B n b)) (va_Qi (fun (r9 : Int32) (_ : Unit) => r9 = 0) (fun _ t9 => RC D cs A z0 o g L B n b t9.heap) A) (vx_X (fun (_ : Unit) => False) (fun _ _ _ => True) (fun _ => False)) 1 6 A := by
  refine vx_ofWH (cc := cL_leave) (maxL := 3) (ret := (some .int)) (hh := [(0, 13, 14, 23), (0, 13, 18, 17)]) (by decide) rfl ?_
  intro p e s m args below meth c s₁ BB hml hv
  obtain ⟨rfl, hv⟩ := hv
  obtain ⟨hE, hR, hc1, hc2, hc3⟩ := hv
  obtain ⟨ad, y1, y2, N1, N2, nd, gv, ho, hN1, hN2, hW⟩ := hR
  subst ho
  have hK := hE.1
  have hx := BB.exec
  have hb := BB.bytes
  have hr := BB.returns
  have hts := atoms_spec (ws := wsL_leave) BB.pre
  have hown : s.vm.findClass RL = some m.cls := findClass_of_methodNamed BB.named
  have hlocks := BB.notSynchronized
  have hS : va_S A s.heap s.heap [] := va_S.rf
  have hl := lv_entry ([.ref (ad 0), .int x]) (n := 3) (Nat.le_of_ble_eq_true rfl)
  rw [lg_entry_eq]
  generalize (lg_sl ([.ref (ad 0), .int x]) ++ List.replicate (3 - (lg_sl ([.ref (ad 0), .int x])).length) Slot.unset).toArray = ls at hl ⊢
  have hl : lv_has ls 3 [(0, .ref (ad 0)), (1, .int x)] := hl
  have htb := vx_table (x := yL_leave) BB (hts (.codeWith yL_leave cL_leave 3 (some .int) [(0, 13, 14, 23), (0, 13, 18, 17)]) (by decide +kernel))
  refine lv_aload_n hx hb dL_leave_0 rfl (lv_at hl 0 rfl) ?_
  refine lv_iload_n hx hb dL_leave_1 rfl (lv_at hl 1 rfl) ?_
  refine vx_calli (vx_runV (As := [.int x]) (rest := []) ⟨hx, hb, hml, hown, hts⟩ (c_X3_leave l hst D cs A z0 sa ad g L B n b y1 y2 N1 N2 nd gv hn hb5 hN1 hN2 x) (cwV 1 hts gL_leave_X3_leave rfl rfl rfl (by decide +kernel) ⟨Nat.le_of_ble_eq_true rfl, Nat.le_of_ble_eq_true rfl⟩) ⟨pC_fb, wb_recv hK hW (r := 0) (lvC_0 (by decide)) (ci := 4) rfl rfl, fun U hU hV => ⟨rfl, hE.at (A' := fun _ => False) (fun _ h => h.elim) va_S.rf hV hU, by rw [hU]; exact hW⟩⟩ rfl rfl hl.1 rfl (lv_room (Nat.le_of_ble_eq_true rfl)) dL_leave_2 ⟨Nat.le_of_ble_eq_true rfl, Nat.le_of_ble_eq_true rfl⟩) hS (fun _ _ h => h) (fun _ h => h) (fun _ _ h => h) (fun E9 ce9 q9 u9 t9 H9 locs9 ht9 hvm9 hpx9 hbx9 hz9 hk9 hS9 hc9 hv9 hl9 => ?_) (fun r_9 u t9 H locs ht hvm hw hB hz1 hk1 hS => ?_)
  · obtain ⟨hx9, hW9⟩ := hbx9
    rcases hx9 with ⟨hk9, rfl⟩ | ⟨hk9, rfl⟩
    ·
      exact absurd (hk9.symm.trans hk) (by decide)
    ·
      exact absurd (hk9.symm.trans hk) (by decide)
  ·
    rw [ht] at hB
    obtain ⟨-, rfl, hpp⟩ := hw
    rcases hpp with ⟨rfl, hq⟩ | ⟨rfl, hq⟩
    ·
      have hP2 : mSafe g L B n b (outOf L n x) := (cAll_eq hbd nd gv (okS_out L hn x)).mp hq
      exact (hP hP2).elim
    ·
      have hP2 : ¬ (mSafe g L B n b (outOf L n x)) := fun z9 => hq ((cAll_eq hbd nd gv (okS_out L hn x)).mpr z9)
      rw [if_neg (by decide)] at hB
      have hR9 : RC D cs A z0 (ad 0) g L B n b H := hB
      refine lv_if_eq (tgt := 12) hx hb dL_leave_5 (by decide) (fun c_1 => ?_) (fun c_1 => ?_)
      · -- 0 eq 0 : True
        refine lv_iconst (v := 0) hx hb dL_leave_12 (by decide) ?_
        refine W.widen (k := 1) (n := 6) (Nat.le_of_ble_eq_true rfl) (Nat.le_of_ble_eq_true rfl) ?_
        exact vx_ret (W.iret (v := 0) hx hb hr (fun t8 ht8 hW8 => ⟨⟨_, (), rfl, rfl, by dsimp only; rw [ht8]; exact hR9⟩, hS.F ht8⟩) hS.2.2 dL_leave_13)
      · -- 0 eq 0 : False
        exact absurd c_1 (by decide)

set_option maxHeartbeats 4000000 in
set_option maxRecDepth 100000 in
theorem c_L_leave_2 (l : Launch) (hst : l.stackTraces = false) (D : va_G) (cs : Nat → ClassId) (A : Nat → Prop) (z0 : Nat) (sa : Nat → Nat) (o : Nat) (g : Nat → Int32) (L B : Nat → Nat → Int32) (n b : Nat) (hn : n ≤ 12) (hb5 : b ≤ 5) (x : Int32)  (hbd : Bd g L B n b) (hk : kSt L n 1 x = 2) : vx_Met l yL_leave wsL_leave ({ frames := 9, cells := 1, slots := 6, locals := 198 } : Room) (va_Pc [.ref o, .int x] (pR D cs A z0 sa o g L B n b)) (va_Qi (fun (r9 : Int32) (_ : Unit) => r9 = (-103)) (fun _ t9 => RC D cs A z0 o g L B n b t9.heap) A) (vx_X (fun (_ : Unit) => False) (fun _ _ _ => True) (fun _ => False)) 1 6 A := by
  refine vx_ofWH (cc := cL_leave) (maxL := 3) (ret := (some .int)) (hh := [(0, 13, 14, 23), (0, 13, 18, 17)]) (by decide) rfl ?_
  intro p e s m args below meth c s₁ BB hml hv
  obtain ⟨rfl, hv⟩ := hv
  obtain ⟨hE, hR, hc1, hc2, hc3⟩ := hv
  obtain ⟨ad, y1, y2, N1, N2, nd, gv, ho, hN1, hN2, hW⟩ := hR
  subst ho
  have hK := hE.1
  have hx := BB.exec
  have hb := BB.bytes
  have hr := BB.returns
  have hts := atoms_spec (ws := wsL_leave) BB.pre
  have hown : s.vm.findClass RL = some m.cls := findClass_of_methodNamed BB.named
  have hlocks := BB.notSynchronized
  have hS : va_S A s.heap s.heap [] := va_S.rf
  have hl := lv_entry ([.ref (ad 0), .int x]) (n := 3) (Nat.le_of_ble_eq_true rfl)
  rw [lg_entry_eq]
  generalize (lg_sl ([.ref (ad 0), .int x]) ++ List.replicate (3 - (lg_sl ([.ref (ad 0), .int x])).length) Slot.unset).toArray = ls at hl ⊢
  have hl : lv_has ls 3 [(0, .ref (ad 0)), (1, .int x)] := hl
  have htb := vx_table (x := yL_leave) BB (hts (.codeWith yL_leave cL_leave 3 (some .int) [(0, 13, 14, 23), (0, 13, 18, 17)]) (by decide +kernel))
  refine lv_aload_n hx hb dL_leave_0 rfl (lv_at hl 0 rfl) ?_
  refine lv_iload_n hx hb dL_leave_1 rfl (lv_at hl 1 rfl) ?_
  refine vx_calli (vx_runV (As := [.int x]) (rest := []) ⟨hx, hb, hml, hown, hts⟩ (c_X3_leave l hst D cs A z0 sa ad g L B n b y1 y2 N1 N2 nd gv hn hb5 hN1 hN2 x) (cwV 1 hts gL_leave_X3_leave rfl rfl rfl (by decide +kernel) ⟨Nat.le_of_ble_eq_true rfl, Nat.le_of_ble_eq_true rfl⟩) ⟨pC_fb, wb_recv hK hW (r := 0) (lvC_0 (by decide)) (ci := 4) rfl rfl, fun U hU hV => ⟨rfl, hE.at (A' := fun _ => False) (fun _ h => h.elim) va_S.rf hV hU, by rw [hU]; exact hW⟩⟩ rfl rfl hl.1 rfl (lv_room (Nat.le_of_ble_eq_true rfl)) dL_leave_2 ⟨Nat.le_of_ble_eq_true rfl, Nat.le_of_ble_eq_true rfl⟩) hS (fun _ _ h => h) (fun _ h => h) (fun _ _ h => h) (fun E9 ce9 q9 u9 t9 H9 locs9 ht9 hvm9 hpx9 hbx9 hz9 hk9 hS9 hc9 hv9 hl9 => ?_) (fun r_9 u t9 H locs ht hvm hw hB hz1 hk1 hS => ?_)
  · obtain ⟨hx9, hW9⟩ := hbx9
    rcases hx9 with ⟨hk9, rfl⟩ | ⟨hk9, rfl⟩
    ·
      exact absurd (hk9.symm.trans hk) (by decide)
    ·
      rw [ht9] at hW9
      have hR9 : RC D cs A z0 (ad 0) g L B n b H9 := ⟨ad, y1, y2, N1, N2, nd, gv, rfl, hN1, hN2, hW9⟩
      refine vx_catch (name := "java/lang/IllegalStateException") hown (tableOf [(0, 13, 14, 23)]) ⟨0, 13, 18, 17⟩ (tableOf []) htb (fun z hz => by cases List.mem_singleton.mp hz; exact Or.inr ⟨by decide, "java/lang/IndexOutOfBoundsException", hts (.classLink RL 23 "java/lang/IndexOutOfBoundsException") (by decide +kernel), hc2⟩) rfl (by decide) (hts (.classLink RL 17 "java/lang/IllegalStateException") (by decide +kernel)) (va_Nw.use rfl (hE.2.2.2.2.2.2.2.1 (.castable "java/lang/IllegalStateException" "java/lang/IllegalStateException") (by decide))) hc9 hv9 hl9 ?_
      refine lv_astore_n (lv' := [(2, .ref q9), (0, .ref (ad 0)), (1, .int x)]) hx hb dL_leave_18 rfl hl (by decide) rfl (fun ls hl => ?_)
      refine lv_bipush (v := (-103)) hx hb dL_leave_19 (by decide) ?_
      refine W.widen (k := 1) (n := 6) (Nat.le_of_ble_eq_true rfl) (Nat.le_of_ble_eq_true rfl) ?_
      exact vx_ret (W.iret (v := (-103)) hx hb hr (fun t8 ht8 hW8 => ⟨⟨_, (), rfl, rfl, by dsimp only; rw [ht8]; exact hR9⟩, hS9.F ht8⟩) hS9.2.2 dL_leave_21)
  ·
    exact absurd (hw.1.symm.trans hk) (by decide)

set_option maxHeartbeats 4000000 in
set_option maxRecDepth 100000 in
theorem c_L_swap_0t (l : Launch) (hst : l.stackTraces = false) (D : va_G) (cs : Nat → ClassId) (A : Nat → Prop) (z0 : Nat) (sa : Nat → Nat) (o : Nat) (g : Nat → Int32) (L B : Nat → Nat → Int32) (n b : Nat) (hn : n ≤ 12) (hb5 : b ≤ 5) (x : Int32) (y : Int32)  (hbd : Bd g L B n b) (hk : kSwap L n x y = 0) (hP : canSwap g L B n b x y) : vx_Met l yL_swap wsL_swap ({ frames := 9, cells := 1, slots := 6, locals := 203 } : Room) (va_Pc [.ref o, .int x, .int y] (pR D cs A z0 sa o g L B n b)) (va_Qi (fun (r9 : Int32) (_ : Unit) => r9 = 1) (fun _ t9 => RC D cs A z0 o g (updL (updL L 5 (ixN x) 0) 5 (ixN y) 1) B n b t9.heap) A) (vx_X (fun (_ : Unit) => False) (fun _ _ _ => True) (fun _ => False)) 1 6 A := by
  refine vx_ofWH (cc := cL_swap) (maxL := 4) (ret := (some .int)) (hh := [(0, 14, 15, 23), (0, 14, 19, 17)]) (by decide) rfl ?_
  intro p e s m args below meth c s₁ BB hml hv
  obtain ⟨rfl, hv⟩ := hv
  obtain ⟨hE, hR, hc1, hc2, hc3⟩ := hv
  obtain ⟨ad, y1, y2, N1, N2, nd, gv, ho, hN1, hN2, hW⟩ := hR
  subst ho
  have hK := hE.1
  have hx := BB.exec
  have hb := BB.bytes
  have hr := BB.returns
  have hts := atoms_spec (ws := wsL_swap) BB.pre
  have hown : s.vm.findClass RL = some m.cls := findClass_of_methodNamed BB.named
  have hlocks := BB.notSynchronized
  have hS : va_S A s.heap s.heap [] := va_S.rf
  have hl := lv_entry ([.ref (ad 0), .int x, .int y]) (n := 4) (Nat.le_of_ble_eq_true rfl)
  rw [lg_entry_eq]
  generalize (lg_sl ([.ref (ad 0), .int x, .int y]) ++ List.replicate (4 - (lg_sl ([.ref (ad 0), .int x, .int y])).length) Slot.unset).toArray = ls at hl ⊢
  have hl : lv_has ls 4 [(0, .ref (ad 0)), (1, .int x), (2, .int y)] := hl
  have htb := vx_table (x := yL_swap) BB (hts (.codeWith yL_swap cL_swap 4 (some .int) [(0, 14, 15, 23), (0, 14, 19, 17)]) (by decide +kernel))
  refine lv_aload_n hx hb dL_swap_0 rfl (lv_at hl 0 rfl) ?_
  refine lv_iload_n hx hb dL_swap_1 rfl (lv_at hl 1 rfl) ?_
  refine lv_iload_n hx hb dL_swap_2 rfl (lv_at hl 2 rfl) ?_
  refine vx_calli (vx_runV (As := [.int x, .int y]) (rest := []) ⟨hx, hb, hml, hown, hts⟩ (c_X3_swap l hst D cs A z0 sa ad g L B n b y1 y2 N1 N2 nd gv hn hb5 hN1 hN2 x y) (cwV 2 hts gL_swap_X3_swap rfl rfl rfl (by decide +kernel) ⟨Nat.le_of_ble_eq_true rfl, Nat.le_of_ble_eq_true rfl⟩) ⟨pC_fb, wb_recv hK hW (r := 0) (lvC_0 (by decide)) (ci := 4) rfl rfl, fun U hU hV => ⟨rfl, hE.at (A' := fun _ => False) (fun _ h => h.elim) va_S.rf hV hU, by rw [hU]; exact hW⟩⟩ rfl rfl hl.1 rfl (lv_room (Nat.le_of_ble_eq_true rfl)) dL_swap_3 ⟨Nat.le_of_ble_eq_true rfl, Nat.le_of_ble_eq_true rfl⟩) hS (fun _ _ h => h) (fun _ h => h) (fun _ _ h => h) (fun E9 ce9 q9 u9 t9 H9 locs9 ht9 hvm9 hpx9 hbx9 hz9 hk9 hS9 hc9 hv9 hl9 => ?_) (fun r_9 u t9 H locs ht hvm hw hB hz1 hk1 hS => ?_)
  · obtain ⟨hx9, hW9⟩ := hbx9
    rcases hx9 with ⟨hk9, rfl⟩ | ⟨hk9, rfl⟩
    ·
      exact absurd (hk9.symm.trans hk) (by decide)
    ·
      exact absurd (hk9.symm.trans hk) (by decide)
  ·
    rw [ht] at hB
    obtain ⟨-, rfl, hpp⟩ := hw
    rcases hpp with ⟨rfl, hq⟩ | ⟨rfl, hq⟩
    ·
      have hP2 : canSwap g L B n b x y := (swap_iff hbd nd gv hk).mp hq
      rw [if_pos rfl] at hB
      have hR9 : RC D cs A z0 (ad 0) g (updL (updL L 5 (ixN x) 0) 5 (ixN y) 1) B n b H := hB
      refine lv_if_eq (tgt := 13) hx hb dL_swap_6 (by decide) (fun c_1 => ?_) (fun c_1 => ?_)
      · -- 1 eq 0 : True
        exact absurd c_1 (by decide)
      · -- 1 eq 0 : False
        refine lv_iconst (v := 1) hx hb dL_swap_9 (by decide) ?_
        refine lv_goto (tgt := 14) hx hb dL_swap_10 (by decide) ?_
        refine W.widen (k := 1) (n := 6) (Nat.le_of_ble_eq_true rfl) (Nat.le_of_ble_eq_true rfl) ?_
        exact vx_ret (W.iret (v := 1) hx hb hr (fun t8 ht8 hW8 => ⟨⟨_, (), rfl, rfl, by dsimp only; rw [ht8]; exact hR9⟩, hS.F ht8⟩) hS.2.2 dL_swap_14)
    ·
      have hP2 : ¬ (canSwap g L B n b x y) := fun z9 => hq ((swap_iff hbd nd gv hk).mpr z9)
      exact (hP2 hP).elim

set_option maxHeartbeats 4000000 in
set_option maxRecDepth 100000 in
theorem c_L_swap_0f (l : Launch) (hst : l.stackTraces = false) (D : va_G) (cs : Nat → ClassId) (A : Nat → Prop) (z0 : Nat) (sa : Nat → Nat) (o : Nat) (g : Nat → Int32) (L B : Nat → Nat → Int32) (n b : Nat) (hn : n ≤ 12) (hb5 : b ≤ 5) (x : Int32) (y : Int32)  (hbd : Bd g L B n b) (hk : kSwap L n x y = 0) (hP : ¬ (canSwap g L B n b x y)) : vx_Met l yL_swap wsL_swap ({ frames := 9, cells := 1, slots := 6, locals := 203 } : Room) (va_Pc [.ref o, .int x, .int y] (pR D cs A z0 sa o g L B n b)) (va_Qi (fun (r9 : Int32) (_ : Unit) => r9 = 0) (fun _ t9 => RC D cs A z0 o g L B n b t9.heap) A) (vx_X (fun (_ : Unit) => False) (fun _ _ _ => True) (fun _ => False)) 1 6 A := by
  refine vx_ofWH (cc := cL_swap) (maxL := 4) (ret := (some .int)) (hh := [(0, 14, 15, 23), (0, 14, 19, 17)]) (by decide) rfl ?_
  intro p e s m args below meth c s₁ BB hml hv
  obtain ⟨rfl, hv⟩ := hv
  obtain ⟨hE, hR, hc1, hc2, hc3⟩ := hv
  obtain ⟨ad, y1, y2, N1, N2, nd, gv, ho, hN1, hN2, hW⟩ := hR
  subst ho
  have hK := hE.1
  have hx := BB.exec
  have hb := BB.bytes
  have hr := BB.returns
  have hts := atoms_spec (ws := wsL_swap) BB.pre
  have hown : s.vm.findClass RL = some m.cls := findClass_of_methodNamed BB.named
  have hlocks := BB.notSynchronized
  have hS : va_S A s.heap s.heap [] := va_S.rf
  have hl := lv_entry ([.ref (ad 0), .int x, .int y]) (n := 4) (Nat.le_of_ble_eq_true rfl)
  rw [lg_entry_eq]
  generalize (lg_sl ([.ref (ad 0), .int x, .int y]) ++ List.replicate (4 - (lg_sl ([.ref (ad 0), .int x, .int y])).length) Slot.unset).toArray = ls at hl ⊢
  have hl : lv_has ls 4 [(0, .ref (ad 0)), (1, .int x), (2, .int y)] := hl
  have htb := vx_table (x := yL_swap) BB (hts (.codeWith yL_swap cL_swap 4 (some .int) [(0, 14, 15, 23), (0, 14, 19, 17)]) (by decide +kernel))
  refine lv_aload_n hx hb dL_swap_0 rfl (lv_at hl 0 rfl) ?_
  refine lv_iload_n hx hb dL_swap_1 rfl (lv_at hl 1 rfl) ?_
  refine lv_iload_n hx hb dL_swap_2 rfl (lv_at hl 2 rfl) ?_
  refine vx_calli (vx_runV (As := [.int x, .int y]) (rest := []) ⟨hx, hb, hml, hown, hts⟩ (c_X3_swap l hst D cs A z0 sa ad g L B n b y1 y2 N1 N2 nd gv hn hb5 hN1 hN2 x y) (cwV 2 hts gL_swap_X3_swap rfl rfl rfl (by decide +kernel) ⟨Nat.le_of_ble_eq_true rfl, Nat.le_of_ble_eq_true rfl⟩) ⟨pC_fb, wb_recv hK hW (r := 0) (lvC_0 (by decide)) (ci := 4) rfl rfl, fun U hU hV => ⟨rfl, hE.at (A' := fun _ => False) (fun _ h => h.elim) va_S.rf hV hU, by rw [hU]; exact hW⟩⟩ rfl rfl hl.1 rfl (lv_room (Nat.le_of_ble_eq_true rfl)) dL_swap_3 ⟨Nat.le_of_ble_eq_true rfl, Nat.le_of_ble_eq_true rfl⟩) hS (fun _ _ h => h) (fun _ h => h) (fun _ _ h => h) (fun E9 ce9 q9 u9 t9 H9 locs9 ht9 hvm9 hpx9 hbx9 hz9 hk9 hS9 hc9 hv9 hl9 => ?_) (fun r_9 u t9 H locs ht hvm hw hB hz1 hk1 hS => ?_)
  · obtain ⟨hx9, hW9⟩ := hbx9
    rcases hx9 with ⟨hk9, rfl⟩ | ⟨hk9, rfl⟩
    ·
      exact absurd (hk9.symm.trans hk) (by decide)
    ·
      exact absurd (hk9.symm.trans hk) (by decide)
  ·
    rw [ht] at hB
    obtain ⟨-, rfl, hpp⟩ := hw
    rcases hpp with ⟨rfl, hq⟩ | ⟨rfl, hq⟩
    ·
      have hP2 : canSwap g L B n b x y := (swap_iff hbd nd gv hk).mp hq
      exact (hP hP2).elim
    ·
      have hP2 : ¬ (canSwap g L B n b x y) := fun z9 => hq ((swap_iff hbd nd gv hk).mpr z9)
      rw [if_neg (by decide)] at hB
      have hR9 : RC D cs A z0 (ad 0) g L B n b H := hB
      refine lv_if_eq (tgt := 13) hx hb dL_swap_6 (by decide) (fun c_1 => ?_) (fun c_1 => ?_)
      · -- 0 eq 0 : True
        refine lv_iconst (v := 0) hx hb dL_swap_13 (by decide) ?_
        refine W.widen (k := 1) (n := 6) (Nat.le_of_ble_eq_true rfl) (Nat.le_of_ble_eq_true rfl) ?_
        exact vx_ret (W.iret (v := 0) hx hb hr (fun t8 ht8 hW8 => ⟨⟨_, (), rfl, rfl, by dsimp only; rw [ht8]; exact hR9⟩, hS.F ht8⟩) hS.2.2 dL_swap_14)
      · -- 0 eq 0 : False
        exact absurd c_1 (by decide)

set_option maxHeartbeats 4000000 in
set_option maxRecDepth 100000 in
theorem c_L_swap_2 (l : Launch) (hst : l.stackTraces = false) (D : va_G) (cs : Nat → ClassId) (A : Nat → Prop) (z0 : Nat) (sa : Nat → Nat) (o : Nat) (g : Nat → Int32) (L B : Nat → Nat → Int32) (n b : Nat) (hn : n ≤ 12) (hb5 : b ≤ 5) (x : Int32) (y : Int32)  (hbd : Bd g L B n b) (hk : kSwap L n x y = 2) : vx_Met l yL_swap wsL_swap ({ frames := 9, cells := 1, slots := 6, locals := 203 } : Room) (va_Pc [.ref o, .int x, .int y] (pR D cs A z0 sa o g L B n b)) (va_Qi (fun (r9 : Int32) (_ : Unit) => r9 = (-103)) (fun _ t9 => RC D cs A z0 o g L B n b t9.heap) A) (vx_X (fun (_ : Unit) => False) (fun _ _ _ => True) (fun _ => False)) 1 6 A := by
  refine vx_ofWH (cc := cL_swap) (maxL := 4) (ret := (some .int)) (hh := [(0, 14, 15, 23), (0, 14, 19, 17)]) (by decide) rfl ?_
  intro p e s m args below meth c s₁ BB hml hv
  obtain ⟨rfl, hv⟩ := hv
  obtain ⟨hE, hR, hc1, hc2, hc3⟩ := hv
  obtain ⟨ad, y1, y2, N1, N2, nd, gv, ho, hN1, hN2, hW⟩ := hR
  subst ho
  have hK := hE.1
  have hx := BB.exec
  have hb := BB.bytes
  have hr := BB.returns
  have hts := atoms_spec (ws := wsL_swap) BB.pre
  have hown : s.vm.findClass RL = some m.cls := findClass_of_methodNamed BB.named
  have hlocks := BB.notSynchronized
  have hS : va_S A s.heap s.heap [] := va_S.rf
  have hl := lv_entry ([.ref (ad 0), .int x, .int y]) (n := 4) (Nat.le_of_ble_eq_true rfl)
  rw [lg_entry_eq]
  generalize (lg_sl ([.ref (ad 0), .int x, .int y]) ++ List.replicate (4 - (lg_sl ([.ref (ad 0), .int x, .int y])).length) Slot.unset).toArray = ls at hl ⊢
  have hl : lv_has ls 4 [(0, .ref (ad 0)), (1, .int x), (2, .int y)] := hl
  have htb := vx_table (x := yL_swap) BB (hts (.codeWith yL_swap cL_swap 4 (some .int) [(0, 14, 15, 23), (0, 14, 19, 17)]) (by decide +kernel))
  refine lv_aload_n hx hb dL_swap_0 rfl (lv_at hl 0 rfl) ?_
  refine lv_iload_n hx hb dL_swap_1 rfl (lv_at hl 1 rfl) ?_
  refine lv_iload_n hx hb dL_swap_2 rfl (lv_at hl 2 rfl) ?_
  refine vx_calli (vx_runV (As := [.int x, .int y]) (rest := []) ⟨hx, hb, hml, hown, hts⟩ (c_X3_swap l hst D cs A z0 sa ad g L B n b y1 y2 N1 N2 nd gv hn hb5 hN1 hN2 x y) (cwV 2 hts gL_swap_X3_swap rfl rfl rfl (by decide +kernel) ⟨Nat.le_of_ble_eq_true rfl, Nat.le_of_ble_eq_true rfl⟩) ⟨pC_fb, wb_recv hK hW (r := 0) (lvC_0 (by decide)) (ci := 4) rfl rfl, fun U hU hV => ⟨rfl, hE.at (A' := fun _ => False) (fun _ h => h.elim) va_S.rf hV hU, by rw [hU]; exact hW⟩⟩ rfl rfl hl.1 rfl (lv_room (Nat.le_of_ble_eq_true rfl)) dL_swap_3 ⟨Nat.le_of_ble_eq_true rfl, Nat.le_of_ble_eq_true rfl⟩) hS (fun _ _ h => h) (fun _ h => h) (fun _ _ h => h) (fun E9 ce9 q9 u9 t9 H9 locs9 ht9 hvm9 hpx9 hbx9 hz9 hk9 hS9 hc9 hv9 hl9 => ?_) (fun r_9 u t9 H locs ht hvm hw hB hz1 hk1 hS => ?_)
  · obtain ⟨hx9, hW9⟩ := hbx9
    rcases hx9 with ⟨hk9, rfl⟩ | ⟨hk9, rfl⟩
    ·
      exact absurd (hk9.symm.trans hk) (by decide)
    ·
      rw [ht9] at hW9
      have hR9 : RC D cs A z0 (ad 0) g L B n b H9 := ⟨ad, y1, y2, N1, N2, nd, gv, rfl, hN1, hN2, hW9⟩
      refine vx_catch (name := "java/lang/IllegalStateException") hown (tableOf [(0, 14, 15, 23)]) ⟨0, 14, 19, 17⟩ (tableOf []) htb (fun z hz => by cases List.mem_singleton.mp hz; exact Or.inr ⟨by decide, "java/lang/IndexOutOfBoundsException", hts (.classLink RL 23 "java/lang/IndexOutOfBoundsException") (by decide +kernel), hc2⟩) rfl (by decide) (hts (.classLink RL 17 "java/lang/IllegalStateException") (by decide +kernel)) (va_Nw.use rfl (hE.2.2.2.2.2.2.2.1 (.castable "java/lang/IllegalStateException" "java/lang/IllegalStateException") (by decide))) hc9 hv9 hl9 ?_
      refine lv_astore_n (lv' := [(3, .ref q9), (0, .ref (ad 0)), (1, .int x), (2, .int y)]) hx hb dL_swap_19 rfl hl (by decide) rfl (fun ls hl => ?_)
      refine lv_bipush (v := (-103)) hx hb dL_swap_20 (by decide) ?_
      refine W.widen (k := 1) (n := 6) (Nat.le_of_ble_eq_true rfl) (Nat.le_of_ble_eq_true rfl) ?_
      exact vx_ret (W.iret (v := (-103)) hx hb hr (fun t8 ht8 hW8 => ⟨⟨_, (), rfl, rfl, by dsimp only; rw [ht8]; exact hR9⟩, hS9.F ht8⟩) hS9.2.2 dL_swap_22)
  ·
    exact absurd (hw.1.symm.trans hk) (by decide)

set_option maxHeartbeats 4000000 in
set_option maxRecDepth 100000 in
theorem c_L_arrears_0 (l : Launch) (hst : l.stackTraces = false) (D : va_G) (cs : Nat → ClassId) (A : Nat → Prop) (z0 : Nat) (sa : Nat → Nat) (o : Nat) (g : Nat → Int32) (L B : Nat → Nat → Int32) (n b : Nat) (hn : n ≤ 12) (hb5 : b ≤ 5) (x : Int32) (y : Int32)  (hk : kArr L n x y = 0) : vx_Met l yL_arrears wsL_arrears ({ frames := 9, cells := 1, slots := 6, locals := 146 } : Room) (va_Pc [.ref o, .int x, .int y] (pR D cs A z0 sa o g L B n b)) (va_Qi (fun (r9 : Int32) (_ : Unit) => r9 = L 4 (ixN x)) (fun _ t9 => RC D cs A z0 o g (updL L 4 (ixN x) y) B n b t9.heap) A) (vx_X (fun (_ : Unit) => False) (fun _ _ _ => True) (fun _ => False)) 1 6 A := by
  refine vx_ofWH (cc := cL_arrears) (maxL := 4) (ret := (some .int)) (hh := [(0, 6, 7, 23), (0, 6, 11, 15), (0, 6, 15, 17)]) (by decide) rfl ?_
  intro p e s m args below meth c s₁ BB hml hv
  obtain ⟨rfl, hv⟩ := hv
  obtain ⟨hE, hR, hc1, hc2, hc3⟩ := hv
  obtain ⟨ad, y1, y2, N1, N2, nd, gv, ho, hN1, hN2, hW⟩ := hR
  subst ho
  have hK := hE.1
  have hx := BB.exec
  have hb := BB.bytes
  have hr := BB.returns
  have hts := atoms_spec (ws := wsL_arrears) BB.pre
  have hown : s.vm.findClass RL = some m.cls := findClass_of_methodNamed BB.named
  have hlocks := BB.notSynchronized
  have hS : va_S A s.heap s.heap [] := va_S.rf
  have hl := lv_entry ([.ref (ad 0), .int x, .int y]) (n := 4) (Nat.le_of_ble_eq_true rfl)
  rw [lg_entry_eq]
  generalize (lg_sl ([.ref (ad 0), .int x, .int y]) ++ List.replicate (4 - (lg_sl ([.ref (ad 0), .int x, .int y])).length) Slot.unset).toArray = ls at hl ⊢
  have hl : lv_has ls 4 [(0, .ref (ad 0)), (1, .int x), (2, .int y)] := hl
  have htb := vx_table (x := yL_arrears) BB (hts (.codeWith yL_arrears cL_arrears 4 (some .int) [(0, 6, 7, 23), (0, 6, 11, 15), (0, 6, 15, 17)]) (by decide +kernel))
  refine lv_aload_n hx hb dL_arrears_0 rfl (lv_at hl 0 rfl) ?_
  refine lv_iload_n hx hb dL_arrears_1 rfl (lv_at hl 1 rfl) ?_
  refine lv_iload_n hx hb dL_arrears_2 rfl (lv_at hl 2 rfl) ?_
  refine vx_calli (vx_runV (As := [.int x, .int y]) (rest := []) ⟨hx, hb, hml, hown, hts⟩ (c_X3_setArrears l hst D cs A z0 sa ad g L B n b y1 y2 N1 N2 nd gv hn hb5 hN1 hN2 x y) (cwV 2 hts gL_arrears_X3_setArrears rfl rfl rfl (by decide +kernel) ⟨Nat.le_of_ble_eq_true rfl, Nat.le_of_ble_eq_true rfl⟩) ⟨pC_fb, wb_recv hK hW (r := 0) (lvC_0 (by decide)) (ci := 4) rfl rfl, fun U hU hV => ⟨rfl, hE.at (A' := fun _ => False) (fun _ h => h.elim) va_S.rf hV hU, by rw [hU]; exact hW⟩⟩ rfl rfl hl.1 rfl (lv_room (Nat.le_of_ble_eq_true rfl)) dL_arrears_3 ⟨Nat.le_of_ble_eq_true rfl, Nat.le_of_ble_eq_true rfl⟩) hS (fun _ _ h => h) (fun _ h => h) (fun _ _ h => h) (fun E9 ce9 q9 u9 t9 H9 locs9 ht9 hvm9 hpx9 hbx9 hz9 hk9 hS9 hc9 hv9 hl9 => ?_) (fun r_9 u t9 H locs ht hvm hw hB hz1 hk1 hS => ?_)
  · obtain ⟨hx9, hW9⟩ := hbx9
    rcases hx9 with ⟨hk9, rfl⟩ | ⟨hk9, rfl⟩ | ⟨hk9, rfl⟩
    ·
      exact absurd (hk9.symm.trans hk) (by decide)
    ·
      exact absurd (hk9.symm.trans hk) (by decide)
    ·
      exact absurd (hk9.symm.trans hk) (by decide)
  ·
    rw [ht] at hB
    have hR9 : RC D cs A z0 (ad 0) g (updL L 4 (ixN x) y) B n b H := hB
    obtain rfl : r_9 = L 4 (ixN x) := hw.2
    refine W.widen (k := 1) (n := 6) (Nat.le_of_ble_eq_true rfl) (Nat.le_of_ble_eq_true rfl) ?_
    exact vx_ret (W.iret (v := L 4 (ixN x)) hx hb hr (fun t8 ht8 hW8 => ⟨⟨_, (), rfl, rfl, by dsimp only; rw [ht8]; exact hR9⟩, hS.F ht8⟩) hS.2.2 dL_arrears_6)

set_option maxHeartbeats 4000000 in
set_option maxRecDepth 100000 in
theorem c_L_arrears_3 (l : Launch) (hst : l.stackTraces = false) (D : va_G) (cs : Nat → ClassId) (A : Nat → Prop) (z0 : Nat) (sa : Nat → Nat) (o : Nat) (g : Nat → Int32) (L B : Nat → Nat → Int32) (n b : Nat) (hn : n ≤ 12) (hb5 : b ≤ 5) (x : Int32) (y : Int32)  (hk : kArr L n x y = 3) : vx_Met l yL_arrears wsL_arrears ({ frames := 9, cells := 1, slots := 6, locals := 146 } : Room) (va_Pc [.ref o, .int x, .int y] (pR D cs A z0 sa o g L B n b)) (va_Qi (fun (r9 : Int32) (_ : Unit) => r9 = (-103)) (fun _ t9 => RC D cs A z0 o g L B n b t9.heap) A) (vx_X (fun (_ : Unit) => False) (fun _ _ _ => True) (fun _ => False)) 1 6 A := by
  refine vx_ofWH (cc := cL_arrears) (maxL := 4) (ret := (some .int)) (hh := [(0, 6, 7, 23), (0, 6, 11, 15), (0, 6, 15, 17)]) (by decide) rfl ?_
  intro p e s m args below meth c s₁ BB hml hv
  obtain ⟨rfl, hv⟩ := hv
  obtain ⟨hE, hR, hc1, hc2, hc3⟩ := hv
  obtain ⟨ad, y1, y2, N1, N2, nd, gv, ho, hN1, hN2, hW⟩ := hR
  subst ho
  have hK := hE.1
  have hx := BB.exec
  have hb := BB.bytes
  have hr := BB.returns
  have hts := atoms_spec (ws := wsL_arrears) BB.pre
  have hown : s.vm.findClass RL = some m.cls := findClass_of_methodNamed BB.named
  have hlocks := BB.notSynchronized
  have hS : va_S A s.heap s.heap [] := va_S.rf
  have hl := lv_entry ([.ref (ad 0), .int x, .int y]) (n := 4) (Nat.le_of_ble_eq_true rfl)
  rw [lg_entry_eq]
  generalize (lg_sl ([.ref (ad 0), .int x, .int y]) ++ List.replicate (4 - (lg_sl ([.ref (ad 0), .int x, .int y])).length) Slot.unset).toArray = ls at hl ⊢
  have hl : lv_has ls 4 [(0, .ref (ad 0)), (1, .int x), (2, .int y)] := hl
  have htb := vx_table (x := yL_arrears) BB (hts (.codeWith yL_arrears cL_arrears 4 (some .int) [(0, 6, 7, 23), (0, 6, 11, 15), (0, 6, 15, 17)]) (by decide +kernel))
  refine lv_aload_n hx hb dL_arrears_0 rfl (lv_at hl 0 rfl) ?_
  refine lv_iload_n hx hb dL_arrears_1 rfl (lv_at hl 1 rfl) ?_
  refine lv_iload_n hx hb dL_arrears_2 rfl (lv_at hl 2 rfl) ?_
  refine vx_calli (vx_runV (As := [.int x, .int y]) (rest := []) ⟨hx, hb, hml, hown, hts⟩ (c_X3_setArrears l hst D cs A z0 sa ad g L B n b y1 y2 N1 N2 nd gv hn hb5 hN1 hN2 x y) (cwV 2 hts gL_arrears_X3_setArrears rfl rfl rfl (by decide +kernel) ⟨Nat.le_of_ble_eq_true rfl, Nat.le_of_ble_eq_true rfl⟩) ⟨pC_fb, wb_recv hK hW (r := 0) (lvC_0 (by decide)) (ci := 4) rfl rfl, fun U hU hV => ⟨rfl, hE.at (A' := fun _ => False) (fun _ h => h.elim) va_S.rf hV hU, by rw [hU]; exact hW⟩⟩ rfl rfl hl.1 rfl (lv_room (Nat.le_of_ble_eq_true rfl)) dL_arrears_3 ⟨Nat.le_of_ble_eq_true rfl, Nat.le_of_ble_eq_true rfl⟩) hS (fun _ _ h => h) (fun _ h => h) (fun _ _ h => h) (fun E9 ce9 q9 u9 t9 H9 locs9 ht9 hvm9 hpx9 hbx9 hz9 hk9 hS9 hc9 hv9 hl9 => ?_) (fun r_9 u t9 H locs ht hvm hw hB hz1 hk1 hS => ?_)
  · obtain ⟨hx9, hW9⟩ := hbx9
    rcases hx9 with ⟨hk9, rfl⟩ | ⟨hk9, rfl⟩ | ⟨hk9, rfl⟩
    ·
      exact absurd (hk9.symm.trans hk) (by decide)
    ·
      exact absurd (hk9.symm.trans hk) (by decide)
    ·
      rw [ht9] at hW9
      have hR9 : RC D cs A z0 (ad 0) g L B n b H9 := ⟨ad, y1, y2, N1, N2, nd, gv, rfl, hN1, hN2, hW9⟩
      refine vx_catch (name := "java/lang/IllegalStateException") hown (tableOf [(0, 6, 7, 23), (0, 6, 11, 15)]) ⟨0, 6, 15, 17⟩ (tableOf []) htb (fun z hz => by rcases List.mem_cons.mp hz with rfl | hz; exact Or.inr ⟨by decide, "java/lang/IndexOutOfBoundsException", hts (.classLink RL 23 "java/lang/IndexOutOfBoundsException") (by decide +kernel), hc2⟩; cases List.mem_singleton.mp hz; exact Or.inr ⟨by decide, "java/lang/IllegalArgumentException", hts (.classLink RL 15 "java/lang/IllegalArgumentException") (by decide +kernel), hc1⟩) rfl (by decide) (hts (.classLink RL 17 "java/lang/IllegalStateException") (by decide +kernel)) (va_Nw.use rfl (hE.2.2.2.2.2.2.2.1 (.castable "java/lang/IllegalStateException" "java/lang/IllegalStateException") (by decide))) hc9 hv9 hl9 ?_
      refine lv_astore_n (lv' := [(3, .ref q9), (0, .ref (ad 0)), (1, .int x), (2, .int y)]) hx hb dL_arrears_15 rfl hl (by decide) rfl (fun ls hl => ?_)
      refine lv_bipush (v := (-103)) hx hb dL_arrears_16 (by decide) ?_
      refine W.widen (k := 1) (n := 6) (Nat.le_of_ble_eq_true rfl) (Nat.le_of_ble_eq_true rfl) ?_
      exact vx_ret (W.iret (v := (-103)) hx hb hr (fun t8 ht8 hW8 => ⟨⟨_, (), rfl, rfl, by dsimp only; rw [ht8]; exact hR9⟩, hS9.F ht8⟩) hS9.2.2 dL_arrears_18)
  ·
    exact absurd (hw.1.symm.trans hk) (by decide)

set_option maxHeartbeats 4000000 in
set_option maxRecDepth 100000 in
theorem c_L_setWorth_0 (l : Launch) (hst : l.stackTraces = false) (D : va_G) (cs : Nat → ClassId) (A : Nat → Prop) (z0 : Nat) (sa : Nat → Nat) (o : Nat) (g : Nat → Int32) (L B : Nat → Nat → Int32) (n b : Nat) (hn : n ≤ 12) (hb5 : b ≤ 5) (x : Int32) (y : Int32)  (hk : kWorth n x y = 0) : vx_Met l yL_setWorth wsL_setWorth ({ frames := 9, cells := 1, slots := 6, locals := 146 } : Room) (va_Pc [.ref o, .int x, .int y] (pR D cs A z0 sa o g L B n b)) (va_Qi (fun (r9 : Int32) (_ : Unit) => r9 = L 1 (ixN x)) (fun _ t9 => RC D cs A z0 o g (updL L 1 (ixN x) y) B n b t9.heap) A) (vx_X (fun (_ : Unit) => False) (fun _ _ _ => True) (fun _ => False)) 1 6 A := by
  refine vx_ofWH (cc := cL_setWorth) (maxL := 4) (ret := (some .int)) (hh := [(0, 6, 7, 23), (0, 6, 11, 15)]) (by decide) rfl ?_
  intro p e s m args below meth c s₁ BB hml hv
  obtain ⟨rfl, hv⟩ := hv
  obtain ⟨hE, hR, hc1, hc2, hc3⟩ := hv
  obtain ⟨ad, y1, y2, N1, N2, nd, gv, ho, hN1, hN2, hW⟩ := hR
  subst ho
  have hK := hE.1
  have hx := BB.exec
  have hb := BB.bytes
  have hr := BB.returns
  have hts := atoms_spec (ws := wsL_setWorth) BB.pre
  have hown : s.vm.findClass RL = some m.cls := findClass_of_methodNamed BB.named
  have hlocks := BB.notSynchronized
  have hS : va_S A s.heap s.heap [] := va_S.rf
  have hl := lv_entry ([.ref (ad 0), .int x, .int y]) (n := 4) (Nat.le_of_ble_eq_true rfl)
  rw [lg_entry_eq]
  generalize (lg_sl ([.ref (ad 0), .int x, .int y]) ++ List.replicate (4 - (lg_sl ([.ref (ad 0), .int x, .int y])).length) Slot.unset).toArray = ls at hl ⊢
  have hl : lv_has ls 4 [(0, .ref (ad 0)), (1, .int x), (2, .int y)] := hl
  have htb := vx_table (x := yL_setWorth) BB (hts (.codeWith yL_setWorth cL_setWorth 4 (some .int) [(0, 6, 7, 23), (0, 6, 11, 15)]) (by decide +kernel))
  refine lv_aload_n hx hb dL_setWorth_0 rfl (lv_at hl 0 rfl) ?_
  refine lv_iload_n hx hb dL_setWorth_1 rfl (lv_at hl 1 rfl) ?_
  refine lv_iload_n hx hb dL_setWorth_2 rfl (lv_at hl 2 rfl) ?_
  refine vx_calli (vx_runV (As := [.int x, .int y]) (rest := []) ⟨hx, hb, hml, hown, hts⟩ (c_X3_setWorth l hst D cs A z0 sa ad g L B n b y1 y2 N1 N2 nd gv hn hb5 hN1 hN2 x y) (cwV 2 hts gL_setWorth_X3_setWorth rfl rfl rfl (by decide +kernel) ⟨Nat.le_of_ble_eq_true rfl, Nat.le_of_ble_eq_true rfl⟩) ⟨pC_fb, wb_recv hK hW (r := 0) (lvC_0 (by decide)) (ci := 4) rfl rfl, fun U hU hV => ⟨rfl, hE.at (A' := fun _ => False) (fun _ h => h.elim) va_S.rf hV hU, by rw [hU]; exact hW⟩⟩ rfl rfl hl.1 rfl (lv_room (Nat.le_of_ble_eq_true rfl)) dL_setWorth_3 ⟨Nat.le_of_ble_eq_true rfl, Nat.le_of_ble_eq_true rfl⟩) hS (fun _ _ h => h) (fun _ h => h) (fun _ _ h => h) (fun E9 ce9 q9 u9 t9 H9 locs9 ht9 hvm9 hpx9 hbx9 hz9 hk9 hS9 hc9 hv9 hl9 => ?_) (fun r_9 u t9 H locs ht hvm hw hB hz1 hk1 hS => ?_)
  · obtain ⟨hx9, hW9⟩ := hbx9
    rcases hx9 with ⟨hk9, rfl⟩ | ⟨hk9, rfl⟩
    ·
      exact absurd (hk9.symm.trans hk) (by decide)
    ·
      exact absurd (hk9.symm.trans hk) (by decide)
  ·
    rw [ht] at hB
    have hR9 : RC D cs A z0 (ad 0) g (updL L 1 (ixN x) y) B n b H := hB
    obtain rfl : r_9 = L 1 (ixN x) := hw.2
    refine W.widen (k := 1) (n := 6) (Nat.le_of_ble_eq_true rfl) (Nat.le_of_ble_eq_true rfl) ?_
    exact vx_ret (W.iret (v := L 1 (ixN x)) hx hb hr (fun t8 ht8 hW8 => ⟨⟨_, (), rfl, rfl, by dsimp only; rw [ht8]; exact hR9⟩, hS.F ht8⟩) hS.2.2 dL_setWorth_6)

set_option maxHeartbeats 4000000 in
set_option maxRecDepth 100000 in
theorem c_L_state_0 (l : Launch) (hst : l.stackTraces = false) (D : va_G) (cs : Nat → ClassId) (A : Nat → Prop) (z0 : Nat) (sa : Nat → Nat) (o : Nat) (g : Nat → Int32) (L B : Nat → Nat → Int32) (n b : Nat) (hn : n ≤ 12) (hb5 : b ≤ 5) (x : Int32)  (hk : kIx n x = 0) : vx_Met l yL_state wsL_state ({ frames := 9, cells := 1, slots := 6, locals := 142 } : Room) (va_Pc [.ref o, .int x] (pR D cs A z0 sa o g L B n b)) (va_Qi (fun (r9 : Int32) (_ : Unit) => r9 = L 5 (ixN x)) (fun _ t9 => RC D cs A z0 o g L B n b t9.heap) A) (vx_X (fun (_ : Unit) => False) (fun _ _ _ => True) (fun _ => False)) 1 6 A := by
  refine vx_ofWH (cc := cL_state) (maxL := 3) (ret := (some .int)) (hh := [(0, 5, 6, 23)]) (by decide) rfl ?_
  intro p e s m args below meth c s₁ BB hml hv
  obtain ⟨rfl, hv⟩ := hv
  obtain ⟨hE, hR, hc1, hc2, hc3⟩ := hv
  obtain ⟨ad, y1, y2, N1, N2, nd, gv, ho, hN1, hN2, hW⟩ := hR
  subst ho
  have hK := hE.1
  have hx := BB.exec
  have hb := BB.bytes
  have hr := BB.returns
  have hts := atoms_spec (ws := wsL_state) BB.pre
  have hown : s.vm.findClass RL = some m.cls := findClass_of_methodNamed BB.named
  have hlocks := BB.notSynchronized
  have hS : va_S A s.heap s.heap [] := va_S.rf
  have hl := lv_entry ([.ref (ad 0), .int x]) (n := 3) (Nat.le_of_ble_eq_true rfl)
  rw [lg_entry_eq]
  generalize (lg_sl ([.ref (ad 0), .int x]) ++ List.replicate (3 - (lg_sl ([.ref (ad 0), .int x])).length) Slot.unset).toArray = ls at hl ⊢
  have hl : lv_has ls 3 [(0, .ref (ad 0)), (1, .int x)] := hl
  have htb := vx_table (x := yL_state) BB (hts (.codeWith yL_state cL_state 3 (some .int) [(0, 5, 6, 23)]) (by decide +kernel))
  refine lv_aload_n hx hb dL_state_0 rfl (lv_at hl 0 rfl) ?_
  refine lv_iload_n hx hb dL_state_1 rfl (lv_at hl 1 rfl) ?_
  refine vx_calli (vx_runV (As := [.int x]) (rest := []) ⟨hx, hb, hml, hown, hts⟩ (c_X3_stateOf l hst D cs A z0 sa ad g L B n b y1 y2 N1 N2 nd gv hn hb5 hN1 hN2 x) (cwV 1 hts gL_state_X3_stateOf rfl rfl rfl (by decide +kernel) ⟨Nat.le_of_ble_eq_true rfl, Nat.le_of_ble_eq_true rfl⟩) ⟨pC_fb, wb_recv hK hW (r := 0) (lvC_0 (by decide)) (ci := 4) rfl rfl, fun U hU hV => ⟨rfl, hE.at (A' := fun _ => False) (fun _ h => h.elim) va_S.rf hV hU, by rw [hU]; exact hW⟩⟩ rfl rfl hl.1 rfl (lv_room (Nat.le_of_ble_eq_true rfl)) dL_state_2 ⟨Nat.le_of_ble_eq_true rfl, Nat.le_of_ble_eq_true rfl⟩) hS (fun _ _ h => h) (fun _ h => h) (fun _ _ h => h) (fun E9 ce9 q9 u9 t9 H9 locs9 ht9 hvm9 hpx9 hbx9 hz9 hk9 hS9 hc9 hv9 hl9 => ?_) (fun r_9 u t9 H locs ht hvm hw hB hz1 hk1 hS => ?_)
  · obtain ⟨hx9, hW9⟩ := hbx9
    obtain ⟨hk9, rfl⟩ := hx9
    ·
      exact absurd (hk9.symm.trans hk) (by decide)
  ·
    rw [ht] at hB
    have hR9 : RC D cs A z0 (ad 0) g L B n b H := hB
    obtain rfl : r_9 = L 5 (ixN x) := hw.2
    refine W.widen (k := 1) (n := 6) (Nat.le_of_ble_eq_true rfl) (Nat.le_of_ble_eq_true rfl) ?_
    exact vx_ret (W.iret (v := L 5 (ixN x)) hx hb hr (fun t8 ht8 hW8 => ⟨⟨_, (), rfl, rfl, by dsimp only; rw [ht8]; exact hR9⟩, hS.F ht8⟩) hS.2.2 dL_state_5)

set_option maxHeartbeats 4000000 in
set_option maxRecDepth 100000 in
theorem c_L_counts_0 (l : Launch) (hst : l.stackTraces = false) (D : va_G) (cs : Nat → ClassId) (A : Nat → Prop) (z0 : Nat) (sa : Nat → Nat) (o : Nat) (g : Nat → Int32) (L B : Nat → Nat → Int32) (n b : Nat) (hn : n ≤ 12) (hb5 : b ≤ 5) (x : Int32)  (hk : kIx n x = 0) : vx_Met l yL_counts wsL_counts ({ frames := 9, cells := 1, slots := 6, locals := 142 } : Room) (va_Pc [.ref o, .int x] (pR D cs A z0 sa o g L B n b)) (va_Qi (fun (r9 : Int32) (_ : Unit) => r9 = mCount g L (ixN x)) (fun _ t9 => RC D cs A z0 o g L B n b t9.heap) A) (vx_X (fun (_ : Unit) => False) (fun _ _ _ => True) (fun _ => False)) 1 6 A := by
  refine vx_ofWH (cc := cL_counts) (maxL := 3) (ret := (some .int)) (hh := [(0, 5, 6, 23)]) (by decide) rfl ?_
  intro p e s m args below meth c s₁ BB hml hv
  obtain ⟨rfl, hv⟩ := hv
  obtain ⟨hE, hR, hc1, hc2, hc3⟩ := hv
  obtain ⟨ad, y1, y2, N1, N2, nd, gv, ho, hN1, hN2, hW⟩ := hR
  subst ho
  have hK := hE.1
  have hx := BB.exec
  have hb := BB.bytes
  have hr := BB.returns
  have hts := atoms_spec (ws := wsL_counts) BB.pre
  have hown : s.vm.findClass RL = some m.cls := findClass_of_methodNamed BB.named
  have hlocks := BB.notSynchronized
  have hS : va_S A s.heap s.heap [] := va_S.rf
  have hl := lv_entry ([.ref (ad 0), .int x]) (n := 3) (Nat.le_of_ble_eq_true rfl)
  rw [lg_entry_eq]
  generalize (lg_sl ([.ref (ad 0), .int x]) ++ List.replicate (3 - (lg_sl ([.ref (ad 0), .int x])).length) Slot.unset).toArray = ls at hl ⊢
  have hl : lv_has ls 3 [(0, .ref (ad 0)), (1, .int x)] := hl
  have htb := vx_table (x := yL_counts) BB (hts (.codeWith yL_counts cL_counts 3 (some .int) [(0, 5, 6, 23)]) (by decide +kernel))
  refine lv_aload_n hx hb dL_counts_0 rfl (lv_at hl 0 rfl) ?_
  refine lv_iload_n hx hb dL_counts_1 rfl (lv_at hl 1 rfl) ?_
  refine vx_calli (vx_runV (As := [.int x]) (rest := []) ⟨hx, hb, hml, hown, hts⟩ (c_X3_counts l hst D cs A z0 sa ad g L B n b y1 y2 N1 N2 nd gv hn hb5 hN1 hN2 x) (cwV 1 hts gL_counts_X3_counts rfl rfl rfl (by decide +kernel) ⟨Nat.le_of_ble_eq_true rfl, Nat.le_of_ble_eq_true rfl⟩) ⟨pC_fb, wb_recv hK hW (r := 0) (lvC_0 (by decide)) (ci := 4) rfl rfl, fun U hU hV => ⟨rfl, hE.at (A' := fun _ => False) (fun _ h => h.elim) va_S.rf hV hU, by rw [hU]; exact hW⟩⟩ rfl rfl hl.1 rfl (lv_room (Nat.le_of_ble_eq_true rfl)) dL_counts_2 ⟨Nat.le_of_ble_eq_true rfl, Nat.le_of_ble_eq_true rfl⟩) hS (fun _ _ h => h) (fun _ h => h) (fun _ _ h => h) (fun E9 ce9 q9 u9 t9 H9 locs9 ht9 hvm9 hpx9 hbx9 hz9 hk9 hS9 hc9 hv9 hl9 => ?_) (fun r_9 u t9 H locs ht hvm hw hB hz1 hk1 hS => ?_)
  · obtain ⟨hx9, hW9⟩ := hbx9
    obtain ⟨hk9, rfl⟩ := hx9
    ·
      exact absurd (hk9.symm.trans hk) (by decide)
  ·
    rw [ht] at hB
    have hR9 : RC D cs A z0 (ad 0) g L B n b H := hB
    obtain rfl : r_9 = mCount g L (ixN x) := hw.2
    refine W.widen (k := 1) (n := 6) (Nat.le_of_ble_eq_true rfl) (Nat.le_of_ble_eq_true rfl) ?_
    exact vx_ret (W.iret (v := mCount g L (ixN x)) hx hb hr (fun t8 ht8 hW8 => ⟨⟨_, (), rfl, rfl, by dsimp only; rw [ht8]; exact hR9⟩, hS.F ht8⟩) hS.2.2 dL_counts_5)

set_option maxHeartbeats 4000000 in
set_option maxRecDepth 100000 in
theorem c_L_addBond_0 (l : Launch) (hst : l.stackTraces = false) (D : va_G) (cs : Nat → ClassId) (A : Nat → Prop) (z0 : Nat) (sa : Nat → Nat) (o : Nat) (g : Nat → Int32) (L B : Nat → Nat → Int32) (n b : Nat) (hn : n ≤ 12) (hb5 : b ≤ 5) (x : Int32) (y : Int32) (hz : B 2 b = 0 ∧ B 3 b = 0) (hk : kAddBond g b x y = 0) : vx_Met l yL_addBond wsL_addBond ({ frames := 13, cells := 2, slots := 30, locals := 422 } : Room) (va_Pc [.ref o, .int x, .int y] (pR D cs A z0 sa o g L B n b)) (va_Qi (fun (r9 : Int32) (_ : Unit) => r9 = nI b) (fun _ t9 => RC D cs A z0 o (upd g 1 (g 1 + x)) L (addB B b x y) n (b + 1) t9.heap) A) (vx_X (fun (_ : Unit) => False) (fun _ _ _ => True) (fun _ => False)) 2 30 A := by
  refine vx_ofWH (cc := cL_addBond) (maxL := 4) (ret := (some .int)) (hh := [(0, 6, 7, 15), (0, 6, 11, 17)]) (by decide) rfl ?_
  intro p e s m args below meth c s₁ BB hml hv
  obtain ⟨rfl, hv⟩ := hv
  obtain ⟨hE, hR, hc1, hc2, hc3⟩ := hv
  obtain ⟨ad, y1, y2, N1, N2, nd, gv, ho, hN1, hN2, hW⟩ := hR
  subst ho
  have hK := hE.1
  have hx := BB.exec
  have hb := BB.bytes
  have hr := BB.returns
  have hts := atoms_spec (ws := wsL_addBond) BB.pre
  have hown : s.vm.findClass RL = some m.cls := findClass_of_methodNamed BB.named
  have hlocks := BB.notSynchronized
  have hS : va_S A s.heap s.heap [] := va_S.rf
  have hl := lv_entry ([.ref (ad 0), .int x, .int y]) (n := 4) (Nat.le_of_ble_eq_true rfl)
  rw [lg_entry_eq]
  generalize (lg_sl ([.ref (ad 0), .int x, .int y]) ++ List.replicate (4 - (lg_sl ([.ref (ad 0), .int x, .int y])).length) Slot.unset).toArray = ls at hl ⊢
  have hl : lv_has ls 4 [(0, .ref (ad 0)), (1, .int x), (2, .int y)] := hl
  have htb := vx_table (x := yL_addBond) BB (hts (.codeWith yL_addBond cL_addBond 4 (some .int) [(0, 6, 7, 15), (0, 6, 11, 17)]) (by decide +kernel))
  refine lv_aload_n hx hb dL_addBond_0 rfl (lv_at hl 0 rfl) ?_
  refine lv_iload_n hx hb dL_addBond_1 rfl (lv_at hl 1 rfl) ?_
  refine lv_iload_n hx hb dL_addBond_2 rfl (lv_at hl 2 rfl) ?_
  refine vx_calli (vx_runV (As := [.int x, .int y]) (rest := []) ⟨hx, hb, hml, hown, hts⟩ (c_X3_addBond l hst D cs A z0 sa ad g L B n b y1 y2 N1 N2 nd gv hn hb5 hN1 hN2 x y hz) (cwV 2 hts gL_addBond_X3_addBond rfl rfl rfl (by decide +kernel) ⟨Nat.le_of_ble_eq_true rfl, Nat.le_of_ble_eq_true rfl⟩) ⟨pC_fb, wb_recv hK hW (r := 0) (lvC_0 (by decide)) (ci := 4) rfl rfl, fun U hU hV => ⟨rfl, hE.at (A' := fun _ => False) (fun _ h => h.elim) va_S.rf hV hU, by rw [hU]; exact hW⟩⟩ rfl rfl hl.1 rfl (lv_room (Nat.le_of_ble_eq_true rfl)) dL_addBond_3 ⟨Nat.le_of_ble_eq_true rfl, Nat.le_of_ble_eq_true rfl⟩) hS (fun _ _ h => h) (fun _ h => h) (fun _ _ h => h) (fun E9 ce9 q9 u9 t9 H9 locs9 ht9 hvm9 hpx9 hbx9 hz9 hk9 hS9 hc9 hv9 hl9 => ?_) (fun r_9 u t9 H locs ht hvm hw hB hz1 hk1 hS => ?_)
  · obtain ⟨hx9, hW9⟩ := hbx9
    rcases hx9 with ⟨hk9, rfl⟩ | ⟨hk9, rfl⟩
    ·
      exact absurd (hk9.symm.trans hk) (by decide)
    ·
      exact absurd (hk9.symm.trans hk) (by decide)
  ·
    rw [ht] at hB
    have hR9 : RC D cs A z0 (ad 0) (upd g 1 (g 1 + x)) L (addB B b x y) n (b + 1) H := hB
    obtain rfl : r_9 = nI b := hw.2
    refine W.widen (k := 2) (n := 30) (Nat.le_of_ble_eq_true rfl) (Nat.le_of_ble_eq_true rfl) ?_
    exact vx_ret (W.iret (v := nI b) hx hb hr (fun t8 ht8 hW8 => ⟨⟨_, (), rfl, rfl, by dsimp only; rw [ht8]; exact hR9⟩, hS.F ht8⟩) hS.2.2 dL_addBond_6)

set_option maxHeartbeats 4000000 in
set_option maxRecDepth 100000 in
theorem c_L_addBond_1 (l : Launch) (hst : l.stackTraces = false) (D : va_G) (cs : Nat → ClassId) (A : Nat → Prop) (z0 : Nat) (sa : Nat → Nat) (o : Nat) (g : Nat → Int32) (L B : Nat → Nat → Int32) (n b : Nat) (hn : n ≤ 12) (hb5 : b ≤ 5) (x : Int32) (y : Int32) (hz : B 2 b = 0 ∧ B 3 b = 0) (hk : kAddBond g b x y = 1) : vx_Met l yL_addBond wsL_addBond ({ frames := 13, cells := 2, slots := 30, locals := 422 } : Room) (va_Pc [.ref o, .int x, .int y] (pR D cs A z0 sa o g L B n b)) (va_Qi (fun (r9 : Int32) (_ : Unit) => r9 = (-102)) (fun _ t9 => RC D cs A z0 o g L B n b t9.heap) A) (vx_X (fun (_ : Unit) => False) (fun _ _ _ => True) (fun _ => False)) 2 30 A := by
  refine vx_ofWH (cc := cL_addBond) (maxL := 4) (ret := (some .int)) (hh := [(0, 6, 7, 15), (0, 6, 11, 17)]) (by decide) rfl ?_
  intro p e s m args below meth c s₁ BB hml hv
  obtain ⟨rfl, hv⟩ := hv
  obtain ⟨hE, hR, hc1, hc2, hc3⟩ := hv
  obtain ⟨ad, y1, y2, N1, N2, nd, gv, ho, hN1, hN2, hW⟩ := hR
  subst ho
  have hK := hE.1
  have hx := BB.exec
  have hb := BB.bytes
  have hr := BB.returns
  have hts := atoms_spec (ws := wsL_addBond) BB.pre
  have hown : s.vm.findClass RL = some m.cls := findClass_of_methodNamed BB.named
  have hlocks := BB.notSynchronized
  have hS : va_S A s.heap s.heap [] := va_S.rf
  have hl := lv_entry ([.ref (ad 0), .int x, .int y]) (n := 4) (Nat.le_of_ble_eq_true rfl)
  rw [lg_entry_eq]
  generalize (lg_sl ([.ref (ad 0), .int x, .int y]) ++ List.replicate (4 - (lg_sl ([.ref (ad 0), .int x, .int y])).length) Slot.unset).toArray = ls at hl ⊢
  have hl : lv_has ls 4 [(0, .ref (ad 0)), (1, .int x), (2, .int y)] := hl
  have htb := vx_table (x := yL_addBond) BB (hts (.codeWith yL_addBond cL_addBond 4 (some .int) [(0, 6, 7, 15), (0, 6, 11, 17)]) (by decide +kernel))
  refine lv_aload_n hx hb dL_addBond_0 rfl (lv_at hl 0 rfl) ?_
  refine lv_iload_n hx hb dL_addBond_1 rfl (lv_at hl 1 rfl) ?_
  refine lv_iload_n hx hb dL_addBond_2 rfl (lv_at hl 2 rfl) ?_
  refine vx_calli (vx_runV (As := [.int x, .int y]) (rest := []) ⟨hx, hb, hml, hown, hts⟩ (c_X3_addBond l hst D cs A z0 sa ad g L B n b y1 y2 N1 N2 nd gv hn hb5 hN1 hN2 x y hz) (cwV 2 hts gL_addBond_X3_addBond rfl rfl rfl (by decide +kernel) ⟨Nat.le_of_ble_eq_true rfl, Nat.le_of_ble_eq_true rfl⟩) ⟨pC_fb, wb_recv hK hW (r := 0) (lvC_0 (by decide)) (ci := 4) rfl rfl, fun U hU hV => ⟨rfl, hE.at (A' := fun _ => False) (fun _ h => h.elim) va_S.rf hV hU, by rw [hU]; exact hW⟩⟩ rfl rfl hl.1 rfl (lv_room (Nat.le_of_ble_eq_true rfl)) dL_addBond_3 ⟨Nat.le_of_ble_eq_true rfl, Nat.le_of_ble_eq_true rfl⟩) hS (fun _ _ h => h) (fun _ h => h) (fun _ _ h => h) (fun E9 ce9 q9 u9 t9 H9 locs9 ht9 hvm9 hpx9 hbx9 hz9 hk9 hS9 hc9 hv9 hl9 => ?_) (fun r_9 u t9 H locs ht hvm hw hB hz1 hk1 hS => ?_)
  · obtain ⟨hx9, hW9⟩ := hbx9
    rcases hx9 with ⟨hk9, rfl⟩ | ⟨hk9, rfl⟩
    ·
      rw [ht9] at hW9
      have hR9 : RC D cs A z0 (ad 0) g L B n b H9 := ⟨ad, y1, y2, N1, N2, nd, gv, rfl, hN1, hN2, hW9⟩
      refine vx_catch (name := "java/lang/IllegalArgumentException") hown (tableOf []) ⟨0, 6, 7, 15⟩ (tableOf [(0, 6, 11, 17)]) htb (fun z hz => absurd hz List.not_mem_nil) rfl (by decide) (hts (.classLink RL 15 "java/lang/IllegalArgumentException") (by decide +kernel)) (va_Nw.use rfl (hE.2.2.2.2.2.2.2.1 (.castable "java/lang/IllegalArgumentException" "java/lang/IllegalArgumentException") (by decide))) hc9 hv9 hl9 ?_
      refine lv_astore_n (lv' := [(3, .ref q9), (0, .ref (ad 0)), (1, .int x), (2, .int y)]) hx hb dL_addBond_7 rfl hl (by decide) rfl (fun ls hl => ?_)
      refine lv_bipush (v := (-102)) hx hb dL_addBond_8 (by decide) ?_
      refine W.widen (k := 2) (n := 30) (Nat.le_of_ble_eq_true rfl) (Nat.le_of_ble_eq_true rfl) ?_
      exact vx_ret (W.iret (v := (-102)) hx hb hr (fun t8 ht8 hW8 => ⟨⟨_, (), rfl, rfl, by dsimp only; rw [ht8]; exact hR9⟩, hS9.F ht8⟩) hS9.2.2 dL_addBond_10)
    ·
      exact absurd (hk9.symm.trans hk) (by decide)
  ·
    exact absurd (hw.1.symm.trans hk) (by decide)

set_option maxHeartbeats 4000000 in
set_option maxRecDepth 100000 in
theorem c_L_addBond_2 (l : Launch) (hst : l.stackTraces = false) (D : va_G) (cs : Nat → ClassId) (A : Nat → Prop) (z0 : Nat) (sa : Nat → Nat) (o : Nat) (g : Nat → Int32) (L B : Nat → Nat → Int32) (n b : Nat) (hn : n ≤ 12) (hb5 : b ≤ 5) (x : Int32) (y : Int32) (hz : B 2 b = 0 ∧ B 3 b = 0) (hk : kAddBond g b x y = 2) : vx_Met l yL_addBond wsL_addBond ({ frames := 13, cells := 2, slots := 30, locals := 422 } : Room) (va_Pc [.ref o, .int x, .int y] (pR D cs A z0 sa o g L B n b)) (va_Qi (fun (r9 : Int32) (_ : Unit) => r9 = (-103)) (fun _ t9 => RC D cs A z0 o g L B n b t9.heap) A) (vx_X (fun (_ : Unit) => False) (fun _ _ _ => True) (fun _ => False)) 2 30 A := by
  refine vx_ofWH (cc := cL_addBond) (maxL := 4) (ret := (some .int)) (hh := [(0, 6, 7, 15), (0, 6, 11, 17)]) (by decide) rfl ?_
  intro p e s m args below meth c s₁ BB hml hv
  obtain ⟨rfl, hv⟩ := hv
  obtain ⟨hE, hR, hc1, hc2, hc3⟩ := hv
  obtain ⟨ad, y1, y2, N1, N2, nd, gv, ho, hN1, hN2, hW⟩ := hR
  subst ho
  have hK := hE.1
  have hx := BB.exec
  have hb := BB.bytes
  have hr := BB.returns
  have hts := atoms_spec (ws := wsL_addBond) BB.pre
  have hown : s.vm.findClass RL = some m.cls := findClass_of_methodNamed BB.named
  have hlocks := BB.notSynchronized
  have hS : va_S A s.heap s.heap [] := va_S.rf
  have hl := lv_entry ([.ref (ad 0), .int x, .int y]) (n := 4) (Nat.le_of_ble_eq_true rfl)
  rw [lg_entry_eq]
  generalize (lg_sl ([.ref (ad 0), .int x, .int y]) ++ List.replicate (4 - (lg_sl ([.ref (ad 0), .int x, .int y])).length) Slot.unset).toArray = ls at hl ⊢
  have hl : lv_has ls 4 [(0, .ref (ad 0)), (1, .int x), (2, .int y)] := hl
  have htb := vx_table (x := yL_addBond) BB (hts (.codeWith yL_addBond cL_addBond 4 (some .int) [(0, 6, 7, 15), (0, 6, 11, 17)]) (by decide +kernel))
  refine lv_aload_n hx hb dL_addBond_0 rfl (lv_at hl 0 rfl) ?_
  refine lv_iload_n hx hb dL_addBond_1 rfl (lv_at hl 1 rfl) ?_
  refine lv_iload_n hx hb dL_addBond_2 rfl (lv_at hl 2 rfl) ?_
  refine vx_calli (vx_runV (As := [.int x, .int y]) (rest := []) ⟨hx, hb, hml, hown, hts⟩ (c_X3_addBond l hst D cs A z0 sa ad g L B n b y1 y2 N1 N2 nd gv hn hb5 hN1 hN2 x y hz) (cwV 2 hts gL_addBond_X3_addBond rfl rfl rfl (by decide +kernel) ⟨Nat.le_of_ble_eq_true rfl, Nat.le_of_ble_eq_true rfl⟩) ⟨pC_fb, wb_recv hK hW (r := 0) (lvC_0 (by decide)) (ci := 4) rfl rfl, fun U hU hV => ⟨rfl, hE.at (A' := fun _ => False) (fun _ h => h.elim) va_S.rf hV hU, by rw [hU]; exact hW⟩⟩ rfl rfl hl.1 rfl (lv_room (Nat.le_of_ble_eq_true rfl)) dL_addBond_3 ⟨Nat.le_of_ble_eq_true rfl, Nat.le_of_ble_eq_true rfl⟩) hS (fun _ _ h => h) (fun _ h => h) (fun _ _ h => h) (fun E9 ce9 q9 u9 t9 H9 locs9 ht9 hvm9 hpx9 hbx9 hz9 hk9 hS9 hc9 hv9 hl9 => ?_) (fun r_9 u t9 H locs ht hvm hw hB hz1 hk1 hS => ?_)
  · obtain ⟨hx9, hW9⟩ := hbx9
    rcases hx9 with ⟨hk9, rfl⟩ | ⟨hk9, rfl⟩
    ·
      exact absurd (hk9.symm.trans hk) (by decide)
    ·
      rw [ht9] at hW9
      have hR9 : RC D cs A z0 (ad 0) g L B n b H9 := ⟨ad, y1, y2, N1, N2, nd, gv, rfl, hN1, hN2, hW9⟩
      refine vx_catch (name := "java/lang/IllegalStateException") hown (tableOf [(0, 6, 7, 15)]) ⟨0, 6, 11, 17⟩ (tableOf []) htb (fun z hz => by cases List.mem_singleton.mp hz; exact Or.inr ⟨by decide, "java/lang/IllegalArgumentException", hts (.classLink RL 15 "java/lang/IllegalArgumentException") (by decide +kernel), hc1⟩) rfl (by decide) (hts (.classLink RL 17 "java/lang/IllegalStateException") (by decide +kernel)) (va_Nw.use rfl (hE.2.2.2.2.2.2.2.1 (.castable "java/lang/IllegalStateException" "java/lang/IllegalStateException") (by decide))) hc9 hv9 hl9 ?_
      refine lv_astore_n (lv' := [(3, .ref q9), (0, .ref (ad 0)), (1, .int x), (2, .int y)]) hx hb dL_addBond_11 rfl hl (by decide) rfl (fun ls hl => ?_)
      refine lv_bipush (v := (-103)) hx hb dL_addBond_12 (by decide) ?_
      refine W.widen (k := 2) (n := 30) (Nat.le_of_ble_eq_true rfl) (Nat.le_of_ble_eq_true rfl) ?_
      exact vx_ret (W.iret (v := (-103)) hx hb hr (fun t8 ht8 hW8 => ⟨⟨_, (), rfl, rfl, by dsimp only; rw [ht8]; exact hR9⟩, hS9.F ht8⟩) hS9.2.2 dL_addBond_14)
  ·
    exact absurd (hw.1.symm.trans hk) (by decide)

set_option maxHeartbeats 4000000 in
set_option maxRecDepth 100000 in
theorem c_L_take_0 (l : Launch) (hst : l.stackTraces = false) (D : va_G) (cs : Nat → ClassId) (A : Nat → Prop) (z0 : Nat) (sa : Nat → Nat) (o : Nat) (g : Nat → Int32) (L B : Nat → Nat → Int32) (n b : Nat) (hn : n ≤ 12) (hb5 : b ≤ 5) (x : Int32)  (hk : kTake g x = 0) : vx_Met l yL_take wsL_take ({ frames := 9, cells := 1, slots := 6, locals := 143 } : Room) (va_Pc [.ref o, .int x] (pR D cs A z0 sa o g L B n b)) (va_Qi (fun (r9 : Int32) (_ : Unit) => r9 = g 1 - x) (fun _ t9 => RC D cs A z0 o (upd g 1 (g 1 - x)) L B n b t9.heap) A) (vx_X (fun (_ : Unit) => False) (fun _ _ _ => True) (fun _ => False)) 1 6 A := by
  refine vx_ofWH (cc := cL_take) (maxL := 3) (ret := (some .int)) (hh := [(0, 5, 6, 15), (0, 5, 10, 17)]) (by decide) rfl ?_
  intro p e s m args below meth c s₁ BB hml hv
  obtain ⟨rfl, hv⟩ := hv
  obtain ⟨hE, hR, hc1, hc2, hc3⟩ := hv
  obtain ⟨ad, y1, y2, N1, N2, nd, gv, ho, hN1, hN2, hW⟩ := hR
  subst ho
  have hK := hE.1
  have hx := BB.exec
  have hb := BB.bytes
  have hr := BB.returns
  have hts := atoms_spec (ws := wsL_take) BB.pre
  have hown : s.vm.findClass RL = some m.cls := findClass_of_methodNamed BB.named
  have hlocks := BB.notSynchronized
  have hS : va_S A s.heap s.heap [] := va_S.rf
  have hl := lv_entry ([.ref (ad 0), .int x]) (n := 3) (Nat.le_of_ble_eq_true rfl)
  rw [lg_entry_eq]
  generalize (lg_sl ([.ref (ad 0), .int x]) ++ List.replicate (3 - (lg_sl ([.ref (ad 0), .int x])).length) Slot.unset).toArray = ls at hl ⊢
  have hl : lv_has ls 3 [(0, .ref (ad 0)), (1, .int x)] := hl
  have htb := vx_table (x := yL_take) BB (hts (.codeWith yL_take cL_take 3 (some .int) [(0, 5, 6, 15), (0, 5, 10, 17)]) (by decide +kernel))
  refine lv_aload_n hx hb dL_take_0 rfl (lv_at hl 0 rfl) ?_
  refine lv_iload_n hx hb dL_take_1 rfl (lv_at hl 1 rfl) ?_
  refine vx_calli (vx_runV (As := [.int x]) (rest := []) ⟨hx, hb, hml, hown, hts⟩ (c_X3_takeCash l hst D cs A z0 sa ad g L B n b y1 y2 N1 N2 nd gv hn hb5 hN1 hN2 x) (cwV 1 hts gL_take_X3_takeCash rfl rfl rfl (by decide +kernel) ⟨Nat.le_of_ble_eq_true rfl, Nat.le_of_ble_eq_true rfl⟩) ⟨pC_fb, wb_recv hK hW (r := 0) (lvC_0 (by decide)) (ci := 4) rfl rfl, fun U hU hV => ⟨rfl, hE.at (A' := fun _ => False) (fun _ h => h.elim) va_S.rf hV hU, by rw [hU]; exact hW⟩⟩ rfl rfl hl.1 rfl (lv_room (Nat.le_of_ble_eq_true rfl)) dL_take_2 ⟨Nat.le_of_ble_eq_true rfl, Nat.le_of_ble_eq_true rfl⟩) hS (fun _ _ h => h) (fun _ h => h) (fun _ _ h => h) (fun E9 ce9 q9 u9 t9 H9 locs9 ht9 hvm9 hpx9 hbx9 hz9 hk9 hS9 hc9 hv9 hl9 => ?_) (fun r_9 u t9 H locs ht hvm hw hB hz1 hk1 hS => ?_)
  · obtain ⟨hx9, hW9⟩ := hbx9
    rcases hx9 with ⟨hk9, rfl⟩ | ⟨hk9, rfl⟩
    ·
      exact absurd (hk9.symm.trans hk) (by decide)
    ·
      exact absurd (hk9.symm.trans hk) (by decide)
  ·
    rw [ht] at hB
    have hR9 : RC D cs A z0 (ad 0) (upd g 1 (g 1 - x)) L B n b H := hB
    obtain rfl : r_9 = g 1 - x := hw.2
    refine W.widen (k := 1) (n := 6) (Nat.le_of_ble_eq_true rfl) (Nat.le_of_ble_eq_true rfl) ?_
    exact vx_ret (W.iret (v := g 1 - x) hx hb hr (fun t8 ht8 hW8 => ⟨⟨_, (), rfl, rfl, by dsimp only; rw [ht8]; exact hR9⟩, hS.F ht8⟩) hS.2.2 dL_take_5)

set_option maxHeartbeats 4000000 in
set_option maxRecDepth 100000 in
theorem c_L_take_2 (l : Launch) (hst : l.stackTraces = false) (D : va_G) (cs : Nat → ClassId) (A : Nat → Prop) (z0 : Nat) (sa : Nat → Nat) (o : Nat) (g : Nat → Int32) (L B : Nat → Nat → Int32) (n b : Nat) (hn : n ≤ 12) (hb5 : b ≤ 5) (x : Int32)  (hk : kTake g x = 2) : vx_Met l yL_take wsL_take ({ frames := 9, cells := 1, slots := 6, locals := 143 } : Room) (va_Pc [.ref o, .int x] (pR D cs A z0 sa o g L B n b)) (va_Qi (fun (r9 : Int32) (_ : Unit) => r9 = (-103)) (fun _ t9 => RC D cs A z0 o g L B n b t9.heap) A) (vx_X (fun (_ : Unit) => False) (fun _ _ _ => True) (fun _ => False)) 1 6 A := by
  refine vx_ofWH (cc := cL_take) (maxL := 3) (ret := (some .int)) (hh := [(0, 5, 6, 15), (0, 5, 10, 17)]) (by decide) rfl ?_
  intro p e s m args below meth c s₁ BB hml hv
  obtain ⟨rfl, hv⟩ := hv
  obtain ⟨hE, hR, hc1, hc2, hc3⟩ := hv
  obtain ⟨ad, y1, y2, N1, N2, nd, gv, ho, hN1, hN2, hW⟩ := hR
  subst ho
  have hK := hE.1
  have hx := BB.exec
  have hb := BB.bytes
  have hr := BB.returns
  have hts := atoms_spec (ws := wsL_take) BB.pre
  have hown : s.vm.findClass RL = some m.cls := findClass_of_methodNamed BB.named
  have hlocks := BB.notSynchronized
  have hS : va_S A s.heap s.heap [] := va_S.rf
  have hl := lv_entry ([.ref (ad 0), .int x]) (n := 3) (Nat.le_of_ble_eq_true rfl)
  rw [lg_entry_eq]
  generalize (lg_sl ([.ref (ad 0), .int x]) ++ List.replicate (3 - (lg_sl ([.ref (ad 0), .int x])).length) Slot.unset).toArray = ls at hl ⊢
  have hl : lv_has ls 3 [(0, .ref (ad 0)), (1, .int x)] := hl
  have htb := vx_table (x := yL_take) BB (hts (.codeWith yL_take cL_take 3 (some .int) [(0, 5, 6, 15), (0, 5, 10, 17)]) (by decide +kernel))
  refine lv_aload_n hx hb dL_take_0 rfl (lv_at hl 0 rfl) ?_
  refine lv_iload_n hx hb dL_take_1 rfl (lv_at hl 1 rfl) ?_
  refine vx_calli (vx_runV (As := [.int x]) (rest := []) ⟨hx, hb, hml, hown, hts⟩ (c_X3_takeCash l hst D cs A z0 sa ad g L B n b y1 y2 N1 N2 nd gv hn hb5 hN1 hN2 x) (cwV 1 hts gL_take_X3_takeCash rfl rfl rfl (by decide +kernel) ⟨Nat.le_of_ble_eq_true rfl, Nat.le_of_ble_eq_true rfl⟩) ⟨pC_fb, wb_recv hK hW (r := 0) (lvC_0 (by decide)) (ci := 4) rfl rfl, fun U hU hV => ⟨rfl, hE.at (A' := fun _ => False) (fun _ h => h.elim) va_S.rf hV hU, by rw [hU]; exact hW⟩⟩ rfl rfl hl.1 rfl (lv_room (Nat.le_of_ble_eq_true rfl)) dL_take_2 ⟨Nat.le_of_ble_eq_true rfl, Nat.le_of_ble_eq_true rfl⟩) hS (fun _ _ h => h) (fun _ h => h) (fun _ _ h => h) (fun E9 ce9 q9 u9 t9 H9 locs9 ht9 hvm9 hpx9 hbx9 hz9 hk9 hS9 hc9 hv9 hl9 => ?_) (fun r_9 u t9 H locs ht hvm hw hB hz1 hk1 hS => ?_)
  · obtain ⟨hx9, hW9⟩ := hbx9
    rcases hx9 with ⟨hk9, rfl⟩ | ⟨hk9, rfl⟩
    ·
      exact absurd (hk9.symm.trans hk) (by decide)
    ·
      rw [ht9] at hW9
      have hR9 : RC D cs A z0 (ad 0) g L B n b H9 := ⟨ad, y1, y2, N1, N2, nd, gv, rfl, hN1, hN2, hW9⟩
      refine vx_catch (name := "java/lang/IllegalStateException") hown (tableOf [(0, 5, 6, 15)]) ⟨0, 5, 10, 17⟩ (tableOf []) htb (fun z hz => by cases List.mem_singleton.mp hz; exact Or.inr ⟨by decide, "java/lang/IllegalArgumentException", hts (.classLink RL 15 "java/lang/IllegalArgumentException") (by decide +kernel), hc1⟩) rfl (by decide) (hts (.classLink RL 17 "java/lang/IllegalStateException") (by decide +kernel)) (va_Nw.use rfl (hE.2.2.2.2.2.2.2.1 (.castable "java/lang/IllegalStateException" "java/lang/IllegalStateException") (by decide))) hc9 hv9 hl9 ?_
      refine lv_astore_n (lv' := [(2, .ref q9), (0, .ref (ad 0)), (1, .int x)]) hx hb dL_take_10 rfl hl (by decide) rfl (fun ls hl => ?_)
      refine lv_bipush (v := (-103)) hx hb dL_take_11 (by decide) ?_
      refine W.widen (k := 1) (n := 6) (Nat.le_of_ble_eq_true rfl) (Nat.le_of_ble_eq_true rfl) ?_
      exact vx_ret (W.iret (v := (-103)) hx hb hr (fun t8 ht8 hW8 => ⟨⟨_, (), rfl, rfl, by dsimp only; rw [ht8]; exact hR9⟩, hS9.F ht8⟩) hS9.2.2 dL_take_13)
  ·
    exact absurd (hw.1.symm.trans hk) (by decide)

set_option maxHeartbeats 4000000 in
set_option maxRecDepth 100000 in
theorem c_L_rules_0 (l : Launch) (hst : l.stackTraces = false) (D : va_G) (cs : Nat → ClassId) (A : Nat → Prop) (z0 : Nat) (sa : Nat → Nat) (o : Nat) (g : Nat → Int32) (L B : Nat → Nat → Int32) (n b : Nat) (hn : n ≤ 12) (hb5 : b ≤ 5) (x : Int32) (y : Int32) (z : Int32)  (hk : kRules x y z = 0) : vx_Met l yL_rules wsL_rules ({ frames := 9, cells := 1, slots := 6, locals := 145 } : Room) (va_Pc [.ref o, .int x, .int y, .int z] (pR D cs A z0 sa o g L B n b)) (va_Qi (fun (r9 : Int32) (_ : Unit) => r9 = 0) (fun _ t9 => RC D cs A z0 o (rulesG g x y z) L B n b t9.heap) A) (vx_X (fun (_ : Unit) => False) (fun _ _ _ => True) (fun _ => False)) 1 6 A := by
  refine vx_ofWH (cc := cL_rules) (maxL := 5) (ret := (some .int)) (hh := [(0, 7, 10, 15)]) (by decide) rfl ?_
  intro p e s m args below meth c s₁ BB hml hv
  obtain ⟨rfl, hv⟩ := hv
  obtain ⟨hE, hR, hc1, hc2, hc3⟩ := hv
  obtain ⟨ad, y1, y2, N1, N2, nd, gv, ho, hN1, hN2, hW⟩ := hR
  subst ho
  have hK := hE.1
  have hx := BB.exec
  have hb := BB.bytes
  have hr := BB.returns
  have hts := atoms_spec (ws := wsL_rules) BB.pre
  have hown : s.vm.findClass RL = some m.cls := findClass_of_methodNamed BB.named
  have hlocks := BB.notSynchronized
  have hS : va_S A s.heap s.heap [] := va_S.rf
  have hl := lv_entry ([.ref (ad 0), .int x, .int y, .int z]) (n := 5) (Nat.le_of_ble_eq_true rfl)
  rw [lg_entry_eq]
  generalize (lg_sl ([.ref (ad 0), .int x, .int y, .int z]) ++ List.replicate (5 - (lg_sl ([.ref (ad 0), .int x, .int y, .int z])).length) Slot.unset).toArray = ls at hl ⊢
  have hl : lv_has ls 5 [(0, .ref (ad 0)), (1, .int x), (2, .int y), (3, .int z)] := hl
  have htb := vx_table (x := yL_rules) BB (hts (.codeWith yL_rules cL_rules 5 (some .int) [(0, 7, 10, 15)]) (by decide +kernel))
  refine lv_aload_n hx hb dL_rules_0 rfl (lv_at hl 0 rfl) ?_
  refine lv_iload_n hx hb dL_rules_1 rfl (lv_at hl 1 rfl) ?_
  refine lv_iload_n hx hb dL_rules_2 rfl (lv_at hl 2 rfl) ?_
  refine lv_iload_n hx hb dL_rules_3 rfl (lv_at hl 3 rfl) ?_
  refine vx_callv (vx_runV (As := [.int x, .int y, .int z]) (rest := []) ⟨hx, hb, hml, hown, hts⟩ (c_X3_setRules l hst D cs A z0 sa ad g L B n b y1 y2 N1 N2 nd gv hn hb5 hN1 hN2 x y z) (cwV 3 hts gL_rules_X3_setRules rfl rfl rfl (by decide +kernel) ⟨Nat.le_of_ble_eq_true rfl, Nat.le_of_ble_eq_true rfl⟩) ⟨pC_fb, wb_recv hK hW (r := 0) (lvC_0 (by decide)) (ci := 4) rfl rfl, fun U hU hV => ⟨rfl, hE.at (A' := fun _ => False) (fun _ h => h.elim) va_S.rf hV hU, by rw [hU]; exact hW⟩⟩ rfl rfl hl.1 rfl (lv_room (Nat.le_of_ble_eq_true rfl)) dL_rules_4 ⟨Nat.le_of_ble_eq_true rfl, Nat.le_of_ble_eq_true rfl⟩) hS (fun _ _ h => h) (fun _ h => h) (fun _ _ h => h) (fun E9 ce9 q9 u9 t9 H9 locs9 ht9 hvm9 hpx9 hbx9 hz9 hk9 hS9 hc9 hv9 hl9 => ?_) (fun u t9 H locs ht hvm hw hB hz1 hk1 hS => ?_)
  · obtain ⟨hx9, hW9⟩ := hbx9
    obtain ⟨hk9, rfl⟩ := hx9
    ·
      exact absurd (hk9.symm.trans hk) (by decide)
  ·
    rw [ht] at hB
    have hR9 : RC D cs A z0 (ad 0) (rulesG g x y z) L B n b H := hB
    refine lv_goto (tgt := 15) hx hb dL_rules_7 (by decide) ?_
    refine lv_iconst (v := 0) hx hb dL_rules_15 (by decide) ?_
    refine W.widen (k := 1) (n := 6) (Nat.le_of_ble_eq_true rfl) (Nat.le_of_ble_eq_true rfl) ?_
    exact vx_ret (W.iret (v := 0) hx hb hr (fun t8 ht8 hW8 => ⟨⟨_, (), rfl, rfl, by dsimp only; rw [ht8]; exact hR9⟩, hS.F ht8⟩) hS.2.2 dL_rules_16)

set_option maxHeartbeats 4000000 in
set_option maxRecDepth 100000 in
theorem c_L_bond_0 (l : Launch) (hst : l.stackTraces = false) (D : va_G) (cs : Nat → ClassId) (A : Nat → Prop) (z0 : Nat) (sa : Nat → Nat) (o : Nat) (g : Nat → Int32) (L B : Nat → Nat → Int32) (n b : Nat) (hn : n ≤ 12) (hb5 : b ≤ 5) (x : Int32)  (hk : kIx b x = 0) : vx_Met l yL_bond wsL_bond ({ frames := 9, cells := 1, slots := 6, locals := 142 } : Room) (va_Pc [.ref o, .int x] (pR D cs A z0 sa o g L B n b)) (va_Qi (fun (r9 : Int32) (_ : Unit) => r9 = B 2 (ixN x)) (fun _ t9 => RC D cs A z0 o g L B n b t9.heap) A) (vx_X (fun (_ : Unit) => False) (fun _ _ _ => True) (fun _ => False)) 1 6 A := by
  refine vx_ofWH (cc := cL_bond) (maxL := 3) (ret := (some .int)) (hh := [(0, 5, 6, 23)]) (by decide) rfl ?_
  intro p e s m args below meth c s₁ BB hml hv
  obtain ⟨rfl, hv⟩ := hv
  obtain ⟨hE, hR, hc1, hc2, hc3⟩ := hv
  obtain ⟨ad, y1, y2, N1, N2, nd, gv, ho, hN1, hN2, hW⟩ := hR
  subst ho
  have hK := hE.1
  have hx := BB.exec
  have hb := BB.bytes
  have hr := BB.returns
  have hts := atoms_spec (ws := wsL_bond) BB.pre
  have hown : s.vm.findClass RL = some m.cls := findClass_of_methodNamed BB.named
  have hlocks := BB.notSynchronized
  have hS : va_S A s.heap s.heap [] := va_S.rf
  have hl := lv_entry ([.ref (ad 0), .int x]) (n := 3) (Nat.le_of_ble_eq_true rfl)
  rw [lg_entry_eq]
  generalize (lg_sl ([.ref (ad 0), .int x]) ++ List.replicate (3 - (lg_sl ([.ref (ad 0), .int x])).length) Slot.unset).toArray = ls at hl ⊢
  have hl : lv_has ls 3 [(0, .ref (ad 0)), (1, .int x)] := hl
  have htb := vx_table (x := yL_bond) BB (hts (.codeWith yL_bond cL_bond 3 (some .int) [(0, 5, 6, 23)]) (by decide +kernel))
  refine lv_aload_n hx hb dL_bond_0 rfl (lv_at hl 0 rfl) ?_
  refine lv_iload_n hx hb dL_bond_1 rfl (lv_at hl 1 rfl) ?_
  refine vx_calli (vx_runV (As := [.int x]) (rest := []) ⟨hx, hb, hml, hown, hts⟩ (c_X3_bondState l hst D cs A z0 sa ad g L B n b y1 y2 N1 N2 nd gv hn hb5 hN1 hN2 x) (cwV 1 hts gL_bond_X3_bondState rfl rfl rfl (by decide +kernel) ⟨Nat.le_of_ble_eq_true rfl, Nat.le_of_ble_eq_true rfl⟩) ⟨pC_fb, wb_recv hK hW (r := 0) (lvC_0 (by decide)) (ci := 4) rfl rfl, fun U hU hV => ⟨rfl, hE.at (A' := fun _ => False) (fun _ h => h.elim) va_S.rf hV hU, by rw [hU]; exact hW⟩⟩ rfl rfl hl.1 rfl (lv_room (Nat.le_of_ble_eq_true rfl)) dL_bond_2 ⟨Nat.le_of_ble_eq_true rfl, Nat.le_of_ble_eq_true rfl⟩) hS (fun _ _ h => h) (fun _ h => h) (fun _ _ h => h) (fun E9 ce9 q9 u9 t9 H9 locs9 ht9 hvm9 hpx9 hbx9 hz9 hk9 hS9 hc9 hv9 hl9 => ?_) (fun r_9 u t9 H locs ht hvm hw hB hz1 hk1 hS => ?_)
  · obtain ⟨hx9, hW9⟩ := hbx9
    obtain ⟨hk9, rfl⟩ := hx9
    ·
      exact absurd (hk9.symm.trans hk) (by decide)
  ·
    rw [ht] at hB
    have hR9 : RC D cs A z0 (ad 0) g L B n b H := hB
    obtain rfl : r_9 = B 2 (ixN x) := hw.2
    refine W.widen (k := 1) (n := 6) (Nat.le_of_ble_eq_true rfl) (Nat.le_of_ble_eq_true rfl) ?_
    exact vx_ret (W.iret (v := B 2 (ixN x)) hx hb hr (fun t8 ht8 hW8 => ⟨⟨_, (), rfl, rfl, by dsimp only; rw [ht8]; exact hR9⟩, hS.F ht8⟩) hS.2.2 dL_bond_5)

set_option maxHeartbeats 4000000 in
set_option maxRecDepth 100000 in
theorem c_L_due_0 (l : Launch) (hst : l.stackTraces = false) (D : va_G) (cs : Nat → ClassId) (A : Nat → Prop) (z0 : Nat) (sa : Nat → Nat) (o : Nat) (g : Nat → Int32) (L B : Nat → Nat → Int32) (n b : Nat) (hn : n ≤ 12) (hb5 : b ≤ 5) (x : Int32)  (hk : kIx b x = 0) : vx_Met l yL_due wsL_due ({ frames := 9, cells := 1, slots := 6, locals := 142 } : Room) (va_Pc [.ref o, .int x] (pR D cs A z0 sa o g L B n b)) (va_Qi (fun (r9 : Int32) (_ : Unit) => r9 = B 1 (ixN x)) (fun _ t9 => RC D cs A z0 o g L B n b t9.heap) A) (vx_X (fun (_ : Unit) => False) (fun _ _ _ => True) (fun _ => False)) 1 6 A := by
  refine vx_ofWH (cc := cL_due) (maxL := 3) (ret := (some .int)) (hh := [(0, 5, 6, 23)]) (by decide) rfl ?_
  intro p e s m args below meth c s₁ BB hml hv
  obtain ⟨rfl, hv⟩ := hv
  obtain ⟨hE, hR, hc1, hc2, hc3⟩ := hv
  obtain ⟨ad, y1, y2, N1, N2, nd, gv, ho, hN1, hN2, hW⟩ := hR
  subst ho
  have hK := hE.1
  have hx := BB.exec
  have hb := BB.bytes
  have hr := BB.returns
  have hts := atoms_spec (ws := wsL_due) BB.pre
  have hown : s.vm.findClass RL = some m.cls := findClass_of_methodNamed BB.named
  have hlocks := BB.notSynchronized
  have hS : va_S A s.heap s.heap [] := va_S.rf
  have hl := lv_entry ([.ref (ad 0), .int x]) (n := 3) (Nat.le_of_ble_eq_true rfl)
  rw [lg_entry_eq]
  generalize (lg_sl ([.ref (ad 0), .int x]) ++ List.replicate (3 - (lg_sl ([.ref (ad 0), .int x])).length) Slot.unset).toArray = ls at hl ⊢
  have hl : lv_has ls 3 [(0, .ref (ad 0)), (1, .int x)] := hl
  have htb := vx_table (x := yL_due) BB (hts (.codeWith yL_due cL_due 3 (some .int) [(0, 5, 6, 23)]) (by decide +kernel))
  refine lv_aload_n hx hb dL_due_0 rfl (lv_at hl 0 rfl) ?_
  refine lv_iload_n hx hb dL_due_1 rfl (lv_at hl 1 rfl) ?_
  refine vx_calli (vx_runV (As := [.int x]) (rest := []) ⟨hx, hb, hml, hown, hts⟩ (c_X3_dueOf l hst D cs A z0 sa ad g L B n b y1 y2 N1 N2 nd gv hn hb5 hN1 hN2 x) (cwV 1 hts gL_due_X3_dueOf rfl rfl rfl (by decide +kernel) ⟨Nat.le_of_ble_eq_true rfl, Nat.le_of_ble_eq_true rfl⟩) ⟨pC_fb, wb_recv hK hW (r := 0) (lvC_0 (by decide)) (ci := 4) rfl rfl, fun U hU hV => ⟨rfl, hE.at (A' := fun _ => False) (fun _ h => h.elim) va_S.rf hV hU, by rw [hU]; exact hW⟩⟩ rfl rfl hl.1 rfl (lv_room (Nat.le_of_ble_eq_true rfl)) dL_due_2 ⟨Nat.le_of_ble_eq_true rfl, Nat.le_of_ble_eq_true rfl⟩) hS (fun _ _ h => h) (fun _ h => h) (fun _ _ h => h) (fun E9 ce9 q9 u9 t9 H9 locs9 ht9 hvm9 hpx9 hbx9 hz9 hk9 hS9 hc9 hv9 hl9 => ?_) (fun r_9 u t9 H locs ht hvm hw hB hz1 hk1 hS => ?_)
  · obtain ⟨hx9, hW9⟩ := hbx9
    obtain ⟨hk9, rfl⟩ := hx9
    ·
      exact absurd (hk9.symm.trans hk) (by decide)
  ·
    rw [ht] at hB
    have hR9 : RC D cs A z0 (ad 0) g L B n b H := hB
    obtain rfl : r_9 = B 1 (ixN x) := hw.2
    refine W.widen (k := 1) (n := 6) (Nat.le_of_ble_eq_true rfl) (Nat.le_of_ble_eq_true rfl) ?_
    exact vx_ret (W.iret (v := B 1 (ixN x)) hx hb hr (fun t8 ht8 hW8 => ⟨⟨_, (), rfl, rfl, by dsimp only; rw [ht8]; exact hR9⟩, hS.F ht8⟩) hS.2.2 dL_due_5)

set_option maxHeartbeats 4000000 in
set_option maxRecDepth 100000 in
theorem c_L_pass_0 (l : Launch) (hst : l.stackTraces = false) (D : va_G) (cs : Nat → ClassId) (A : Nat → Prop) (z0 : Nat) (sa : Nat → Nat) (o : Nat) (g : Nat → Int32) (L B : Nat → Nat → Int32) (n b : Nat) (hn : n ≤ 12) (hb5 : b ≤ 5) (x : Int32)  (hk : kIn 1 24 x = 0) : vx_Met l yL_pass wsL_pass ({ frames := 9, cells := 1, slots := 6, locals := 144 } : Room) (va_Pc [.ref o, .int x] (pR D cs A z0 sa o g L B n b)) (va_Qi (fun (r9 : Int32) (_ : Unit) => r9 = (lvMany n b (g, L, B) (ixN x)).1 0) (fun _ t9 => RC D cs A z0 o ((lvMany n b (g, L, B) (ixN x)).1) ((lvMany n b (g, L, B) (ixN x)).2.1) ((lvMany n b (g, L, B) (ixN x)).2.2) n b t9.heap) A) (vx_X (fun (_ : Unit) => False) (fun _ _ _ => True) (fun _ => False)) 1 6 A := by
  refine vx_ofWH (cc := cL_pass) (maxL := 3) (ret := (some .int)) (hh := [(0, 5, 6, 15)]) (by decide) rfl ?_
  intro p e s m args below meth c s₁ BB hml hv
  obtain ⟨rfl, hv⟩ := hv
  obtain ⟨hE, hR, hc1, hc2, hc3⟩ := hv
  obtain ⟨ad, y1, y2, N1, N2, nd, gv, ho, hN1, hN2, hW⟩ := hR
  subst ho
  have hK := hE.1
  have hx := BB.exec
  have hb := BB.bytes
  have hr := BB.returns
  have hts := atoms_spec (ws := wsL_pass) BB.pre
  have hown : s.vm.findClass RL = some m.cls := findClass_of_methodNamed BB.named
  have hlocks := BB.notSynchronized
  have hS : va_S A s.heap s.heap [] := va_S.rf
  have hl := lv_entry ([.ref (ad 0), .int x]) (n := 3) (Nat.le_of_ble_eq_true rfl)
  rw [lg_entry_eq]
  generalize (lg_sl ([.ref (ad 0), .int x]) ++ List.replicate (3 - (lg_sl ([.ref (ad 0), .int x])).length) Slot.unset).toArray = ls at hl ⊢
  have hl : lv_has ls 3 [(0, .ref (ad 0)), (1, .int x)] := hl
  have htb := vx_table (x := yL_pass) BB (hts (.codeWith yL_pass cL_pass 3 (some .int) [(0, 5, 6, 15)]) (by decide +kernel))
  refine lv_aload_n hx hb dL_pass_0 rfl (lv_at hl 0 rfl) ?_
  refine lv_iload_n hx hb dL_pass_1 rfl (lv_at hl 1 rfl) ?_
  refine vx_calli (vx_runV (As := [.int x]) (rest := []) ⟨hx, hb, hml, hown, hts⟩ (c_X3_pass l hst D cs A z0 sa ad g L B n b y1 y2 N1 N2 nd gv hn hb5 hN1 hN2 x) (cwV 1 hts gL_pass_X3_pass rfl rfl rfl (by decide +kernel) ⟨Nat.le_of_ble_eq_true rfl, Nat.le_of_ble_eq_true rfl⟩) ⟨pC_fb, wb_recv hK hW (r := 0) (lvC_0 (by decide)) (ci := 4) rfl rfl, fun U hU hV => ⟨rfl, hE.at (A' := fun _ => False) (fun _ h => h.elim) va_S.rf hV hU, by rw [hU]; exact hW⟩⟩ rfl rfl hl.1 rfl (lv_room (Nat.le_of_ble_eq_true rfl)) dL_pass_2 ⟨Nat.le_of_ble_eq_true rfl, Nat.le_of_ble_eq_true rfl⟩) hS (fun _ _ h => h) (fun _ h => h) (fun _ _ h => h) (fun E9 ce9 q9 u9 t9 H9 locs9 ht9 hvm9 hpx9 hbx9 hz9 hk9 hS9 hc9 hv9 hl9 => ?_) (fun r_9 u t9 H locs ht hvm hw hB hz1 hk1 hS => ?_)
  · obtain ⟨hx9, hW9⟩ := hbx9
    obtain ⟨hk9, rfl⟩ := hx9
    ·
      exact absurd (hk9.symm.trans hk) (by decide)
  ·
    rw [ht] at hB
    have hR9 : RC D cs A z0 (ad 0) ((lvMany n b (g, L, B) (ixN x)).1) ((lvMany n b (g, L, B) (ixN x)).2.1) ((lvMany n b (g, L, B) (ixN x)).2.2) n b H := hB
    obtain rfl : r_9 = (lvMany n b (g, L, B) (ixN x)).1 0 := hw.2
    refine W.widen (k := 1) (n := 6) (Nat.le_of_ble_eq_true rfl) (Nat.le_of_ble_eq_true rfl) ?_
    exact vx_ret (W.iret (v := (lvMany n b (g, L, B) (ixN x)).1 0) hx hb hr (fun t8 ht8 hW8 => ⟨⟨_, (), rfl, rfl, by dsimp only; rw [ht8]; exact hR9⟩, hS.F ht8⟩) hS.2.2 dL_pass_5)

set_option maxHeartbeats 4000000 in
set_option maxRecDepth 100000 in
theorem c_L_holds_0t (l : Launch) (hst : l.stackTraces = false) (D : va_G) (cs : Nat → ClassId) (A : Nat → Prop) (z0 : Nat) (sa : Nat → Nat) (o : Nat) (g : Nat → Int32) (L B : Nat → Nat → Int32) (n b : Nat) (hn : n ≤ 12) (hb5 : b ≤ 5) (x : Int32)  (hbd : Bd g L B n b) (hk : kIn 0 2 x = 0) (hP : mLack g L B n b x (mPool L 1 n) = 0) : vx_Met l yL_holds wsL_holds ({ frames := 10, cells := 1, slots := 6, locals := 218 } : Room) (va_Pc [.ref o, .int x] (pR D cs A z0 sa o g L B n b)) (va_Qi (fun (r9 : Int32) (_ : Unit) => r9 = 1) (fun _ t9 => RC D cs A z0 o g L B n b t9.heap) A) (vx_X (fun (_ : Unit) => False) (fun _ _ _ => True) (fun _ => False)) 1 6 A := by
  refine vx_ofWH (cc := cL_holds) (maxL := 3) (ret := (some .int)) (hh := [(0, 13, 14, 15)]) (by decide) rfl ?_
  intro p e s m args below meth c s₁ BB hml hv
  obtain ⟨rfl, hv⟩ := hv
  obtain ⟨hE, hR, hc1, hc2, hc3⟩ := hv
  obtain ⟨ad, y1, y2, N1, N2, nd, gv, ho, hN1, hN2, hW⟩ := hR
  subst ho
  have hK := hE.1
  have hx := BB.exec
  have hb := BB.bytes
  have hr := BB.returns
  have hts := atoms_spec (ws := wsL_holds) BB.pre
  have hown : s.vm.findClass RL = some m.cls := findClass_of_methodNamed BB.named
  have hlocks := BB.notSynchronized
  have hS : va_S A s.heap s.heap [] := va_S.rf
  have hl := lv_entry ([.ref (ad 0), .int x]) (n := 3) (Nat.le_of_ble_eq_true rfl)
  rw [lg_entry_eq]
  generalize (lg_sl ([.ref (ad 0), .int x]) ++ List.replicate (3 - (lg_sl ([.ref (ad 0), .int x])).length) Slot.unset).toArray = ls at hl ⊢
  have hl : lv_has ls 3 [(0, .ref (ad 0)), (1, .int x)] := hl
  have htb := vx_table (x := yL_holds) BB (hts (.codeWith yL_holds cL_holds 3 (some .int) [(0, 13, 14, 15)]) (by decide +kernel))
  refine lv_aload_n hx hb dL_holds_0 rfl (lv_at hl 0 rfl) ?_
  refine lv_iload_n hx hb dL_holds_1 rfl (lv_at hl 1 rfl) ?_
  refine vx_calli (vx_runV (As := [.int x]) (rest := []) ⟨hx, hb, hml, hown, hts⟩ (c_X3_holds l hst D cs A z0 sa ad g L B n b y1 y2 N1 N2 nd gv hn hb5 hN1 hN2 x) (cwV 1 hts gL_holds_X3_holds rfl rfl rfl (by decide +kernel) ⟨Nat.le_of_ble_eq_true rfl, Nat.le_of_ble_eq_true rfl⟩) ⟨pC_fb, wb_recv hK hW (r := 0) (lvC_0 (by decide)) (ci := 4) rfl rfl, fun U hU hV => ⟨rfl, hE.at (A' := fun _ => False) (fun _ h => h.elim) va_S.rf hV hU, by rw [hU]; exact hW⟩⟩ rfl rfl hl.1 rfl (lv_room (Nat.le_of_ble_eq_true rfl)) dL_holds_2 ⟨Nat.le_of_ble_eq_true rfl, Nat.le_of_ble_eq_true rfl⟩) hS (fun _ _ h => h) (fun _ h => h) (fun _ _ h => h) (fun E9 ce9 q9 u9 t9 H9 locs9 ht9 hvm9 hpx9 hbx9 hz9 hk9 hS9 hc9 hv9 hl9 => ?_) (fun r_9 u t9 H locs ht hvm hw hB hz1 hk1 hS => ?_)
  · obtain ⟨hx9, hW9⟩ := hbx9
    obtain ⟨hk9, rfl⟩ := hx9
    ·
      exact absurd (hk9.symm.trans hk) (by decide)
  ·
    rw [ht] at hB
    obtain ⟨-, rfl, hpp⟩ := hw
    rcases hpp with ⟨rfl, hq⟩ | ⟨rfl, hq⟩
    ·
      have hP2 : mLack g L B n b x (mPool L 1 n) = 0 := by rw [lack_eq hbd nd gv hk] at hq; exact hq
      have hR9 : RC D cs A z0 (ad 0) g L B n b H := hB
      refine lv_if_eq (tgt := 12) hx hb dL_holds_5 (by decide) (fun c_1 => ?_) (fun c_1 => ?_)
      · -- 1 eq 0 : True
        exact absurd c_1 (by decide)
      · -- 1 eq 0 : False
        refine lv_iconst (v := 1) hx hb dL_holds_8 (by decide) ?_
        refine lv_goto (tgt := 13) hx hb dL_holds_9 (by decide) ?_
        refine W.widen (k := 1) (n := 6) (Nat.le_of_ble_eq_true rfl) (Nat.le_of_ble_eq_true rfl) ?_
        exact vx_ret (W.iret (v := 1) hx hb hr (fun t8 ht8 hW8 => ⟨⟨_, (), rfl, rfl, by dsimp only; rw [ht8]; exact hR9⟩, hS.F ht8⟩) hS.2.2 dL_holds_13)
    ·
      have hP2 : ¬ (mLack g L B n b x (mPool L 1 n) = 0) := by rw [lack_eq hbd nd gv hk] at hq; exact hq
      exact (hP2 hP).elim

set_option maxHeartbeats 4000000 in
set_option maxRecDepth 100000 in
theorem c_L_holds_0f (l : Launch) (hst : l.stackTraces = false) (D : va_G) (cs : Nat → ClassId) (A : Nat → Prop) (z0 : Nat) (sa : Nat → Nat) (o : Nat) (g : Nat → Int32) (L B : Nat → Nat → Int32) (n b : Nat) (hn : n ≤ 12) (hb5 : b ≤ 5) (x : Int32)  (hbd : Bd g L B n b) (hk : kIn 0 2 x = 0) (hP : ¬ (mLack g L B n b x (mPool L 1 n) = 0)) : vx_Met l yL_holds wsL_holds ({ frames := 10, cells := 1, slots := 6, locals := 218 } : Room) (va_Pc [.ref o, .int x] (pR D cs A z0 sa o g L B n b)) (va_Qi (fun (r9 : Int32) (_ : Unit) => r9 = 0) (fun _ t9 => RC D cs A z0 o g L B n b t9.heap) A) (vx_X (fun (_ : Unit) => False) (fun _ _ _ => True) (fun _ => False)) 1 6 A := by
  refine vx_ofWH (cc := cL_holds) (maxL := 3) (ret := (some .int)) (hh := [(0, 13, 14, 15)]) (by decide) rfl ?_
  intro p e s m args below meth c s₁ BB hml hv
  obtain ⟨rfl, hv⟩ := hv
  obtain ⟨hE, hR, hc1, hc2, hc3⟩ := hv
  obtain ⟨ad, y1, y2, N1, N2, nd, gv, ho, hN1, hN2, hW⟩ := hR
  subst ho
  have hK := hE.1
  have hx := BB.exec
  have hb := BB.bytes
  have hr := BB.returns
  have hts := atoms_spec (ws := wsL_holds) BB.pre
  have hown : s.vm.findClass RL = some m.cls := findClass_of_methodNamed BB.named
  have hlocks := BB.notSynchronized
  have hS : va_S A s.heap s.heap [] := va_S.rf
  have hl := lv_entry ([.ref (ad 0), .int x]) (n := 3) (Nat.le_of_ble_eq_true rfl)
  rw [lg_entry_eq]
  generalize (lg_sl ([.ref (ad 0), .int x]) ++ List.replicate (3 - (lg_sl ([.ref (ad 0), .int x])).length) Slot.unset).toArray = ls at hl ⊢
  have hl : lv_has ls 3 [(0, .ref (ad 0)), (1, .int x)] := hl
  have htb := vx_table (x := yL_holds) BB (hts (.codeWith yL_holds cL_holds 3 (some .int) [(0, 13, 14, 15)]) (by decide +kernel))
  refine lv_aload_n hx hb dL_holds_0 rfl (lv_at hl 0 rfl) ?_
  refine lv_iload_n hx hb dL_holds_1 rfl (lv_at hl 1 rfl) ?_
  refine vx_calli (vx_runV (As := [.int x]) (rest := []) ⟨hx, hb, hml, hown, hts⟩ (c_X3_holds l hst D cs A z0 sa ad g L B n b y1 y2 N1 N2 nd gv hn hb5 hN1 hN2 x) (cwV 1 hts gL_holds_X3_holds rfl rfl rfl (by decide +kernel) ⟨Nat.le_of_ble_eq_true rfl, Nat.le_of_ble_eq_true rfl⟩) ⟨pC_fb, wb_recv hK hW (r := 0) (lvC_0 (by decide)) (ci := 4) rfl rfl, fun U hU hV => ⟨rfl, hE.at (A' := fun _ => False) (fun _ h => h.elim) va_S.rf hV hU, by rw [hU]; exact hW⟩⟩ rfl rfl hl.1 rfl (lv_room (Nat.le_of_ble_eq_true rfl)) dL_holds_2 ⟨Nat.le_of_ble_eq_true rfl, Nat.le_of_ble_eq_true rfl⟩) hS (fun _ _ h => h) (fun _ h => h) (fun _ _ h => h) (fun E9 ce9 q9 u9 t9 H9 locs9 ht9 hvm9 hpx9 hbx9 hz9 hk9 hS9 hc9 hv9 hl9 => ?_) (fun r_9 u t9 H locs ht hvm hw hB hz1 hk1 hS => ?_)
  · obtain ⟨hx9, hW9⟩ := hbx9
    obtain ⟨hk9, rfl⟩ := hx9
    ·
      exact absurd (hk9.symm.trans hk) (by decide)
  ·
    rw [ht] at hB
    obtain ⟨-, rfl, hpp⟩ := hw
    rcases hpp with ⟨rfl, hq⟩ | ⟨rfl, hq⟩
    ·
      have hP2 : mLack g L B n b x (mPool L 1 n) = 0 := by rw [lack_eq hbd nd gv hk] at hq; exact hq
      exact (hP hP2).elim
    ·
      have hP2 : ¬ (mLack g L B n b x (mPool L 1 n) = 0) := by rw [lack_eq hbd nd gv hk] at hq; exact hq
      have hR9 : RC D cs A z0 (ad 0) g L B n b H := hB
      refine lv_if_eq (tgt := 12) hx hb dL_holds_5 (by decide) (fun c_1 => ?_) (fun c_1 => ?_)
      · -- 0 eq 0 : True
        refine lv_iconst (v := 0) hx hb dL_holds_12 (by decide) ?_
        refine W.widen (k := 1) (n := 6) (Nat.le_of_ble_eq_true rfl) (Nat.le_of_ble_eq_true rfl) ?_
        exact vx_ret (W.iret (v := 0) hx hb hr (fun t8 ht8 hW8 => ⟨⟨_, (), rfl, rfl, by dsimp only; rw [ht8]; exact hR9⟩, hS.F ht8⟩) hS.2.2 dL_holds_13)
      · -- 0 eq 0 : False
        exact absurd c_1 (by decide)

set_option maxHeartbeats 4000000 in
set_option maxRecDepth 100000 in
theorem c_L_lacking_0 (l : Launch) (hst : l.stackTraces = false) (D : va_G) (cs : Nat → ClassId) (A : Nat → Prop) (z0 : Nat) (sa : Nat → Nat) (o : Nat) (g : Nat → Int32) (L B : Nat → Nat → Int32) (n b : Nat) (hn : n ≤ 12) (hb5 : b ≤ 5) (x : Int32)  (hbd : Bd g L B n b) (hk : kIn 0 2 x = 0) : vx_Met l yL_lacking wsL_lacking ({ frames := 9, cells := 1, slots := 6, locals := 197 } : Room) (va_Pc [.ref o, .int x] (pR D cs A z0 sa o g L B n b)) (va_Ql (fun (r9 : Int64) (_ : Unit) => r9 = mLack g L B n b x (mPool L 1 n)) (fun _ t9 => RC D cs A z0 o g L B n b t9.heap) A) (vx_X (fun (_ : Unit) => False) (fun _ _ _ => True) (fun _ => False)) 1 6 A := by
  refine vx_ofWH (cc := cL_lacking) (maxL := 3) (ret := (some .long)) (hh := [(0, 5, 6, 15)]) (by decide) rfl ?_
  intro p e s m args below meth c s₁ BB hml hv
  obtain ⟨rfl, hv⟩ := hv
  obtain ⟨hE, hR, hc1, hc2, hc3⟩ := hv
  obtain ⟨ad, y1, y2, N1, N2, nd, gv, ho, hN1, hN2, hW⟩ := hR
  subst ho
  have hK := hE.1
  have hx := BB.exec
  have hb := BB.bytes
  have hr := BB.returns
  have hts := atoms_spec (ws := wsL_lacking) BB.pre
  have hown : s.vm.findClass RL = some m.cls := findClass_of_methodNamed BB.named
  have hlocks := BB.notSynchronized
  have hS : va_S A s.heap s.heap [] := va_S.rf
  have hl := lv_entry ([.ref (ad 0), .int x]) (n := 3) (Nat.le_of_ble_eq_true rfl)
  rw [lg_entry_eq]
  generalize (lg_sl ([.ref (ad 0), .int x]) ++ List.replicate (3 - (lg_sl ([.ref (ad 0), .int x])).length) Slot.unset).toArray = ls at hl ⊢
  have hl : lv_has ls 3 [(0, .ref (ad 0)), (1, .int x)] := hl
  have htb := vx_table (x := yL_lacking) BB (hts (.codeWith yL_lacking cL_lacking 3 (some .long) [(0, 5, 6, 15)]) (by decide +kernel))
  refine lv_aload_n hx hb dL_lacking_0 rfl (lv_at hl 0 rfl) ?_
  refine lv_iload_n hx hb dL_lacking_1 rfl (lv_at hl 1 rfl) ?_
  refine vx_calll (vx_runV (As := [.int x]) (rest := []) ⟨hx, hb, hml, hown, hts⟩ (c_X3_lacking l hst D cs A z0 sa ad g L B n b y1 y2 N1 N2 nd gv hn hb5 hN1 hN2 x) (cwV 1 hts gL_lacking_X3_lacking rfl rfl rfl (by decide +kernel) ⟨Nat.le_of_ble_eq_true rfl, Nat.le_of_ble_eq_true rfl⟩) ⟨pC_fb, wb_recv hK hW (r := 0) (lvC_0 (by decide)) (ci := 4) rfl rfl, fun U hU hV => ⟨rfl, hE.at (A' := fun _ => False) (fun _ h => h.elim) va_S.rf hV hU, by rw [hU]; exact hW⟩⟩ rfl rfl hl.1 rfl (lv_room (Nat.le_of_ble_eq_true rfl)) dL_lacking_2 ⟨Nat.le_of_ble_eq_true rfl, Nat.le_of_ble_eq_true rfl⟩) hS (fun _ _ h => h) (fun _ h => h) (fun _ _ h => h) (fun E9 ce9 q9 u9 t9 H9 locs9 ht9 hvm9 hpx9 hbx9 hz9 hk9 hS9 hc9 hv9 hl9 => ?_) (fun r_9 u t9 H locs ht hvm hw hB hz1 hk1 hS => ?_)
  · obtain ⟨hx9, hW9⟩ := hbx9
    obtain ⟨hk9, rfl⟩ := hx9
    ·
      exact absurd (hk9.symm.trans hk) (by decide)
  ·
    rw [ht] at hB
    have hR9 : RC D cs A z0 (ad 0) g L B n b H := hB
    obtain rfl : r_9 = mLack g L B n b x (mPool L 1 n) := hw.2.trans (lack_eq hbd nd gv hk)
    refine W.widen (k := 1) (n := 6) (Nat.le_of_ble_eq_true rfl) (Nat.le_of_ble_eq_true rfl) ?_
    exact vx_ret (W.lret (v := mLack g L B n b x (mPool L 1 n)) hx hb hr (fun t8 ht8 hW8 => ⟨⟨_, (), rfl, rfl, by dsimp only; rw [ht8]; exact hR9⟩, hS.F ht8⟩) hS.2.2 dL_lacking_5)
