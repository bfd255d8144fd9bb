set_option maxHeartbeats 4000000 in
set_option maxRecDepth 100000 in
theorem c_L_addLoan (l : Launch) (hst : l.stackTraces = false) (D : va_G) (cs : Nat → ClassId) (A : Nat → Prop) (z0 : Nat) (sa : Nat → Nat) (ad : Nat → Nat) (g : Nat → Int32) (L B : Nat → Nat → Int32) (n b : Nat) (y1 y2 : Int32) (N1 N2 : Nat) (nd : Nat → Int32) (gv : Nat → Nat → Int32) (hn : n ≤ 12) (hb5 : b ≤ 5) (hN1 : n ≤ N1 ∧ N1 < 1000) (hN2 : b ≤ N2 ∧ N2 < 1000) (oo : Nat) (hoo : ¬ A oo) (x : Int32) (y : Int32) (z : Int32) (w : Int32) (hz : L 4 n = 0 ∧ L 5 n = 0) : vx_Met l yL_addLoan wsL_addLoan ({ frames := 13, cells := 2, slots := 30, locals := 424 } : Room) (va_Pc [.ref (ad 0), .int x, .int y, .int z, .int w, .ref oo] (pH D cs A z0 sa oo (lvC n b) ad (ctC cs ad z0 g L B n b y1 y2 N1 N2 nd gv))) (va_Qi (fun (r9 : Int32) (_ : Unit) => r9 = kAddLoan g n x y z w) (fun _ t9 => (kAddLoan g n x y z w = 0 → RC D cs A z0 (ad 0) g (addL L n x y z w) B (n + 1) b t9.heap ∧ OC D cs oo (fun v9 => v9 = (nI n).toInt64) t9.heap) ∧ (¬ kAddLoan g n x y z w = 0 → RC D cs A z0 (ad 0) g L B n b t9.heap ∧ OC D cs oo (fun _ => True) t9.heap)) (fun q => A q ∨ q = oo)) (vx_X (fun (_ : Unit) => False) (fun _ _ _ => True) (fun _ => False)) 2 30 (fun q => A q ∨ q = oo) := by
  refine vx_ofWH (cc := cL_addLoan) (maxL := 7) (ret := (some .int)) (hh := [(0, 14, 17, 13), (0, 14, 21, 15)]) (by decide) rfl ?_
  intro p e s m args below meth c s₁ BB hml hv
  obtain ⟨rfl, hv⟩ := hv
  obtain ⟨⟨hE, hW⟩, hO, hc1, hc2, hc3⟩ := hv
  have hK := hE.1
  have hx := BB.exec
  have hb := BB.bytes
  have hr := BB.returns
  have hts := atoms_spec (ws := wsL_addLoan) BB.pre
  have hown : s.vm.findClass RL = some m.cls := findClass_of_methodNamed BB.named
  have hlocks := BB.notSynchronized
  have hS : va_S (fun q => A q ∨ q = oo) s.heap s.heap [] := va_S.rf
  have hl := lv_entry ([.ref (ad 0), .int x, .int y, .int z, .int w, .ref oo]) (n := 7) (Nat.le_of_ble_eq_true rfl)
  rw [lg_entry_eq]
  generalize (lg_sl ([.ref (ad 0), .int x, .int y, .int z, .int w, .ref oo]) ++ List.replicate (7 - (lg_sl ([.ref (ad 0), .int x, .int y, .int z, .int w, .ref oo])).length) Slot.unset).toArray = ls at hl ⊢
  have hl : lv_has ls 7 [(0, .ref (ad 0)), (1, .int x), (2, .int y), (3, .int z), (4, .int w), (5, .ref oo)] := hl
  have htb := vx_table (x := yL_addLoan) BB (hts (.codeWith yL_addLoan cL_addLoan 7 (some .int) [(0, 14, 17, 13), (0, 14, 21, 15)]) (by decide +kernel))
  refine lv_aload hx hb dL_addLoan_0 (lv_at hl 5 rfl) ?_
  refine lv_iconst (v := 0) hx hb dL_addLoan_2 (by decide) ?_
  refine lv_aload_n hx hb dL_addLoan_3 rfl (lv_at hl 0 rfl) ?_
  refine lv_iload_n hx hb dL_addLoan_4 rfl (lv_at hl 1 rfl) ?_
  refine lv_iload_n hx hb dL_addLoan_5 rfl (lv_at hl 2 rfl) ?_
  refine lv_iload_n hx hb dL_addLoan_6 rfl (lv_at hl 3 rfl) ?_
  refine lv_iload hx hb dL_addLoan_7 (lv_at hl 4 rfl) ?_
  refine vx_calli (vx_runV (As := [.int x, .int y, .int z, .int w]) (rest := [.int 0, .ref oo]) ⟨hx, hb, hml, hown, hts⟩ (c_X3_addLoan l hst D cs A z0 sa ad g L B n b y1 y2 N1 N2 nd gv hn hb5 hN1 hN2 x y z w hz) (cwV 4 hts gL_addLoan_X3_addLoan rfl rfl rfl (by decide +kernel) ⟨Nat.le_of_ble_eq_true rfl, Nat.le_of_ble_eq_true rfl⟩) ⟨pC_fb, wb_recv hK hW (r := 0) (lvC_0 (by decide)) (ci := 4) rfl rfl, fun U hU hV => ⟨rfl, hE.at (A' := fun _ => False) (fun _ h => h.elim) va_S.rf hV hU, by rw [hU]; exact hW⟩⟩ rfl rfl hl.1 rfl (lv_room (Nat.le_of_ble_eq_true rfl)) dL_addLoan_9 ⟨Nat.le_of_ble_eq_true rfl, Nat.le_of_ble_eq_true rfl⟩) hS (fun _ _ h => Or.inl h) (fun _ h => Or.inl h) (fun _ _ h => Or.inl h) (fun E9 ce9 q9 u9 t9 H9 locs9 ht9 hvm9 hpx9 hbx9 hz9 hk9 hS9 hc9 hv9 hl9 => ?_) (fun r_9 u t9 H locs ht hvm hw hB hz1 hk1 hS => ?_)
  · obtain ⟨hx9, hW9⟩ := hbx9
    rw [ht9] at hW9
    have hR9 : RC D cs A z0 (ad 0) g L B n b H9 := ⟨ad, y1, y2, N1, N2, nd, gv, rfl, hN1, hN2, hW9⟩
    have hO9 := (hO.keptA hoo hk9).weak
    rcases hx9 with ⟨hk, rfl⟩ | ⟨hk, rfl⟩
    ·
      refine vx_catch (name := "java/lang/IllegalArgumentException") hown (tableOf []) ⟨0, 14, 17, 13⟩ (tableOf [(0, 14, 21, 15)]) htb (fun z hz => absurd hz List.not_mem_nil) rfl (by decide) (hts (.classLink RL 13 "java/lang/IllegalArgumentException") (by decide +kernel)) (va_Nw.use rfl (hE.2.2.2.2.2.2.2.1 (.castable "java/lang/IllegalArgumentException" "java/lang/IllegalArgumentException") (by decide))) hc9 hv9 hl9 ?_
      refine lv_astore (lv' := [(6, .ref q9), (0, .ref (ad 0)), (1, .int x), (2, .int y), (3, .int z), (4, .int w), (5, .ref oo)]) hx hb dL_addLoan_17 hl (by decide) rfl (fun ls hl => ?_)
      refine lv_iconst (v := 1) hx hb dL_addLoan_19 (by decide) ?_
      refine W.widen (k := 2) (n := 30) (Nat.le_of_ble_eq_true rfl) (Nat.le_of_ble_eq_true rfl) ?_
      exact vx_ret (W.iret (v := 1) hx hb hr (fun t8 ht8 hW8 => ⟨⟨_, (), rfl, hk.symm, ⟨fun h9 => absurd (hk.symm.trans h9) (by decide), fun _ => by rw [ht8]; exact ⟨hR9, hO9⟩⟩⟩, hS9.F ht8⟩) hS9.2.2 dL_addLoan_20)
    ·
      refine vx_catch (name := "java/lang/IllegalStateException") hown (tableOf [(0, 14, 17, 13)]) ⟨0, 14, 21, 15⟩ (tableOf []) htb (fun z hz => by cases List.mem_singleton.mp hz; exact Or.inr ⟨by decide, "java/lang/IllegalArgumentException", hts (.classLink RL 13 "java/lang/IllegalArgumentException") (by decide +kernel), hc1⟩) rfl (by decide) (hts (.classLink RL 15 "java/lang/IllegalStateException") (by decide +kernel)) (va_Nw.use rfl (hE.2.2.2.2.2.2.2.1 (.castable "java/lang/IllegalStateException" "java/lang/IllegalStateException") (by decide))) hc9 hv9 hl9 ?_
      refine lv_astore (lv' := [(6, .ref q9), (0, .ref (ad 0)), (1, .int x), (2, .int y), (3, .int z), (4, .int w), (5, .ref oo)]) hx hb dL_addLoan_21 hl (by decide) rfl (fun ls hl => ?_)
      refine lv_iconst (v := 2) hx hb dL_addLoan_23 (by decide) ?_
      refine W.widen (k := 2) (n := 30) (Nat.le_of_ble_eq_true rfl) (Nat.le_of_ble_eq_true rfl) ?_
      exact vx_ret (W.iret (v := 2) hx hb hr (fun t8 ht8 hW8 => ⟨⟨_, (), rfl, hk.symm, ⟨fun h9 => absurd (hk.symm.trans h9) (by decide), fun _ => by rw [ht8]; exact ⟨hR9, hO9⟩⟩⟩, hS9.F ht8⟩) hS9.2.2 dL_addLoan_24)
  ·
    rw [ht] at hB
    have hO1 := hO.keptA hoo hk1
    obtain ⟨hk, rfl⟩ := hw
    refine lv_i2l (v := (nI n).toInt64) hx hb dL_addLoan_12 rfl ?_
    refine RC_out hx hb hK (kAddLoan_lt hn hk) hb5 hoo hB hO1 hS dL_addLoan_13 (fun H locs hR9 hO9 hS => ?_)
    refine lv_goto (tgt := 25) hx hb dL_addLoan_14 (by decide) ?_
    refine lv_iconst (v := 0) hx hb dL_addLoan_25 (by decide) ?_
    refine W.widen (k := 2) (n := 30) (Nat.le_of_ble_eq_true rfl) (Nat.le_of_ble_eq_true rfl) ?_
    exact vx_ret (W.iret (v := 0) hx hb hr (fun t8 ht8 hW8 => ⟨⟨_, (), rfl, hk.symm, ⟨fun _ => by rw [ht8]; exact ⟨hR9, hO9⟩, fun h9 => absurd hk h9⟩⟩, hS.F ht8⟩) hS.2.2 dL_addLoan_26)

set_option maxHeartbeats 4000000 in
set_option maxRecDepth 100000 in
theorem c_L_enter (l : Launch) (hst : l.stackTraces = false) (D : va_G) (cs : Nat → ClassId) (A : Nat → Prop) (z0 : Nat) (sa : Nat → Nat) (ad : Nat → Nat) (g : Nat → Int32) (L B : Nat → Nat → Int32) (n b : Nat) (y1 y2 : Int32) (N1 N2 : Nat) (nd : Nat → Int32) (gv : Nat → Nat → Int32) (hn : n ≤ 12) (hb5 : b ≤ 5) (hN1 : n ≤ N1 ∧ N1 < 1000) (hN2 : b ≤ N2 ∧ N2 < 1000) (oo : Nat) (hoo : ¬ A oo) (x : Int32)  : vx_Met l yL_enter wsL_enter ({ frames := 9, cells := 1, slots := 6, locals := 143 } : Room) (va_Pc [.ref (ad 0), .int x, .ref oo] (pH D cs A z0 sa oo (lvC n b) ad (ctC cs ad z0 g L B n b y1 y2 N1 N2 nd gv))) (va_Qi (fun (r9 : Int32) (_ : Unit) => r9 = kSt L n 0 x) (fun _ t9 => (kSt L n 0 x = 0 → RC D cs A z0 (ad 0) g (updL L 5 (ixN x) 1) B n b t9.heap ∧ OC D cs oo (fun v9 => v9 = (mCount g (updL L 5 (ixN x) 1) (ixN x)).toInt64) t9.heap) ∧ (¬ kSt L n 0 x = 0 → RC D cs A z0 (ad 0) g L B n b t9.heap ∧ OC D cs oo (fun _ => True) t9.heap)) (fun q => A q ∨ q = oo)) (vx_X (fun (_ : Unit) => False) (fun _ _ _ => True) (fun _ => False)) 1 6 (fun q => A q ∨ q = oo) := by
  refine vx_ofWH (cc := cL_enter) (maxL := 4) (ret := (some .int)) (hh := [(0, 9, 12, 21), (0, 9, 15, 15)]) (by decide) rfl ?_
  intro p e s m args below meth c s₁ BB hml hv
  obtain ⟨rfl, hv⟩ := hv
  obtain ⟨⟨hE, hW⟩, hO, hc1, hc2, hc3⟩ := hv
  have hK := hE.1
  have hx := BB.exec
  have hb := BB.bytes
  have hr := BB.returns
  have hts := atoms_spec (ws := wsL_enter) BB.pre
  have hown : s.vm.findClass RL = some m.cls := findClass_of_methodNamed BB.named
  have hlocks := BB.notSynchronized
  have hS : va_S (fun q => A q ∨ q = oo) s.heap s.heap [] := va_S.rf
  have hl := lv_entry ([.ref (ad 0), .int x, .ref oo]) (n := 4) (Nat.le_of_ble_eq_true rfl)
  rw [lg_entry_eq]
  generalize (lg_sl ([.ref (ad 0), .int x, .ref oo]) ++ List.replicate (4 - (lg_sl ([.ref (ad 0), .int x, .ref oo])).length) Slot.unset).toArray = ls at hl ⊢
  have hl : lv_has ls 4 [(0, .ref (ad 0)), (1, .int x), (2, .ref oo)] := hl
  have htb := vx_table (x := yL_enter) BB (hts (.codeWith yL_enter cL_enter 4 (some .int) [(0, 9, 12, 21), (0, 9, 15, 15)]) (by decide +kernel))
  refine lv_aload_n hx hb dL_enter_0 rfl (lv_at hl 2 rfl) ?_
  refine lv_iconst (v := 0) hx hb dL_enter_1 (by decide) ?_
  refine lv_aload_n hx hb dL_enter_2 rfl (lv_at hl 0 rfl) ?_
  refine lv_iload_n hx hb dL_enter_3 rfl (lv_at hl 1 rfl) ?_
  refine vx_calli (vx_runV (As := [.int x]) (rest := [.int 0, .ref oo]) ⟨hx, hb, hml, hown, hts⟩ (c_X3_enter l hst D cs A z0 sa ad g L B n b y1 y2 N1 N2 nd gv hn hb5 hN1 hN2 x) (cwV 1 hts gL_enter_X3_enter rfl rfl rfl (by decide +kernel) ⟨Nat.le_of_ble_eq_true rfl, Nat.le_of_ble_eq_true rfl⟩) ⟨pC_fb, wb_recv hK hW (r := 0) (lvC_0 (by decide)) (ci := 4) rfl rfl, fun U hU hV => ⟨rfl, hE.at (A' := fun _ => False) (fun _ h => h.elim) va_S.rf hV hU, by rw [hU]; exact hW⟩⟩ rfl rfl hl.1 rfl (lv_room (Nat.le_of_ble_eq_true rfl)) dL_enter_4 ⟨Nat.le_of_ble_eq_true rfl, Nat.le_of_ble_eq_true rfl⟩) hS (fun _ _ h => Or.inl h) (fun _ h => Or.inl h) (fun _ _ h => Or.inl h) (fun E9 ce9 q9 u9 t9 H9 locs9 ht9 hvm9 hpx9 hbx9 hz9 hk9 hS9 hc9 hv9 hl9 => ?_) (fun r_9 u t9 H locs ht hvm hw hB hz1 hk1 hS => ?_)
  · obtain ⟨hx9, hW9⟩ := hbx9
    rw [ht9] at hW9
    have hR9 : RC D cs A z0 (ad 0) g L B n b H9 := ⟨ad, y1, y2, N1, N2, nd, gv, rfl, hN1, hN2, hW9⟩
    have hO9 := (hO.keptA hoo hk9).weak
    rcases hx9 with ⟨hk, rfl⟩ | ⟨hk, rfl⟩
    ·
      refine vx_catch (name := "java/lang/IndexOutOfBoundsException") hown (tableOf []) ⟨0, 9, 12, 21⟩ (tableOf [(0, 9, 15, 15)]) htb (fun z hz => absurd hz List.not_mem_nil) rfl (by decide) (hts (.classLink RL 21 "java/lang/IndexOutOfBoundsException") (by decide +kernel)) (va_Nw.use rfl (hE.2.2.2.2.2.2.2.1 (.castable "java/lang/IndexOutOfBoundsException" "java/lang/IndexOutOfBoundsException") (by decide))) hc9 hv9 hl9 ?_
      refine lv_astore_n (lv' := [(3, .ref q9), (0, .ref (ad 0)), (1, .int x), (2, .ref oo)]) hx hb dL_enter_12 rfl hl (by decide) rfl (fun ls hl => ?_)
      refine lv_iconst (v := 1) hx hb dL_enter_13 (by decide) ?_
      refine W.widen (k := 1) (n := 6) (Nat.le_of_ble_eq_true rfl) (Nat.le_of_ble_eq_true rfl) ?_
      exact vx_ret (W.iret (v := 1) hx hb hr (fun t8 ht8 hW8 => ⟨⟨_, (), rfl, hk.symm, ⟨fun h9 => absurd (hk.symm.trans h9) (by decide), fun _ => by rw [ht8]; exact ⟨hR9, hO9⟩⟩⟩, hS9.F ht8⟩) hS9.2.2 dL_enter_14)
    ·
      refine vx_catch (name := "java/lang/IllegalStateException") hown (tableOf [(0, 9, 12, 21)]) ⟨0, 9, 15, 15⟩ (tableOf []) htb (fun z hz => by cases List.mem_singleton.mp hz; exact Or.inr ⟨by decide, "java/lang/IndexOutOfBoundsException", hts (.classLink RL 21 "java/lang/IndexOutOfBoundsException") (by decide +kernel), hc2⟩) rfl (by decide) (hts (.classLink RL 15 "java/lang/IllegalStateException") (by decide +kernel)) (va_Nw.use rfl (hE.2.2.2.2.2.2.2.1 (.castable "java/lang/IllegalStateException" "java/lang/IllegalStateException") (by decide))) hc9 hv9 hl9 ?_
      refine lv_astore_n (lv' := [(3, .ref q9), (0, .ref (ad 0)), (1, .int x), (2, .ref oo)]) hx hb dL_enter_15 rfl hl (by decide) rfl (fun ls hl => ?_)
      refine lv_iconst (v := 2) hx hb dL_enter_16 (by decide) ?_
      refine W.widen (k := 1) (n := 6) (Nat.le_of_ble_eq_true rfl) (Nat.le_of_ble_eq_true rfl) ?_
      exact vx_ret (W.iret (v := 2) hx hb hr (fun t8 ht8 hW8 => ⟨⟨_, (), rfl, hk.symm, ⟨fun h9 => absurd (hk.symm.trans h9) (by decide), fun _ => by rw [ht8]; exact ⟨hR9, hO9⟩⟩⟩, hS9.F ht8⟩) hS9.2.2 dL_enter_17)
  ·
    rw [ht] at hB
    have hO1 := hO.keptA hoo hk1
    obtain ⟨hk, rfl⟩ := hw
    refine lv_i2l (v := (mCount g (updL L 5 (ixN x) 1) (ixN x)).toInt64) hx hb dL_enter_7 rfl ?_
    refine RC_out hx hb hK hn hb5 hoo hB hO1 hS dL_enter_8 (fun H locs hR9 hO9 hS => ?_)
    refine lv_goto (tgt := 18) hx hb dL_enter_9 (by decide) ?_
    refine lv_iconst (v := 0) hx hb dL_enter_18 (by decide) ?_
    refine W.widen (k := 1) (n := 6) (Nat.le_of_ble_eq_true rfl) (Nat.le_of_ble_eq_true rfl) ?_
    exact vx_ret (W.iret (v := 0) hx hb hr (fun t8 ht8 hW8 => ⟨⟨_, (), rfl, hk.symm, ⟨fun _ => by rw [ht8]; exact ⟨hR9, hO9⟩, fun h9 => absurd hk h9⟩⟩, hS.F ht8⟩) hS.2.2 dL_enter_19)

set_option maxHeartbeats 4000000 in
set_option maxRecDepth 100000 in
theorem c_L_leave (l : Launch) (hst : l.stackTraces = false) (D : va_G) (cs : Nat → ClassId) (A : Nat → Prop) (z0 : Nat) (sa : Nat → Nat) (ad : Nat → Nat) (g : Nat → Int32) (L B : Nat → Nat → Int32) (n b : Nat) (y1 y2 : Int32) (N1 N2 : Nat) (nd : Nat → Int32) (gv : Nat → Nat → Int32) (hn : n ≤ 12) (hb5 : b ≤ 5) (hN1 : n ≤ N1 ∧ N1 < 1000) (hN2 : b ≤ N2 ∧ N2 < 1000) (oo : Nat) (hoo : ¬ A oo) (x : Int32)  (hbd : Bd g L B n b) : vx_Met l yL_leave wsL_leave ({ frames := 9, cells := 1, slots := 6, locals := 198 } : Room) (va_Pc [.ref (ad 0), .int x, .ref oo] (pH D cs A z0 sa oo (lvC n b) ad (ctC cs ad z0 g L B n b y1 y2 N1 N2 nd gv))) (va_Qi (fun (r9 : Int32) (_ : Unit) => r9 = kSt L n 1 x) (fun _ t9 => (kSt L n 1 x = 0 → ((mSafe g L B n b (outOf L n x)) → RC D cs A z0 (ad 0) g (updL L 5 (ixN x) 0) B n b t9.heap ∧ OC D cs oo (fun v9 => v9 = 1) t9.heap) ∧ (¬ (mSafe g L B n b (outOf L n x)) → RC D cs A z0 (ad 0) g L B n b t9.heap ∧ OC D cs oo (fun v9 => v9 = 0) t9.heap)) ∧ (¬ kSt L n 1 x = 0 → RC D cs A z0 (ad 0) g L B n b t9.heap ∧ OC D cs oo (fun _ => True) t9.heap)) (fun q => A q ∨ q = oo)) (vx_X (fun (_ : Unit) => False) (fun _ _ _ => True) (fun _ => False)) 1 6 (fun q => A q ∨ q = oo) := by
  refine vx_ofWH (cc := cL_leave) (maxL := 4) (ret := (some .int)) (hh := [(0, 16, 19, 21), (0, 16, 22, 15)]) (by decide) rfl ?_
  intro p e s m args below meth c s₁ BB hml hv
  obtain ⟨rfl, hv⟩ := hv
  obtain ⟨⟨hE, hW⟩, hO, hc1, hc2, hc3⟩ := hv
  have hK := hE.1
  have hx := BB.exec
  have hb := BB.bytes
  have hr := BB.returns
  have hts := atoms_spec (ws := wsL_leave) BB.pre
  have hown : s.vm.findClass RL = some m.cls := findClass_of_methodNamed BB.named
  have hlocks := BB.notSynchronized
  have hS : va_S (fun q => A q ∨ q = oo) s.heap s.heap [] := va_S.rf
  have hl := lv_entry ([.ref (ad 0), .int x, .ref oo]) (n := 4) (Nat.le_of_ble_eq_true rfl)
  rw [lg_entry_eq]
  generalize (lg_sl ([.ref (ad 0), .int x, .ref oo]) ++ List.replicate (4 - (lg_sl ([.ref (ad 0), .int x, .ref oo])).length) Slot.unset).toArray = ls at hl ⊢
  have hl : lv_has ls 4 [(0, .ref (ad 0)), (1, .int x), (2, .ref oo)] := hl
  have htb := vx_table (x := yL_leave) BB (hts (.codeWith yL_leave cL_leave 4 (some .int) [(0, 16, 19, 21), (0, 16, 22, 15)]) (by decide +kernel))
  refine lv_aload_n hx hb dL_leave_0 rfl (lv_at hl 2 rfl) ?_
  refine lv_iconst (v := 0) hx hb dL_leave_1 (by decide) ?_
  refine lv_aload_n hx hb dL_leave_2 rfl (lv_at hl 0 rfl) ?_
  refine lv_iload_n hx hb dL_leave_3 rfl (lv_at hl 1 rfl) ?_
  refine vx_calli (vx_runV (As := [.int x]) (rest := [.int 0, .ref oo]) ⟨hx, hb, hml, hown, hts⟩ (c_X3_leave l hst D cs A z0 sa ad g L B n b y1 y2 N1 N2 nd gv hn hb5 hN1 hN2 x) (cwV 1 hts gL_leave_X3_leave rfl rfl rfl (by decide +kernel) ⟨Nat.le_of_ble_eq_true rfl, Nat.le_of_ble_eq_true rfl⟩) ⟨pC_fb, wb_recv hK hW (r := 0) (lvC_0 (by decide)) (ci := 4) rfl rfl, fun U hU hV => ⟨rfl, hE.at (A' := fun _ => False) (fun _ h => h.elim) va_S.rf hV hU, by rw [hU]; exact hW⟩⟩ rfl rfl hl.1 rfl (lv_room (Nat.le_of_ble_eq_true rfl)) dL_leave_4 ⟨Nat.le_of_ble_eq_true rfl, Nat.le_of_ble_eq_true rfl⟩) hS (fun _ _ h => Or.inl h) (fun _ h => Or.inl h) (fun _ _ h => Or.inl h) (fun E9 ce9 q9 u9 t9 H9 locs9 ht9 hvm9 hpx9 hbx9 hz9 hk9 hS9 hc9 hv9 hl9 => ?_) (fun r_9 u t9 H locs ht hvm hw hB hz1 hk1 hS => ?_)
  · obtain ⟨hx9, hW9⟩ := hbx9
    rw [ht9] at hW9
    have hR9 : RC D cs A z0 (ad 0) g L B n b H9 := ⟨ad, y1, y2, N1, N2, nd, gv, rfl, hN1, hN2, hW9⟩
    have hO9 := (hO.keptA hoo hk9).weak
    rcases hx9 with ⟨hk, rfl⟩ | ⟨hk, rfl⟩
    ·
      refine vx_catch (name := "java/lang/IndexOutOfBoundsException") hown (tableOf []) ⟨0, 16, 19, 21⟩ (tableOf [(0, 16, 22, 15)]) htb (fun z hz => absurd hz List.not_mem_nil) rfl (by decide) (hts (.classLink RL 21 "java/lang/IndexOutOfBoundsException") (by decide +kernel)) (va_Nw.use rfl (hE.2.2.2.2.2.2.2.1 (.castable "java/lang/IndexOutOfBoundsException" "java/lang/IndexOutOfBoundsException") (by decide))) hc9 hv9 hl9 ?_
      refine lv_astore_n (lv' := [(3, .ref q9), (0, .ref (ad 0)), (1, .int x), (2, .ref oo)]) hx hb dL_leave_19 rfl hl (by decide) rfl (fun ls hl => ?_)
      refine lv_iconst (v := 1) hx hb dL_leave_20 (by decide) ?_
      refine W.widen (k := 1) (n := 6) (Nat.le_of_ble_eq_true rfl) (Nat.le_of_ble_eq_true rfl) ?_
      exact vx_ret (W.iret (v := 1) hx hb hr (fun t8 ht8 hW8 => ⟨⟨_, (), rfl, hk.symm, ⟨fun h9 => absurd (hk.symm.trans h9) (by decide), fun _ => by rw [ht8]; exact ⟨hR9, hO9⟩⟩⟩, hS9.F ht8⟩) hS9.2.2 dL_leave_21)
    ·
      refine vx_catch (name := "java/lang/IllegalStateException") hown (tableOf [(0, 16, 19, 21)]) ⟨0, 16, 22, 15⟩ (tableOf []) htb (fun z hz => by cases List.mem_singleton.mp hz; exact Or.inr ⟨by decide, "java/lang/IndexOutOfBoundsException", hts (.classLink RL 21 "java/lang/IndexOutOfBoundsException") (by decide +kernel), hc2⟩) rfl (by decide) (hts (.classLink RL 15 "java/lang/IllegalStateException") (by decide +kernel)) (va_Nw.use rfl (hE.2.2.2.2.2.2.2.1 (.castable "java/lang/IllegalStateException" "java/lang/IllegalStateException") (by decide))) hc9 hv9 hl9 ?_
      refine lv_astore_n (lv' := [(3, .ref q9), (0, .ref (ad 0)), (1, .int x), (2, .ref oo)]) hx hb dL_leave_22 rfl hl (by decide) rfl (fun ls hl => ?_)
      refine lv_iconst (v := 2) hx hb dL_leave_23 (by decide) ?_
      refine W.widen (k := 1) (n := 6) (Nat.le_of_ble_eq_true rfl) (Nat.le_of_ble_eq_true rfl) ?_
      exact vx_ret (W.iret (v := 2) hx hb hr (fun t8 ht8 hW8 => ⟨⟨_, (), rfl, hk.symm, ⟨fun h9 => absurd (hk.symm.trans h9) (by decide), fun _ => by rw [ht8]; exact ⟨hR9, hO9⟩⟩⟩, hS9.F ht8⟩) hS9.2.2 dL_leave_24)
  ·
    rw [ht] at hB
    have hO1 := hO.keptA hoo hk1
    obtain ⟨hk, rfl, hpp⟩ := hw
    rcases hpp with ⟨rfl, hP⟩ | ⟨rfl, hP⟩
    ·
      rw [if_pos rfl] at hB
      have hP2 : mSafe g L B n b (outOf L n x) := (cAll_eq hbd nd gv (okS_out L hn x)).mp hP
      refine lv_if_eq (tgt := 14) hx hb dL_leave_7 (by decide) (fun c_1 => ?_) (fun c_1 => ?_)
      · -- 1 eq 0 : True
        exact absurd c_1 (by decide)
      · -- 1 eq 0 : False
        refine lv_lconst (v := 1) hx hb dL_leave_10 (by decide) ?_
        refine lv_goto (tgt := 15) hx hb dL_leave_11 (by decide) ?_
        refine RC_out hx hb hK hn hb5 hoo hB hO1 hS dL_leave_15 (fun H locs hR9 hO9 hS => ?_)
        refine lv_goto (tgt := 25) hx hb dL_leave_16 (by decide) ?_
        refine lv_iconst (v := 0) hx hb dL_leave_25 (by decide) ?_
        refine W.widen (k := 1) (n := 6) (Nat.le_of_ble_eq_true rfl) (Nat.le_of_ble_eq_true rfl) ?_
        exact vx_ret (W.iret (v := 0) hx hb hr (fun t8 ht8 hW8 => ⟨⟨_, (), rfl, hk.symm, ⟨fun _ => ⟨fun _ => by rw [ht8]; exact ⟨hR9, hO9⟩, fun h9 => absurd hP2 h9⟩, fun h9 => absurd hk h9⟩⟩, hS.F ht8⟩) hS.2.2 dL_leave_26)
    ·
      rw [if_neg (by decide)] at hB
      have hP2 : ¬ mSafe g L B n b (outOf L n x) := fun z9 => hP ((cAll_eq hbd nd gv (okS_out L hn x)).mpr z9)
      refine lv_if_eq (tgt := 14) hx hb dL_leave_7 (by decide) (fun c_2 => ?_) (fun c_2 => ?_)
      · -- 0 eq 0 : True
        refine lv_lconst (v := 0) hx hb dL_leave_14 (by decide) ?_
        refine RC_out hx hb hK hn hb5 hoo hB hO1 hS dL_leave_15 (fun H locs hR9 hO9 hS => ?_)
        refine lv_goto (tgt := 25) hx hb dL_leave_16 (by decide) ?_
        refine lv_iconst (v := 0) hx hb dL_leave_25 (by decide) ?_
        refine W.widen (k := 1) (n := 6) (Nat.le_of_ble_eq_true rfl) (Nat.le_of_ble_eq_true rfl) ?_
        exact vx_ret (W.iret (v := 0) hx hb hr (fun t8 ht8 hW8 => ⟨⟨_, (), rfl, hk.symm, ⟨fun _ => ⟨fun h9 => absurd h9 hP2, fun _ => by rw [ht8]; exact ⟨hR9, hO9⟩⟩, fun h9 => absurd hk h9⟩⟩, hS.F ht8⟩) hS.2.2 dL_leave_26)
      · -- 0 eq 0 : False
        exact absurd c_2 (by decide)

set_option maxHeartbeats 4000000 in
set_option maxRecDepth 100000 in
theorem c_L_swap (l : Launch) (hst : l.stackTraces = false) (D : va_G) (cs : Nat → ClassId) (A : Nat → Prop) (z0 : Nat) (sa : Nat → Nat) (ad : Nat → Nat) (g : Nat → Int32) (L B : Nat → Nat → Int32) (n b : Nat) (y1 y2 : Int32) (N1 N2 : Nat) (nd : Nat → Int32) (gv : Nat → Nat → Int32) (hn : n ≤ 12) (hb5 : b ≤ 5) (hN1 : n ≤ N1 ∧ N1 < 1000) (hN2 : b ≤ N2 ∧ N2 < 1000) (oo : Nat) (hoo : ¬ A oo) (x : Int32) (y : Int32)  (hbd : Bd g L B n b) : vx_Met l yL_swap wsL_swap ({ frames := 9, cells := 1, slots := 6, locals := 203 } : Room) (va_Pc [.ref (ad 0), .int x, .int y, .ref oo] (pH D cs A z0 sa oo (lvC n b) ad (ctC cs ad z0 g L B n b y1 y2 N1 N2 nd gv))) (va_Qi (fun (r9 : Int32) (_ : Unit) => r9 = kSwap L n x y) (fun _ t9 => (kSwap L n x y = 0 → ((canSwap g L B n b x y) → RC D cs A z0 (ad 0) g (updL (updL L 5 (ixN x) 0) 5 (ixN y) 1) B n b t9.heap ∧ OC D cs oo (fun v9 => v9 = 1) t9.heap) ∧ (¬ (canSwap g L B n b x y) → RC D cs A z0 (ad 0) g L B n b t9.heap ∧ OC D cs oo (fun v9 => v9 = 0) t9.heap)) ∧ (¬ kSwap L n x y = 0 → RC D cs A z0 (ad 0) g L B n b t9.heap ∧ OC D cs oo (fun _ => True) t9.heap)) (fun q => A q ∨ q = oo)) (vx_X (fun (_ : Unit) => False) (fun _ _ _ => True) (fun _ => False)) 1 6 (fun q => A q ∨ q = oo) := by
  refine vx_ofWH (cc := cL_swap) (maxL := 5) (ret := (some .int)) (hh := [(0, 17, 20, 21), (0, 17, 24, 15)]) (by decide) rfl ?_
  intro p e s m args below meth c s₁ BB hml hv
  obtain ⟨rfl, hv⟩ := hv
  obtain ⟨⟨hE, hW⟩, hO, hc1, hc2, hc3⟩ := hv
  have hK := hE.1
  have hx := BB.exec
  have hb := BB.bytes
  have hr := BB.returns
  have hts := atoms_spec (ws := wsL_swap) BB.pre
  have hown : s.vm.findClass RL = some m.cls := findClass_of_methodNamed BB.named
  have hlocks := BB.notSynchronized
  have hS : va_S (fun q => A q ∨ q = oo) s.heap s.heap [] := va_S.rf
  have hl := lv_entry ([.ref (ad 0), .int x, .int y, .ref oo]) (n := 5) (Nat.le_of_ble_eq_true rfl)
  rw [lg_entry_eq]
  generalize (lg_sl ([.ref (ad 0), .int x, .int y, .ref oo]) ++ List.replicate (5 - (lg_sl ([.ref (ad 0), .int x, .int y, .ref oo])).length) Slot.unset).toArray = ls at hl ⊢
  have hl : lv_has ls 5 [(0, .ref (ad 0)), (1, .int x), (2, .int y), (3, .ref oo)] := hl
  have htb := vx_table (x := yL_swap) BB (hts (.codeWith yL_swap cL_swap 5 (some .int) [(0, 17, 20, 21), (0, 17, 24, 15)]) (by decide +kernel))
  refine lv_aload_n hx hb dL_swap_0 rfl (lv_at hl 3 rfl) ?_
  refine lv_iconst (v := 0) hx hb dL_swap_1 (by decide) ?_
  refine lv_aload_n hx hb dL_swap_2 rfl (lv_at hl 0 rfl) ?_
  refine lv_iload_n hx hb dL_swap_3 rfl (lv_at hl 1 rfl) ?_
  refine lv_iload_n hx hb dL_swap_4 rfl (lv_at hl 2 rfl) ?_
  refine vx_calli (vx_runV (As := [.int x, .int y]) (rest := [.int 0, .ref oo]) ⟨hx, hb, hml, hown, hts⟩ (c_X3_swap l hst D cs A z0 sa ad g L B n b y1 y2 N1 N2 nd gv hn hb5 hN1 hN2 x y) (cwV 2 hts gL_swap_X3_swap rfl rfl rfl (by decide +kernel) ⟨Nat.le_of_ble_eq_true rfl, Nat.le_of_ble_eq_true rfl⟩) ⟨pC_fb, wb_recv hK hW (r := 0) (lvC_0 (by decide)) (ci := 4) rfl rfl, fun U hU hV => ⟨rfl, hE.at (A' := fun _ => False) (fun _ h => h.elim) va_S.rf hV hU, by rw [hU]; exact hW⟩⟩ rfl rfl hl.1 rfl (lv_room (Nat.le_of_ble_eq_true rfl)) dL_swap_5 ⟨Nat.le_of_ble_eq_true rfl, Nat.le_of_ble_eq_true rfl⟩) hS (fun _ _ h => Or.inl h) (fun _ h => Or.inl h) (fun _ _ h => Or.inl h) (fun E9 ce9 q9 u9 t9 H9 locs9 ht9 hvm9 hpx9 hbx9 hz9 hk9 hS9 hc9 hv9 hl9 => ?_) (fun r_9 u t9 H locs ht hvm hw hB hz1 hk1 hS => ?_)
  · obtain ⟨hx9, hW9⟩ := hbx9
    rw [ht9] at hW9
    have hR9 : RC D cs A z0 (ad 0) g L B n b H9 := ⟨ad, y1, y2, N1, N2, nd, gv, rfl, hN1, hN2, hW9⟩
    have hO9 := (hO.keptA hoo hk9).weak
    rcases hx9 with ⟨hk, rfl⟩ | ⟨hk, rfl⟩
    ·
      refine vx_catch (name := "java/lang/IndexOutOfBoundsException") hown (tableOf []) ⟨0, 17, 20, 21⟩ (tableOf [(0, 17, 24, 15)]) htb (fun z hz => absurd hz List.not_mem_nil) rfl (by decide) (hts (.classLink RL 21 "java/lang/IndexOutOfBoundsException") (by decide +kernel)) (va_Nw.use rfl (hE.2.2.2.2.2.2.2.1 (.castable "java/lang/IndexOutOfBoundsException" "java/lang/IndexOutOfBoundsException") (by decide))) hc9 hv9 hl9 ?_
      refine lv_astore (lv' := [(4, .ref q9), (0, .ref (ad 0)), (1, .int x), (2, .int y), (3, .ref oo)]) hx hb dL_swap_20 hl (by decide) rfl (fun ls hl => ?_)
      refine lv_iconst (v := 1) hx hb dL_swap_22 (by decide) ?_
      refine W.widen (k := 1) (n := 6) (Nat.le_of_ble_eq_true rfl) (Nat.le_of_ble_eq_true rfl) ?_
      exact vx_ret (W.iret (v := 1) hx hb hr (fun t8 ht8 hW8 => ⟨⟨_, (), rfl, hk.symm, ⟨fun h9 => absurd (hk.symm.trans h9) (by decide), fun _ => by rw [ht8]; exact ⟨hR9, hO9⟩⟩⟩, hS9.F ht8⟩) hS9.2.2 dL_swap_23)
    ·
      refine vx_catch (name := "java/lang/IllegalStateException") hown (tableOf [(0, 17, 20, 21)]) ⟨0, 17, 24, 15⟩ (tableOf []) htb (fun z hz => by cases List.mem_singleton.mp hz; exact Or.inr ⟨by decide, "java/lang/IndexOutOfBoundsException", hts (.classLink RL 21 "java/lang/IndexOutOfBoundsException") (by decide +kernel), hc2⟩) rfl (by decide) (hts (.classLink RL 15 "java/lang/IllegalStateException") (by decide +kernel)) (va_Nw.use rfl (hE.2.2.2.2.2.2.2.1 (.castable "java/lang/IllegalStateException" "java/lang/IllegalStateException") (by decide))) hc9 hv9 hl9 ?_
      refine lv_astore (lv' := [(4, .ref q9), (0, .ref (ad 0)), (1, .int x), (2, .int y), (3, .ref oo)]) hx hb dL_swap_24 hl (by decide) rfl (fun ls hl => ?_)
      refine lv_iconst (v := 2) hx hb dL_swap_26 (by decide) ?_
      refine W.widen (k := 1) (n := 6) (Nat.le_of_ble_eq_true rfl) (Nat.le_of_ble_eq_true rfl) ?_
      exact vx_ret (W.iret (v := 2) hx hb hr (fun t8 ht8 hW8 => ⟨⟨_, (), rfl, hk.symm, ⟨fun h9 => absurd (hk.symm.trans h9) (by decide), fun _ => by rw [ht8]; exact ⟨hR9, hO9⟩⟩⟩, hS9.F ht8⟩) hS9.2.2 dL_swap_27)
  ·
    rw [ht] at hB
    have hO1 := hO.keptA hoo hk1
    obtain ⟨hk, rfl, hpp⟩ := hw
    rcases hpp with ⟨rfl, hP⟩ | ⟨rfl, hP⟩
    ·
      rw [if_pos rfl] at hB
      have hP2 : canSwap g L B n b x y := (swap_iff hbd nd gv hk).mp hP
      refine lv_if_eq (tgt := 15) hx hb dL_swap_8 (by decide) (fun c_1 => ?_) (fun c_1 => ?_)
      · -- 1 eq 0 : True
        exact absurd c_1 (by decide)
      · -- 1 eq 0 : False
        refine lv_lconst (v := 1) hx hb dL_swap_11 (by decide) ?_
        refine lv_goto (tgt := 16) hx hb dL_swap_12 (by decide) ?_
        refine RC_out hx hb hK hn hb5 hoo hB hO1 hS dL_swap_16 (fun H locs hR9 hO9 hS => ?_)
        refine lv_goto (tgt := 28) hx hb dL_swap_17 (by decide) ?_
        refine lv_iconst (v := 0) hx hb dL_swap_28 (by decide) ?_
        refine W.widen (k := 1) (n := 6) (Nat.le_of_ble_eq_true rfl) (Nat.le_of_ble_eq_true rfl) ?_
        exact vx_ret (W.iret (v := 0) hx hb hr (fun t8 ht8 hW8 => ⟨⟨_, (), rfl, hk.symm, ⟨fun _ => ⟨fun _ => by rw [ht8]; exact ⟨hR9, hO9⟩, fun h9 => absurd hP2 h9⟩, fun h9 => absurd hk h9⟩⟩, hS.F ht8⟩) hS.2.2 dL_swap_29)
    ·
      rw [if_neg (by decide)] at hB
      have hP2 : ¬ canSwap g L B n b x y := fun z9 => hP ((swap_iff hbd nd gv hk).mpr z9)
      refine lv_if_eq (tgt := 15) hx hb dL_swap_8 (by decide) (fun c_2 => ?_) (fun c_2 => ?_)
      · -- 0 eq 0 : True
        refine lv_lconst (v := 0) hx hb dL_swap_15 (by decide) ?_
        refine RC_out hx hb hK hn hb5 hoo hB hO1 hS dL_swap_16 (fun H locs hR9 hO9 hS => ?_)
        refine lv_goto (tgt := 28) hx hb dL_swap_17 (by decide) ?_
        refine lv_iconst (v := 0) hx hb dL_swap_28 (by decide) ?_
        refine W.widen (k := 1) (n := 6) (Nat.le_of_ble_eq_true rfl) (Nat.le_of_ble_eq_true rfl) ?_
        exact vx_ret (W.iret (v := 0) hx hb hr (fun t8 ht8 hW8 => ⟨⟨_, (), rfl, hk.symm, ⟨fun _ => ⟨fun h9 => absurd h9 hP2, fun _ => by rw [ht8]; exact ⟨hR9, hO9⟩⟩, fun h9 => absurd hk h9⟩⟩, hS.F ht8⟩) hS.2.2 dL_swap_29)
      · -- 0 eq 0 : False
        exact absurd c_2 (by decide)

set_option maxHeartbeats 4000000 in
set_option maxRecDepth 100000 in
theorem c_L_setArrears (l : Launch) (hst : l.stackTraces = false) (D : va_G) (cs : Nat → ClassId) (A : Nat → Prop) (z0 : Nat) (sa : Nat → Nat) (ad : Nat → Nat) (g : Nat → Int32) (L B : Nat → Nat → Int32) (n b : Nat) (y1 y2 : Int32) (N1 N2 : Nat) (nd : Nat → Int32) (gv : Nat → Nat → Int32) (hn : n ≤ 12) (hb5 : b ≤ 5) (hN1 : n ≤ N1 ∧ N1 < 1000) (hN2 : b ≤ N2 ∧ N2 < 1000) (oo : Nat) (hoo : ¬ A oo) (x : Int32) (y : Int32)  : vx_Met l yL_setArrears wsL_setArrears ({ frames := 9, cells := 1, slots := 6, locals := 146 } : Room) (va_Pc [.ref (ad 0), .int x, .int y, .ref oo] (pH D cs A z0 sa oo (lvC n b) ad (ctC cs ad z0 g L B n b y1 y2 N1 N2 nd gv))) (va_Qi (fun (r9 : Int32) (_ : Unit) => r9 = kArr L n x y) (fun _ t9 => (kArr L n x y = 0 → RC D cs A z0 (ad 0) g (updL L 4 (ixN x) y) B n b t9.heap ∧ OC D cs oo (fun v9 => v9 = (L 4 (ixN x)).toInt64) t9.heap) ∧ (¬ kArr L n x y = 0 → RC D cs A z0 (ad 0) g L B n b t9.heap ∧ OC D cs oo (fun _ => True) t9.heap)) (fun q => A q ∨ q = oo)) (vx_X (fun (_ : Unit) => False) (fun _ _ _ => True) (fun _ => False)) 1 6 (fun q => A q ∨ q = oo) := by
  refine vx_ofWH (cc := cL_setArrears) (maxL := 5) (ret := (some .int)) (hh := [(0, 10, 13, 21), (0, 10, 17, 13), (0, 10, 21, 15)]) (by decide) rfl ?_
  intro p e s m args below meth c s₁ BB hml hv
  obtain ⟨rfl, hv⟩ := hv
  obtain ⟨⟨hE, hW⟩, hO, hc1, hc2, hc3⟩ := hv
  have hK := hE.1
  have hx := BB.exec
  have hb := BB.bytes
  have hr := BB.returns
  have hts := atoms_spec (ws := wsL_setArrears) BB.pre
  have hown : s.vm.findClass RL = some m.cls := findClass_of_methodNamed BB.named
  have hlocks := BB.notSynchronized
  have hS : va_S (fun q => A q ∨ q = oo) s.heap s.heap [] := va_S.rf
  have hl := lv_entry ([.ref (ad 0), .int x, .int y, .ref oo]) (n := 5) (Nat.le_of_ble_eq_true rfl)
  rw [lg_entry_eq]
  generalize (lg_sl ([.ref (ad 0), .int x, .int y, .ref oo]) ++ List.replicate (5 - (lg_sl ([.ref (ad 0), .int x, .int y, .ref oo])).length) Slot.unset).toArray = ls at hl ⊢
  have hl : lv_has ls 5 [(0, .ref (ad 0)), (1, .int x), (2, .int y), (3, .ref oo)] := hl
  have htb := vx_table (x := yL_setArrears) BB (hts (.codeWith yL_setArrears cL_setArrears 5 (some .int) [(0, 10, 13, 21), (0, 10, 17, 13), (0, 10, 21, 15)]) (by decide +kernel))
  refine lv_aload_n hx hb dL_setArrears_0 rfl (lv_at hl 3 rfl) ?_
  refine lv_iconst (v := 0) hx hb dL_setArrears_1 (by decide) ?_
  refine lv_aload_n hx hb dL_setArrears_2 rfl (lv_at hl 0 rfl) ?_
  refine lv_iload_n hx hb dL_setArrears_3 rfl (lv_at hl 1 rfl) ?_
  refine lv_iload_n hx hb dL_setArrears_4 rfl (lv_at hl 2 rfl) ?_
  refine vx_calli (vx_runV (As := [.int x, .int y]) (rest := [.int 0, .ref oo]) ⟨hx, hb, hml, hown, hts⟩ (c_X3_setArrears l hst D cs A z0 sa ad g L B n b y1 y2 N1 N2 nd gv hn hb5 hN1 hN2 x y) (cwV 2 hts gL_setArrears_X3_setArrears rfl rfl rfl (by decide +kernel) ⟨Nat.le_of_ble_eq_true rfl, Nat.le_of_ble_eq_true rfl⟩) ⟨pC_fb, wb_recv hK hW (r := 0) (lvC_0 (by decide)) (ci := 4) rfl rfl, fun U hU hV => ⟨rfl, hE.at (A' := fun _ => False) (fun _ h => h.elim) va_S.rf hV hU, by rw [hU]; exact hW⟩⟩ rfl rfl hl.1 rfl (lv_room (Nat.le_of_ble_eq_true rfl)) dL_setArrears_5 ⟨Nat.le_of_ble_eq_true rfl, Nat.le_of_ble_eq_true rfl⟩) hS (fun _ _ h => Or.inl h) (fun _ h => Or.inl h) (fun _ _ h => Or.inl h) (fun E9 ce9 q9 u9 t9 H9 locs9 ht9 hvm9 hpx9 hbx9 hz9 hk9 hS9 hc9 hv9 hl9 => ?_) (fun r_9 u t9 H locs ht hvm hw hB hz1 hk1 hS => ?_)
  · obtain ⟨hx9, hW9⟩ := hbx9
    rw [ht9] at hW9
    have hR9 : RC D cs A z0 (ad 0) g L B n b H9 := ⟨ad, y1, y2, N1, N2, nd, gv, rfl, hN1, hN2, hW9⟩
    have hO9 := (hO.keptA hoo hk9).weak
    rcases hx9 with ⟨hk, rfl⟩ | ⟨hk, rfl⟩ | ⟨hk, rfl⟩
    ·
      refine vx_catch (name := "java/lang/IndexOutOfBoundsException") hown (tableOf []) ⟨0, 10, 13, 21⟩ (tableOf [(0, 10, 17, 13), (0, 10, 21, 15)]) htb (fun z hz => absurd hz List.not_mem_nil) rfl (by decide) (hts (.classLink RL 21 "java/lang/IndexOutOfBoundsException") (by decide +kernel)) (va_Nw.use rfl (hE.2.2.2.2.2.2.2.1 (.castable "java/lang/IndexOutOfBoundsException" "java/lang/IndexOutOfBoundsException") (by decide))) hc9 hv9 hl9 ?_
      refine lv_astore (lv' := [(4, .ref q9), (0, .ref (ad 0)), (1, .int x), (2, .int y), (3, .ref oo)]) hx hb dL_setArrears_13 hl (by decide) rfl (fun ls hl => ?_)
      refine lv_iconst (v := 1) hx hb dL_setArrears_15 (by decide) ?_
      refine W.widen (k := 1) (n := 6) (Nat.le_of_ble_eq_true rfl) (Nat.le_of_ble_eq_true rfl) ?_
      exact vx_ret (W.iret (v := 1) hx hb hr (fun t8 ht8 hW8 => ⟨⟨_, (), rfl, hk.symm, ⟨fun h9 => absurd (hk.symm.trans h9) (by decide), fun _ => by rw [ht8]; exact ⟨hR9, hO9⟩⟩⟩, hS9.F ht8⟩) hS9.2.2 dL_setArrears_16)
    ·
      refine vx_catch (name := "java/lang/IllegalArgumentException") hown (tableOf [(0, 10, 13, 21)]) ⟨0, 10, 17, 13⟩ (tableOf [(0, 10, 21, 15)]) htb (fun z hz => by cases List.mem_singleton.mp hz; exact Or.inr ⟨by decide, "java/lang/IndexOutOfBoundsException", hts (.classLink RL 21 "java/lang/IndexOutOfBoundsException") (by decide +kernel), hc3⟩) rfl (by decide) (hts (.classLink RL 13 "java/lang/IllegalArgumentException") (by decide +kernel)) (va_Nw.use rfl (hE.2.2.2.2.2.2.2.1 (.castable "java/lang/IllegalArgumentException" "java/lang/IllegalArgumentException") (by decide))) hc9 hv9 hl9 ?_
      refine lv_astore (lv' := [(4, .ref q9), (0, .ref (ad 0)), (1, .int x), (2, .int y), (3, .ref oo)]) hx hb dL_setArrears_17 hl (by decide) rfl (fun ls hl => ?_)
      refine lv_iconst (v := 2) hx hb dL_setArrears_19 (by decide) ?_
      refine W.widen (k := 1) (n := 6) (Nat.le_of_ble_eq_true rfl) (Nat.le_of_ble_eq_true rfl) ?_
      exact vx_ret (W.iret (v := 2) hx hb hr (fun t8 ht8 hW8 => ⟨⟨_, (), rfl, hk.symm, ⟨fun h9 => absurd (hk.symm.trans h9) (by decide), fun _ => by rw [ht8]; exact ⟨hR9, hO9⟩⟩⟩, hS9.F ht8⟩) hS9.2.2 dL_setArrears_20)
    ·
      refine vx_catch (name := "java/lang/IllegalStateException") hown (tableOf [(0, 10, 13, 21), (0, 10, 17, 13)]) ⟨0, 10, 21, 15⟩ (tableOf []) htb (fun z hz => by rcases List.mem_cons.mp hz with rfl | hz; exact Or.inr ⟨by decide, "java/lang/IndexOutOfBoundsException", hts (.classLink RL 21 "java/lang/IndexOutOfBoundsException") (by decide +kernel), hc2⟩; cases List.mem_singleton.mp hz; exact Or.inr ⟨by decide, "java/lang/IllegalArgumentException", hts (.classLink RL 13 "java/lang/IllegalArgumentException") (by decide +kernel), hc1⟩) rfl (by decide) (hts (.classLink RL 15 "java/lang/IllegalStateException") (by decide +kernel)) (va_Nw.use rfl (hE.2.2.2.2.2.2.2.1 (.castable "java/lang/IllegalStateException" "java/lang/IllegalStateException") (by decide))) hc9 hv9 hl9 ?_
      refine lv_astore (lv' := [(4, .ref q9), (0, .ref (ad 0)), (1, .int x), (2, .int y), (3, .ref oo)]) hx hb dL_setArrears_21 hl (by decide) rfl (fun ls hl => ?_)
      refine lv_iconst (v := 3) hx hb dL_setArrears_23 (by decide) ?_
      refine W.widen (k := 1) (n := 6) (Nat.le_of_ble_eq_true rfl) (Nat.le_of_ble_eq_true rfl) ?_
      exact vx_ret (W.iret (v := 3) hx hb hr (fun t8 ht8 hW8 => ⟨⟨_, (), rfl, hk.symm, ⟨fun h9 => absurd (hk.symm.trans h9) (by decide), fun _ => by rw [ht8]; exact ⟨hR9, hO9⟩⟩⟩, hS9.F ht8⟩) hS9.2.2 dL_setArrears_24)
  ·
    rw [ht] at hB
    have hO1 := hO.keptA hoo hk1
    obtain ⟨hk, rfl⟩ := hw
    refine lv_i2l (v := (L 4 (ixN x)).toInt64) hx hb dL_setArrears_8 rfl ?_
    refine RC_out hx hb hK hn hb5 hoo hB hO1 hS dL_setArrears_9 (fun H locs hR9 hO9 hS => ?_)
    refine lv_goto (tgt := 25) hx hb dL_setArrears_10 (by decide) ?_
    refine lv_iconst (v := 0) hx hb dL_setArrears_25 (by decide) ?_
    refine W.widen (k := 1) (n := 6) (Nat.le_of_ble_eq_true rfl) (Nat.le_of_ble_eq_true rfl) ?_
    exact vx_ret (W.iret (v := 0) hx hb hr (fun t8 ht8 hW8 => ⟨⟨_, (), rfl, hk.symm, ⟨fun _ => by rw [ht8]; exact ⟨hR9, hO9⟩, fun h9 => absurd hk h9⟩⟩, hS.F ht8⟩) hS.2.2 dL_setArrears_26)

set_option maxHeartbeats 4000000 in
set_option maxRecDepth 100000 in
theorem c_L_setWorth (l : Launch) (hst : l.stackTraces = false) (D : va_G) (cs : Nat → ClassId) (A : Nat → Prop) (z0 : Nat) (sa : Nat → Nat) (ad : Nat → Nat) (g : Nat → Int32) (L B : Nat → Nat → Int32) (n b : Nat) (y1 y2 : Int32) (N1 N2 : Nat) (nd : Nat → Int32) (gv : Nat → Nat → Int32) (hn : n ≤ 12) (hb5 : b ≤ 5) (hN1 : n ≤ N1 ∧ N1 < 1000) (hN2 : b ≤ N2 ∧ N2 < 1000) (oo : Nat) (hoo : ¬ A oo) (x : Int32) (y : Int32)  : vx_Met l yL_setWorth wsL_setWorth ({ frames := 9, cells := 1, slots := 6, locals := 146 } : Room) (va_Pc [.ref (ad 0), .int x, .int y, .ref oo] (pH D cs A z0 sa oo (lvC n b) ad (ctC cs ad z0 g L B n b y1 y2 N1 N2 nd gv))) (va_Qi (fun (r9 : Int32) (_ : Unit) => r9 = kWorth n x y) (fun _ t9 => (kWorth n x y = 0 → RC D cs A z0 (ad 0) g (updL L 1 (ixN x) y) B n b t9.heap ∧ OC D cs oo (fun v9 => v9 = (L 1 (ixN x)).toInt64) t9.heap) ∧ (¬ kWorth n x y = 0 → RC D cs A z0 (ad 0) g L B n b t9.heap ∧ OC D cs oo (fun _ => True) t9.heap)) (fun q => A q ∨ q = oo)) (vx_X (fun (_ : Unit) => False) (fun _ _ _ => True) (fun _ => False)) 1 6 (fun q => A q ∨ q = oo) := by
  refine vx_ofWH (cc := cL_setWorth) (maxL := 5) (ret := (some .int)) (hh := [(0, 10, 13, 21), (0, 10, 17, 13)]) (by decide) rfl ?_
  intro p e s m args below meth c s₁ BB hml hv
  obtain ⟨rfl, hv⟩ := hv
  obtain ⟨⟨hE, hW⟩, hO, hc1, hc2, hc3⟩ := hv
  have hK := hE.1
  have hx := BB.exec
  have hb := BB.bytes
  have hr := BB.returns
  have hts := atoms_spec (ws := wsL_setWorth) BB.pre
  have hown : s.vm.findClass RL = some m.cls := findClass_of_methodNamed BB.named
  have hlocks := BB.notSynchronized
  have hS : va_S (fun q => A q ∨ q = oo) s.heap s.heap [] := va_S.rf
  have hl := lv_entry ([.ref (ad 0), .int x, .int y, .ref oo]) (n := 5) (Nat.le_of_ble_eq_true rfl)
  rw [lg_entry_eq]
  generalize (lg_sl ([.ref (ad 0), .int x, .int y, .ref oo]) ++ List.replicate (5 - (lg_sl ([.ref (ad 0), .int x, .int y, .ref oo])).length) Slot.unset).toArray = ls at hl ⊢
  have hl : lv_has ls 5 [(0, .ref (ad 0)), (1, .int x), (2, .int y), (3, .ref oo)] := hl
  have htb := vx_table (x := yL_setWorth) BB (hts (.codeWith yL_setWorth cL_setWorth 5 (some .int) [(0, 10, 13, 21), (0, 10, 17, 13)]) (by decide +kernel))
  refine lv_aload_n hx hb dL_setWorth_0 rfl (lv_at hl 3 rfl) ?_
  refine lv_iconst (v := 0) hx hb dL_setWorth_1 (by decide) ?_
  refine lv_aload_n hx hb dL_setWorth_2 rfl (lv_at hl 0 rfl) ?_
  refine lv_iload_n hx hb dL_setWorth_3 rfl (lv_at hl 1 rfl) ?_
  refine lv_iload_n hx hb dL_setWorth_4 rfl (lv_at hl 2 rfl) ?_
  refine vx_calli (vx_runV (As := [.int x, .int y]) (rest := [.int 0, .ref oo]) ⟨hx, hb, hml, hown, hts⟩ (c_X3_setWorth l hst D cs A z0 sa ad g L B n b y1 y2 N1 N2 nd gv hn hb5 hN1 hN2 x y) (cwV 2 hts gL_setWorth_X3_setWorth rfl rfl rfl (by decide +kernel) ⟨Nat.le_of_ble_eq_true rfl, Nat.le_of_ble_eq_true rfl⟩) ⟨pC_fb, wb_recv hK hW (r := 0) (lvC_0 (by decide)) (ci := 4) rfl rfl, fun U hU hV => ⟨rfl, hE.at (A' := fun _ => False) (fun _ h => h.elim) va_S.rf hV hU, by rw [hU]; exact hW⟩⟩ rfl rfl hl.1 rfl (lv_room (Nat.le_of_ble_eq_true rfl)) dL_setWorth_5 ⟨Nat.le_of_ble_eq_true rfl, Nat.le_of_ble_eq_true rfl⟩) hS (fun _ _ h => Or.inl h) (fun _ h => Or.inl h) (fun _ _ h => Or.inl h) (fun E9 ce9 q9 u9 t9 H9 locs9 ht9 hvm9 hpx9 hbx9 hz9 hk9 hS9 hc9 hv9 hl9 => ?_) (fun r_9 u t9 H locs ht hvm hw hB hz1 hk1 hS => ?_)
  · obtain ⟨hx9, hW9⟩ := hbx9
    rw [ht9] at hW9
    have hR9 : RC D cs A z0 (ad 0) g L B n b H9 := ⟨ad, y1, y2, N1, N2, nd, gv, rfl, hN1, hN2, hW9⟩
    have hO9 := (hO.keptA hoo hk9).weak
    rcases hx9 with ⟨hk, rfl⟩ | ⟨hk, rfl⟩
    ·
      refine vx_catch (name := "java/lang/IndexOutOfBoundsException") hown (tableOf []) ⟨0, 10, 13, 21⟩ (tableOf [(0, 10, 17, 13)]) htb (fun z hz => absurd hz List.not_mem_nil) rfl (by decide) (hts (.classLink RL 21 "java/lang/IndexOutOfBoundsException") (by decide +kernel)) (va_Nw.use rfl (hE.2.2.2.2.2.2.2.1 (.castable "java/lang/IndexOutOfBoundsException" "java/lang/IndexOutOfBoundsException") (by decide))) hc9 hv9 hl9 ?_
      refine lv_astore (lv' := [(4, .ref q9), (0, .ref (ad 0)), (1, .int x), (2, .int y), (3, .ref oo)]) hx hb dL_setWorth_13 hl (by decide) rfl (fun ls hl => ?_)
      refine lv_iconst (v := 1) hx hb dL_setWorth_15 (by decide) ?_
      refine W.widen (k := 1) (n := 6) (Nat.le_of_ble_eq_true rfl) (Nat.le_of_ble_eq_true rfl) ?_
      exact vx_ret (W.iret (v := 1) hx hb hr (fun t8 ht8 hW8 => ⟨⟨_, (), rfl, hk.symm, ⟨fun h9 => absurd (hk.symm.trans h9) (by decide), fun _ => by rw [ht8]; exact ⟨hR9, hO9⟩⟩⟩, hS9.F ht8⟩) hS9.2.2 dL_setWorth_16)
    ·
      refine vx_catch (name := "java/lang/IllegalArgumentException") hown (tableOf [(0, 10, 13, 21)]) ⟨0, 10, 17, 13⟩ (tableOf []) htb (fun z hz => by cases List.mem_singleton.mp hz; exact Or.inr ⟨by decide, "java/lang/IndexOutOfBoundsException", hts (.classLink RL 21 "java/lang/IndexOutOfBoundsException") (by decide +kernel), hc3⟩) rfl (by decide) (hts (.classLink RL 13 "java/lang/IllegalArgumentException") (by decide +kernel)) (va_Nw.use rfl (hE.2.2.2.2.2.2.2.1 (.castable "java/lang/IllegalArgumentException" "java/lang/IllegalArgumentException") (by decide))) hc9 hv9 hl9 ?_
      refine lv_astore (lv' := [(4, .ref q9), (0, .ref (ad 0)), (1, .int x), (2, .int y), (3, .ref oo)]) hx hb dL_setWorth_17 hl (by decide) rfl (fun ls hl => ?_)
      refine lv_iconst (v := 2) hx hb dL_setWorth_19 (by decide) ?_
      refine W.widen (k := 1) (n := 6) (Nat.le_of_ble_eq_true rfl) (Nat.le_of_ble_eq_true rfl) ?_
      exact vx_ret (W.iret (v := 2) hx hb hr (fun t8 ht8 hW8 => ⟨⟨_, (), rfl, hk.symm, ⟨fun h9 => absurd (hk.symm.trans h9) (by decide), fun _ => by rw [ht8]; exact ⟨hR9, hO9⟩⟩⟩, hS9.F ht8⟩) hS9.2.2 dL_setWorth_20)
  ·
    rw [ht] at hB
    have hO1 := hO.keptA hoo hk1
    obtain ⟨hk, rfl⟩ := hw
    refine lv_i2l (v := (L 1 (ixN x)).toInt64) hx hb dL_setWorth_8 rfl ?_
    refine RC_out hx hb hK hn hb5 hoo hB hO1 hS dL_setWorth_9 (fun H locs hR9 hO9 hS => ?_)
    refine lv_goto (tgt := 21) hx hb dL_setWorth_10 (by decide) ?_
    refine lv_iconst (v := 0) hx hb dL_setWorth_21 (by decide) ?_
    refine W.widen (k := 1) (n := 6) (Nat.le_of_ble_eq_true rfl) (Nat.le_of_ble_eq_true rfl) ?_
    exact vx_ret (W.iret (v := 0) hx hb hr (fun t8 ht8 hW8 => ⟨⟨_, (), rfl, hk.symm, ⟨fun _ => by rw [ht8]; exact ⟨hR9, hO9⟩, fun h9 => absurd hk h9⟩⟩, hS.F ht8⟩) hS.2.2 dL_setWorth_22)

set_option maxHeartbeats 4000000 in
set_option maxRecDepth 100000 in
theorem c_L_stateOf (l : Launch) (hst : l.stackTraces = false) (D : va_G) (cs : Nat → ClassId) (A : Nat → Prop) (z0 : Nat) (sa : Nat → Nat) (ad : Nat → Nat) (g : Nat → Int32) (L B : Nat → Nat → Int32) (n b : Nat) (y1 y2 : Int32) (N1 N2 : Nat) (nd : Nat → Int32) (gv : Nat → Nat → Int32) (hn : n ≤ 12) (hb5 : b ≤ 5) (hN1 : n ≤ N1 ∧ N1 < 1000) (hN2 : b ≤ N2 ∧ N2 < 1000) (oo : Nat) (hoo : ¬ A oo) (x : Int32)  : vx_Met l yL_stateOf wsL_stateOf ({ frames := 9, cells := 1, slots := 6, locals := 142 } : Room) (va_Pc [.ref (ad 0), .int x, .ref oo] (pH D cs A z0 sa oo (lvC n b) ad (ctC cs ad z0 g L B n b y1 y2 N1 N2 nd gv))) (va_Qi (fun (r9 : Int32) (_ : Unit) => r9 = kIx n x) (fun _ t9 => (kIx n x = 0 → RC D cs A z0 (ad 0) g L B n b t9.heap ∧ OC D cs oo (fun v9 => v9 = (L 5 (ixN x)).toInt64) t9.heap) ∧ (¬ kIx n x = 0 → RC D cs A z0 (ad 0) g L B n b t9.heap ∧ OC D cs oo (fun _ => True) t9.heap)) (fun q => A q ∨ q = oo)) (vx_X (fun (_ : Unit) => False) (fun _ _ _ => True) (fun _ => False)) 1 6 (fun q => A q ∨ q = oo) := by
  refine vx_ofWH (cc := cL_stateOf) (maxL := 4) (ret := (some .int)) (hh := [(0, 9, 12, 21)]) (by decide) rfl ?_
  intro p e s m args below meth c s₁ BB hml hv
  obtain ⟨rfl, hv⟩ := hv
  obtain ⟨⟨hE, hW⟩, hO, hc1, hc2, hc3⟩ := hv
  have hK := hE.1
  have hx := BB.exec
  have hb := BB.bytes
  have hr := BB.returns
  have hts := atoms_spec (ws := wsL_stateOf) BB.pre
  have hown : s.vm.findClass RL = some m.cls := findClass_of_methodNamed BB.named
  have hlocks := BB.notSynchronized
  have hS : va_S (fun q => A q ∨ q = oo) s.heap s.heap [] := va_S.rf
  have hl := lv_entry ([.ref (ad 0), .int x, .ref oo]) (n := 4) (Nat.le_of_ble_eq_true rfl)
  rw [lg_entry_eq]
  generalize (lg_sl ([.ref (ad 0), .int x, .ref oo]) ++ List.replicate (4 - (lg_sl ([.ref (ad 0), .int x, .ref oo])).length) Slot.unset).toArray = ls at hl ⊢
  have hl : lv_has ls 4 [(0, .ref (ad 0)), (1, .int x), (2, .ref oo)] := hl
  have htb := vx_table (x := yL_stateOf) BB (hts (.codeWith yL_stateOf cL_stateOf 4 (some .int) [(0, 9, 12, 21)]) (by decide +kernel))
  refine lv_aload_n hx hb dL_stateOf_0 rfl (lv_at hl 2 rfl) ?_
  refine lv_iconst (v := 0) hx hb dL_stateOf_1 (by decide) ?_
  refine lv_aload_n hx hb dL_stateOf_2 rfl (lv_at hl 0 rfl) ?_
  refine lv_iload_n hx hb dL_stateOf_3 rfl (lv_at hl 1 rfl) ?_
  refine vx_calli (vx_runV (As := [.int x]) (rest := [.int 0, .ref oo]) ⟨hx, hb, hml, hown, hts⟩ (c_X3_stateOf l hst D cs A z0 sa ad g L B n b y1 y2 N1 N2 nd gv hn hb5 hN1 hN2 x) (cwV 1 hts gL_stateOf_X3_stateOf rfl rfl rfl (by decide +kernel) ⟨Nat.le_of_ble_eq_true rfl, Nat.le_of_ble_eq_true rfl⟩) ⟨pC_fb, wb_recv hK hW (r := 0) (lvC_0 (by decide)) (ci := 4) rfl rfl, fun U hU hV => ⟨rfl, hE.at (A' := fun _ => False) (fun _ h => h.elim) va_S.rf hV hU, by rw [hU]; exact hW⟩⟩ rfl rfl hl.1 rfl (lv_room (Nat.le_of_ble_eq_true rfl)) dL_stateOf_4 ⟨Nat.le_of_ble_eq_true rfl, Nat.le_of_ble_eq_true rfl⟩) hS (fun _ _ h => Or.inl h) (fun _ h => Or.inl h) (fun _ _ h => Or.inl h) (fun E9 ce9 q9 u9 t9 H9 locs9 ht9 hvm9 hpx9 hbx9 hz9 hk9 hS9 hc9 hv9 hl9 => ?_) (fun r_9 u t9 H locs ht hvm hw hB hz1 hk1 hS => ?_)
  · obtain ⟨hx9, hW9⟩ := hbx9
    rw [ht9] at hW9
    have hR9 : RC D cs A z0 (ad 0) g L B n b H9 := ⟨ad, y1, y2, N1, N2, nd, gv, rfl, hN1, hN2, hW9⟩
    have hO9 := (hO.keptA hoo hk9).weak
    obtain ⟨hk, rfl⟩ := hx9
    ·
      refine vx_catch (name := "java/lang/IndexOutOfBoundsException") hown (tableOf []) ⟨0, 9, 12, 21⟩ (tableOf []) htb (fun z hz => absurd hz List.not_mem_nil) rfl (by decide) (hts (.classLink RL 21 "java/lang/IndexOutOfBoundsException") (by decide +kernel)) (va_Nw.use rfl (hE.2.2.2.2.2.2.2.1 (.castable "java/lang/IndexOutOfBoundsException" "java/lang/IndexOutOfBoundsException") (by decide))) hc9 hv9 hl9 ?_
      refine lv_astore_n (lv' := [(3, .ref q9), (0, .ref (ad 0)), (1, .int x), (2, .ref oo)]) hx hb dL_stateOf_12 rfl hl (by decide) rfl (fun ls hl => ?_)
      refine lv_iconst (v := 1) hx hb dL_stateOf_13 (by decide) ?_
      refine W.widen (k := 1) (n := 6) (Nat.le_of_ble_eq_true rfl) (Nat.le_of_ble_eq_true rfl) ?_
      exact vx_ret (W.iret (v := 1) hx hb hr (fun t8 ht8 hW8 => ⟨⟨_, (), rfl, hk.symm, ⟨fun h9 => absurd (hk.symm.trans h9) (by decide), fun _ => by rw [ht8]; exact ⟨hR9, hO9⟩⟩⟩, hS9.F ht8⟩) hS9.2.2 dL_stateOf_14)
  ·
    rw [ht] at hB
    have hO1 := hO.keptA hoo hk1
    obtain ⟨hk, rfl⟩ := hw
    refine lv_i2l (v := (L 5 (ixN x)).toInt64) hx hb dL_stateOf_7 rfl ?_
    refine RC_out hx hb hK hn hb5 hoo hB hO1 hS dL_stateOf_8 (fun H locs hR9 hO9 hS => ?_)
    refine lv_goto (tgt := 15) hx hb dL_stateOf_9 (by decide) ?_
    refine lv_iconst (v := 0) hx hb dL_stateOf_15 (by decide) ?_
    refine W.widen (k := 1) (n := 6) (Nat.le_of_ble_eq_true rfl) (Nat.le_of_ble_eq_true rfl) ?_
    exact vx_ret (W.iret (v := 0) hx hb hr (fun t8 ht8 hW8 => ⟨⟨_, (), rfl, hk.symm, ⟨fun _ => by rw [ht8]; exact ⟨hR9, hO9⟩, fun h9 => absurd hk h9⟩⟩, hS.F ht8⟩) hS.2.2 dL_stateOf_16)

set_option maxHeartbeats 4000000 in
set_option maxRecDepth 100000 in
theorem c_L_counts (l : Launch) (hst : l.stackTraces = false) (D : va_G) (cs : Nat → ClassId) (A : Nat → Prop) (z0 : Nat) (sa : Nat → Nat) (ad : Nat → Nat) (g : Nat → Int32) (L B : Nat → Nat → Int32) (n b : Nat) (y1 y2 : Int32) (N1 N2 : Nat) (nd : Nat → Int32) (gv : Nat → Nat → Int32) (hn : n ≤ 12) (hb5 : b ≤ 5) (hN1 : n ≤ N1 ∧ N1 < 1000) (hN2 : b ≤ N2 ∧ N2 < 1000) (oo : Nat) (hoo : ¬ A oo) (x : Int32)  : vx_Met l yL_counts wsL_counts ({ frames := 9, cells := 1, slots := 6, locals := 142 } : Room) (va_Pc [.ref (ad 0), .int x, .ref oo] (pH D cs A z0 sa oo (lvC n b) ad (ctC cs ad z0 g L B n b y1 y2 N1 N2 nd gv))) (va_Qi (fun (r9 : Int32) (_ : Unit) => r9 = kIx n x) (fun _ t9 => (kIx n x = 0 → RC D cs A z0 (ad 0) g L B n b t9.heap ∧ OC D cs oo (fun v9 => v9 = (mCount g L (ixN x)).toInt64) t9.heap) ∧ (¬ kIx n x = 0 → RC D cs A z0 (ad 0) g L B n b t9.heap ∧ OC D cs oo (fun _ => True) t9.heap)) (fun q => A q ∨ q = oo)) (vx_X (fun (_ : Unit) => False) (fun _ _ _ => True) (fun _ => False)) 1 6 (fun q => A q ∨ q = oo) := by
  refine vx_ofWH (cc := cL_counts) (maxL := 4) (ret := (some .int)) (hh := [(0, 9, 12, 21)]) (by decide) rfl ?_
  intro p e s m args below meth c s₁ BB hml hv
  obtain ⟨rfl, hv⟩ := hv
  obtain ⟨⟨hE, hW⟩, hO, hc1, hc2, hc3⟩ := hv
  have hK := hE.1
  have hx := BB.exec
  have hb := BB.bytes
  have hr := BB.returns
  have hts := atoms_spec (ws := wsL_counts) BB.pre
  have hown : s.vm.findClass RL = some m.cls := findClass_of_methodNamed BB.named
  have hlocks := BB.notSynchronized
  have hS : va_S (fun q => A q ∨ q = oo) s.heap s.heap [] := va_S.rf
  have hl := lv_entry ([.ref (ad 0), .int x, .ref oo]) (n := 4) (Nat.le_of_ble_eq_true rfl)
  rw [lg_entry_eq]
  generalize (lg_sl ([.ref (ad 0), .int x, .ref oo]) ++ List.replicate (4 - (lg_sl ([.ref (ad 0), .int x, .ref oo])).length) Slot.unset).toArray = ls at hl ⊢
  have hl : lv_has ls 4 [(0, .ref (ad 0)), (1, .int x), (2, .ref oo)] := hl
  have htb := vx_table (x := yL_counts) BB (hts (.codeWith yL_counts cL_counts 4 (some .int) [(0, 9, 12, 21)]) (by decide +kernel))
  refine lv_aload_n hx hb dL_counts_0 rfl (lv_at hl 2 rfl) ?_
  refine lv_iconst (v := 0) hx hb dL_counts_1 (by decide) ?_
  refine lv_aload_n hx hb dL_counts_2 rfl (lv_at hl 0 rfl) ?_
  refine lv_iload_n hx hb dL_counts_3 rfl (lv_at hl 1 rfl) ?_
  refine vx_calli (vx_runV (As := [.int x]) (rest := [.int 0, .ref oo]) ⟨hx, hb, hml, hown, hts⟩ (c_X3_counts l hst D cs A z0 sa ad g L B n b y1 y2 N1 N2 nd gv hn hb5 hN1 hN2 x) (cwV 1 hts gL_counts_X3_counts rfl rfl rfl (by decide +kernel) ⟨Nat.le_of_ble_eq_true rfl, Nat.le_of_ble_eq_true rfl⟩) ⟨pC_fb, wb_recv hK hW (r := 0) (lvC_0 (by decide)) (ci := 4) rfl rfl, fun U hU hV => ⟨rfl, hE.at (A' := fun _ => False) (fun _ h => h.elim) va_S.rf hV hU, by rw [hU]; exact hW⟩⟩ rfl rfl hl.1 rfl (lv_room (Nat.le_of_ble_eq_true rfl)) dL_counts_4 ⟨Nat.le_of_ble_eq_true rfl, Nat.le_of_ble_eq_true rfl⟩) hS (fun _ _ h => Or.inl h) (fun _ h => Or.inl h) (fun _ _ h => Or.inl h) (fun E9 ce9 q9 u9 t9 H9 locs9 ht9 hvm9 hpx9 hbx9 hz9 hk9 hS9 hc9 hv9 hl9 => ?_) (fun r_9 u t9 H locs ht hvm hw hB hz1 hk1 hS => ?_)
  · obtain ⟨hx9, hW9⟩ := hbx9
    rw [ht9] at hW9
    have hR9 : RC D cs A z0 (ad 0) g L B n b H9 := ⟨ad, y1, y2, N1, N2, nd, gv, rfl, hN1, hN2, hW9⟩
    have hO9 := (hO.keptA hoo hk9).weak
    obtain ⟨hk, rfl⟩ := hx9
    ·
      refine vx_catch (name := "java/lang/IndexOutOfBoundsException") hown (tableOf []) ⟨0, 9, 12, 21⟩ (tableOf []) htb (fun z hz => absurd hz List.not_mem_nil) rfl (by decide) (hts (.classLink RL 21 "java/lang/IndexOutOfBoundsException") (by decide +kernel)) (va_Nw.use rfl (hE.2.2.2.2.2.2.2.1 (.castable "java/lang/IndexOutOfBoundsException" "java/lang/IndexOutOfBoundsException") (by decide))) hc9 hv9 hl9 ?_
      refine lv_astore_n (lv' := [(3, .ref q9), (0, .ref (ad 0)), (1, .int x), (2, .ref oo)]) hx hb dL_counts_12 rfl hl (by decide) rfl (fun ls hl => ?_)
      refine lv_iconst (v := 1) hx hb dL_counts_13 (by decide) ?_
      refine W.widen (k := 1) (n := 6) (Nat.le_of_ble_eq_true rfl) (Nat.le_of_ble_eq_true rfl) ?_
      exact vx_ret (W.iret (v := 1) hx hb hr (fun t8 ht8 hW8 => ⟨⟨_, (), rfl, hk.symm, ⟨fun h9 => absurd (hk.symm.trans h9) (by decide), fun _ => by rw [ht8]; exact ⟨hR9, hO9⟩⟩⟩, hS9.F ht8⟩) hS9.2.2 dL_counts_14)
  ·
    rw [ht] at hB
    have hO1 := hO.keptA hoo hk1
    obtain ⟨hk, rfl⟩ := hw
    refine lv_i2l (v := (mCount g L (ixN x)).toInt64) hx hb dL_counts_7 rfl ?_
    refine RC_out hx hb hK hn hb5 hoo hB hO1 hS dL_counts_8 (fun H locs hR9 hO9 hS => ?_)
    refine lv_goto (tgt := 15) hx hb dL_counts_9 (by decide) ?_
    refine lv_iconst (v := 0) hx hb dL_counts_15 (by decide) ?_
    refine W.widen (k := 1) (n := 6) (Nat.le_of_ble_eq_true rfl) (Nat.le_of_ble_eq_true rfl) ?_
    exact vx_ret (W.iret (v := 0) hx hb hr (fun t8 ht8 hW8 => ⟨⟨_, (), rfl, hk.symm, ⟨fun _ => by rw [ht8]; exact ⟨hR9, hO9⟩, fun h9 => absurd hk h9⟩⟩, hS.F ht8⟩) hS.2.2 dL_counts_16)

set_option maxHeartbeats 4000000 in
set_option maxRecDepth 100000 in
theorem c_L_addBond (l : Launch) (hst : l.stackTraces = false) (D : va_G) (cs : Nat → ClassId) (A : Nat → Prop) (z0 : Nat) (sa : Nat → Nat) (ad : Nat → Nat) (g : Nat → Int32) (L B : Nat → Nat → Int32) (n b : Nat) (y1 y2 : Int32) (N1 N2 : Nat) (nd : Nat → Int32) (gv : Nat → Nat → Int32) (hn : n ≤ 12) (hb5 : b ≤ 5) (hN1 : n ≤ N1 ∧ N1 < 1000) (hN2 : b ≤ N2 ∧ N2 < 1000) (oo : Nat) (hoo : ¬ A oo) (x : Int32) (y : Int32) (hz : B 2 b = 0 ∧ B 3 b = 0) : vx_Met l yL_addBond wsL_addBond ({ frames := 13, cells := 2, slots := 30, locals := 422 } : Room) (va_Pc [.ref (ad 0), .int x, .int y, .ref oo] (pH D cs A z0 sa oo (lvC n b) ad (ctC cs ad z0 g L B n b y1 y2 N1 N2 nd gv))) (va_Qi (fun (r9 : Int32) (_ : Unit) => r9 = kAddBond g b x y) (fun _ t9 => (kAddBond g b x y = 0 → RC D cs A z0 (ad 0) (upd g 1 (g 1 + x)) L (addB B b x y) n (b + 1) t9.heap ∧ OC D cs oo (fun v9 => v9 = (nI b).toInt64) t9.heap) ∧ (¬ kAddBond g b x y = 0 → RC D cs A z0 (ad 0) g L B n b t9.heap ∧ OC D cs oo (fun _ => True) t9.heap)) (fun q => A q ∨ q = oo)) (vx_X (fun (_ : Unit) => False) (fun _ _ _ => True) (fun _ => False)) 2 30 (fun q => A q ∨ q = oo) := by
  refine vx_ofWH (cc := cL_addBond) (maxL := 5) (ret := (some .int)) (hh := [(0, 10, 13, 13), (0, 10, 17, 15)]) (by decide) rfl ?_
  intro p e s m args below meth c s₁ BB hml hv
  obtain ⟨rfl, hv⟩ := hv
  obtain ⟨⟨hE, hW⟩, hO, hc1, hc2, hc3⟩ := hv
  have hK := hE.1
  have hx := BB.exec
  have hb := BB.bytes
  have hr := BB.returns
  have hts := atoms_spec (ws := wsL_addBond) BB.pre
  have hown : s.vm.findClass RL = some m.cls := findClass_of_methodNamed BB.named
  have hlocks := BB.notSynchronized
  have hS : va_S (fun q => A q ∨ q = oo) s.heap s.heap [] := va_S.rf
  have hl := lv_entry ([.ref (ad 0), .int x, .int y, .ref oo]) (n := 5) (Nat.le_of_ble_eq_true rfl)
  rw [lg_entry_eq]
  generalize (lg_sl ([.ref (ad 0), .int x, .int y, .ref oo]) ++ List.replicate (5 - (lg_sl ([.ref (ad 0), .int x, .int y, .ref oo])).length) Slot.unset).toArray = ls at hl ⊢
  have hl : lv_has ls 5 [(0, .ref (ad 0)), (1, .int x), (2, .int y), (3, .ref oo)] := hl
  have htb := vx_table (x := yL_addBond) BB (hts (.codeWith yL_addBond cL_addBond 5 (some .int) [(0, 10, 13, 13), (0, 10, 17, 15)]) (by decide +kernel))
  refine lv_aload_n hx hb dL_addBond_0 rfl (lv_at hl 3 rfl) ?_
  refine lv_iconst (v := 0) hx hb dL_addBond_1 (by decide) ?_
  refine lv_aload_n hx hb dL_addBond_2 rfl (lv_at hl 0 rfl) ?_
  refine lv_iload_n hx hb dL_addBond_3 rfl (lv_at hl 1 rfl) ?_
  refine lv_iload_n hx hb dL_addBond_4 rfl (lv_at hl 2 rfl) ?_
  refine vx_calli (vx_runV (As := [.int x, .int y]) (rest := [.int 0, .ref oo]) ⟨hx, hb, hml, hown, hts⟩ (c_X3_addBond l hst D cs A z0 sa ad g L B n b y1 y2 N1 N2 nd gv hn hb5 hN1 hN2 x y hz) (cwV 2 hts gL_addBond_X3_addBond rfl rfl rfl (by decide +kernel) ⟨Nat.le_of_ble_eq_true rfl, Nat.le_of_ble_eq_true rfl⟩) ⟨pC_fb, wb_recv hK hW (r := 0) (lvC_0 (by decide)) (ci := 4) rfl rfl, fun U hU hV => ⟨rfl, hE.at (A' := fun _ => False) (fun _ h => h.elim) va_S.rf hV hU, by rw [hU]; exact hW⟩⟩ rfl rfl hl.1 rfl (lv_room (Nat.le_of_ble_eq_true rfl)) dL_addBond_5 ⟨Nat.le_of_ble_eq_true rfl, Nat.le_of_ble_eq_true rfl⟩) hS (fun _ _ h => Or.inl h) (fun _ h => Or.inl h) (fun _ _ h => Or.inl h) (fun E9 ce9 q9 u9 t9 H9 locs9 ht9 hvm9 hpx9 hbx9 hz9 hk9 hS9 hc9 hv9 hl9 => ?_) (fun r_9 u t9 H locs ht hvm hw hB hz1 hk1 hS => ?_)
  · obtain ⟨hx9, hW9⟩ := hbx9
    rw [ht9] at hW9
    have hR9 : RC D cs A z0 (ad 0) g L B n b H9 := ⟨ad, y1, y2, N1, N2, nd, gv, rfl, hN1, hN2, hW9⟩
    have hO9 := (hO.keptA hoo hk9).weak
    rcases hx9 with ⟨hk, rfl⟩ | ⟨hk, rfl⟩
    ·
      refine vx_catch (name := "java/lang/IllegalArgumentException") hown (tableOf []) ⟨0, 10, 13, 13⟩ (tableOf [(0, 10, 17, 15)]) htb (fun z hz => absurd hz List.not_mem_nil) rfl (by decide) (hts (.classLink RL 13 "java/lang/IllegalArgumentException") (by decide +kernel)) (va_Nw.use rfl (hE.2.2.2.2.2.2.2.1 (.castable "java/lang/IllegalArgumentException" "java/lang/IllegalArgumentException") (by decide))) hc9 hv9 hl9 ?_
      refine lv_astore (lv' := [(4, .ref q9), (0, .ref (ad 0)), (1, .int x), (2, .int y), (3, .ref oo)]) hx hb dL_addBond_13 hl (by decide) rfl (fun ls hl => ?_)
      refine lv_iconst (v := 1) hx hb dL_addBond_15 (by decide) ?_
      refine W.widen (k := 2) (n := 30) (Nat.le_of_ble_eq_true rfl) (Nat.le_of_ble_eq_true rfl) ?_
      exact vx_ret (W.iret (v := 1) hx hb hr (fun t8 ht8 hW8 => ⟨⟨_, (), rfl, hk.symm, ⟨fun h9 => absurd (hk.symm.trans h9) (by decide), fun _ => by rw [ht8]; exact ⟨hR9, hO9⟩⟩⟩, hS9.F ht8⟩) hS9.2.2 dL_addBond_16)
    ·
      refine vx_catch (name := "java/lang/IllegalStateException") hown (tableOf [(0, 10, 13, 13)]) ⟨0, 10, 17, 15⟩ (tableOf []) htb (fun z hz => by cases List.mem_singleton.mp hz; exact Or.inr ⟨by decide, "java/lang/IllegalArgumentException", hts (.classLink RL 13 "java/lang/IllegalArgumentException") (by decide +kernel), hc1⟩) rfl (by decide) (hts (.classLink RL 15 "java/lang/IllegalStateException") (by decide +kernel)) (va_Nw.use rfl (hE.2.2.2.2.2.2.2.1 (.castable "java/lang/IllegalStateException" "java/lang/IllegalStateException") (by decide))) hc9 hv9 hl9 ?_
      refine lv_astore (lv' := [(4, .ref q9), (0, .ref (ad 0)), (1, .int x), (2, .int y), (3, .ref oo)]) hx hb dL_addBond_17 hl (by decide) rfl (fun ls hl => ?_)
      refine lv_iconst (v := 2) hx hb dL_addBond_19 (by decide) ?_
      refine W.widen (k := 2) (n := 30) (Nat.le_of_ble_eq_true rfl) (Nat.le_of_ble_eq_true rfl) ?_
      exact vx_ret (W.iret (v := 2) hx hb hr (fun t8 ht8 hW8 => ⟨⟨_, (), rfl, hk.symm, ⟨fun h9 => absurd (hk.symm.trans h9) (by decide), fun _ => by rw [ht8]; exact ⟨hR9, hO9⟩⟩⟩, hS9.F ht8⟩) hS9.2.2 dL_addBond_20)
  ·
    rw [ht] at hB
    have hO1 := hO.keptA hoo hk1
    obtain ⟨hk, rfl⟩ := hw
    refine lv_i2l (v := (nI b).toInt64) hx hb dL_addBond_8 rfl ?_
    refine RC_out hx hb hK hn (kAddBond_lt hb5 hk) hoo hB hO1 hS dL_addBond_9 (fun H locs hR9 hO9 hS => ?_)
    refine lv_goto (tgt := 21) hx hb dL_addBond_10 (by decide) ?_
    refine lv_iconst (v := 0) hx hb dL_addBond_21 (by decide) ?_
    refine W.widen (k := 2) (n := 30) (Nat.le_of_ble_eq_true rfl) (Nat.le_of_ble_eq_true rfl) ?_
    exact vx_ret (W.iret (v := 0) hx hb hr (fun t8 ht8 hW8 => ⟨⟨_, (), rfl, hk.symm, ⟨fun _ => by rw [ht8]; exact ⟨hR9, hO9⟩, fun h9 => absurd hk h9⟩⟩, hS.F ht8⟩) hS.2.2 dL_addBond_22)

set_option maxHeartbeats 4000000 in
set_option maxRecDepth 100000 in
theorem c_L_takeCash (l : Launch) (hst : l.stackTraces = false) (D : va_G) (cs : Nat → ClassId) (A : Nat → Prop) (z0 : Nat) (sa : Nat → Nat) (ad : Nat → Nat) (g : Nat → Int32) (L B : Nat → Nat → Int32) (n b : Nat) (y1 y2 : Int32) (N1 N2 : Nat) (nd : Nat → Int32) (gv : Nat → Nat → Int32) (hn : n ≤ 12) (hb5 : b ≤ 5) (hN1 : n ≤ N1 ∧ N1 < 1000) (hN2 : b ≤ N2 ∧ N2 < 1000) (oo : Nat) (hoo : ¬ A oo) (x : Int32)  : vx_Met l yL_takeCash wsL_takeCash ({ frames := 9, cells := 1, slots := 6, locals := 143 } : Room) (va_Pc [.ref (ad 0), .int x, .ref oo] (pH D cs A z0 sa oo (lvC n b) ad (ctC cs ad z0 g L B n b y1 y2 N1 N2 nd gv))) (va_Qi (fun (r9 : Int32) (_ : Unit) => r9 = kTake g x) (fun _ t9 => (kTake g x = 0 → RC D cs A z0 (ad 0) (upd g 1 (g 1 - x)) L B n b t9.heap ∧ OC D cs oo (fun v9 => v9 = (g 1 - x).toInt64) t9.heap) ∧ (¬ kTake g x = 0 → RC D cs A z0 (ad 0) g L B n b t9.heap ∧ OC D cs oo (fun _ => True) t9.heap)) (fun q => A q ∨ q = oo)) (vx_X (fun (_ : Unit) => False) (fun _ _ _ => True) (fun _ => False)) 1 6 (fun q => A q ∨ q = oo) := by
  refine vx_ofWH (cc := cL_takeCash) (maxL := 4) (ret := (some .int)) (hh := [(0, 9, 12, 13), (0, 9, 15, 15)]) (by decide) rfl ?_
  intro p e s m args below meth c s₁ BB hml hv
  obtain ⟨rfl, hv⟩ := hv
  obtain ⟨⟨hE, hW⟩, hO, hc1, hc2, hc3⟩ := hv
  have hK := hE.1
  have hx := BB.exec
  have hb := BB.bytes
  have hr := BB.returns
  have hts := atoms_spec (ws := wsL_takeCash) BB.pre
  have hown : s.vm.findClass RL = some m.cls := findClass_of_methodNamed BB.named
  have hlocks := BB.notSynchronized
  have hS : va_S (fun q => A q ∨ q = oo) s.heap s.heap [] := va_S.rf
  have hl := lv_entry ([.ref (ad 0), .int x, .ref oo]) (n := 4) (Nat.le_of_ble_eq_true rfl)
  rw [lg_entry_eq]
  generalize (lg_sl ([.ref (ad 0), .int x, .ref oo]) ++ List.replicate (4 - (lg_sl ([.ref (ad 0), .int x, .ref oo])).length) Slot.unset).toArray = ls at hl ⊢
  have hl : lv_has ls 4 [(0, .ref (ad 0)), (1, .int x), (2, .ref oo)] := hl
  have htb := vx_table (x := yL_takeCash) BB (hts (.codeWith yL_takeCash cL_takeCash 4 (some .int) [(0, 9, 12, 13), (0, 9, 15, 15)]) (by decide +kernel))
  refine lv_aload_n hx hb dL_takeCash_0 rfl (lv_at hl 2 rfl) ?_
  refine lv_iconst (v := 0) hx hb dL_takeCash_1 (by decide) ?_
  refine lv_aload_n hx hb dL_takeCash_2 rfl (lv_at hl 0 rfl) ?_
  refine lv_iload_n hx hb dL_takeCash_3 rfl (lv_at hl 1 rfl) ?_
  refine vx_calli (vx_runV (As := [.int x]) (rest := [.int 0, .ref oo]) ⟨hx, hb, hml, hown, hts⟩ (c_X3_takeCash l hst D cs A z0 sa ad g L B n b y1 y2 N1 N2 nd gv hn hb5 hN1 hN2 x) (cwV 1 hts gL_takeCash_X3_takeCash rfl rfl rfl (by decide +kernel) ⟨Nat.le_of_ble_eq_true rfl, Nat.le_of_ble_eq_true rfl⟩) ⟨pC_fb, wb_recv hK hW (r := 0) (lvC_0 (by decide)) (ci := 4) rfl rfl, fun U hU hV => ⟨rfl, hE.at (A' := fun _ => False) (fun _ h => h.elim) va_S.rf hV hU, by rw [hU]; exact hW⟩⟩ rfl rfl hl.1 rfl (lv_room (Nat.le_of_ble_eq_true rfl)) dL_takeCash_4 ⟨Nat.le_of_ble_eq_true rfl, Nat.le_of_ble_eq_true rfl⟩) hS (fun _ _ h => Or.inl h) (fun _ h => Or.inl h) (fun _ _ h => Or.inl h) (fun E9 ce9 q9 u9 t9 H9 locs9 ht9 hvm9 hpx9 hbx9 hz9 hk9 hS9 hc9 hv9 hl9 => ?_) (fun r_9 u t9 H locs ht hvm hw hB hz1 hk1 hS => ?_)
  · obtain ⟨hx9, hW9⟩ := hbx9
    rw [ht9] at hW9
    have hR9 : RC D cs A z0 (ad 0) g L B n b H9 := ⟨ad, y1, y2, N1, N2, nd, gv, rfl, hN1, hN2, hW9⟩
    have hO9 := (hO.keptA hoo hk9).weak
    rcases hx9 with ⟨hk, rfl⟩ | ⟨hk, rfl⟩
    ·
      refine vx_catch (name := "java/lang/IllegalArgumentException") hown (tableOf []) ⟨0, 9, 12, 13⟩ (tableOf [(0, 9, 15, 15)]) htb (fun z hz => absurd hz List.not_mem_nil) rfl (by decide) (hts (.classLink RL 13 "java/lang/IllegalArgumentException") (by decide +kernel)) (va_Nw.use rfl (hE.2.2.2.2.2.2.2.1 (.castable "java/lang/IllegalArgumentException" "java/lang/IllegalArgumentException") (by decide))) hc9 hv9 hl9 ?_
      refine lv_astore_n (lv' := [(3, .ref q9), (0, .ref (ad 0)), (1, .int x), (2, .ref oo)]) hx hb dL_takeCash_12 rfl hl (by decide) rfl (fun ls hl => ?_)
      refine lv_iconst (v := 1) hx hb dL_takeCash_13 (by decide) ?_
      refine W.widen (k := 1) (n := 6) (Nat.le_of_ble_eq_true rfl) (Nat.le_of_ble_eq_true rfl) ?_
      exact vx_ret (W.iret (v := 1) hx hb hr (fun t8 ht8 hW8 => ⟨⟨_, (), rfl, hk.symm, ⟨fun h9 => absurd (hk.symm.trans h9) (by decide), fun _ => by rw [ht8]; exact ⟨hR9, hO9⟩⟩⟩, hS9.F ht8⟩) hS9.2.2 dL_takeCash_14)
    ·
      refine vx_catch (name := "java/lang/IllegalStateException") hown (tableOf [(0, 9, 12, 13)]) ⟨0, 9, 15, 15⟩ (tableOf []) htb (fun z hz => by cases List.mem_singleton.mp hz; exact Or.inr ⟨by decide, "java/lang/IllegalArgumentException", hts (.classLink RL 13 "java/lang/IllegalArgumentException") (by decide +kernel), hc1⟩) rfl (by decide) (hts (.classLink RL 15 "java/lang/IllegalStateException") (by decide +kernel)) (va_Nw.use rfl (hE.2.2.2.2.2.2.2.1 (.castable "java/lang/IllegalStateException" "java/lang/IllegalStateException") (by decide))) hc9 hv9 hl9 ?_
      refine lv_astore_n (lv' := [(3, .ref q9), (0, .ref (ad 0)), (1, .int x), (2, .ref oo)]) hx hb dL_takeCash_15 rfl hl (by decide) rfl (fun ls hl => ?_)
      refine lv_iconst (v := 2) hx hb dL_takeCash_16 (by decide) ?_
      refine W.widen (k := 1) (n := 6) (Nat.le_of_ble_eq_true rfl) (Nat.le_of_ble_eq_true rfl) ?_
      exact vx_ret (W.iret (v := 2) hx hb hr (fun t8 ht8 hW8 => ⟨⟨_, (), rfl, hk.symm, ⟨fun h9 => absurd (hk.symm.trans h9) (by decide), fun _ => by rw [ht8]; exact ⟨hR9, hO9⟩⟩⟩, hS9.F ht8⟩) hS9.2.2 dL_takeCash_17)
  ·
    rw [ht] at hB
    have hO1 := hO.keptA hoo hk1
    obtain ⟨hk, rfl⟩ := hw
    refine lv_i2l (v := (g 1 - x).toInt64) hx hb dL_takeCash_7 rfl ?_
    refine RC_out hx hb hK hn hb5 hoo hB hO1 hS dL_takeCash_8 (fun H locs hR9 hO9 hS => ?_)
    refine lv_goto (tgt := 18) hx hb dL_takeCash_9 (by decide) ?_
    refine lv_iconst (v := 0) hx hb dL_takeCash_18 (by decide) ?_
    refine W.widen (k := 1) (n := 6) (Nat.le_of_ble_eq_true rfl) (Nat.le_of_ble_eq_true rfl) ?_
    exact vx_ret (W.iret (v := 0) hx hb hr (fun t8 ht8 hW8 => ⟨⟨_, (), rfl, hk.symm, ⟨fun _ => by rw [ht8]; exact ⟨hR9, hO9⟩, fun h9 => absurd hk h9⟩⟩, hS.F ht8⟩) hS.2.2 dL_takeCash_19)

set_option maxHeartbeats 4000000 in
set_option maxRecDepth 100000 in
theorem c_L_setRules (l : Launch) (hst : l.stackTraces = false) (D : va_G) (cs : Nat → ClassId) (A : Nat → Prop) (z0 : Nat) (sa : Nat → Nat) (ad : Nat → Nat) (g : Nat → Int32) (L B : Nat → Nat → Int32) (n b : Nat) (y1 y2 : Int32) (N1 N2 : Nat) (nd : Nat → Int32) (gv : Nat → Nat → Int32) (hn : n ≤ 12) (hb5 : b ≤ 5) (hN1 : n ≤ N1 ∧ N1 < 1000) (hN2 : b ≤ N2 ∧ N2 < 1000) (oo : Nat) (hoo : ¬ A oo) (x : Int32) (y : Int32) (z : Int32)  : vx_Met l yL_setRules wsL_setRules ({ frames := 9, cells := 1, slots := 6, locals := 145 } : Room) (va_Pc [.ref (ad 0), .int x, .int y, .int z] (pH D cs A z0 sa oo (lvC n b) ad (ctC cs ad z0 g L B n b y1 y2 N1 N2 nd gv))) (va_Qi (fun (r9 : Int32) (_ : Unit) => r9 = kRules x y z) (fun _ t9 => (kRules x y z = 0 → RC D cs A z0 (ad 0) (rulesG g x y z) L B n b t9.heap ∧ OC D cs oo (fun _ => True) t9.heap) ∧ (¬ kRules x y z = 0 → RC D cs A z0 (ad 0) g L B n b t9.heap ∧ OC D cs oo (fun _ => True) t9.heap)) (fun q => A q ∨ q = oo)) (vx_X (fun (_ : Unit) => False) (fun _ _ _ => True) (fun _ => False)) 1 6 (fun q => A q ∨ q = oo) := by
  refine vx_ofWH (cc := cL_setRules) (maxL := 5) (ret := (some .int)) (hh := [(0, 7, 10, 13)]) (by decide) rfl ?_
  intro p e s m args below meth c s₁ BB hml hv
  obtain ⟨rfl, hv⟩ := hv
  obtain ⟨⟨hE, hW⟩, hO, hc1, hc2, hc3⟩ := hv
  have hK := hE.1
  have hx := BB.exec
  have hb := BB.bytes
  have hr := BB.returns
  have hts := atoms_spec (ws := wsL_setRules) BB.pre
  have hown : s.vm.findClass RL = some m.cls := findClass_of_methodNamed BB.named
  have hlocks := BB.notSynchronized
  have hS : va_S (fun q => A q ∨ q = oo) s.heap s.heap [] := va_S.rf
  have hl := lv_entry ([.ref (ad 0), .int x, .int y, .int z]) (n := 5) (Nat.le_of_ble_eq_true rfl)
  rw [lg_entry_eq]
  generalize (lg_sl ([.ref (ad 0), .int x, .int y, .int z]) ++ List.replicate (5 - (lg_sl ([.ref (ad 0), .int x, .int y, .int z])).length) Slot.unset).toArray = ls at hl ⊢
  have hl : lv_has ls 5 [(0, .ref (ad 0)), (1, .int x), (2, .int y), (3, .int z)] := hl
  have htb := vx_table (x := yL_setRules) BB (hts (.codeWith yL_setRules cL_setRules 5 (some .int) [(0, 7, 10, 13)]) (by decide +kernel))
  refine lv_aload_n hx hb dL_setRules_0 rfl (lv_at hl 0 rfl) ?_
  refine lv_iload_n hx hb dL_setRules_1 rfl (lv_at hl 1 rfl) ?_
  refine lv_iload_n hx hb dL_setRules_2 rfl (lv_at hl 2 rfl) ?_
  refine lv_iload_n hx hb dL_setRules_3 rfl (lv_at hl 3 rfl) ?_
  refine vx_callv (vx_runV (As := [.int x, .int y, .int z]) (rest := []) ⟨hx, hb, hml, hown, hts⟩ (c_X3_setRules l hst D cs A z0 sa ad g L B n b y1 y2 N1 N2 nd gv hn hb5 hN1 hN2 x y z) (cwV 3 hts gL_setRules_X3_setRules rfl rfl rfl (by decide +kernel) ⟨Nat.le_of_ble_eq_true rfl, Nat.le_of_ble_eq_true rfl⟩) ⟨pC_fb, wb_recv hK hW (r := 0) (lvC_0 (by decide)) (ci := 4) rfl rfl, fun U hU hV => ⟨rfl, hE.at (A' := fun _ => False) (fun _ h => h.elim) va_S.rf hV hU, by rw [hU]; exact hW⟩⟩ rfl rfl hl.1 rfl (lv_room (Nat.le_of_ble_eq_true rfl)) dL_setRules_4 ⟨Nat.le_of_ble_eq_true rfl, Nat.le_of_ble_eq_true rfl⟩) hS (fun _ _ h => Or.inl h) (fun _ h => Or.inl h) (fun _ _ h => Or.inl h) (fun E9 ce9 q9 u9 t9 H9 locs9 ht9 hvm9 hpx9 hbx9 hz9 hk9 hS9 hc9 hv9 hl9 => ?_) (fun u t9 H locs ht hvm hw hB hz1 hk1 hS => ?_)
  · obtain ⟨hx9, hW9⟩ := hbx9
    rw [ht9] at hW9
    have hR9 : RC D cs A z0 (ad 0) g L B n b H9 := ⟨ad, y1, y2, N1, N2, nd, gv, rfl, hN1, hN2, hW9⟩
    have hO9 := (hO.keptA hoo hk9).weak
    obtain ⟨hk, rfl⟩ := hx9
    ·
      refine vx_catch (name := "java/lang/IllegalArgumentException") hown (tableOf []) ⟨0, 7, 10, 13⟩ (tableOf []) htb (fun z hz => absurd hz List.not_mem_nil) rfl (by decide) (hts (.classLink RL 13 "java/lang/IllegalArgumentException") (by decide +kernel)) (va_Nw.use rfl (hE.2.2.2.2.2.2.2.1 (.castable "java/lang/IllegalArgumentException" "java/lang/IllegalArgumentException") (by decide))) hc9 hv9 hl9 ?_
      refine lv_astore (lv' := [(4, .ref q9), (0, .ref (ad 0)), (1, .int x), (2, .int y), (3, .int z)]) hx hb dL_setRules_10 hl (by decide) rfl (fun ls hl => ?_)
      refine lv_iconst (v := 1) hx hb dL_setRules_12 (by decide) ?_
      refine W.widen (k := 1) (n := 6) (Nat.le_of_ble_eq_true rfl) (Nat.le_of_ble_eq_true rfl) ?_
      exact vx_ret (W.iret (v := 1) hx hb hr (fun t8 ht8 hW8 => ⟨⟨_, (), rfl, hk.symm, ⟨fun h9 => absurd (hk.symm.trans h9) (by decide), fun _ => by rw [ht8]; exact ⟨hR9, hO9⟩⟩⟩, hS9.F ht8⟩) hS9.2.2 dL_setRules_13)
  ·
    rw [ht] at hB
    have hO1 := hO.keptA hoo hk1
    have hk := hw
    have hR9 := hB
    have hO9 := hO1
    refine lv_goto (tgt := 14) hx hb dL_setRules_7 (by decide) ?_
    refine lv_iconst (v := 0) hx hb dL_setRules_14 (by decide) ?_
    refine W.widen (k := 1) (n := 6) (Nat.le_of_ble_eq_true rfl) (Nat.le_of_ble_eq_true rfl) ?_
    exact vx_ret (W.iret (v := 0) hx hb hr (fun t8 ht8 hW8 => ⟨⟨_, (), rfl, hk.symm, ⟨fun _ => by rw [ht8]; exact ⟨hR9, hO9⟩, fun h9 => absurd hk h9⟩⟩, hS.F ht8⟩) hS.2.2 dL_setRules_15)

set_option maxHeartbeats 4000000 in
set_option maxRecDepth 100000 in
theorem c_L_bondState (l : Launch) (hst : l.stackTraces = false) (D : va_G) (cs : Nat → ClassId) (A : Nat → Prop) (z0 : Nat) (sa : Nat → Nat) (ad : Nat → Nat) (g : Nat → Int32) (L B : Nat → Nat → Int32) (n b : Nat) (y1 y2 : Int32) (N1 N2 : Nat) (nd : Nat → Int32) (gv : Nat → Nat → Int32) (hn : n ≤ 12) (hb5 : b ≤ 5) (hN1 : n ≤ N1 ∧ N1 < 1000) (hN2 : b ≤ N2 ∧ N2 < 1000) (oo : Nat) (hoo : ¬ A oo) (x : Int32)  : vx_Met l yL_bondState wsL_bondState ({ frames := 9, cells := 1, slots := 6, locals := 142 } : Room) (va_Pc [.ref (ad 0), .int x, .ref oo] (pH D cs A z0 sa oo (lvC n b) ad (ctC cs ad z0 g L B n b y1 y2 N1 N2 nd gv))) (va_Qi (fun (r9 : Int32) (_ : Unit) => r9 = kIx b x) (fun _ t9 => (kIx b x = 0 → RC D cs A z0 (ad 0) g L B n b t9.heap ∧ OC D cs oo (fun v9 => v9 = (B 2 (ixN x)).toInt64) t9.heap) ∧ (¬ kIx b x = 0 → RC D cs A z0 (ad 0) g L B n b t9.heap ∧ OC D cs oo (fun _ => True) t9.heap)) (fun q => A q ∨ q = oo)) (vx_X (fun (_ : Unit) => False) (fun _ _ _ => True) (fun _ => False)) 1 6 (fun q => A q ∨ q = oo) := by
  refine vx_ofWH (cc := cL_bondState) (maxL := 4) (ret := (some .int)) (hh := [(0, 9, 12, 21)]) (by decide) rfl ?_
  intro p e s m args below meth c s₁ BB hml hv
  obtain ⟨rfl, hv⟩ := hv
  obtain ⟨⟨hE, hW⟩, hO, hc1, hc2, hc3⟩ := hv
  have hK := hE.1
  have hx := BB.exec
  have hb := BB.bytes
  have hr := BB.returns
  have hts := atoms_spec (ws := wsL_bondState) BB.pre
  have hown : s.vm.findClass RL = some m.cls := findClass_of_methodNamed BB.named
  have hlocks := BB.notSynchronized
  have hS : va_S (fun q => A q ∨ q = oo) s.heap s.heap [] := va_S.rf
  have hl := lv_entry ([.ref (ad 0), .int x, .ref oo]) (n := 4) (Nat.le_of_ble_eq_true rfl)
  rw [lg_entry_eq]
  generalize (lg_sl ([.ref (ad 0), .int x, .ref oo]) ++ List.replicate (4 - (lg_sl ([.ref (ad 0), .int x, .ref oo])).length) Slot.unset).toArray = ls at hl ⊢
  have hl : lv_has ls 4 [(0, .ref (ad 0)), (1, .int x), (2, .ref oo)] := hl
  have htb := vx_table (x := yL_bondState) BB (hts (.codeWith yL_bondState cL_bondState 4 (some .int) [(0, 9, 12, 21)]) (by decide +kernel))
  refine lv_aload_n hx hb dL_bondState_0 rfl (lv_at hl 2 rfl) ?_
  refine lv_iconst (v := 0) hx hb dL_bondState_1 (by decide) ?_
  refine lv_aload_n hx hb dL_bondState_2 rfl (lv_at hl 0 rfl) ?_
  refine lv_iload_n hx hb dL_bondState_3 rfl (lv_at hl 1 rfl) ?_
  refine vx_calli (vx_runV (As := [.int x]) (rest := [.int 0, .ref oo]) ⟨hx, hb, hml, hown, hts⟩ (c_X3_bondState l hst D cs A z0 sa ad g L B n b y1 y2 N1 N2 nd gv hn hb5 hN1 hN2 x) (cwV 1 hts gL_bondState_X3_bondState rfl rfl rfl (by decide +kernel) ⟨Nat.le_of_ble_eq_true rfl, Nat.le_of_ble_eq_true rfl⟩) ⟨pC_fb, wb_recv hK hW (r := 0) (lvC_0 (by decide)) (ci := 4) rfl rfl, fun U hU hV => ⟨rfl, hE.at (A' := fun _ => False) (fun _ h => h.elim) va_S.rf hV hU, by rw [hU]; exact hW⟩⟩ rfl rfl hl.1 rfl (lv_room (Nat.le_of_ble_eq_true rfl)) dL_bondState_4 ⟨Nat.le_of_ble_eq_true rfl, Nat.le_of_ble_eq_true rfl⟩) hS (fun _ _ h => Or.inl h) (fun _ h => Or.inl h) (fun _ _ h => Or.inl h) (fun E9 ce9 q9 u9 t9 H9 locs9 ht9 hvm9 hpx9 hbx9 hz9 hk9 hS9 hc9 hv9 hl9 => ?_) (fun r_9 u t9 H locs ht hvm hw hB hz1 hk1 hS => ?_)
  · obtain ⟨hx9, hW9⟩ := hbx9
    rw [ht9] at hW9
    have hR9 : RC D cs A z0 (ad 0) g L B n b H9 := ⟨ad, y1, y2, N1, N2, nd, gv, rfl, hN1, hN2, hW9⟩
    have hO9 := (hO.keptA hoo hk9).weak
    obtain ⟨hk, rfl⟩ := hx9
    ·
      refine vx_catch (name := "java/lang/IndexOutOfBoundsException") hown (tableOf []) ⟨0, 9, 12, 21⟩ (tableOf []) htb (fun z hz => absurd hz List.not_mem_nil) rfl (by decide) (hts (.classLink RL 21 "java/lang/IndexOutOfBoundsException") (by decide +kernel)) (va_Nw.use rfl (hE.2.2.2.2.2.2.2.1 (.castable "java/lang/IndexOutOfBoundsException" "java/lang/IndexOutOfBoundsException") (by decide))) hc9 hv9 hl9 ?_
      refine lv_astore_n (lv' := [(3, .ref q9), (0, .ref (ad 0)), (1, .int x), (2, .ref oo)]) hx hb dL_bondState_12 rfl hl (by decide) rfl (fun ls hl => ?_)
      refine lv_iconst (v := 1) hx hb dL_bondState_13 (by decide) ?_
      refine W.widen (k := 1) (n := 6) (Nat.le_of_ble_eq_true rfl) (Nat.le_of_ble_eq_true rfl) ?_
      exact vx_ret (W.iret (v := 1) hx hb hr (fun t8 ht8 hW8 => ⟨⟨_, (), rfl, hk.symm, ⟨fun h9 => absurd (hk.symm.trans h9) (by decide), fun _ => by rw [ht8]; exact ⟨hR9, hO9⟩⟩⟩, hS9.F ht8⟩) hS9.2.2 dL_bondState_14)
  ·
    rw [ht] at hB
    have hO1 := hO.keptA hoo hk1
    obtain ⟨hk, rfl⟩ := hw
    refine lv_i2l (v := (B 2 (ixN x)).toInt64) hx hb dL_bondState_7 rfl ?_
    refine RC_out hx hb hK hn hb5 hoo hB hO1 hS dL_bondState_8 (fun H locs hR9 hO9 hS => ?_)
    refine lv_goto (tgt := 15) hx hb dL_bondState_9 (by decide) ?_
    refine lv_iconst (v := 0) hx hb dL_bondState_15 (by decide) ?_
    refine W.widen (k := 1) (n := 6) (Nat.le_of_ble_eq_true rfl) (Nat.le_of_ble_eq_true rfl) ?_
    exact vx_ret (W.iret (v := 0) hx hb hr (fun t8 ht8 hW8 => ⟨⟨_, (), rfl, hk.symm, ⟨fun _ => by rw [ht8]; exact ⟨hR9, hO9⟩, fun h9 => absurd hk h9⟩⟩, hS.F ht8⟩) hS.2.2 dL_bondState_16)

set_option maxHeartbeats 4000000 in
set_option maxRecDepth 100000 in
theorem c_L_dueOf (l : Launch) (hst : l.stackTraces = false) (D : va_G) (cs : Nat → ClassId) (A : Nat → Prop) (z0 : Nat) (sa : Nat → Nat) (ad : Nat → Nat) (g : Nat → Int32) (L B : Nat → Nat → Int32) (n b : Nat) (y1 y2 : Int32) (N1 N2 : Nat) (nd : Nat → Int32) (gv : Nat → Nat → Int32) (hn : n ≤ 12) (hb5 : b ≤ 5) (hN1 : n ≤ N1 ∧ N1 < 1000) (hN2 : b ≤ N2 ∧ N2 < 1000) (oo : Nat) (hoo : ¬ A oo) (x : Int32)  : vx_Met l yL_dueOf wsL_dueOf ({ frames := 9, cells := 1, slots := 6, locals := 142 } : Room) (va_Pc [.ref (ad 0), .int x, .ref oo] (pH D cs A z0 sa oo (lvC n b) ad (ctC cs ad z0 g L B n b y1 y2 N1 N2 nd gv))) (va_Qi (fun (r9 : Int32) (_ : Unit) => r9 = kIx b x) (fun _ t9 => (kIx b x = 0 → RC D cs A z0 (ad 0) g L B n b t9.heap ∧ OC D cs oo (fun v9 => v9 = (B 1 (ixN x)).toInt64) t9.heap) ∧ (¬ kIx b x = 0 → RC D cs A z0 (ad 0) g L B n b t9.heap ∧ OC D cs oo (fun _ => True) t9.heap)) (fun q => A q ∨ q = oo)) (vx_X (fun (_ : Unit) => False) (fun _ _ _ => True) (fun _ => False)) 1 6 (fun q => A q ∨ q = oo) := by
  refine vx_ofWH (cc := cL_dueOf) (maxL := 4) (ret := (some .int)) (hh := [(0, 9, 12, 21)]) (by decide) rfl ?_
  intro p e s m args below meth c s₁ BB hml hv
  obtain ⟨rfl, hv⟩ := hv
  obtain ⟨⟨hE, hW⟩, hO, hc1, hc2, hc3⟩ := hv
  have hK := hE.1
  have hx := BB.exec
  have hb := BB.bytes
  have hr := BB.returns
  have hts := atoms_spec (ws := wsL_dueOf) BB.pre
  have hown : s.vm.findClass RL = some m.cls := findClass_of_methodNamed BB.named
  have hlocks := BB.notSynchronized
  have hS : va_S (fun q => A q ∨ q = oo) s.heap s.heap [] := va_S.rf
  have hl := lv_entry ([.ref (ad 0), .int x, .ref oo]) (n := 4) (Nat.le_of_ble_eq_true rfl)
  rw [lg_entry_eq]
  generalize (lg_sl ([.ref (ad 0), .int x, .ref oo]) ++ List.replicate (4 - (lg_sl ([.ref (ad 0), .int x, .ref oo])).length) Slot.unset).toArray = ls at hl ⊢
  have hl : lv_has ls 4 [(0, .ref (ad 0)), (1, .int x), (2, .ref oo)] := hl
  have htb := vx_table (x := yL_dueOf) BB (hts (.codeWith yL_dueOf cL_dueOf 4 (some .int) [(0, 9, 12, 21)]) (by decide +kernel))
  refine lv_aload_n hx hb dL_dueOf_0 rfl (lv_at hl 2 rfl) ?_
  refine lv_iconst (v := 0) hx hb dL_dueOf_1 (by decide) ?_
  refine lv_aload_n hx hb dL_dueOf_2 rfl (lv_at hl 0 rfl) ?_
  refine lv_iload_n hx hb dL_dueOf_3 rfl (lv_at hl 1 rfl) ?_
  refine vx_calli (vx_runV (As := [.int x]) (rest := [.int 0, .ref oo]) ⟨hx, hb, hml, hown, hts⟩ (c_X3_dueOf l hst D cs A z0 sa ad g L B n b y1 y2 N1 N2 nd gv hn hb5 hN1 hN2 x) (cwV 1 hts gL_dueOf_X3_dueOf rfl rfl rfl (by decide +kernel) ⟨Nat.le_of_ble_eq_true rfl, Nat.le_of_ble_eq_true rfl⟩) ⟨pC_fb, wb_recv hK hW (r := 0) (lvC_0 (by decide)) (ci := 4) rfl rfl, fun U hU hV => ⟨rfl, hE.at (A' := fun _ => False) (fun _ h => h.elim) va_S.rf hV hU, by rw [hU]; exact hW⟩⟩ rfl rfl hl.1 rfl (lv_room (Nat.le_of_ble_eq_true rfl)) dL_dueOf_4 ⟨Nat.le_of_ble_eq_true rfl, Nat.le_of_ble_eq_true rfl⟩) hS (fun _ _ h => Or.inl h) (fun _ h => Or.inl h) (fun _ _ h => Or.inl h) (fun E9 ce9 q9 u9 t9 H9 locs9 ht9 hvm9 hpx9 hbx9 hz9 hk9 hS9 hc9 hv9 hl9 => ?_) (fun r_9 u t9 H locs ht hvm hw hB hz1 hk1 hS => ?_)
  · obtain ⟨hx9, hW9⟩ := hbx9
    rw [ht9] at hW9
    have hR9 : RC D cs A z0 (ad 0) g L B n b H9 := ⟨ad, y1, y2, N1, N2, nd, gv, rfl, hN1, hN2, hW9⟩
    have hO9 := (hO.keptA hoo hk9).weak
    obtain ⟨hk, rfl⟩ := hx9
    ·
      refine vx_catch (name := "java/lang/IndexOutOfBoundsException") hown (tableOf []) ⟨0, 9, 12, 21⟩ (tableOf []) htb (fun z hz => absurd hz List.not_mem_nil) rfl (by decide) (hts (.classLink RL 21 "java/lang/IndexOutOfBoundsException") (by decide +kernel)) (va_Nw.use rfl (hE.2.2.2.2.2.2.2.1 (.castable "java/lang/IndexOutOfBoundsException" "java/lang/IndexOutOfBoundsException") (by decide))) hc9 hv9 hl9 ?_
      refine lv_astore_n (lv' := [(3, .ref q9), (0, .ref (ad 0)), (1, .int x), (2, .ref oo)]) hx hb dL_dueOf_12 rfl hl (by decide) rfl (fun ls hl => ?_)
      refine lv_iconst (v := 1) hx hb dL_dueOf_13 (by decide) ?_
      refine W.widen (k := 1) (n := 6) (Nat.le_of_ble_eq_true rfl) (Nat.le_of_ble_eq_true rfl) ?_
      exact vx_ret (W.iret (v := 1) hx hb hr (fun t8 ht8 hW8 => ⟨⟨_, (), rfl, hk.symm, ⟨fun h9 => absurd (hk.symm.trans h9) (by decide), fun _ => by rw [ht8]; exact ⟨hR9, hO9⟩⟩⟩, hS9.F ht8⟩) hS9.2.2 dL_dueOf_14)
  ·
    rw [ht] at hB
    have hO1 := hO.keptA hoo hk1
    obtain ⟨hk, rfl⟩ := hw
    refine lv_i2l (v := (B 1 (ixN x)).toInt64) hx hb dL_dueOf_7 rfl ?_
    refine RC_out hx hb hK hn hb5 hoo hB hO1 hS dL_dueOf_8 (fun H locs hR9 hO9 hS => ?_)
    refine lv_goto (tgt := 15) hx hb dL_dueOf_9 (by decide) ?_
    refine lv_iconst (v := 0) hx hb dL_dueOf_15 (by decide) ?_
    refine W.widen (k := 1) (n := 6) (Nat.le_of_ble_eq_true rfl) (Nat.le_of_ble_eq_true rfl) ?_
    exact vx_ret (W.iret (v := 0) hx hb hr (fun t8 ht8 hW8 => ⟨⟨_, (), rfl, hk.symm, ⟨fun _ => by rw [ht8]; exact ⟨hR9, hO9⟩, fun h9 => absurd hk h9⟩⟩, hS.F ht8⟩) hS.2.2 dL_dueOf_16)

set_option maxHeartbeats 4000000 in
set_option maxRecDepth 100000 in
theorem c_L_pass (l : Launch) (hst : l.stackTraces = false) (D : va_G) (cs : Nat → ClassId) (A : Nat → Prop) (z0 : Nat) (sa : Nat → Nat) (ad : Nat → Nat) (g : Nat → Int32) (L B : Nat → Nat → Int32) (n b : Nat) (y1 y2 : Int32) (N1 N2 : Nat) (nd : Nat → Int32) (gv : Nat → Nat → Int32) (hn : n ≤ 12) (hb5 : b ≤ 5) (hN1 : n ≤ N1 ∧ N1 < 1000) (hN2 : b ≤ N2 ∧ N2 < 1000) (oo : Nat) (hoo : ¬ A oo) (x : Int32)  : vx_Met l yL_pass wsL_pass ({ frames := 9, cells := 1, slots := 6, locals := 144 } : Room) (va_Pc [.ref (ad 0), .int x, .ref oo] (pH D cs A z0 sa oo (lvC n b) ad (ctC cs ad z0 g L B n b y1 y2 N1 N2 nd gv))) (va_Qi (fun (r9 : Int32) (_ : Unit) => r9 = kIn 1 24 x) (fun _ t9 => (kIn 1 24 x = 0 → RC D cs A z0 (ad 0) ((lvMany n b (g, L, B) (ixN x)).1) ((lvMany n b (g, L, B) (ixN x)).2.1) ((lvMany n b (g, L, B) (ixN x)).2.2) n b t9.heap ∧ OC D cs oo (fun v9 => v9 = ((lvMany n b (g, L, B) (ixN x)).1 0).toInt64) t9.heap) ∧ (¬ kIn 1 24 x = 0 → RC D cs A z0 (ad 0) g L B n b t9.heap ∧ OC D cs oo (fun _ => True) t9.heap)) (fun q => A q ∨ q = oo)) (vx_X (fun (_ : Unit) => False) (fun _ _ _ => True) (fun _ => False)) 1 6 (fun q => A q ∨ q = oo) := by
  refine vx_ofWH (cc := cL_pass) (maxL := 4) (ret := (some .int)) (hh := [(0, 9, 12, 13)]) (by decide) rfl ?_
  intro p e s m args below meth c s₁ BB hml hv
  obtain ⟨rfl, hv⟩ := hv
  obtain ⟨⟨hE, hW⟩, hO, hc1, hc2, hc3⟩ := hv
  have hK := hE.1
  have hx := BB.exec
  have hb := BB.bytes
  have hr := BB.returns
  have hts := atoms_spec (ws := wsL_pass) BB.pre
  have hown : s.vm.findClass RL = some m.cls := findClass_of_methodNamed BB.named
  have hlocks := BB.notSynchronized
  have hS : va_S (fun q => A q ∨ q = oo) s.heap s.heap [] := va_S.rf
  have hl := lv_entry ([.ref (ad 0), .int x, .ref oo]) (n := 4) (Nat.le_of_ble_eq_true rfl)
  rw [lg_entry_eq]
  generalize (lg_sl ([.ref (ad 0), .int x, .ref oo]) ++ List.replicate (4 - (lg_sl ([.ref (ad 0), .int x, .ref oo])).length) Slot.unset).toArray = ls at hl ⊢
  have hl : lv_has ls 4 [(0, .ref (ad 0)), (1, .int x), (2, .ref oo)] := hl
  have htb := vx_table (x := yL_pass) BB (hts (.codeWith yL_pass cL_pass 4 (some .int) [(0, 9, 12, 13)]) (by decide +kernel))
  refine lv_aload_n hx hb dL_pass_0 rfl (lv_at hl 2 rfl) ?_
  refine lv_iconst (v := 0) hx hb dL_pass_1 (by decide) ?_
  refine lv_aload_n hx hb dL_pass_2 rfl (lv_at hl 0 rfl) ?_
  refine lv_iload_n hx hb dL_pass_3 rfl (lv_at hl 1 rfl) ?_
  refine vx_calli (vx_runV (As := [.int x]) (rest := [.int 0, .ref oo]) ⟨hx, hb, hml, hown, hts⟩ (c_X3_pass l hst D cs A z0 sa ad g L B n b y1 y2 N1 N2 nd gv hn hb5 hN1 hN2 x) (cwV 1 hts gL_pass_X3_pass rfl rfl rfl (by decide +kernel) ⟨Nat.le_of_ble_eq_true rfl, Nat.le_of_ble_eq_true rfl⟩) ⟨pC_fb, wb_recv hK hW (r := 0) (lvC_0 (by decide)) (ci := 4) rfl rfl, fun U hU hV => ⟨rfl, hE.at (A' := fun _ => False) (fun _ h => h.elim) va_S.rf hV hU, by rw [hU]; exact hW⟩⟩ rfl rfl hl.1 rfl (lv_room (Nat.le_of_ble_eq_true rfl)) dL_pass_4 ⟨Nat.le_of_ble_eq_true rfl, Nat.le_of_ble_eq_true rfl⟩) hS (fun _ _ h => Or.inl h) (fun _ h => Or.inl h) (fun _ _ h => Or.inl h) (fun E9 ce9 q9 u9 t9 H9 locs9 ht9 hvm9 hpx9 hbx9 hz9 hk9 hS9 hc9 hv9 hl9 => ?_) (fun r_9 u t9 H locs ht hvm hw hB hz1 hk1 hS => ?_)
  · obtain ⟨hx9, hW9⟩ := hbx9
    rw [ht9] at hW9
    have hR9 : RC D cs A z0 (ad 0) g L B n b H9 := ⟨ad, y1, y2, N1, N2, nd, gv, rfl, hN1, hN2, hW9⟩
    have hO9 := (hO.keptA hoo hk9).weak
    obtain ⟨hk, rfl⟩ := hx9
    ·
      refine vx_catch (name := "java/lang/IllegalArgumentException") hown (tableOf []) ⟨0, 9, 12, 13⟩ (tableOf []) htb (fun z hz => absurd hz List.not_mem_nil) rfl (by decide) (hts (.classLink RL 13 "java/lang/IllegalArgumentException") (by decide +kernel)) (va_Nw.use rfl (hE.2.2.2.2.2.2.2.1 (.castable "java/lang/IllegalArgumentException" "java/lang/IllegalArgumentException") (by decide))) hc9 hv9 hl9 ?_
      refine lv_astore_n (lv' := [(3, .ref q9), (0, .ref (ad 0)), (1, .int x), (2, .ref oo)]) hx hb dL_pass_12 rfl hl (by decide) rfl (fun ls hl => ?_)
      refine lv_iconst (v := 1) hx hb dL_pass_13 (by decide) ?_
      refine W.widen (k := 1) (n := 6) (Nat.le_of_ble_eq_true rfl) (Nat.le_of_ble_eq_true rfl) ?_
      exact vx_ret (W.iret (v := 1) hx hb hr (fun t8 ht8 hW8 => ⟨⟨_, (), rfl, hk.symm, ⟨fun h9 => absurd (hk.symm.trans h9) (by decide), fun _ => by rw [ht8]; exact ⟨hR9, hO9⟩⟩⟩, hS9.F ht8⟩) hS9.2.2 dL_pass_14)
  ·
    rw [ht] at hB
    have hO1 := hO.keptA hoo hk1
    obtain ⟨hk, rfl⟩ := hw
    refine lv_i2l (v := ((lvMany n b (g, L, B) (ixN x)).1 0).toInt64) hx hb dL_pass_7 rfl ?_
    refine RC_out hx hb hK hn hb5 hoo hB hO1 hS dL_pass_8 (fun H locs hR9 hO9 hS => ?_)
    refine lv_goto (tgt := 15) hx hb dL_pass_9 (by decide) ?_
    refine lv_iconst (v := 0) hx hb dL_pass_15 (by decide) ?_
    refine W.widen (k := 1) (n := 6) (Nat.le_of_ble_eq_true rfl) (Nat.le_of_ble_eq_true rfl) ?_
    exact vx_ret (W.iret (v := 0) hx hb hr (fun t8 ht8 hW8 => ⟨⟨_, (), rfl, hk.symm, ⟨fun _ => by rw [ht8]; exact ⟨hR9, hO9⟩, fun h9 => absurd hk h9⟩⟩, hS.F ht8⟩) hS.2.2 dL_pass_16)

set_option maxHeartbeats 4000000 in
set_option maxRecDepth 100000 in
theorem c_L_holds (l : Launch) (hst : l.stackTraces = false) (D : va_G) (cs : Nat → ClassId) (A : Nat → Prop) (z0 : Nat) (sa : Nat → Nat) (ad : Nat → Nat) (g : Nat → Int32) (L B : Nat → Nat → Int32) (n b : Nat) (y1 y2 : Int32) (N1 N2 : Nat) (nd : Nat → Int32) (gv : Nat → Nat → Int32) (hn : n ≤ 12) (hb5 : b ≤ 5) (hN1 : n ≤ N1 ∧ N1 < 1000) (hN2 : b ≤ N2 ∧ N2 < 1000) (oo : Nat) (hoo : ¬ A oo) (x : Int32)  (hbd : Bd g L B n b) : vx_Met l yL_holds wsL_holds ({ frames := 10, cells := 1, slots := 6, locals := 218 } : Room) (va_Pc [.ref (ad 0), .int x, .ref oo] (pH D cs A z0 sa oo (lvC n b) ad (ctC cs ad z0 g L B n b y1 y2 N1 N2 nd gv))) (va_Qi (fun (r9 : Int32) (_ : Unit) => r9 = kIn 0 2 x) (fun _ t9 => (kIn 0 2 x = 0 → ((mLack g L B n b x (mPool L 1 n) = 0) → RC D cs A z0 (ad 0) g L B n b t9.heap ∧ OC D cs oo (fun v9 => v9 = 1) t9.heap) ∧ (¬ (mLack g L B n b x (mPool L 1 n) = 0) → RC D cs A z0 (ad 0) g L B n b t9.heap ∧ OC D cs oo (fun v9 => v9 = 0) t9.heap)) ∧ (¬ kIn 0 2 x = 0 → RC D cs A z0 (ad 0) g L B n b t9.heap ∧ OC D cs oo (fun _ => True) t9.heap)) (fun q => A q ∨ q = oo)) (vx_X (fun (_ : Unit) => False) (fun _ _ _ => True) (fun _ => False)) 1 6 (fun q => A q ∨ q = oo) := by
  refine vx_ofWH (cc := cL_holds) (maxL := 4) (ret := (some .int)) (hh := [(0, 16, 19, 13)]) (by decide) rfl ?_
  intro p e s m args below meth c s₁ BB hml hv
  obtain ⟨rfl, hv⟩ := hv
  obtain ⟨⟨hE, hW⟩, hO, hc1, hc2, hc3⟩ := hv
  have hK := hE.1
  have hx := BB.exec
  have hb := BB.bytes
  have hr := BB.returns
  have hts := atoms_spec (ws := wsL_holds) BB.pre
  have hown : s.vm.findClass RL = some m.cls := findClass_of_methodNamed BB.named
  have hlocks := BB.notSynchronized
  have hS : va_S (fun q => A q ∨ q = oo) s.heap s.heap [] := va_S.rf
  have hl := lv_entry ([.ref (ad 0), .int x, .ref oo]) (n := 4) (Nat.le_of_ble_eq_true rfl)
  rw [lg_entry_eq]
  generalize (lg_sl ([.ref (ad 0), .int x, .ref oo]) ++ List.replicate (4 - (lg_sl ([.ref (ad 0), .int x, .ref oo])).length) Slot.unset).toArray = ls at hl ⊢
  have hl : lv_has ls 4 [(0, .ref (ad 0)), (1, .int x), (2, .ref oo)] := hl
  have htb := vx_table (x := yL_holds) BB (hts (.codeWith yL_holds cL_holds 4 (some .int) [(0, 16, 19, 13)]) (by decide +kernel))
  refine lv_aload_n hx hb dL_holds_0 rfl (lv_at hl 2 rfl) ?_
  refine lv_iconst (v := 0) hx hb dL_holds_1 (by decide) ?_
  refine lv_aload_n hx hb dL_holds_2 rfl (lv_at hl 0 rfl) ?_
  refine lv_iload_n hx hb dL_holds_3 rfl (lv_at hl 1 rfl) ?_
  refine vx_calli (vx_runV (As := [.int x]) (rest := [.int 0, .ref oo]) ⟨hx, hb, hml, hown, hts⟩ (c_X3_holds l hst D cs A z0 sa ad g L B n b y1 y2 N1 N2 nd gv hn hb5 hN1 hN2 x) (cwV 1 hts gL_holds_X3_holds rfl rfl rfl (by decide +kernel) ⟨Nat.le_of_ble_eq_true rfl, Nat.le_of_ble_eq_true rfl⟩) ⟨pC_fb, wb_recv hK hW (r := 0) (lvC_0 (by decide)) (ci := 4) rfl rfl, fun U hU hV => ⟨rfl, hE.at (A' := fun _ => False) (fun _ h => h.elim) va_S.rf hV hU, by rw [hU]; exact hW⟩⟩ rfl rfl hl.1 rfl (lv_room (Nat.le_of_ble_eq_true rfl)) dL_holds_4 ⟨Nat.le_of_ble_eq_true rfl, Nat.le_of_ble_eq_true rfl⟩) hS (fun _ _ h => Or.inl h) (fun _ h => Or.inl h) (fun _ _ h => Or.inl h) (fun E9 ce9 q9 u9 t9 H9 locs9 ht9 hvm9 hpx9 hbx9 hz9 hk9 hS9 hc9 hv9 hl9 => ?_) (fun r_9 u t9 H locs ht hvm hw hB hz1 hk1 hS => ?_)
  · obtain ⟨hx9, hW9⟩ := hbx9
    rw [ht9] at hW9
    have hR9 : RC D cs A z0 (ad 0) g L B n b H9 := ⟨ad, y1, y2, N1, N2, nd, gv, rfl, hN1, hN2, hW9⟩
    have hO9 := (hO.keptA hoo hk9).weak
    obtain ⟨hk, rfl⟩ := hx9
    ·
      refine vx_catch (name := "java/lang/IllegalArgumentException") hown (tableOf []) ⟨0, 16, 19, 13⟩ (tableOf []) htb (fun z hz => absurd hz List.not_mem_nil) rfl (by decide) (hts (.classLink RL 13 "java/lang/IllegalArgumentException") (by decide +kernel)) (va_Nw.use rfl (hE.2.2.2.2.2.2.2.1 (.castable "java/lang/IllegalArgumentException" "java/lang/IllegalArgumentException") (by decide))) hc9 hv9 hl9 ?_
      refine lv_astore_n (lv' := [(3, .ref q9), (0, .ref (ad 0)), (1, .int x), (2, .ref oo)]) hx hb dL_holds_19 rfl hl (by decide) rfl (fun ls hl => ?_)
      refine lv_iconst (v := 1) hx hb dL_holds_20 (by decide) ?_
      refine W.widen (k := 1) (n := 6) (Nat.le_of_ble_eq_true rfl) (Nat.le_of_ble_eq_true rfl) ?_
      exact vx_ret (W.iret (v := 1) hx hb hr (fun t8 ht8 hW8 => ⟨⟨_, (), rfl, hk.symm, ⟨fun h9 => absurd (hk.symm.trans h9) (by decide), fun _ => by rw [ht8]; exact ⟨hR9, hO9⟩⟩⟩, hS9.F ht8⟩) hS9.2.2 dL_holds_21)
  ·
    rw [ht] at hB
    have hO1 := hO.keptA hoo hk1
    obtain ⟨hk, rfl, hpp⟩ := hw
    rcases hpp with ⟨rfl, hP⟩ | ⟨rfl, hP⟩
    ·
      have hP2 : mLack g L B n b x (mPool L 1 n) = 0 := by rw [lack_eq hbd nd gv hk] at hP; exact hP
      refine lv_if_eq (tgt := 14) hx hb dL_holds_7 (by decide) (fun c_1 => ?_) (fun c_1 => ?_)
      · -- 1 eq 0 : True
        exact absurd c_1 (by decide)
      · -- 1 eq 0 : False
        refine lv_lconst (v := 1) hx hb dL_holds_10 (by decide) ?_
        refine lv_goto (tgt := 15) hx hb dL_holds_11 (by decide) ?_
        refine RC_out hx hb hK hn hb5 hoo hB hO1 hS dL_holds_15 (fun H locs hR9 hO9 hS => ?_)
        refine lv_goto (tgt := 22) hx hb dL_holds_16 (by decide) ?_
        refine lv_iconst (v := 0) hx hb dL_holds_22 (by decide) ?_
        refine W.widen (k := 1) (n := 6) (Nat.le_of_ble_eq_true rfl) (Nat.le_of_ble_eq_true rfl) ?_
        exact vx_ret (W.iret (v := 0) hx hb hr (fun t8 ht8 hW8 => ⟨⟨_, (), rfl, hk.symm, ⟨fun _ => ⟨fun _ => by rw [ht8]; exact ⟨hR9, hO9⟩, fun h9 => absurd hP2 h9⟩, fun h9 => absurd hk h9⟩⟩, hS.F ht8⟩) hS.2.2 dL_holds_23)
    ·
      have hP2 : ¬ mLack g L B n b x (mPool L 1 n) = 0 := by rw [lack_eq hbd nd gv hk] at hP; exact hP
      refine lv_if_eq (tgt := 14) hx hb dL_holds_7 (by decide) (fun c_2 => ?_) (fun c_2 => ?_)
      · -- 0 eq 0 : True
        refine lv_lconst (v := 0) hx hb dL_holds_14 (by decide) ?_
        refine RC_out hx hb hK hn hb5 hoo hB hO1 hS dL_holds_15 (fun H locs hR9 hO9 hS => ?_)
        refine lv_goto (tgt := 22) hx hb dL_holds_16 (by decide) ?_
        refine lv_iconst (v := 0) hx hb dL_holds_22 (by decide) ?_
        refine W.widen (k := 1) (n := 6) (Nat.le_of_ble_eq_true rfl) (Nat.le_of_ble_eq_true rfl) ?_
        exact vx_ret (W.iret (v := 0) hx hb hr (fun t8 ht8 hW8 => ⟨⟨_, (), rfl, hk.symm, ⟨fun _ => ⟨fun h9 => absurd h9 hP2, fun _ => by rw [ht8]; exact ⟨hR9, hO9⟩⟩, fun h9 => absurd hk h9⟩⟩, hS.F ht8⟩) hS.2.2 dL_holds_23)
      · -- 0 eq 0 : False
        exact absurd c_2 (by decide)

set_option maxHeartbeats 4000000 in
set_option maxRecDepth 100000 in
theorem c_L_lacking (l : Launch) (hst : l.stackTraces = false) (D : va_G) (cs : Nat → ClassId) (A : Nat → Prop) (z0 : Nat) (sa : Nat → Nat) (ad : Nat → Nat) (g : Nat → Int32) (L B : Nat → Nat → Int32) (n b : Nat) (y1 y2 : Int32) (N1 N2 : Nat) (nd : Nat → Int32) (gv : Nat → Nat → Int32) (hn : n ≤ 12) (hb5 : b ≤ 5) (hN1 : n ≤ N1 ∧ N1 < 1000) (hN2 : b ≤ N2 ∧ N2 < 1000) (oo : Nat) (hoo : ¬ A oo) (x : Int32)  (hbd : Bd g L B n b) : vx_Met l yL_lacking wsL_lacking ({ frames := 9, cells := 1, slots := 6, locals := 197 } : Room) (va_Pc [.ref (ad 0), .int x, .ref oo] (pH D cs A z0 sa oo (lvC n b) ad (ctC cs ad z0 g L B n b y1 y2 N1 N2 nd gv))) (va_Qi (fun (r9 : Int32) (_ : Unit) => r9 = kIn 0 2 x) (fun _ t9 => (kIn 0 2 x = 0 → RC D cs A z0 (ad 0) g L B n b t9.heap ∧ OC D cs oo (fun v9 => v9 = mLack g L B n b x (mPool L 1 n)) t9.heap) ∧ (¬ kIn 0 2 x = 0 → RC D cs A z0 (ad 0) g L B n b t9.heap ∧ OC D cs oo (fun _ => True) t9.heap)) (fun q => A q ∨ q = oo)) (vx_X (fun (_ : Unit) => False) (fun _ _ _ => True) (fun _ => False)) 1 6 (fun q => A q ∨ q = oo) := by
  refine vx_ofWH (cc := cL_lacking) (maxL := 4) (ret := (some .int)) (hh := [(0, 8, 11, 13)]) (by decide) rfl ?_
  intro p e s m args below meth c s₁ BB hml hv
  obtain ⟨rfl, hv⟩ := hv
  obtain ⟨⟨hE, hW⟩, hO, hc1, hc2, hc3⟩ := hv
  have hK := hE.1
  have hx := BB.exec
  have hb := BB.bytes
  have hr := BB.returns
  have hts := atoms_spec (ws := wsL_lacking) BB.pre
  have hown : s.vm.findClass RL = some m.cls := findClass_of_methodNamed BB.named
  have hlocks := BB.notSynchronized
  have hS : va_S (fun q => A q ∨ q = oo) s.heap s.heap [] := va_S.rf
  have hl := lv_entry ([.ref (ad 0), .int x, .ref oo]) (n := 4) (Nat.le_of_ble_eq_true rfl)
  rw [lg_entry_eq]
  generalize (lg_sl ([.ref (ad 0), .int x, .ref oo]) ++ List.replicate (4 - (lg_sl ([.ref (ad 0), .int x, .ref oo])).length) Slot.unset).toArray = ls at hl ⊢
  have hl : lv_has ls 4 [(0, .ref (ad 0)), (1, .int x), (2, .ref oo)] := hl
  have htb := vx_table (x := yL_lacking) BB (hts (.codeWith yL_lacking cL_lacking 4 (some .int) [(0, 8, 11, 13)]) (by decide +kernel))
  refine lv_aload_n hx hb dL_lacking_0 rfl (lv_at hl 2 rfl) ?_
  refine lv_iconst (v := 0) hx hb dL_lacking_1 (by decide) ?_
  refine lv_aload_n hx hb dL_lacking_2 rfl (lv_at hl 0 rfl) ?_
  refine lv_iload_n hx hb dL_lacking_3 rfl (lv_at hl 1 rfl) ?_
  refine vx_calll (vx_runV (As := [.int x]) (rest := [.int 0, .ref oo]) ⟨hx, hb, hml, hown, hts⟩ (c_X3_lacking l hst D cs A z0 sa ad g L B n b y1 y2 N1 N2 nd gv hn hb5 hN1 hN2 x) (cwV 1 hts gL_lacking_X3_lacking rfl rfl rfl (by decide +kernel) ⟨Nat.le_of_ble_eq_true rfl, Nat.le_of_ble_eq_true rfl⟩) ⟨pC_fb, wb_recv hK hW (r := 0) (lvC_0 (by decide)) (ci := 4) rfl rfl, fun U hU hV => ⟨rfl, hE.at (A' := fun _ => False) (fun _ h => h.elim) va_S.rf hV hU, by rw [hU]; exact hW⟩⟩ rfl rfl hl.1 rfl (lv_room (Nat.le_of_ble_eq_true rfl)) dL_lacking_4 ⟨Nat.le_of_ble_eq_true rfl, Nat.le_of_ble_eq_true rfl⟩) hS (fun _ _ h => Or.inl h) (fun _ h => Or.inl h) (fun _ _ h => Or.inl h) (fun E9 ce9 q9 u9 t9 H9 locs9 ht9 hvm9 hpx9 hbx9 hz9 hk9 hS9 hc9 hv9 hl9 => ?_) (fun r_9 u t9 H locs ht hvm hw hB hz1 hk1 hS => ?_)
  · obtain ⟨hx9, hW9⟩ := hbx9
    rw [ht9] at hW9
    have hR9 : RC D cs A z0 (ad 0) g L B n b H9 := ⟨ad, y1, y2, N1, N2, nd, gv, rfl, hN1, hN2, hW9⟩
    have hO9 := (hO.keptA hoo hk9).weak
    obtain ⟨hk, rfl⟩ := hx9
    ·
      refine vx_catch (name := "java/lang/IllegalArgumentException") hown (tableOf []) ⟨0, 8, 11, 13⟩ (tableOf []) htb (fun z hz => absurd hz List.not_mem_nil) rfl (by decide) (hts (.classLink RL 13 "java/lang/IllegalArgumentException") (by decide +kernel)) (va_Nw.use rfl (hE.2.2.2.2.2.2.2.1 (.castable "java/lang/IllegalArgumentException" "java/lang/IllegalArgumentException") (by decide))) hc9 hv9 hl9 ?_
      refine lv_astore_n (lv' := [(3, .ref q9), (0, .ref (ad 0)), (1, .int x), (2, .ref oo)]) hx hb dL_lacking_11 rfl hl (by decide) rfl (fun ls hl => ?_)
      refine lv_iconst (v := 1) hx hb dL_lacking_12 (by decide) ?_
      refine W.widen (k := 1) (n := 6) (Nat.le_of_ble_eq_true rfl) (Nat.le_of_ble_eq_true rfl) ?_
      exact vx_ret (W.iret (v := 1) hx hb hr (fun t8 ht8 hW8 => ⟨⟨_, (), rfl, hk.symm, ⟨fun h9 => absurd (hk.symm.trans h9) (by decide), fun _ => by rw [ht8]; exact ⟨hR9, hO9⟩⟩⟩, hS9.F ht8⟩) hS9.2.2 dL_lacking_13)
  ·
    rw [ht] at hB
    have hO1 := hO.keptA hoo hk1
    obtain ⟨hk, rfl⟩ := hw
    refine RC_out hx hb hK hn hb5 hoo hB hO1 hS dL_lacking_7 (fun H locs hR9 hO9 hS => ?_)
    rw [lack_eq hbd nd gv hk] at hO9
    refine lv_goto (tgt := 14) hx hb dL_lacking_8 (by decide) ?_
    refine lv_iconst (v := 0) hx hb dL_lacking_14 (by decide) ?_
    refine W.widen (k := 1) (n := 6) (Nat.le_of_ble_eq_true rfl) (Nat.le_of_ble_eq_true rfl) ?_
    exact vx_ret (W.iret (v := 0) hx hb hr (fun t8 ht8 hW8 => ⟨⟨_, (), rfl, hk.symm, ⟨fun _ => by rw [ht8]; exact ⟨hR9, hO9⟩, fun h9 => absurd hk h9⟩⟩, hS.F ht8⟩) hS.2.2 dL_lacking_15)
