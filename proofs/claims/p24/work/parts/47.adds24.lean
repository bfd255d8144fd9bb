set_option maxHeartbeats 4000000 in
set_option maxRecDepth 100000 in
theorem c_L_cell (l : Launch) (b9 L9 k : Nat) (xs : Nat → Int32) (hk9 : k < 1000) (hL9 : L9 ≤ 260) : Met l yL_cell wsL_cell ({ frames := 1, cells := 0, slots := 0, locals := 24 } : Room) (va_Pc [.ref b9, .int (nI k)] (pX b9 L9 xs)) (va_Qi (fun (r9 : Int32) (_ : Unit) => ∃ j, j < 2147483648 ∧ r9 = nI j) (fun _ _ => True) (fun _ => False)) 0 0 (fun _ => False) := by
  refine Met.ofW (cc := cL_cell) (maxL := 2) (ret := (some .int)) (by decide) rfl ?_
  intro p e s m args below meth c s₁ BB hml hv
  obtain ⟨rfl, hv⟩ := hv
  obtain ⟨hX, hbl⟩ := hv
  have hx := BB.exec
  have hb := BB.bytes
  have hr := BB.returns
  have hts := atoms_spec (ws := wsL_cell) BB.pre
  have hown : s.vm.findClass RL = some m.cls := findClass_of_methodNamed BB.named
  have hlocks := BB.notSynchronized
  have hS : va_S (fun _ => False) s.heap s.heap [] := va_S.rf
  have hl := lv_entry ([.ref b9, .int (nI k)]) (n := 2) (Nat.le_of_ble_eq_true rfl)
  rw [lg_entry_eq]
  generalize (lg_sl ([.ref b9, .int (nI k)]) ++ List.replicate (2 - (lg_sl ([.ref b9, .int (nI k)])).length) Slot.unset).toArray = ls at hl ⊢
  have hl : lv_has ls 2 [(0, .ref b9), (1, .int (nI k))] := hl
  refine lv_iload_n hx hb dL_cell_0 rfl (lv_at hl 1 rfl) ?_
  refine lv_aload_n hx hb dL_cell_1 rfl (lv_at hl 0 rfl) ?_
  refine va_slen hx hb hX hbl (fun h => h) hS dL_cell_2 ?_
  refine lv_icmp_ge (tgt := 12) hx hb dL_cell_3 (by decide) (fun c_1 => ?_) (fun c_1 => ?_)
  · -- nI k ge nI L9 : True
    refine lv_ldc (v := 52027) hx hb hown (hts (.constant RL 7 (52027)) (by decide +kernel)) dL_cell_12 ?_
    refine lv_iload_n hx hb dL_cell_14 rfl (lv_at hl 1 rfl) ?_
    refine lv_sipush (v := 6379) hx hb dL_cell_15 (by decide) ?_
    refine lv_irem hx hb dL_cell_18 (by decide) ?_
    refine lv_imul hx hb dL_cell_19 ?_
    refine lv_sipush (v := 3907) hx hb dL_cell_20 (by decide) ?_
    refine lv_iadd hx hb dL_cell_23 ?_
    refine lv_ldc (v := 2147483647) hx hb hown (hts (.constant RL 8 (2147483647)) (by decide +kernel)) dL_cell_24 ?_
    refine lv_iand hx hb dL_cell_26 ?_
    exact W.iret (v := ((52027 * (nI k - nI k / 6379 * 6379)) + 3907) &&& 2147483647) hx hb hr (fun t9 ht9 hW9 => ⟨⟨_, (), rfl, and_max _, trivial⟩, hS.F ht9⟩) hS.2.2 dL_cell_27
  · -- nI k ge nI L9 : False
    refine lv_aload_n hx hb dL_cell_6 rfl (lv_at hl 0 rfl) ?_
    refine lv_iload_n hx hb dL_cell_7 rfl (lv_at hl 1 rfl) ?_
    have hkL : k < L9 := Nat.lt_of_not_le (fun z => c_1 (nI_le z (by omega)))
    refine va_sld hx hb hX hbl (fun h => h) hS (vp_in_nI hkL (by omega)) dL_cell_8 ?_
    rw [nI_clamp (by omega)]
    refine lv_goto (tgt := 24) hx hb dL_cell_9 (by decide) ?_
    refine lv_ldc (v := 2147483647) hx hb hown (hts (.constant RL 8 (2147483647)) (by decide +kernel)) dL_cell_24 ?_
    refine lv_iand hx hb dL_cell_26 ?_
    exact W.iret (v := (xs k) &&& 2147483647) hx hb hr (fun t9 ht9 hW9 => ⟨⟨_, (), rfl, and_max _, trivial⟩, hS.F ht9⟩) hS.2.2 dL_cell_27

set_option maxHeartbeats 4000000 in
set_option maxRecDepth 100000 in
theorem c_L_allHold (l : Launch) (hst : l.stackTraces = false) (D : va_G) (cs : Nat → ClassId) (A : Nat → Prop) (z0 : Nat) (sa : Nat → Nat) (o : Nat) (g : Nat → Int32) (L B : Nat → Nat → Int32) (n b : Nat) (hn : n ≤ 12) (hb5 : b ≤ 5) (hbd : Bd g L B n b) : Met l yL_allHold wsL_allHold ({ frames := 11, cells := 3, slots := 18, locals := 240 } : Room) (va_Pc [.ref o] (pR D cs A z0 sa o g L B n b)) (va_Qi (fun (r9 : Int32) (_ : Unit) => r9 = mOk g L B n b) (fun _ t9 => RC D cs A z0 o g L B n b t9.heap) A) 3 18 A := by
  refine Met.ofW (cc := cL_allHold) (maxL := 1) (ret := (some .boolean)) (by decide) rfl ?_
  intro p e s m args below meth c s₁ BB hml hv
  obtain ⟨rfl, hv⟩ := hv
  obtain ⟨hE, hR, hc1, hc2, hc3⟩ := hv
  have hK := hE.1
  have hx := BB.exec
  have hb := BB.bytes
  have hr := BB.returns
  have hts := atoms_spec (ws := wsL_allHold) BB.pre
  have hown : s.vm.findClass RL = some m.cls := findClass_of_methodNamed BB.named
  have hlocks := BB.notSynchronized
  have hS : va_S A s.heap s.heap [] := va_S.rf
  have hl := lv_entry ([.ref o]) (n := 1) (Nat.le_of_ble_eq_true rfl)
  rw [lg_entry_eq]
  generalize (lg_sl ([.ref o]) ++ List.replicate (1 - (lg_sl ([.ref o])).length) Slot.unset).toArray = ls at hl ⊢
  have hl : lv_has ls 1 [(0, .ref o)] := hl
  refine lv_aload_n hx hb dL_allHold_0 rfl (lv_at hl 0 rfl) ?_
  refine lv_iconst (v := 0) hx hb dL_allHold_1 (by decide) ?_
  by_cases hq0 : mLack g L B n b 0 (mPool L 1 n) = 0
  ·
    refine vx_calli (vx_runSX (hh := [(0, 13, 14, 15)]) (As := [.ref o, .int 0]) (rest := []) ⟨hx, hb, hml, hown, hts⟩ (c_L_holds_0t l hst D cs A z0 sa o g L B n b hn hb5 0 hbd (by decide) hq0) (vx_cwSW 2 hts gL_allHold_L_holds rfl rfl rfl (by decide +kernel) ⟨Nat.le_of_ble_eq_true rfl, Nat.le_of_ble_eq_true rfl⟩) ⟨pR_fb, fun U hU hV => ⟨rfl, hE.at (fun _ h => h) hS hV hU, by rw [hU]; exact hR, hc1.moved hV.alike, hc2.moved hV.alike, hc3.moved hV.alike⟩⟩ rfl rfl hl.1 rfl (lv_room (Nat.le_of_ble_eq_true rfl)) dL_allHold_2 ⟨Nat.le_of_ble_eq_true rfl, Nat.le_of_ble_eq_true rfl⟩) hS (fun _ _ h => h) (fun _ h => h) (fun _ _ h => h.elim) (fun E9 ce9 q9 u9 t9 H9 locs9 ht9 hvm9 hpx9 hbx9 hz9 hk9 hS9 hc9 hv9 hl9 => hpx9.elim) (fun r_1 u t9 H locs ht hvm hw hB hz1 hk1 hS => ?_)
    rw [ht] at hB
    have hR : RC D cs A z0 o g L B n b H := hB
    obtain rfl : r_1 = 1 := hw
    refine lv_iconst (v := 1) hx hb dL_allHold_5 (by decide) ?_
    refine lv_icmp_ne (tgt := 31) hx hb dL_allHold_6 (by decide) (fun c_2 => ?_) (fun c_2 => ?_)
    · -- 1 ne 1 : True
      exact absurd c_2 (by decide)
    · -- 1 ne 1 : False
      refine lv_aload_n hx hb dL_allHold_9 rfl (lv_at hl 0 rfl) ?_
      refine lv_iconst (v := 1) hx hb dL_allHold_10 (by decide) ?_
      by_cases hq1 : mLack g L B n b 1 (mPool L 1 n) = 0
      ·
        refine vx_calli (vx_runSX (hh := [(0, 13, 14, 15)]) (As := [.ref o, .int 1]) (rest := []) ⟨hx, hb, hml, hown, hts⟩ (c_L_holds_0t l hst D cs A z0 sa o g L B n b hn hb5 1 hbd (by decide) hq1) (vx_cwSW 2 hts gL_allHold_L_holds rfl rfl rfl (by decide +kernel) ⟨Nat.le_of_ble_eq_true rfl, Nat.le_of_ble_eq_true rfl⟩) ⟨pR_fb, fun U hU hV => ⟨rfl, hE.at (fun _ h => h) hS hV hU, by rw [hU]; exact hR, hc1.moved hV.alike, hc2.moved hV.alike, hc3.moved hV.alike⟩⟩ rfl rfl hl.1 rfl (lv_room (Nat.le_of_ble_eq_true rfl)) dL_allHold_11 ⟨Nat.le_of_ble_eq_true rfl, Nat.le_of_ble_eq_true rfl⟩) hS (fun _ _ h => h) (fun _ h => h) (fun _ _ h => h.elim) (fun E9 ce9 q9 u9 t9 H9 locs9 ht9 hvm9 hpx9 hbx9 hz9 hk9 hS9 hc9 hv9 hl9 => hpx9.elim) (fun r_3 u t9 H locs ht hvm hw hB hz1 hk1 hS => ?_)
        rw [ht] at hB
        have hR : RC D cs A z0 o g L B n b H := hB
        obtain rfl : r_3 = 1 := hw
        refine lv_iconst (v := 1) hx hb dL_allHold_14 (by decide) ?_
        refine lv_icmp_ne (tgt := 31) hx hb dL_allHold_15 (by decide) (fun c_4 => ?_) (fun c_4 => ?_)
        · -- 1 ne 1 : True
          exact absurd c_4 (by decide)
        · -- 1 ne 1 : False
          refine lv_aload_n hx hb dL_allHold_18 rfl (lv_at hl 0 rfl) ?_
          refine lv_iconst (v := 2) hx hb dL_allHold_19 (by decide) ?_
          by_cases hq2 : mLack g L B n b 2 (mPool L 1 n) = 0
          ·
            refine vx_calli (vx_runSX (hh := [(0, 13, 14, 15)]) (As := [.ref o, .int 2]) (rest := []) ⟨hx, hb, hml, hown, hts⟩ (c_L_holds_0t l hst D cs A z0 sa o g L B n b hn hb5 2 hbd (by decide) hq2) (vx_cwSW 2 hts gL_allHold_L_holds rfl rfl rfl (by decide +kernel) ⟨Nat.le_of_ble_eq_true rfl, Nat.le_of_ble_eq_true rfl⟩) ⟨pR_fb, fun U hU hV => ⟨rfl, hE.at (fun _ h => h) hS hV hU, by rw [hU]; exact hR, hc1.moved hV.alike, hc2.moved hV.alike, hc3.moved hV.alike⟩⟩ rfl rfl hl.1 rfl (lv_room (Nat.le_of_ble_eq_true rfl)) dL_allHold_20 ⟨Nat.le_of_ble_eq_true rfl, Nat.le_of_ble_eq_true rfl⟩) hS (fun _ _ h => h) (fun _ h => h) (fun _ _ h => h.elim) (fun E9 ce9 q9 u9 t9 H9 locs9 ht9 hvm9 hpx9 hbx9 hz9 hk9 hS9 hc9 hv9 hl9 => hpx9.elim) (fun r_5 u t9 H locs ht hvm hw hB hz1 hk1 hS => ?_)
            rw [ht] at hB
            have hR : RC D cs A z0 o g L B n b H := hB
            obtain rfl : r_5 = 1 := hw
            refine lv_iconst (v := 1) hx hb dL_allHold_23 (by decide) ?_
            refine lv_icmp_ne (tgt := 31) hx hb dL_allHold_24 (by decide) (fun c_6 => ?_) (fun c_6 => ?_)
            · -- 1 ne 1 : True
              exact absurd c_6 (by decide)
            · -- 1 ne 1 : False
              refine lv_iconst (v := 1) hx hb dL_allHold_27 (by decide) ?_
              refine lv_goto (tgt := 32) hx hb dL_allHold_28 (by decide) ?_
              refine W.widen (k := 3) (n := 18) (by omega) (by omega) ?_
              exact W.zret (ty := .boolean) (v := 1) hx hb hr (by decide) (fun t8 ht8 hW8 => ⟨⟨_, (), rfl, (mOk_1 ⟨hq0, hq1, hq2⟩).symm, by dsimp only; rw [ht8]; exact hR⟩, hS.F ht8⟩) hS.2.2 dL_allHold_32
          ·
            refine vx_calli (vx_runSX (hh := [(0, 13, 14, 15)]) (As := [.ref o, .int 2]) (rest := []) ⟨hx, hb, hml, hown, hts⟩ (c_L_holds_0f l hst D cs A z0 sa o g L B n b hn hb5 2 hbd (by decide) hq2) (vx_cwSW 2 hts gL_allHold_L_holds rfl rfl rfl (by decide +kernel) ⟨Nat.le_of_ble_eq_true rfl, Nat.le_of_ble_eq_true rfl⟩) ⟨pR_fb, fun U hU hV => ⟨rfl, hE.at (fun _ h => h) hS hV hU, by rw [hU]; exact hR, hc1.moved hV.alike, hc2.moved hV.alike, hc3.moved hV.alike⟩⟩ rfl rfl hl.1 rfl (lv_room (Nat.le_of_ble_eq_true rfl)) dL_allHold_20 ⟨Nat.le_of_ble_eq_true rfl, Nat.le_of_ble_eq_true rfl⟩) hS (fun _ _ h => h) (fun _ h => h) (fun _ _ h => h.elim) (fun E9 ce9 q9 u9 t9 H9 locs9 ht9 hvm9 hpx9 hbx9 hz9 hk9 hS9 hc9 hv9 hl9 => hpx9.elim) (fun r_7 u t9 H locs ht hvm hw hB hz1 hk1 hS => ?_)
            rw [ht] at hB
            have hR : RC D cs A z0 o g L B n b H := hB
            obtain rfl : r_7 = 0 := hw
            refine lv_iconst (v := 1) hx hb dL_allHold_23 (by decide) ?_
            refine lv_icmp_ne (tgt := 31) hx hb dL_allHold_24 (by decide) (fun c_8 => ?_) (fun c_8 => ?_)
            · -- 0 ne 1 : True
              refine lv_iconst (v := 0) hx hb dL_allHold_31 (by decide) ?_
              refine W.widen (k := 3) (n := 18) (by omega) (by omega) ?_
              exact W.zret (ty := .boolean) (v := 0) hx hb hr (by decide) (fun t8 ht8 hW8 => ⟨⟨_, (), rfl, (mOk_0 (fun z => hq2 z.2.2)).symm, by dsimp only; rw [ht8]; exact hR⟩, hS.F ht8⟩) hS.2.2 dL_allHold_32
            · -- 0 ne 1 : False
              exact absurd c_8 (by decide)
      ·
        refine vx_calli (vx_runSX (hh := [(0, 13, 14, 15)]) (As := [.ref o, .int 1]) (rest := []) ⟨hx, hb, hml, hown, hts⟩ (c_L_holds_0f l hst D cs A z0 sa o g L B n b hn hb5 1 hbd (by decide) hq1) (vx_cwSW 2 hts gL_allHold_L_holds rfl rfl rfl (by decide +kernel) ⟨Nat.le_of_ble_eq_true rfl, Nat.le_of_ble_eq_true rfl⟩) ⟨pR_fb, fun U hU hV => ⟨rfl, hE.at (fun _ h => h) hS hV hU, by rw [hU]; exact hR, hc1.moved hV.alike, hc2.moved hV.alike, hc3.moved hV.alike⟩⟩ rfl rfl hl.1 rfl (lv_room (Nat.le_of_ble_eq_true rfl)) dL_allHold_11 ⟨Nat.le_of_ble_eq_true rfl, Nat.le_of_ble_eq_true rfl⟩) hS (fun _ _ h => h) (fun _ h => h) (fun _ _ h => h.elim) (fun E9 ce9 q9 u9 t9 H9 locs9 ht9 hvm9 hpx9 hbx9 hz9 hk9 hS9 hc9 hv9 hl9 => hpx9.elim) (fun r_9 u t9 H locs ht hvm hw hB hz1 hk1 hS => ?_)
        rw [ht] at hB
        have hR : RC D cs A z0 o g L B n b H := hB
        obtain rfl : r_9 = 0 := hw
        refine lv_iconst (v := 1) hx hb dL_allHold_14 (by decide) ?_
        refine lv_icmp_ne (tgt := 31) hx hb dL_allHold_15 (by decide) (fun c_10 => ?_) (fun c_10 => ?_)
        · -- 0 ne 1 : True
          refine lv_iconst (v := 0) hx hb dL_allHold_31 (by decide) ?_
          refine W.widen (k := 3) (n := 18) (by omega) (by omega) ?_
          exact W.zret (ty := .boolean) (v := 0) hx hb hr (by decide) (fun t8 ht8 hW8 => ⟨⟨_, (), rfl, (mOk_0 (fun z => hq1 z.2.1)).symm, by dsimp only; rw [ht8]; exact hR⟩, hS.F ht8⟩) hS.2.2 dL_allHold_32
        · -- 0 ne 1 : False
          exact absurd c_10 (by decide)
  ·
    refine vx_calli (vx_runSX (hh := [(0, 13, 14, 15)]) (As := [.ref o, .int 0]) (rest := []) ⟨hx, hb, hml, hown, hts⟩ (c_L_holds_0f l hst D cs A z0 sa o g L B n b hn hb5 0 hbd (by decide) hq0) (vx_cwSW 2 hts gL_allHold_L_holds rfl rfl rfl (by decide +kernel) ⟨Nat.le_of_ble_eq_true rfl, Nat.le_of_ble_eq_true rfl⟩) ⟨pR_fb, fun U hU hV => ⟨rfl, hE.at (fun _ h => h) hS hV hU, by rw [hU]; exact hR, hc1.moved hV.alike, hc2.moved hV.alike, hc3.moved hV.alike⟩⟩ rfl rfl hl.1 rfl (lv_room (Nat.le_of_ble_eq_true rfl)) dL_allHold_2 ⟨Nat.le_of_ble_eq_true rfl, Nat.le_of_ble_eq_true rfl⟩) hS (fun _ _ h => h) (fun _ h => h) (fun _ _ h => h.elim) (fun E9 ce9 q9 u9 t9 H9 locs9 ht9 hvm9 hpx9 hbx9 hz9 hk9 hS9 hc9 hv9 hl9 => hpx9.elim) (fun r_11 u t9 H locs ht hvm hw hB hz1 hk1 hS => ?_)
    rw [ht] at hB
    have hR : RC D cs A z0 o g L B n b H := hB
    obtain rfl : r_11 = 0 := hw
    refine lv_iconst (v := 1) hx hb dL_allHold_5 (by decide) ?_
    refine lv_icmp_ne (tgt := 31) hx hb dL_allHold_6 (by decide) (fun c_12 => ?_) (fun c_12 => ?_)
    · -- 0 ne 1 : True
      refine lv_iconst (v := 0) hx hb dL_allHold_31 (by decide) ?_
      refine W.widen (k := 3) (n := 18) (by omega) (by omega) ?_
      exact W.zret (ty := .boolean) (v := 0) hx hb hr (by decide) (fun t8 ht8 hW8 => ⟨⟨_, (), rfl, (mOk_0 (fun z => hq0 z.1)).symm, by dsimp only; rw [ht8]; exact hR⟩, hS.F ht8⟩) hS.2.2 dL_allHold_32
    · -- 0 ne 1 : False
      exact absurd c_12 (by decide)

set_option maxHeartbeats 4000000 in
set_option maxRecDepth 100000 in
theorem adds_loop {p : Program} {l : Launch} {e : Env} {s : State} {m : MethodId} {args : Array Value} {below : List Frame} {meth : Method} {c : Code} {Q : State → Prop} (hst : l.stackTraces = false) {D : va_G} {cs : Nat → ClassId} {A : Nat → Prop} {z0 : Nat} {sa : Nat → Nat} {o : Nat} {g : Nat → Int32} {L B : Nat → Nat → Int32} {n b s9 : Nat} (hn : n ≤ 12) (hb5 : b ≤ 5) (hbd : Bd g L B n b) (hs9 : s9 < 4096) (hLS : LSt g L B n b s9) (hx : p.tables.exec = Jvm.exec) (hb : c.code = cL_adds) (hml : c.maxLocals = 6) (hown : s.vm.findClass RL = some m.cls) (hts : ∀ w ∈ wsL_adds, w.before args s = true) (hE : Ev D cs A z0 sa s) (hc1 : va_Nc xS xA s) (hc2 : va_Nc xS xI s) (hc3 : va_Nc xA xI s) (EX : ∀ (H : Heap) (locs : List Loc) (ls : Array Slot), RC D cs A z0 o g (addS L s9 n) B n b H → va_S A s.heap H locs → lv_has ls 6 [(0, .ref o), (1, .int (nI n)), (2, .int (nI s9)), (3, .int 1), (4, .int (lastS s9 n))] → W p l e ({ frames := 24, cells := 200, slots := 2000, locals := 1400 } : Room) s m args below meth c H locs (10 + 10 * n) (100 + 60 * n) Q (F0 m 116 ls [])) : ∀ (k j : Nat), j + k = n → ∀ (H : Heap) (locs : List Loc) (ls : Array Slot), RC D cs A z0 o g (addS L s9 j) B n b H → va_S A s.heap H locs → lv_has ls 6 [(0, .ref o), (1, .int (nI n)), (2, .int (nI s9)), (3, .int 1), (4, .int (lastS s9 j)), (5, .int (nI j))] → W p l e ({ frames := 24, cells := 200, slots := 2000, locals := 1400 } : Room) s m args below meth c H locs (10 + 10 * j) (100 + 60 * j) Q (F0 m 49 ls []) := by
  have hK := hE.1
  intro k
  induction k with
  | zero =>
    intro j hj H locs ls hR hS hl
    obtain rfl : n = j := by omega
    refine lv_iload hx hb dL_adds_49 (lv_at hl 5 rfl) ?_
    refine lv_iload_n hx hb dL_adds_51 rfl (lv_at hl 1 rfl) ?_
    refine lv_icmp_ge (tgt := 116) hx hb dL_adds_52 (by decide) (fun c_1 => ?_) (fun c_1 => ?_)
    · -- nI n ge nI n : True
      exact EX H locs ls hR hS (lv_sub hl [0, 1, 2, 3, 4] rfl)
    · -- nI n ge nI n : False
      exact absurd (Int32.le_refl _) c_1
  | succ k ih =>
    intro j hj H locs ls hR hS hl
    have hjn : j < n := by omega
    refine lv_iload hx hb dL_adds_49 (lv_at hl 5 rfl) ?_
    refine lv_iload_n hx hb dL_adds_51 rfl (lv_at hl 1 rfl) ?_
    refine lv_icmp_ge (tgt := 116) hx hb dL_adds_52 (by decide) (fun c_2 => ?_) (fun c_2 => ?_)
    · -- nI j ge nI n : True
      exact absurd c_2 (nI_ge hjn (by omega))
    · -- nI j ge nI n : False
      refine lv_iload_n hx hb dL_adds_55 rfl (lv_at hl 3 rfl) ?_
      refine lv_if_eq (tgt := 116) hx hb dL_adds_56 (by decide) (fun c_3 => ?_) (fun c_3 => ?_)
      · -- 1 eq 0 : True
        exact absurd c_3 (by decide)
      · -- 1 eq 0 : False
        by_cases hq : s9.testBit j = true
        ·
          refine lv_iload_n hx hb dL_adds_59 rfl (lv_at hl 2 rfl) ?_
          refine lv_iload hx hb dL_adds_60 (lv_at hl 5 rfl) ?_
          refine lv_ishr hx hb dL_adds_62 ?_
          refine lv_iconst (v := 1) hx hb dL_adds_63 (by decide) ?_
          refine lv_iand hx hb dL_adds_64 ?_
          refine lv_iconst (v := 1) hx hb dL_adds_65 (by decide) ?_
          refine lv_icmp_ne (tgt := 110) hx hb dL_adds_66 (by decide) (fun c_4 => ?_) (fun c_4 => ?_)
          · -- ((nI s9) >>> ((nI j) &&& 31)) &&& 1 ne 1 : True
            exact absurd ((hB_m (nI s9) (by omega)).mpr (by rw [hB_nI _ _ (by omega)]; exact hq)) c_4
          · -- ((nI s9) >>> ((nI j) &&& 31)) &&& 1 ne 1 : False
            refine lv_aload_n hx hb dL_adds_69 rfl (lv_at hl 0 rfl) ?_
            refine va_calli (va_runS (As := [.ref o]) (rest := []) ⟨hx, hb, hml, hown, hts⟩ (c_L_allHold l hst D cs A z0 sa o g (addS L s9 j) B n b hn hb5 (hbd.c5 (addS_k L s9 j))) (va_cwS 1 hts gL_adds_L_allHold rfl rfl rfl (by decide +kernel) ⟨Nat.le_of_ble_eq_true rfl, Nat.le_of_ble_eq_true rfl⟩) ⟨pR_fb, fun U hU hV => ⟨rfl, hE.at (fun _ h => h) hS hV hU, by rw [hU]; exact hR, hc1.moved hV.alike, hc2.moved hV.alike, hc3.moved hV.alike⟩⟩ rfl rfl hl.1 rfl (lv_room (Nat.le_of_ble_eq_true rfl)) dL_adds_70 ⟨by show _ ≤ (200 : Nat); omega, by show _ ≤ (2000 : Nat); omega⟩) hS (fun _ _ h => h) (fun _ h => h) (fun r_5 u t9 H locs ht hvm hw hB hz1 hk1 hS => ?_)
            rw [ht] at hB
            have hR := hB
            obtain rfl : r_5 = 0 := hw.trans (mOk_0 (mOk_part hn hLS hjn hq))
            refine lv_if_ne (tgt := 104) hx hb dL_adds_73 (by decide) (fun c_6 => ?_) (fun c_6 => ?_)
            · -- 0 ne 0 : True
              exact absurd c_6 (by decide)
            · -- 0 ne 0 : False
              refine lv_aload_n hx hb dL_adds_76 rfl (lv_at hl 0 rfl) ?_
              refine lv_iload hx hb dL_adds_77 (lv_at hl 5 rfl) ?_
              refine vx_calli (vx_runSX (hh := [(0, 5, 6, 23)]) (As := [.ref o, .int (nI j)]) (rest := []) ⟨hx, hb, hml, hown, hts⟩ (c_L_state_0 l hst D cs A z0 sa o g (addS L s9 j) B n b hn hb5 (nI j) (kIx_nI hjn (by omega))) (vx_cwSW 2 hts gL_adds_L_state rfl rfl rfl (by decide +kernel) ⟨Nat.le_of_ble_eq_true rfl, Nat.le_of_ble_eq_true rfl⟩) ⟨pR_fb, fun U hU hV => ⟨rfl, hE.at (fun _ h => h) hS hV hU, by rw [hU]; exact hR, hc1.moved hV.alike, hc2.moved hV.alike, hc3.moved hV.alike⟩⟩ rfl rfl hl.1 rfl (lv_room (Nat.le_of_ble_eq_true rfl)) dL_adds_79 ⟨by show _ ≤ (200 : Nat); omega, by show _ ≤ (2000 : Nat); omega⟩) hS (fun _ _ h => h) (fun _ h => h) (fun _ _ h => h.elim) (fun E9 ce9 q9 u9 t9 H9 locs9 ht9 hvm9 hpx9 hbx9 hz9 hk9 hS9 hc9 hv9 hl9 => hpx9.elim) (fun r_7 u t9 H locs ht hvm hw hB hz1 hk1 hS => ?_)
              rw [ht] at hB
              simp only [ixN_nI (show j < 1000 by omega)] at hw hB
              have hR : RC D cs A z0 o g (addS L s9 j) B n b H := hB
              obtain rfl : r_7 = (addS L s9 j) 5 (j) := hw
              rw [show ((addS L s9 j) 5 (j) : Int32) = 0 from by rw [addS_5, if_neg (fun z => Nat.lt_irrefl j z.1), (hLS.2.2.1 j hq).2]]
              refine lv_if_ne (tgt := 104) hx hb dL_adds_82 (by decide) (fun c_8 => ?_) (fun c_8 => ?_)
              · -- 0 ne 0 : True
                exact absurd c_8 (by decide)
              · -- 0 ne 0 : False
                refine lv_aload_n hx hb dL_adds_85 rfl (lv_at hl 0 rfl) ?_
                refine lv_iload hx hb dL_adds_86 (lv_at hl 5 rfl) ?_
                refine vx_calli (vx_runSX (hh := [(0, 5, 6, 23), (0, 5, 10, 17)]) (As := [.ref o, .int (nI j)]) (rest := []) ⟨hx, hb, hml, hown, hts⟩ (c_L_enter_0 l hst D cs A z0 sa o g (addS L s9 j) B n b hn hb5 (nI j) (kSt_nI hjn (by omega) (by rw [addS_5, if_neg (fun z => Nat.lt_irrefl j z.1), (hLS.2.2.1 j hq).2]))) (vx_cwSW 2 hts gL_adds_L_enter rfl rfl rfl (by decide +kernel) ⟨Nat.le_of_ble_eq_true rfl, Nat.le_of_ble_eq_true rfl⟩) ⟨pR_fb, fun U hU hV => ⟨rfl, hE.at (fun _ h => h) hS hV hU, by rw [hU]; exact hR, hc1.moved hV.alike, hc2.moved hV.alike, hc3.moved hV.alike⟩⟩ rfl rfl hl.1 rfl (lv_room (Nat.le_of_ble_eq_true rfl)) dL_adds_88 ⟨by show _ ≤ (200 : Nat); omega, by show _ ≤ (2000 : Nat); omega⟩) hS (fun _ _ h => h) (fun _ h => h) (fun _ _ h => h.elim) (fun E9 ce9 q9 u9 t9 H9 locs9 ht9 hvm9 hpx9 hbx9 hz9 hk9 hS9 hc9 hv9 hl9 => hpx9.elim) (fun r_9 u t9 H locs ht hvm hw hB hz1 hk1 hS => ?_)
                rw [ht] at hB
                simp only [ixN_nI (show j < 1000 by omega)] at hw hB
                have hR : RC D cs A z0 o g (updL (addS L s9 j) 5 (j) 1) B n b H := hB
                obtain rfl : r_9 = mCount g (updL (addS L s9 j) 5 (j) 1) (j) := hw
                refine lv_aload_n hx hb dL_adds_91 rfl (lv_at hl 0 rfl) ?_
                refine lv_iload hx hb dL_adds_92 (lv_at hl 5 rfl) ?_
                refine vx_calli (vx_runSX (hh := [(0, 5, 6, 23)]) (As := [.ref o, .int (nI j)]) (rest := [.int (mCount g (updL (addS L s9 j) 5 (j) 1) (j))]) ⟨hx, hb, hml, hown, hts⟩ (c_L_counts_0 l hst D cs A z0 sa o g (updL (addS L s9 j) 5 (j) 1) B n b hn hb5 (nI j) (kIx_nI hjn (by omega))) (vx_cwSW 2 hts gL_adds_L_counts rfl rfl rfl (by decide +kernel) ⟨Nat.le_of_ble_eq_true rfl, Nat.le_of_ble_eq_true rfl⟩) ⟨pR_fb, fun U hU hV => ⟨rfl, hE.at (fun _ h => h) hS hV hU, by rw [hU]; exact hR, hc1.moved hV.alike, hc2.moved hV.alike, hc3.moved hV.alike⟩⟩ rfl rfl hl.1 rfl (lv_room (Nat.le_of_ble_eq_true rfl)) dL_adds_94 ⟨by show _ ≤ (200 : Nat); omega, by show _ ≤ (2000 : Nat); omega⟩) hS (fun _ _ h => h) (fun _ h => h) (fun _ _ h => h.elim) (fun E9 ce9 q9 u9 t9 H9 locs9 ht9 hvm9 hpx9 hbx9 hz9 hk9 hS9 hc9 hv9 hl9 => hpx9.elim) (fun r_10 u t9 H locs ht hvm hw hB hz1 hk1 hS => ?_)
                rw [ht] at hB
                simp only [ixN_nI (show j < 1000 by omega)] at hw hB
                have hR : RC D cs A z0 o g (updL (addS L s9 j) 5 (j) 1) B n b H := hB
                obtain rfl : r_10 = mCount g (updL (addS L s9 j) 5 (j) 1) (j) := hw
                refine lv_icmp_ne (tgt := 104) hx hb dL_adds_97 (by decide) (fun c_11 => ?_) (fun c_11 => ?_)
                · -- mCount g (updL (addS L s9 j) 5 (j) 1) (j) ne mCount g (updL (addS L s9 j) 5 (j) 1) (j) : True
                  exact absurd (rfl) c_11
                · -- mCount g (updL (addS L s9 j) 5 (j) 1) (j) ne mCount g (updL (addS L s9 j) 5 (j) 1) (j) : False
                  refine lv_iconst (v := 1) hx hb dL_adds_100 (by decide) ?_
                  refine lv_goto (tgt := 105) hx hb dL_adds_101 (by decide) ?_
                  refine lv_istore_n (lv' := [(3, .int 1), (0, .ref o), (1, .int (nI n)), (2, .int (nI s9)), (4, .int (lastS s9 j)), (5, .int (nI j))]) hx hb dL_adds_105 rfl hl (by decide) rfl (fun ls hl => ?_)
                  refine lv_iload hx hb dL_adds_106 (lv_at hl 5 rfl) ?_
                  refine lv_istore (lv' := [(4, .int (nI j)), (3, .int 1), (0, .ref o), (1, .int (nI n)), (2, .int (nI s9)), (5, .int (nI j))]) hx hb dL_adds_108 hl (by decide) rfl (fun ls hl => ?_)
                  refine lv_iinc (v := nI (j + 1)) (lv' := [(5, .int (nI (j + 1))), (4, .int (nI j)), (3, .int 1), (0, .ref o), (1, .int (nI n)), (2, .int (nI s9))]) hx hb dL_adds_110 hl (k := 5) rfl (nI_1 _) (by decide) rfl (fun ls hl => ?_)
                  refine lv_goto (tgt := 49) hx hb dL_adds_113 (by decide) ?_
                  refine W.widen (k := 10 + 10 * (j + 1)) (n := 100 + 60 * (j + 1)) (by omega) (by omega) ?_
                  exact ih (j + 1) (by omega) H locs ls (by rw [addS_y hq]; exact hR) hS (by rw [lastS_y hq]; exact lv_sub hl [3, 4, 5, 2, 1, 0] rfl)
        ·
          refine lv_iload_n hx hb dL_adds_59 rfl (lv_at hl 2 rfl) ?_
          refine lv_iload hx hb dL_adds_60 (lv_at hl 5 rfl) ?_
          refine lv_ishr hx hb dL_adds_62 ?_
          refine lv_iconst (v := 1) hx hb dL_adds_63 (by decide) ?_
          refine lv_iand hx hb dL_adds_64 ?_
          refine lv_iconst (v := 1) hx hb dL_adds_65 (by decide) ?_
          refine lv_icmp_ne (tgt := 110) hx hb dL_adds_66 (by decide) (fun c_12 => ?_) (fun c_12 => ?_)
          · -- ((nI s9) >>> ((nI j) &&& 31)) &&& 1 ne 1 : True
            refine lv_iinc (v := nI (j + 1)) (lv' := [(5, .int (nI (j + 1))), (0, .ref o), (1, .int (nI n)), (2, .int (nI s9)), (3, .int 1), (4, .int (lastS s9 j))]) hx hb dL_adds_110 hl (k := 5) rfl (nI_1 _) (by decide) rfl (fun ls hl => ?_)
            refine lv_goto (tgt := 49) hx hb dL_adds_113 (by decide) ?_
            refine W.widen (k := 10 + 10 * (j + 1)) (n := 100 + 60 * (j + 1)) (by omega) (by omega) ?_
            exact ih (j + 1) (by omega) H locs ls (by rw [addS_n hq]; exact hR) hS (by rw [lastS_n hq]; exact lv_sub hl [1, 2, 3, 4, 5, 0] rfl)
          · -- ((nI s9) >>> ((nI j) &&& 31)) &&& 1 ne 1 : False
            exact absurd c_12 (fun z9 => hq (by rw [← hB_nI s9 j (by omega)]; exact (hB_m (nI s9) (by omega)).mp z9))

set_option maxHeartbeats 4000000 in
set_option maxRecDepth 100000 in
theorem c_L_adds (l : Launch) (hst : l.stackTraces = false) (D : va_G) (cs : Nat → ClassId) (A : Nat → Prop) (z0 : Nat) (sa : Nat → Nat) (o : Nat) (g : Nat → Int32) (L B : Nat → Nat → Int32) (n b : Nat) (hn : n ≤ 12) (hb5 : b ≤ 5) (hbd : Bd g L B n b) : Met l yL_adds wsL_adds ({ frames := 24, cells := 200, slots := 2000, locals := 1400 } : Room) (va_Pc [.ref o, .int (nI n)] (pR D cs A z0 sa o g L B n b)) (va_Qi (fun (r9 : Int32) (_ : Unit) => r9 = 1) (fun _ t9 => RC D cs A z0 o g (addsL g L B n b) B n b t9.heap) A) 200 2000 A := by
  refine Met.ofW (cc := cL_adds) (maxL := 6) (ret := (some .boolean)) (by decide) rfl ?_
  intro p e s m args below meth c s₁ BB hml hv
  obtain ⟨rfl, hv⟩ := hv
  obtain ⟨hE, hR, hc1, hc2, hc3⟩ := hv
  have hK := hE.1
  have hx := BB.exec
  have hb := BB.bytes
  have hr := BB.returns
  have hts := atoms_spec (ws := wsL_adds) BB.pre
  have hown : s.vm.findClass RL = some m.cls := findClass_of_methodNamed BB.named
  have hlocks := BB.notSynchronized
  have hS : va_S A s.heap s.heap [] := va_S.rf
  have hl := lv_entry ([.ref o, .int (nI n)]) (n := 6) (Nat.le_of_ble_eq_true rfl)
  rw [lg_entry_eq]
  generalize (lg_sl ([.ref o, .int (nI n)]) ++ List.replicate (6 - (lg_sl ([.ref o, .int (nI n)])).length) Slot.unset).toArray = ls at hl ⊢
  have hl : lv_has ls 6 [(0, .ref o), (1, .int (nI n))] := hl
  refine lv_aload_n hx hb dL_adds_0 rfl (lv_at hl 0 rfl) ?_
  obtain ⟨ad, y1, y2, N1, N2, nd, gv, ho, hN1, hN2, hW⟩ := id hR
  have hcc := c_X3_leastToAdd l D cs A z0 sa ad g L B n b y1 y2 N1 N2 nd gv hn hb5 hN1 hN2
  rw [ho] at hcc
  refine va_calli (va_runV (As := []) (rest := []) ⟨hx, hb, hml, hown, hts⟩ hcc (cwV 0 hts gL_adds_X3_leastToAdd rfl rfl rfl (by decide +kernel) ⟨Nat.le_of_ble_eq_true rfl, Nat.le_of_ble_eq_true rfl⟩) ⟨pC_fb, (by rw [← ho]; exact wb_recv hK hW (r := 0) (lvC_0 (by decide)) (ci := 4) rfl rfl), fun U hU hV => ⟨rfl, hE.at (fun _ h => h) hS hV hU, by rw [hU]; exact hW⟩⟩ rfl rfl hl.1 rfl (lv_room (Nat.le_of_ble_eq_true rfl)) dL_adds_1 ⟨by show _ ≤ (200 : Nat); omega, by show _ ≤ (2000 : Nat); omega⟩) hS (fun _ _ h => h) (fun _ h => h) (fun r_1 u t9 H locs ht hvm hw hB hz1 hk1 hS => ?_)
  rw [ht] at hB
  have hR := hB
  obtain rfl : r_1 = mFound g L B n b (2 ^ n) := hw.trans (cLW_eq hbd nd gv)
  refine lv_istore_n (lv' := [(2, .int (mFound g L B n b (2 ^ n))), (0, .ref o), (1, .int (nI n))]) hx hb dL_adds_4 rfl hl (by decide) rfl (fun ls hl => ?_)
  refine lv_aload_n hx hb dL_adds_5 rfl (lv_at hl 1 rfl) ?_
  obtain ⟨ad, y1, y2, N1, N2, nd, gv, ho, hN1, hN2, hW⟩ := id hR
  have hcc := c_X3_leastToAddByAll l D cs A z0 sa ad g L B n b y1 y2 N1 N2 nd gv hn hb5 hN1 hN2
  rw [ho] at hcc
  refine va_calli (va_runV (As := []) (rest := []) ⟨hx, hb, hml, hown, hts⟩ hcc (cwV 0 hts gL_adds_X3_leastToAddByAll rfl rfl rfl (by decide +kernel) ⟨Nat.le_of_ble_eq_true rfl, Nat.le_of_ble_eq_true rfl⟩) ⟨pC_fb, (by rw [← ho]; exact wb_recv hK hW (r := 0) (lvC_0 (by decide)) (ci := 4) rfl rfl), fun U hU hV => ⟨rfl, hE.at (fun _ h => h) hS hV hU, by rw [hU]; exact hW⟩⟩ rfl rfl hl.1 rfl (lv_room (Nat.le_of_ble_eq_true rfl)) dL_adds_6 ⟨by show _ ≤ (200 : Nat); omega, by show _ ≤ (2000 : Nat); omega⟩) hS (fun _ _ h => h) (fun _ h => h) (fun r_2 u t9 H locs ht hvm hw hB hz1 hk1 hS => ?_)
  rw [ht] at hB
  have hR := hB
  obtain rfl : r_2 = mFound g L B n b (2 ^ n) := hw.trans (cFound_eq hbd nd gv (2 ^ n) (Nat.le_refl _))
  refine lv_iload_n hx hb dL_adds_9 rfl (lv_at hl 0 rfl) ?_
  refine lv_icmp_ne (tgt := 33) hx hb dL_adds_10 (by decide) (fun c_3 => ?_) (fun c_3 => ?_)
  · -- mFound g L B n b (2 ^ n) ne mFound g L B n b (2 ^ n) : True
    exact absurd (rfl) c_3
  · -- mFound g L B n b (2 ^ n) ne mFound g L B n b (2 ^ n) : False
    refine lv_iload_n hx hb dL_adds_13 rfl (lv_at hl 0 rfl) ?_
    by_cases hF0 : mFound g L B n b (2 ^ n) = 0
    ·
      refine lv_if_ne (tgt := 21) hx hb dL_adds_14 (by decide) (fun c_4 => ?_) (fun c_4 => ?_)
      · -- mFound g L B n b (2 ^ n) ne 0 : True
        exact absurd (hF0) c_4
      · -- mFound g L B n b (2 ^ n) ne 0 : False
        refine lv_iconst (v := 1) hx hb dL_adds_17 (by decide) ?_
        refine lv_goto (tgt := 22) hx hb dL_adds_18 (by decide) ?_
        refine lv_aload_n hx hb dL_adds_22 rfl (lv_at hl 1 rfl) ?_
        refine va_calli (va_runS (As := [.ref o]) (rest := [.int 1]) ⟨hx, hb, hml, hown, hts⟩ (c_L_allHold l hst D cs A z0 sa o g L B n b hn hb5 hbd) (va_cwS 1 hts gL_adds_L_allHold rfl rfl rfl (by decide +kernel) ⟨Nat.le_of_ble_eq_true rfl, Nat.le_of_ble_eq_true rfl⟩) ⟨pR_fb, fun U hU hV => ⟨rfl, hE.at (fun _ h => h) hS hV hU, by rw [hU]; exact hR, hc1.moved hV.alike, hc2.moved hV.alike, hc3.moved hV.alike⟩⟩ rfl rfl hl.1 rfl (lv_room (Nat.le_of_ble_eq_true rfl)) dL_adds_23 ⟨by show _ ≤ (200 : Nat); omega, by show _ ≤ (2000 : Nat); omega⟩) hS (fun _ _ h => h) (fun _ h => h) (fun r_5 u t9 H locs ht hvm hw hB hz1 hk1 hS => ?_)
        rw [ht] at hB
        have hR := hB
        obtain rfl : r_5 = 1 := hw.trans (mOk_1 ((mFound_0 hn).mp hF0))
        refine lv_icmp_ne (tgt := 33) hx hb dL_adds_26 (by decide) (fun c_6 => ?_) (fun c_6 => ?_)
        · -- 1 ne 1 : True
          exact absurd c_6 (by decide)
        · -- 1 ne 1 : False
          refine lv_iconst (v := 1) hx hb dL_adds_29 (by decide) ?_
          refine lv_goto (tgt := 34) hx hb dL_adds_30 (by decide) ?_
          refine lv_istore_n (lv' := [(3, .int 1), (2, .int (mFound g L B n b (2 ^ n))), (0, .ref o), (1, .int (nI n))]) hx hb dL_adds_34 rfl hl (by decide) rfl (fun ls hl => ?_)
          refine lv_iload_n hx hb dL_adds_35 rfl (lv_at hl 0 rfl) ?_
          refine lv_if_eq (tgt := 149) hx hb dL_adds_36 (by decide) (fun c_7 => ?_) (fun c_7 => ?_)
          · -- 1 eq 0 : True
            exact absurd c_7 (by decide)
          · -- 1 eq 0 : False
            refine lv_iload_n hx hb dL_adds_39 rfl (lv_at hl 1 rfl) ?_
            refine lv_if_le (tgt := 149) hx hb dL_adds_40 (by decide) (fun c_8 => ?_) (fun c_8 => ?_)
            · -- mFound g L B n b (2 ^ n) le 0 : True
              refine lv_iload_n hx hb dL_adds_149 rfl (lv_at hl 0 rfl) ?_
              refine W.widen (k := 200) (n := 2000) (by omega) (by omega) ?_
              exact W.zret (ty := .boolean) (v := 1) hx hb hr (by decide) (fun t8 ht8 hW8 => ⟨⟨_, (), rfl, rfl, by dsimp only; rw [ht8]; rw [addsL_n (by rw [hF0]; decide)]; exact hR⟩, hS.F ht8⟩) hS.2.2 dL_adds_150
            · -- mFound g L B n b (2 ^ n) le 0 : False
              exact absurd (by rw [hF0]; decide) c_8
    ·
      refine lv_if_ne (tgt := 21) hx hb dL_adds_14 (by decide) (fun c_9 => ?_) (fun c_9 => ?_)
      · -- mFound g L B n b (2 ^ n) ne 0 : True
        refine lv_iconst (v := 0) hx hb dL_adds_21 (by decide) ?_
        refine lv_aload_n hx hb dL_adds_22 rfl (lv_at hl 1 rfl) ?_
        refine va_calli (va_runS (As := [.ref o]) (rest := [.int 0]) ⟨hx, hb, hml, hown, hts⟩ (c_L_allHold l hst D cs A z0 sa o g L B n b hn hb5 hbd) (va_cwS 1 hts gL_adds_L_allHold rfl rfl rfl (by decide +kernel) ⟨Nat.le_of_ble_eq_true rfl, Nat.le_of_ble_eq_true rfl⟩) ⟨pR_fb, fun U hU hV => ⟨rfl, hE.at (fun _ h => h) hS hV hU, by rw [hU]; exact hR, hc1.moved hV.alike, hc2.moved hV.alike, hc3.moved hV.alike⟩⟩ rfl rfl hl.1 rfl (lv_room (Nat.le_of_ble_eq_true rfl)) dL_adds_23 ⟨by show _ ≤ (200 : Nat); omega, by show _ ≤ (2000 : Nat); omega⟩) hS (fun _ _ h => h) (fun _ h => h) (fun r_10 u t9 H locs ht hvm hw hB hz1 hk1 hS => ?_)
        rw [ht] at hB
        have hR := hB
        obtain rfl : r_10 = 0 := hw.trans (mOk_0 (fun z => hF0 ((mFound_0 hn).mpr z)))
        refine lv_icmp_ne (tgt := 33) hx hb dL_adds_26 (by decide) (fun c_11 => ?_) (fun c_11 => ?_)
        · -- 0 ne 0 : True
          exact absurd c_11 (by decide)
        · -- 0 ne 0 : False
          refine lv_iconst (v := 1) hx hb dL_adds_29 (by decide) ?_
          refine lv_goto (tgt := 34) hx hb dL_adds_30 (by decide) ?_
          refine lv_istore_n (lv' := [(3, .int 1), (2, .int (mFound g L B n b (2 ^ n))), (0, .ref o), (1, .int (nI n))]) hx hb dL_adds_34 rfl hl (by decide) rfl (fun ls hl => ?_)
          refine lv_iload_n hx hb dL_adds_35 rfl (lv_at hl 0 rfl) ?_
          refine lv_if_eq (tgt := 149) hx hb dL_adds_36 (by decide) (fun c_12 => ?_) (fun c_12 => ?_)
          · -- 1 eq 0 : True
            exact absurd c_12 (by decide)
          · -- 1 eq 0 : False
            refine lv_iload_n hx hb dL_adds_39 rfl (lv_at hl 1 rfl) ?_
            refine lv_if_le (tgt := 149) hx hb dL_adds_40 (by decide) (fun c_13 => ?_) (fun c_13 => ?_)
            · -- mFound g L B n b (2 ^ n) le 0 : True
              refine lv_iload_n hx hb dL_adds_149 rfl (lv_at hl 0 rfl) ?_
              refine W.widen (k := 200) (n := 2000) (by omega) (by omega) ?_
              exact W.zret (ty := .boolean) (v := 1) hx hb hr (by decide) (fun t8 ht8 hW8 => ⟨⟨_, (), rfl, rfl, by dsimp only; rw [ht8]; rw [addsL_n (Int32.not_lt.mpr c_13)]; exact hR⟩, hS.F ht8⟩) hS.2.2 dL_adds_150
            · -- mFound g L B n b (2 ^ n) le 0 : False
              have hF : 0 < mFound g L B n b (2 ^ n) := Int32.not_le.mp c_13
              obtain ⟨s9, eF, hs9, hLS⟩ := mFound_LSt hn hF
              rw [eF] at hl
              refine lv_iconst (v := (-1)) hx hb dL_adds_43 (by decide) ?_
              refine lv_istore (lv' := [(4, .int (-1)), (3, .int 1), (2, .int (nI s9)), (0, .ref o), (1, .int (nI n))]) hx hb dL_adds_44 hl (by decide) rfl (fun ls hl => ?_)
              refine lv_iconst (v := 0) hx hb dL_adds_46 (by decide) ?_
              refine lv_istore (lv' := [(5, .int 0), (4, .int (-1)), (3, .int 1), (2, .int (nI s9)), (0, .ref o), (1, .int (nI n))]) hx hb dL_adds_47 hl (by decide) rfl (fun ls hl => ?_)
              refine W.widen (k := 10 + 10 * 0) (n := 100 + 60 * 0) (by omega) (by omega) ?_
              refine adds_loop (sa := sa) hst hn hb5 hbd hs9 hLS hx hb hml hown hts hE hc1 hc2 hc3 (fun H locs ls hR hS hl => ?_) n 0 (by omega) H locs ls hR hS (lv_sub hl [4, 5, 3, 2, 1, 0] rfl)
              obtain ⟨q9, hq9, hb9, eq9⟩ := lastS_bit s9 n hLS.2.2.2.1
              rw [eq9] at hl
              refine lv_iload_n hx hb dL_adds_116 rfl (lv_at hl 3 rfl) ?_
              refine lv_if_eq (tgt := 147) hx hb dL_adds_117 (by decide) (fun c_14 => ?_) (fun c_14 => ?_)
              · -- 1 eq 0 : True
                exact absurd c_14 (by decide)
              · -- 1 eq 0 : False
                refine lv_aload_n hx hb dL_adds_120 rfl (lv_at hl 0 rfl) ?_
                refine va_calli (va_runS (As := [.ref o]) (rest := []) ⟨hx, hb, hml, hown, hts⟩ (c_L_allHold l hst D cs A z0 sa o g (addS L s9 n) B n b hn hb5 (hbd.c5 (addS_k L s9 n))) (va_cwS 1 hts gL_adds_L_allHold rfl rfl rfl (by decide +kernel) ⟨Nat.le_of_ble_eq_true rfl, Nat.le_of_ble_eq_true rfl⟩) ⟨pR_fb, fun U hU hV => ⟨rfl, hE.at (fun _ h => h) hS hV hU, by rw [hU]; exact hR, hc1.moved hV.alike, hc2.moved hV.alike, hc3.moved hV.alike⟩⟩ rfl rfl hl.1 rfl (lv_room (Nat.le_of_ble_eq_true rfl)) dL_adds_121 ⟨by show _ ≤ (200 : Nat); omega, by show _ ≤ (2000 : Nat); omega⟩) hS (fun _ _ h => h) (fun _ h => h) (fun r_15 u t9 H locs ht hvm hw hB hz1 hk1 hS => ?_)
                rw [ht] at hB
                have hR := hB
                obtain rfl : r_15 = 1 := hw.trans (mOk_1 (mOk_full hn hLS))
                refine lv_if_eq (tgt := 147) hx hb dL_adds_124 (by decide) (fun c_16 => ?_) (fun c_16 => ?_)
                · -- 1 eq 0 : True
                  exact absurd c_16 (by decide)
                · -- 1 eq 0 : False
                  refine lv_aload_n hx hb dL_adds_127 rfl (lv_at hl 0 rfl) ?_
                  refine lv_iload hx hb dL_adds_128 (lv_at hl 4 rfl) ?_
                  refine vx_calli (vx_runSX (hh := [(0, 13, 14, 23), (0, 13, 18, 17)]) (As := [.ref o, .int (nI q9)]) (rest := []) ⟨hx, hb, hml, hown, hts⟩ (c_L_leave_0f l hst D cs A z0 sa o g (addS L s9 n) B n b hn hb5 (nI q9) (hbd.c5 (addS_k L s9 n)) (kSt_nI hq9 (by omega) (by rw [addS_5, if_pos ⟨hq9, hb9⟩])) (out_full hn hLS hq9 hb9)) (vx_cwSW 2 hts gL_adds_L_leave rfl rfl rfl (by decide +kernel) ⟨Nat.le_of_ble_eq_true rfl, Nat.le_of_ble_eq_true rfl⟩) ⟨pR_fb, fun U hU hV => ⟨rfl, hE.at (fun _ h => h) hS hV hU, by rw [hU]; exact hR, hc1.moved hV.alike, hc2.moved hV.alike, hc3.moved hV.alike⟩⟩ rfl rfl hl.1 rfl (lv_room (Nat.le_of_ble_eq_true rfl)) dL_adds_130 ⟨by show _ ≤ (200 : Nat); omega, by show _ ≤ (2000 : Nat); omega⟩) hS (fun _ _ h => h) (fun _ h => h) (fun _ _ h => h.elim) (fun E9 ce9 q9 u9 t9 H9 locs9 ht9 hvm9 hpx9 hbx9 hz9 hk9 hS9 hc9 hv9 hl9 => hpx9.elim) (fun r_17 u t9 H locs ht hvm hw hB hz1 hk1 hS => ?_)
                  rw [ht] at hB
                  have hR : RC D cs A z0 o g (addS L s9 n) B n b H := hB
                  obtain rfl : r_17 = 0 := hw
                  refine lv_if_ne (tgt := 147) hx hb dL_adds_133 (by decide) (fun c_18 => ?_) (fun c_18 => ?_)
                  · -- 0 ne 0 : True
                    exact absurd c_18 (by decide)
                  · -- 0 ne 0 : False
                    refine lv_aload_n hx hb dL_adds_136 rfl (lv_at hl 0 rfl) ?_
                    obtain ⟨ad, y1, y2, N1, N2, nd, gv, ho, hN1, hN2, hW⟩ := id hR
                    have hcc := c_X3_leastToAdd l D cs A z0 sa ad g (addS L s9 n) B n b y1 y2 N1 N2 nd gv hn hb5 hN1 hN2
                    rw [ho] at hcc
                    refine va_calli (va_runV (As := []) (rest := []) ⟨hx, hb, hml, hown, hts⟩ hcc (cwV 0 hts gL_adds_X3_leastToAdd rfl rfl rfl (by decide +kernel) ⟨Nat.le_of_ble_eq_true rfl, Nat.le_of_ble_eq_true rfl⟩) ⟨pC_fb, (by rw [← ho]; exact wb_recv hK hW (r := 0) (lvC_0 (by decide)) (ci := 4) rfl rfl), fun U hU hV => ⟨rfl, hE.at (fun _ h => h) hS hV hU, by rw [hU]; exact hW⟩⟩ rfl rfl hl.1 rfl (lv_room (Nat.le_of_ble_eq_true rfl)) dL_adds_137 ⟨by show _ ≤ (200 : Nat); omega, by show _ ≤ (2000 : Nat); omega⟩) hS (fun _ _ h => h) (fun _ h => h) (fun r_19 u t9 H locs ht hvm hw hB hz1 hk1 hS => ?_)
                    rw [ht] at hB
                    have hR := hB
                    obtain rfl : r_19 = mFound g (addS L s9 n) B n b (2 ^ n) := hw.trans (cLW_eq (hbd.c5 (addS_k L s9 n)) nd gv)
                    rw [show (mFound g (addS L s9 n) B n b (2 ^ n) : Int32) = 0 from (mFound_0 hn).mpr (mOk_full hn hLS)]
                    refine lv_if_ne (tgt := 147) hx hb dL_adds_140 (by decide) (fun c_20 => ?_) (fun c_20 => ?_)
                    · -- 0 ne 0 : True
                      exact absurd c_20 (by decide)
                    · -- 0 ne 0 : False
                      refine lv_iconst (v := 1) hx hb dL_adds_143 (by decide) ?_
                      refine lv_goto (tgt := 148) hx hb dL_adds_144 (by decide) ?_
                      refine lv_istore_n (lv' := [(3, .int 1), (0, .ref o), (1, .int (nI n)), (2, .int (nI s9)), (4, .int (nI q9))]) hx hb dL_adds_148 rfl hl (by decide) rfl (fun ls hl => ?_)
                      refine lv_iload_n hx hb dL_adds_149 rfl (lv_at hl 0 rfl) ?_
                      refine W.widen (k := 200) (n := 2000) (by omega) (by omega) ?_
                      exact W.zret (ty := .boolean) (v := 1) hx hb hr (by decide) (fun t8 ht8 hW8 => ⟨⟨_, (), rfl, rfl, by dsimp only; rw [ht8]; rw [addsL_y hF eF hs9]; exact hR⟩, hS.F ht8⟩) hS.2.2 dL_adds_150
      · -- mFound g L B n b (2 ^ n) ne 0 : False
        exact absurd c_9 (hF0)
