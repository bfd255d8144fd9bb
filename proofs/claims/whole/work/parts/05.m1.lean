set_option maxHeartbeats 4000000 in
set_option maxRecDepth 100000 in
theorem c_X4_thrown (l : Launch) (D : va_G) (cs : Nat → ClassId) (A : Nat → Prop) (ad : Nat → Nat) (g : Nat → Int32) (L B : Nat → Nat → Int32) (n b : Nat) (t : Int32) (hn : n ≤ 12) (hb5 : b ≤ 5)  : Met l yX4_thrown wsX4_thrown ({ frames := 1, cells := 0, slots := 0, locals := 24 } : Room) (va_Pc [.ref (ad 0)] (pM D cs A ad g L B n b t)) (va_Qi (fun (r9 : Int32) (_ : Unit) => r9 = t) (fun _ _ => True) (fun _ => False)) 0 0 (fun _ => False) := by
  refine Met.ofW (cc := cX4_thrown) (maxL := 1) (ret := (some .int)) (by decide) rfl ?_
  intro p e s m args below meth c s₁ BB hml hv
  obtain ⟨rfl, hv⟩ := hv
  obtain ⟨hK, hW⟩ := hv
  have hx := BB.exec
  have hb := BB.bytes
  have hr := BB.returns
  have hts := atoms_spec (ws := wsX4_thrown) BB.pre
  have hown : s.vm.findClass RX4 = some m.cls := findClass_of_methodNamed BB.named
  have hlocks := BB.notSynchronized
  have hS : va_S (fun _ => False) s.heap s.heap [] := va_S.rf
  have hl := lv_entry ([.ref (ad 0)]) (n := 1) (Nat.le_of_ble_eq_true rfl)
  rw [lg_entry_eq]
  generalize (lg_sl ([.ref (ad 0)]) ++ List.replicate (1 - (lg_sl ([.ref (ad 0)])).length) Slot.unset).toArray = ls at hl ⊢
  have hl : lv_has ls 1 [(0, .ref (ad 0))] := hl
  have hf51 := hts (.fieldLink RX4 51 "CoverpoolModel" "thrown" "I") (by decide +kernel)
  have hinX4 : ∀ w ∈ u_ws RX4 TX4 18, w ∈ wsX4_thrown := by decide +kernel
  refine lv_aload_n hx hb dX4_thrown_0 rfl (lv_at hl 0 rfl) ?_
  refine wb_get hx hb hts hinX4 hown hK hW 0 (Nat.le_of_ble_eq_true rfl) rfl rfl 17 (by decide) hf51 (fun _ h9 => h9) (v := .int t) rfl dX4_thrown_1 ?_
  exact W.iret (v := t) hx hb hr (fun t9 ht9 hW9 => ⟨⟨_, (), rfl, (by rfl), trivial⟩, hS.F ht9⟩) hS.2.2 dX4_thrown_4

set_option maxHeartbeats 4000000 in
set_option maxRecDepth 100000 in
theorem c_X4_goes (l : Launch) (D : va_G) (cs : Nat → ClassId) (A : Nat → Prop) (ad : Nat → Nat) (g : Nat → Int32) (L B : Nat → Nat → Int32) (n b : Nat) (t : Int32) (hn : n ≤ 12) (hb5 : b ≤ 5) (x y z : Int32) : Met l yX4_goes wsX4_goes ({ frames := 1, cells := 0, slots := 0, locals := 24 } : Room) (va_Pc [.ref (ad 0), .int x, .int y, .int z] (pM D cs A ad g L B n b t)) (va_Qi (fun (r9 : Int32) (_ : Unit) => (r9 = 1 ∧ (mThr x y z = 0)) ∨ (r9 = 0 ∧ ¬ (mThr x y z = 0))) (fun _ t9 => wP D A lvM ad (ctM cs ad g L B n b (mThr x y z)) t9.heap) A) 0 0 A := by
  refine Met.ofW (cc := cX4_goes) (maxL := 4) (ret := (some .boolean)) (by decide) rfl ?_
  intro p e s m args below meth c s₁ BB hml hv
  obtain ⟨rfl, hv⟩ := hv
  obtain ⟨hK, hW⟩ := hv
  have hx := BB.exec
  have hb := BB.bytes
  have hr := BB.returns
  have hts := atoms_spec (ws := wsX4_goes) BB.pre
  have hown : s.vm.findClass RX4 = some m.cls := findClass_of_methodNamed BB.named
  have hlocks := BB.notSynchronized
  have hS : va_S A s.heap s.heap [] := va_S.rf
  have hl := lv_entry ([.ref (ad 0), .int x, .int y, .int z]) (n := 4) (Nat.le_of_ble_eq_true rfl)
  rw [lg_entry_eq]
  generalize (lg_sl ([.ref (ad 0), .int x, .int y, .int z]) ++ List.replicate (4 - (lg_sl ([.ref (ad 0), .int x, .int y, .int z])).length) Slot.unset).toArray = ls at hl ⊢
  have hl : lv_has ls 4 [(0, .ref (ad 0)), (1, .int x), (2, .int y), (3, .int z)] := hl
  have hf51 := hts (.fieldLink RX4 51 "CoverpoolModel" "thrown" "I") (by decide +kernel)
  have hinX4 : ∀ w ∈ u_ws RX4 TX4 18, w ∈ wsX4_goes := by decide +kernel
  refine lv_aload_n hx hb dX4_goes_0 rfl (lv_at hl 0 rfl) ?_
  refine lv_iload_n hx hb dX4_goes_1 rfl (lv_at hl 1 rfl) ?_
  refine lv_if_ne (tgt := 9) hx hb dX4_goes_2 (by decide) (fun c_1 => ?_) (fun c_1 => ?_)
  · -- x ne 0 : True
    refine lv_iload_n hx hb dX4_goes_9 rfl (lv_at hl 2 rfl) ?_
    refine lv_if_ne (tgt := 17) hx hb dX4_goes_10 (by decide) (fun c_2 => ?_) (fun c_2 => ?_)
    · -- y ne 0 : True
      refine lv_iload_n hx hb dX4_goes_17 rfl (lv_at hl 3 rfl) ?_
      refine lv_if_ne (tgt := 25) hx hb dX4_goes_18 (by decide) (fun c_3 => ?_) (fun c_3 => ?_)
      · -- z ne 0 : True
        refine lv_iconst (v := 0) hx hb dX4_goes_25 (by decide) ?_
        refine wb_put (v := .int 0) (ty := .int) hx hb hts hinX4 tyX4 tyX4_ok nmX4 hown hK hW hS 0 (Nat.le_of_ble_eq_true rfl) rfl rfl 17 (by decide) hf51 (fun _ h9 => h9) rfl (by decide +kernel) rfl rfl (Nat.le_of_ble_eq_true rfl) dX4_goes_26 (fun H locs hW hS => ?_)
        have hW : wP D A lvM ad (ctM cs ad g L B n b 0) H := hW.to (fun r hr => ⟨hr, rfl, by rcases lt11 hr with rfl | rfl | rfl | rfl | rfl | rfl | rfl | rfl | rfl | rfl | rfl <;> rfl⟩)
        refine lv_aload_n hx hb dX4_goes_29 rfl (lv_at hl 0 rfl) ?_
        refine wb_get hx hb hts hinX4 hown hK hW 0 (Nat.le_of_ble_eq_true rfl) rfl rfl 17 (by decide) hf51 (fun _ h9 => h9) (v := .int 0) rfl dX4_goes_30 ?_
        refine lv_if_ne (tgt := 40) hx hb dX4_goes_33 (by decide) (fun c_5 => ?_) (fun c_5 => ?_)
        · -- 0 ne 0 : True
          exact absurd c_5 (by decide)
        · -- 0 ne 0 : False
          refine lv_iconst (v := 1) hx hb dX4_goes_36 (by decide) ?_
          refine lv_goto (tgt := 41) hx hb dX4_goes_37 (by decide) ?_
          exact W.zret (ty := .boolean) (v := 1) hx hb hr (by decide) (fun t9 ht9 hW9 => ⟨⟨_, (), rfl, Or.inl ⟨rfl, by simp [mThr, c_1, c_2, c_3, c_5]⟩, by dsimp only; rw [ht9]; exact (hW.to (fun r hr => ⟨hr, rfl, by simp [mThr, c_1, c_2, c_3, c_5]⟩))⟩, hS.F ht9⟩) hS.2.2 dX4_goes_41
      · -- z ne 0 : False
        refine lv_iconst (v := 3) hx hb dX4_goes_21 (by decide) ?_
        refine lv_goto (tgt := 26) hx hb dX4_goes_22 (by decide) ?_
        refine wb_put (v := .int 3) (ty := .int) hx hb hts hinX4 tyX4 tyX4_ok nmX4 hown hK hW hS 0 (Nat.le_of_ble_eq_true rfl) rfl rfl 17 (by decide) hf51 (fun _ h9 => h9) rfl (by decide +kernel) rfl rfl (Nat.le_of_ble_eq_true rfl) dX4_goes_26 (fun H locs hW hS => ?_)
        have hW : wP D A lvM ad (ctM cs ad g L B n b 3) H := hW.to (fun r hr => ⟨hr, rfl, by rcases lt11 hr with rfl | rfl | rfl | rfl | rfl | rfl | rfl | rfl | rfl | rfl | rfl <;> rfl⟩)
        refine lv_aload_n hx hb dX4_goes_29 rfl (lv_at hl 0 rfl) ?_
        refine wb_get hx hb hts hinX4 hown hK hW 0 (Nat.le_of_ble_eq_true rfl) rfl rfl 17 (by decide) hf51 (fun _ h9 => h9) (v := .int 3) rfl dX4_goes_30 ?_
        refine lv_if_ne (tgt := 40) hx hb dX4_goes_33 (by decide) (fun c_7 => ?_) (fun c_7 => ?_)
        · -- 3 ne 0 : True
          refine lv_iconst (v := 0) hx hb dX4_goes_40 (by decide) ?_
          exact W.zret (ty := .boolean) (v := 0) hx hb hr (by decide) (fun t9 ht9 hW9 => ⟨⟨_, (), rfl, Or.inr ⟨rfl, by simp [mThr, c_1, c_2, c_3, c_7]⟩, by dsimp only; rw [ht9]; exact (hW.to (fun r hr => ⟨hr, rfl, by simp [mThr, c_1, c_2, c_3, c_7]⟩))⟩, hS.F ht9⟩) hS.2.2 dX4_goes_41
        · -- 3 ne 0 : False
          exact absurd c_7 (by decide)
    · -- y ne 0 : False
      refine lv_iconst (v := 2) hx hb dX4_goes_13 (by decide) ?_
      refine lv_goto (tgt := 26) hx hb dX4_goes_14 (by decide) ?_
      refine wb_put (v := .int 2) (ty := .int) hx hb hts hinX4 tyX4 tyX4_ok nmX4 hown hK hW hS 0 (Nat.le_of_ble_eq_true rfl) rfl rfl 17 (by decide) hf51 (fun _ h9 => h9) rfl (by decide +kernel) rfl rfl (Nat.le_of_ble_eq_true rfl) dX4_goes_26 (fun H locs hW hS => ?_)
      have hW : wP D A lvM ad (ctM cs ad g L B n b 2) H := hW.to (fun r hr => ⟨hr, rfl, by rcases lt11 hr with rfl | rfl | rfl | rfl | rfl | rfl | rfl | rfl | rfl | rfl | rfl <;> rfl⟩)
      refine lv_aload_n hx hb dX4_goes_29 rfl (lv_at hl 0 rfl) ?_
      refine wb_get hx hb hts hinX4 hown hK hW 0 (Nat.le_of_ble_eq_true rfl) rfl rfl 17 (by decide) hf51 (fun _ h9 => h9) (v := .int 2) rfl dX4_goes_30 ?_
      refine lv_if_ne (tgt := 40) hx hb dX4_goes_33 (by decide) (fun c_9 => ?_) (fun c_9 => ?_)
      · -- 2 ne 0 : True
        refine lv_iconst (v := 0) hx hb dX4_goes_40 (by decide) ?_
        exact W.zret (ty := .boolean) (v := 0) hx hb hr (by decide) (fun t9 ht9 hW9 => ⟨⟨_, (), rfl, Or.inr ⟨rfl, by simp [mThr, c_1, c_2, c_9]⟩, by dsimp only; rw [ht9]; exact (hW.to (fun r hr => ⟨hr, rfl, by simp [mThr, c_1, c_2, c_9]⟩))⟩, hS.F ht9⟩) hS.2.2 dX4_goes_41
      · -- 2 ne 0 : False
        exact absurd c_9 (by decide)
  · -- x ne 0 : False
    refine lv_iconst (v := 1) hx hb dX4_goes_5 (by decide) ?_
    refine lv_goto (tgt := 26) hx hb dX4_goes_6 (by decide) ?_
    refine wb_put (v := .int 1) (ty := .int) hx hb hts hinX4 tyX4 tyX4_ok nmX4 hown hK hW hS 0 (Nat.le_of_ble_eq_true rfl) rfl rfl 17 (by decide) hf51 (fun _ h9 => h9) rfl (by decide +kernel) rfl rfl (Nat.le_of_ble_eq_true rfl) dX4_goes_26 (fun H locs hW hS => ?_)
    have hW : wP D A lvM ad (ctM cs ad g L B n b 1) H := hW.to (fun r hr => ⟨hr, rfl, by rcases lt11 hr with rfl | rfl | rfl | rfl | rfl | rfl | rfl | rfl | rfl | rfl | rfl <;> rfl⟩)
    refine lv_aload_n hx hb dX4_goes_29 rfl (lv_at hl 0 rfl) ?_
    refine wb_get hx hb hts hinX4 hown hK hW 0 (Nat.le_of_ble_eq_true rfl) rfl rfl 17 (by decide) hf51 (fun _ h9 => h9) (v := .int 1) rfl dX4_goes_30 ?_
    refine lv_if_ne (tgt := 40) hx hb dX4_goes_33 (by decide) (fun c_11 => ?_) (fun c_11 => ?_)
    · -- 1 ne 0 : True
      refine lv_iconst (v := 0) hx hb dX4_goes_40 (by decide) ?_
      exact W.zret (ty := .boolean) (v := 0) hx hb hr (by decide) (fun t9 ht9 hW9 => ⟨⟨_, (), rfl, Or.inr ⟨rfl, by simp [mThr, c_1, c_11]⟩, by dsimp only; rw [ht9]; exact (hW.to (fun r hr => ⟨hr, rfl, by simp [mThr, c_1, c_11]⟩))⟩, hS.F ht9⟩) hS.2.2 dX4_goes_41
    · -- 1 ne 0 : False
      exact absurd c_11 (by decide)

set_option maxHeartbeats 4000000 in
set_option maxRecDepth 100000 in
theorem c_X4_isWithin (l : Launch) (x a b : Int32) : Met l yX4_isWithin wsX4_isWithin ({ frames := 1, cells := 0, slots := 0, locals := 24 } : Room) (va_Pc [.int x, .int a, .int b] (fun _ => True)) (va_Qi (fun (r9 : Int32) (_ : Unit) => (r9 = 1 ∧ (wi x a b)) ∨ (r9 = 0 ∧ ¬ (wi x a b))) (fun _ _ => True) (fun _ => False)) 0 0 (fun _ => False) := by
  refine Met.ofW (cc := cX4_isWithin) (maxL := 3) (ret := (some .boolean)) (by decide) rfl ?_
  intro p e s m args below meth c s₁ BB hml hv
  obtain ⟨rfl, hv⟩ := hv
  have hx := BB.exec
  have hb := BB.bytes
  have hr := BB.returns
  have hts := atoms_spec (ws := wsX4_isWithin) BB.pre
  have hown : s.vm.findClass RX4 = some m.cls := findClass_of_methodNamed BB.named
  have hlocks := BB.notSynchronized
  have hS : va_S (fun _ => False) s.heap s.heap [] := va_S.rf
  have hl := lv_entry ([.int x, .int a, .int b]) (n := 3) (Nat.le_of_ble_eq_true rfl)
  rw [lg_entry_eq]
  generalize (lg_sl ([.int x, .int a, .int b]) ++ List.replicate (3 - (lg_sl ([.int x, .int a, .int b])).length) Slot.unset).toArray = ls at hl ⊢
  have hl : lv_has ls 3 [(0, .int x), (1, .int a), (2, .int b)] := hl
  refine lv_iload_n hx hb dX4_isWithin_0 rfl (lv_at hl 0 rfl) ?_
  refine lv_iload_n hx hb dX4_isWithin_1 rfl (lv_at hl 1 rfl) ?_
  refine lv_icmp_lt (tgt := 14) hx hb dX4_isWithin_2 (by decide) (fun c_1 => ?_) (fun c_1 => ?_)
  · -- x lt a : True
    refine lv_iconst (v := 0) hx hb dX4_isWithin_14 (by decide) ?_
    exact W.zret (ty := .boolean) (v := 0) hx hb hr (by decide) (fun t9 ht9 hW9 => ⟨⟨_, (), rfl, Or.inr ⟨rfl, by simp_all [wi]⟩, trivial⟩, hS.F ht9⟩) hS.2.2 dX4_isWithin_15
  · -- x lt a : False
    refine lv_iload_n hx hb dX4_isWithin_5 rfl (lv_at hl 0 rfl) ?_
    refine lv_iload_n hx hb dX4_isWithin_6 rfl (lv_at hl 2 rfl) ?_
    refine lv_icmp_gt (tgt := 14) hx hb dX4_isWithin_7 (by decide) (fun c_2 => ?_) (fun c_2 => ?_)
    · -- x gt b : True
      refine lv_iconst (v := 0) hx hb dX4_isWithin_14 (by decide) ?_
      exact W.zret (ty := .boolean) (v := 0) hx hb hr (by decide) (fun t9 ht9 hW9 => ⟨⟨_, (), rfl, Or.inr ⟨rfl, by simp_all [wi]⟩, trivial⟩, hS.F ht9⟩) hS.2.2 dX4_isWithin_15
    · -- x gt b : False
      refine lv_iconst (v := 1) hx hb dX4_isWithin_10 (by decide) ?_
      refine lv_goto (tgt := 15) hx hb dX4_isWithin_11 (by decide) ?_
      exact W.zret (ty := .boolean) (v := 1) hx hb hr (by decide) (fun t9 ht9 hW9 => ⟨⟨_, (), rfl, Or.inl ⟨rfl, by simp_all [wi]⟩, trivial⟩, hS.F ht9⟩) hS.2.2 dX4_isWithin_15

set_option maxHeartbeats 4000000 in
set_option maxRecDepth 100000 in
theorem c_X4_isLoan (l : Launch) (D : va_G) (cs : Nat → ClassId) (A : Nat → Prop) (ad : Nat → Nat) (g : Nat → Int32) (L B : Nat → Nat → Int32) (n b : Nat) (t : Int32) (hn : n ≤ 12) (hb5 : b ≤ 5) (x : Int32) : Met l yX4_isLoan wsX4_isLoan ({ frames := 1, cells := 0, slots := 0, locals := 24 } : Room) (va_Pc [.ref (ad 0), .int x] (pM D cs A ad g L B n b t)) (va_Qi (fun (r9 : Int32) (_ : Unit) => (r9 = 1 ∧ (isIx n x)) ∨ (r9 = 0 ∧ ¬ (isIx n x))) (fun _ _ => True) (fun _ => False)) 0 0 (fun _ => False) := by
  refine Met.ofW (cc := cX4_isLoan) (maxL := 2) (ret := (some .boolean)) (by decide) rfl ?_
  intro p e s m args below meth c s₁ BB hml hv
  obtain ⟨rfl, hv⟩ := hv
  obtain ⟨hK, hW⟩ := hv
  have hx := BB.exec
  have hb := BB.bytes
  have hr := BB.returns
  have hts := atoms_spec (ws := wsX4_isLoan) BB.pre
  have hown : s.vm.findClass RX4 = some m.cls := findClass_of_methodNamed BB.named
  have hlocks := BB.notSynchronized
  have hS : va_S (fun _ => False) s.heap s.heap [] := va_S.rf
  have hl := lv_entry ([.ref (ad 0), .int x]) (n := 2) (Nat.le_of_ble_eq_true rfl)
  rw [lg_entry_eq]
  generalize (lg_sl ([.ref (ad 0), .int x]) ++ List.replicate (2 - (lg_sl ([.ref (ad 0), .int x])).length) Slot.unset).toArray = ls at hl ⊢
  have hl : lv_has ls 2 [(0, .ref (ad 0)), (1, .int x)] := hl
  have hf54 := hts (.fieldLink RX4 54 "CoverpoolModel" "loans" "I") (by decide +kernel)
  have hinX4 : ∀ w ∈ u_ws RX4 TX4 18, w ∈ wsX4_isLoan := by decide +kernel
  refine lv_iload_n hx hb dX4_isLoan_0 rfl (lv_at hl 1 rfl) ?_
  refine lv_if_lt (tgt := 16) hx hb dX4_isLoan_1 (by decide) (fun c_1 => ?_) (fun c_1 => ?_)
  · -- x lt 0 : True
    refine lv_iconst (v := 0) hx hb dX4_isLoan_16 (by decide) ?_
    exact W.zret (ty := .boolean) (v := 0) hx hb hr (by decide) (fun t9 ht9 hW9 => ⟨⟨_, (), rfl, Or.inr ⟨rfl, by simp [isIx, c_1]⟩, trivial⟩, hS.F ht9⟩) hS.2.2 dX4_isLoan_17
  · -- x lt 0 : False
    refine lv_iload_n hx hb dX4_isLoan_4 rfl (lv_at hl 1 rfl) ?_
    refine lv_aload_n hx hb dX4_isLoan_5 rfl (lv_at hl 0 rfl) ?_
    refine wb_get hx hb hts hinX4 hown hK hW 0 (Nat.le_of_ble_eq_true rfl) rfl rfl 11 (by decide) hf54 (fun _ h9 => h9) (v := .int (nI n)) rfl dX4_isLoan_6 ?_
    refine lv_icmp_ge (tgt := 16) hx hb dX4_isLoan_9 (by decide) (fun c_2 => ?_) (fun c_2 => ?_)
    · -- x ge nI n : True
      refine lv_iconst (v := 0) hx hb dX4_isLoan_16 (by decide) ?_
      exact W.zret (ty := .boolean) (v := 0) hx hb hr (by decide) (fun t9 ht9 hW9 => ⟨⟨_, (), rfl, Or.inr ⟨rfl, by simp [isIx, c_1, c_2]⟩, trivial⟩, hS.F ht9⟩) hS.2.2 dX4_isLoan_17
    · -- x ge nI n : False
      refine lv_iconst (v := 1) hx hb dX4_isLoan_12 (by decide) ?_
      refine lv_goto (tgt := 17) hx hb dX4_isLoan_13 (by decide) ?_
      exact W.zret (ty := .boolean) (v := 1) hx hb hr (by decide) (fun t9 ht9 hW9 => ⟨⟨_, (), rfl, Or.inl ⟨rfl, by simp [isIx, c_1, c_2]⟩, trivial⟩, hS.F ht9⟩) hS.2.2 dX4_isLoan_17

set_option maxHeartbeats 4000000 in
set_option maxRecDepth 100000 in
theorem c_X4_isBond (l : Launch) (D : va_G) (cs : Nat → ClassId) (A : Nat → Prop) (ad : Nat → Nat) (g : Nat → Int32) (L B : Nat → Nat → Int32) (n b : Nat) (t : Int32) (hn : n ≤ 12) (hb5 : b ≤ 5) (x : Int32) : Met l yX4_isBond wsX4_isBond ({ frames := 1, cells := 0, slots := 0, locals := 24 } : Room) (va_Pc [.ref (ad 0), .int x] (pM D cs A ad g L B n b t)) (va_Qi (fun (r9 : Int32) (_ : Unit) => (r9 = 1 ∧ (isIx b x)) ∨ (r9 = 0 ∧ ¬ (isIx b x))) (fun _ _ => True) (fun _ => False)) 0 0 (fun _ => False) := by
  refine Met.ofW (cc := cX4_isBond) (maxL := 2) (ret := (some .boolean)) (by decide) rfl ?_
  intro p e s m args below meth c s₁ BB hml hv
  obtain ⟨rfl, hv⟩ := hv
  obtain ⟨hK, hW⟩ := hv
  have hx := BB.exec
  have hb := BB.bytes
  have hr := BB.returns
  have hts := atoms_spec (ws := wsX4_isBond) BB.pre
  have hown : s.vm.findClass RX4 = some m.cls := findClass_of_methodNamed BB.named
  have hlocks := BB.notSynchronized
  have hS : va_S (fun _ => False) s.heap s.heap [] := va_S.rf
  have hl := lv_entry ([.ref (ad 0), .int x]) (n := 2) (Nat.le_of_ble_eq_true rfl)
  rw [lg_entry_eq]
  generalize (lg_sl ([.ref (ad 0), .int x]) ++ List.replicate (2 - (lg_sl ([.ref (ad 0), .int x])).length) Slot.unset).toArray = ls at hl ⊢
  have hl : lv_has ls 2 [(0, .ref (ad 0)), (1, .int x)] := hl
  have hf57 := hts (.fieldLink RX4 57 "CoverpoolModel" "bonds" "I") (by decide +kernel)
  have hinX4 : ∀ w ∈ u_ws RX4 TX4 18, w ∈ wsX4_isBond := by decide +kernel
  refine lv_iload_n hx hb dX4_isBond_0 rfl (lv_at hl 1 rfl) ?_
  refine lv_if_lt (tgt := 16) hx hb dX4_isBond_1 (by decide) (fun c_1 => ?_) (fun c_1 => ?_)
  · -- x lt 0 : True
    refine lv_iconst (v := 0) hx hb dX4_isBond_16 (by decide) ?_
    exact W.zret (ty := .boolean) (v := 0) hx hb hr (by decide) (fun t9 ht9 hW9 => ⟨⟨_, (), rfl, Or.inr ⟨rfl, by simp [isIx, c_1]⟩, trivial⟩, hS.F ht9⟩) hS.2.2 dX4_isBond_17
  · -- x lt 0 : False
    refine lv_iload_n hx hb dX4_isBond_4 rfl (lv_at hl 1 rfl) ?_
    refine lv_aload_n hx hb dX4_isBond_5 rfl (lv_at hl 0 rfl) ?_
    refine wb_get hx hb hts hinX4 hown hK hW 0 (Nat.le_of_ble_eq_true rfl) rfl rfl 16 (by decide) hf57 (fun _ h9 => h9) (v := .int (nI b)) rfl dX4_isBond_6 ?_
    refine lv_icmp_ge (tgt := 16) hx hb dX4_isBond_9 (by decide) (fun c_2 => ?_) (fun c_2 => ?_)
    · -- x ge nI b : True
      refine lv_iconst (v := 0) hx hb dX4_isBond_16 (by decide) ?_
      exact W.zret (ty := .boolean) (v := 0) hx hb hr (by decide) (fun t9 ht9 hW9 => ⟨⟨_, (), rfl, Or.inr ⟨rfl, by simp [isIx, c_1, c_2]⟩, trivial⟩, hS.F ht9⟩) hS.2.2 dX4_isBond_17
    · -- x ge nI b : False
      refine lv_iconst (v := 1) hx hb dX4_isBond_12 (by decide) ?_
      refine lv_goto (tgt := 17) hx hb dX4_isBond_13 (by decide) ?_
      exact W.zret (ty := .boolean) (v := 1) hx hb hr (by decide) (fun t9 ht9 hW9 => ⟨⟨_, (), rfl, Or.inl ⟨rfl, by simp [isIx, c_1, c_2]⟩, trivial⟩, hS.F ht9⟩) hS.2.2 dX4_isBond_17

set_option maxHeartbeats 4000000 in
set_option maxRecDepth 100000 in
theorem c_X4_countOf (l : Launch) (D : va_G) (cs : Nat → ClassId) (A : Nat → Prop) (ad : Nat → Nat) (g : Nat → Int32) (L B : Nat → Nat → Int32) (n b : Nat) (t : Int32) (hn : n ≤ 12) (hb5 : b ≤ 5) (i : Nat) (hi : i < 12) : Met l yX4_countOf wsX4_countOf ({ frames := 1, cells := 0, slots := 0, locals := 24 } : Room) (va_Pc [.ref (ad 0), .int (nI i)] (pM D cs A ad g L B n b t)) (va_Qi (fun (r9 : Int32) (_ : Unit) => r9 = mCount g L i) (fun _ _ => True) (fun _ => False)) 0 0 (fun _ => False) := by
  refine Met.ofW (cc := cX4_countOf) (maxL := 4) (ret := (some .int)) (by decide) rfl ?_
  intro p e s m args below meth c s₁ BB hml hv
  obtain ⟨rfl, hv⟩ := hv
  obtain ⟨hK, hW⟩ := hv
  have hx := BB.exec
  have hb := BB.bytes
  have hr := BB.returns
  have hts := atoms_spec (ws := wsX4_countOf) BB.pre
  have hown : s.vm.findClass RX4 = some m.cls := findClass_of_methodNamed BB.named
  have hlocks := BB.notSynchronized
  have hS : va_S (fun _ => False) s.heap s.heap [] := va_S.rf
  have hl := lv_entry ([.ref (ad 0), .int (nI i)]) (n := 4) (Nat.le_of_ble_eq_true rfl)
  rw [lg_entry_eq]
  generalize (lg_sl ([.ref (ad 0), .int (nI i)]) ++ List.replicate (4 - (lg_sl ([.ref (ad 0), .int (nI i)])).length) Slot.unset).toArray = ls at hl ⊢
  have hl : lv_has ls 4 [(0, .ref (ad 0)), (1, .int (nI i))] := hl
  have hf7 := hts (.fieldLink RX4 7 "CoverpoolModel" "greatest" "I") (by decide +kernel)
  have hf19 := hts (.fieldLink RX4 19 "CoverpoolModel" "amount" "[I") (by decide +kernel)
  have hf23 := hts (.fieldLink RX4 23 "CoverpoolModel" "worth" "[I") (by decide +kernel)
  have hf26 := hts (.fieldLink RX4 26 "CoverpoolModel" "rank" "[I") (by decide +kernel)
  have hf32 := hts (.fieldLink RX4 32 "CoverpoolModel" "arrears" "[I") (by decide +kernel)
  have hinX4 : ∀ w ∈ u_ws RX4 TX4 18, w ∈ wsX4_countOf := by decide +kernel
  refine lv_aload_n hx hb dX4_countOf_0 rfl (lv_at hl 0 rfl) ?_
  refine wb_get hx hb hts hinX4 hown hK hW 0 (Nat.le_of_ble_eq_true rfl) rfl rfl 6 (by decide) hf23 (fun _ h9 => h9) (v := .ref (ad 2)) rfl dX4_countOf_1 ?_
  refine lv_iload_n hx hb dX4_countOf_4 rfl (lv_at hl 1 rfl) ?_
  refine wb_iald hx hb hK hW 2 (Nat.le_of_ble_eq_true rfl) 0 rfl rfl i rfl (by omega) (by decide) dX4_countOf_5 ?_
  refine lv_bipush (v := 80) hx hb dX4_countOf_6 (by decide) ?_
  refine lv_imul hx hb dX4_countOf_8 ?_
  refine lv_bipush (v := 100) hx hb dX4_countOf_9 (by decide) ?_
  refine lv_idiv hx hb dX4_countOf_11 (by decide) ?_
  refine lv_istore_n (lv' := [(2, .int (((L 1 i) * 80) / 100)), (0, .ref (ad 0)), (1, .int (nI i))]) hx hb dX4_countOf_12 rfl hl (by decide) rfl (fun ls hl => ?_)
  refine lv_iload_n hx hb dX4_countOf_13 rfl (lv_at hl 0 rfl) ?_
  refine lv_aload_n hx hb dX4_countOf_14 rfl (lv_at hl 1 rfl) ?_
  refine wb_get hx hb hts hinX4 hown hK hW 0 (Nat.le_of_ble_eq_true rfl) rfl rfl 5 (by decide) hf19 (fun _ h9 => h9) (v := .ref (ad 1)) rfl dX4_countOf_15 ?_
  refine lv_iload_n hx hb dX4_countOf_18 rfl (lv_at hl 2 rfl) ?_
  refine wb_iald hx hb hK hW 1 (Nat.le_of_ble_eq_true rfl) 0 rfl rfl i rfl (by omega) (by decide) dX4_countOf_19 ?_
  refine lv_icmp_ge (tgt := 27) hx hb dX4_countOf_20 (by decide) (fun c_1 => ?_) (fun c_1 => ?_)
  · -- ((L 1 i) * 80) / 100 ge L 0 i : True
    refine lv_aload_n hx hb dX4_countOf_27 rfl (lv_at hl 1 rfl) ?_
    refine wb_get hx hb hts hinX4 hown hK hW 0 (Nat.le_of_ble_eq_true rfl) rfl rfl 5 (by decide) hf19 (fun _ h9 => h9) (v := .ref (ad 1)) rfl dX4_countOf_28 ?_
    refine lv_iload_n hx hb dX4_countOf_31 rfl (lv_at hl 2 rfl) ?_
    refine wb_iald hx hb hK hW 1 (Nat.le_of_ble_eq_true rfl) 0 rfl rfl i rfl (by omega) (by decide) dX4_countOf_32 ?_
    refine lv_istore_n (lv' := [(3, .int (L 0 i)), (2, .int (((L 1 i) * 80) / 100)), (0, .ref (ad 0)), (1, .int (nI i))]) hx hb dX4_countOf_33 rfl hl (by decide) rfl (fun ls hl => ?_)
    refine lv_aload_n hx hb dX4_countOf_34 rfl (lv_at hl 2 rfl) ?_
    refine wb_get hx hb hts hinX4 hown hK hW 0 (Nat.le_of_ble_eq_true rfl) rfl rfl 9 (by decide) hf32 (fun _ h9 => h9) (v := .ref (ad 5)) rfl dX4_countOf_35 ?_
    refine lv_iload_n hx hb dX4_countOf_38 rfl (lv_at hl 3 rfl) ?_
    refine wb_iald hx hb hK hW 5 (Nat.le_of_ble_eq_true rfl) 0 rfl rfl i rfl (by omega) (by decide) dX4_countOf_39 ?_
    refine lv_iconst (v := 3) hx hb dX4_countOf_40 (by decide) ?_
    refine lv_icmp_ge (tgt := 57) hx hb dX4_countOf_41 (by decide) (fun c_2 => ?_) (fun c_2 => ?_)
    · -- L 4 i ge 3 : True
      refine lv_iconst (v := 0) hx hb dX4_countOf_57 (by decide) ?_
      refine lv_goto (tgt := 62) hx hb dX4_countOf_58 (by decide) ?_
      exact W.iret (v := 0) hx hb hr (fun t9 ht9 hW9 => ⟨⟨_, (), rfl, (by simp [mCount, c_1, c_2]), trivial⟩, hS.F ht9⟩) hS.2.2 dX4_countOf_62
    · -- L 4 i ge 3 : False
      refine lv_aload_n hx hb dX4_countOf_44 rfl (lv_at hl 2 rfl) ?_
      refine wb_get hx hb hts hinX4 hown hK hW 0 (Nat.le_of_ble_eq_true rfl) rfl rfl 7 (by decide) hf26 (fun _ h9 => h9) (v := .ref (ad 3)) rfl dX4_countOf_45 ?_
      refine lv_iload_n hx hb dX4_countOf_48 rfl (lv_at hl 3 rfl) ?_
      refine wb_iald hx hb hK hW 3 (Nat.le_of_ble_eq_true rfl) 0 rfl rfl i rfl (by omega) (by decide) dX4_countOf_49 ?_
      refine lv_aload_n hx hb dX4_countOf_50 rfl (lv_at hl 2 rfl) ?_
      refine wb_get hx hb hts hinX4 hown hK hW 0 (Nat.le_of_ble_eq_true rfl) rfl rfl 2 (by decide) hf7 (fun _ h9 => h9) (v := .int (g 2)) rfl dX4_countOf_51 ?_
      refine lv_icmp_le (tgt := 61) hx hb dX4_countOf_54 (by decide) (fun c_3 => ?_) (fun c_3 => ?_)
      · -- L 2 i le g 2 : True
        refine lv_iload_n hx hb dX4_countOf_61 rfl (lv_at hl 0 rfl) ?_
        exact W.iret (v := L 0 i) hx hb hr (fun t9 ht9 hW9 => ⟨⟨_, (), rfl, (by simp [mCount, c_1, c_2, c_3]), trivial⟩, hS.F ht9⟩) hS.2.2 dX4_countOf_62
      · -- L 2 i le g 2 : False
        refine lv_iconst (v := 0) hx hb dX4_countOf_57 (by decide) ?_
        refine lv_goto (tgt := 62) hx hb dX4_countOf_58 (by decide) ?_
        exact W.iret (v := 0) hx hb hr (fun t9 ht9 hW9 => ⟨⟨_, (), rfl, (by simp [mCount, c_1, c_2, c_3]), trivial⟩, hS.F ht9⟩) hS.2.2 dX4_countOf_62
  · -- ((L 1 i) * 80) / 100 ge L 0 i : False
    refine lv_iload_n hx hb dX4_countOf_23 rfl (lv_at hl 0 rfl) ?_
    refine lv_goto (tgt := 33) hx hb dX4_countOf_24 (by decide) ?_
    refine lv_istore_n (lv' := [(3, .int (((L 1 i) * 80) / 100)), (2, .int (((L 1 i) * 80) / 100)), (0, .ref (ad 0)), (1, .int (nI i))]) hx hb dX4_countOf_33 rfl hl (by decide) rfl (fun ls hl => ?_)
    refine lv_aload_n hx hb dX4_countOf_34 rfl (lv_at hl 2 rfl) ?_
    refine wb_get hx hb hts hinX4 hown hK hW 0 (Nat.le_of_ble_eq_true rfl) rfl rfl 9 (by decide) hf32 (fun _ h9 => h9) (v := .ref (ad 5)) rfl dX4_countOf_35 ?_
    refine lv_iload_n hx hb dX4_countOf_38 rfl (lv_at hl 3 rfl) ?_
    refine wb_iald hx hb hK hW 5 (Nat.le_of_ble_eq_true rfl) 0 rfl rfl i rfl (by omega) (by decide) dX4_countOf_39 ?_
    refine lv_iconst (v := 3) hx hb dX4_countOf_40 (by decide) ?_
    refine lv_icmp_ge (tgt := 57) hx hb dX4_countOf_41 (by decide) (fun c_4 => ?_) (fun c_4 => ?_)
    · -- L 4 i ge 3 : True
      refine lv_iconst (v := 0) hx hb dX4_countOf_57 (by decide) ?_
      refine lv_goto (tgt := 62) hx hb dX4_countOf_58 (by decide) ?_
      exact W.iret (v := 0) hx hb hr (fun t9 ht9 hW9 => ⟨⟨_, (), rfl, (by simp [mCount, c_1, c_4]), trivial⟩, hS.F ht9⟩) hS.2.2 dX4_countOf_62
    · -- L 4 i ge 3 : False
      refine lv_aload_n hx hb dX4_countOf_44 rfl (lv_at hl 2 rfl) ?_
      refine wb_get hx hb hts hinX4 hown hK hW 0 (Nat.le_of_ble_eq_true rfl) rfl rfl 7 (by decide) hf26 (fun _ h9 => h9) (v := .ref (ad 3)) rfl dX4_countOf_45 ?_
      refine lv_iload_n hx hb dX4_countOf_48 rfl (lv_at hl 3 rfl) ?_
      refine wb_iald hx hb hK hW 3 (Nat.le_of_ble_eq_true rfl) 0 rfl rfl i rfl (by omega) (by decide) dX4_countOf_49 ?_
      refine lv_aload_n hx hb dX4_countOf_50 rfl (lv_at hl 2 rfl) ?_
      refine wb_get hx hb hts hinX4 hown hK hW 0 (Nat.le_of_ble_eq_true rfl) rfl rfl 2 (by decide) hf7 (fun _ h9 => h9) (v := .int (g 2)) rfl dX4_countOf_51 ?_
      refine lv_icmp_le (tgt := 61) hx hb dX4_countOf_54 (by decide) (fun c_5 => ?_) (fun c_5 => ?_)
      · -- L 2 i le g 2 : True
        refine lv_iload_n hx hb dX4_countOf_61 rfl (lv_at hl 0 rfl) ?_
        exact W.iret (v := ((L 1 i) * 80) / 100) hx hb hr (fun t9 ht9 hW9 => ⟨⟨_, (), rfl, (by simp [mCount, c_1, c_4, c_5]), trivial⟩, hS.F ht9⟩) hS.2.2 dX4_countOf_62
      · -- L 2 i le g 2 : False
        refine lv_iconst (v := 0) hx hb dX4_countOf_57 (by decide) ?_
        refine lv_goto (tgt := 62) hx hb dX4_countOf_58 (by decide) ?_
        exact W.iret (v := 0) hx hb hr (fun t9 ht9 hW9 => ⟨⟨_, (), rfl, (by simp [mCount, c_1, c_4, c_5]), trivial⟩, hS.F ht9⟩) hS.2.2 dX4_countOf_62

set_option maxHeartbeats 4000000 in
set_option maxRecDepth 100000 in
theorem c_X4_pool (l : Launch) (D : va_G) (cs : Nat → ClassId) (A : Nat → Prop) (ad : Nat → Nat) (g : Nat → Int32) (L B : Nat → Nat → Int32) (n b : Nat) (t : Int32) (hn : n ≤ 12) (hb5 : b ≤ 5)  : Met l yX4_pool wsX4_pool ({ frames := 1, cells := 0, slots := 0, locals := 24 } : Room) (va_Pc [.ref (ad 0)] (pM D cs A ad g L B n b t)) (va_Qi (fun (r9 : Int32) (_ : Unit) => r9 = mPool L 1 n) (fun _ _ => True) (fun _ => False)) 0 0 (fun _ => False) := by
  refine Met.ofW (cc := cX4_pool) (maxL := 3) (ret := (some .int)) (by decide) rfl ?_
  intro p e s m args below meth c s₁ BB hml hv
  obtain ⟨rfl, hv⟩ := hv
  obtain ⟨hK, hW⟩ := hv
  have hx := BB.exec
  have hb := BB.bytes
  have hr := BB.returns
  have hts := atoms_spec (ws := wsX4_pool) BB.pre
  have hown : s.vm.findClass RX4 = some m.cls := findClass_of_methodNamed BB.named
  have hlocks := BB.notSynchronized
  have hS : va_S (fun _ => False) s.heap s.heap [] := va_S.rf
  have hl := lv_entry ([.ref (ad 0)]) (n := 3) (Nat.le_of_ble_eq_true rfl)
  rw [lg_entry_eq]
  generalize (lg_sl ([.ref (ad 0)]) ++ List.replicate (3 - (lg_sl ([.ref (ad 0)])).length) Slot.unset).toArray = ls at hl ⊢
  have hl : lv_has ls 3 [(0, .ref (ad 0))] := hl
  have hf35 := hts (.fieldLink RX4 35 "CoverpoolModel" "state" "[I") (by decide +kernel)
  have hf54 := hts (.fieldLink RX4 54 "CoverpoolModel" "loans" "I") (by decide +kernel)
  have hinX4 : ∀ w ∈ u_ws RX4 TX4 18, w ∈ wsX4_pool := by decide +kernel
  refine lv_iconst (v := 0) hx hb dX4_pool_0 (by decide) ?_
  refine lv_istore_n (lv' := [(1, .int 0), (0, .ref (ad 0))]) hx hb dX4_pool_1 rfl hl (by decide) rfl (fun ls hl => ?_)
  refine lv_iconst (v := 0) hx hb dX4_pool_2 (by decide) ?_
  refine lv_istore_n (lv' := [(2, .int 0), (1, .int 0), (0, .ref (ad 0))]) hx hb dX4_pool_3 rfl hl (by decide) rfl (fun ls hl => ?_)
  have loop_1 : ∀ (k1 j1 : Nat), j1 + k1 = n → ∀ (a1_0 : Int32), a1_0 = mPool L 1 j1 → ∀ (H : Heap) (locs : List Loc), wP D A lvM ad (ctM cs ad g L B n b t) H → va_S (fun _ => False) s.heap H locs → ∀ (ls : Array Slot), lv_has ls 3 [(2, .int (nI j1)), (1, .int a1_0), (0, .ref (ad 0))] → W p l e ({ frames := 1, cells := 0, slots := 0, locals := 24 } : Room) s m (([.ref (ad 0)] : List Value).toArray) below meth c H locs 0 0 (MQ below (va_Qi (fun (r9 : Int32) (_ : Unit) => r9 = mPool L 1 n) (fun _ _ => True) (fun _ => False)) (([.ref (ad 0)] : List Value).toArray) s 0 0 (fun _ => False)) (F0 m 4 ls []) := by
    intro k1
    induction k1 with
    | zero =>
      intro j1 hj_1 a1_0 ea1_0 H locs hW hS ls hl
      subst ea1_0
      obtain rfl : n = j1 := by omega
      refine lv_iload_n hx hb dX4_pool_4 rfl (lv_at hl 0 rfl) ?_
      refine lv_aload_n hx hb dX4_pool_5 rfl (lv_at hl 2 rfl) ?_
      refine wb_get hx hb hts hinX4 hown hK hW 0 (Nat.le_of_ble_eq_true rfl) rfl rfl 11 (by decide) hf54 (fun _ h9 => h9) (v := .int (nI n)) rfl dX4_pool_6 ?_
      refine lv_icmp_ge (tgt := 38) hx hb dX4_pool_9 (by decide) (fun c_2 => ?_) (fun c_2 => ?_)
      · -- nI n ge nI n : True
        refine lv_iload_n hx hb dX4_pool_38 rfl (lv_at hl 1 rfl) ?_
        exact W.iret (v := (mPool L 1 n)) hx hb hr (fun t9 ht9 hW9 => ⟨⟨_, (), rfl, (by simp [c_2]), trivial⟩, hS.F ht9⟩) hS.2.2 dX4_pool_39
      · -- nI n ge nI n : False
        exact absurd (by first | exact Int32.le_refl _ | decide) c_2
    | succ k1 ih_1 =>
      intro j1 hj_1 a1_0 ea1_0 H locs hW hS ls hl
      subst ea1_0
      refine lv_iload_n hx hb dX4_pool_4 rfl (lv_at hl 0 rfl) ?_
      refine lv_aload_n hx hb dX4_pool_5 rfl (lv_at hl 2 rfl) ?_
      refine wb_get hx hb hts hinX4 hown hK hW 0 (Nat.le_of_ble_eq_true rfl) rfl rfl 11 (by decide) hf54 (fun _ h9 => h9) (v := .int (nI n)) rfl dX4_pool_6 ?_
      refine lv_icmp_ge (tgt := 38) hx hb dX4_pool_9 (by decide) (fun c_3 => ?_) (fun c_3 => ?_)
      · -- nI j1 ge nI n : True
        exact absurd c_3 (nI_ge (by omega) (by omega))
      · -- nI j1 ge nI n : False
        refine lv_iload_n hx hb dX4_pool_12 rfl (lv_at hl 1 rfl) ?_
        refine lv_aload_n hx hb dX4_pool_13 rfl (lv_at hl 2 rfl) ?_
        refine wb_get hx hb hts hinX4 hown hK hW 0 (Nat.le_of_ble_eq_true rfl) rfl rfl 10 (by decide) hf35 (fun _ h9 => h9) (v := .ref (ad 6)) rfl dX4_pool_14 ?_
        refine lv_iload_n hx hb dX4_pool_17 rfl (lv_at hl 0 rfl) ?_
        refine wb_iald hx hb hK hW 6 (Nat.le_of_ble_eq_true rfl) 0 rfl rfl j1 rfl (by omega) (by decide) dX4_pool_18 ?_
        refine lv_iconst (v := 1) hx hb dX4_pool_19 (by decide) ?_
        refine lv_icmp_ne (tgt := 29) hx hb dX4_pool_20 (by decide) (fun c_4 => ?_) (fun c_4 => ?_)
        · -- L 5 j1 ne 1 : True
          refine lv_iconst (v := 0) hx hb dX4_pool_29 (by decide) ?_
          refine lv_ior hx hb dX4_pool_30 ?_
          refine lv_istore_n (lv' := [(1, .int ((mPool L 1 j1) ||| 0)), (2, .int (nI j1)), (0, .ref (ad 0))]) hx hb dX4_pool_31 rfl hl (by decide) rfl (fun ls hl => ?_)
          refine lv_iinc (v := nI (j1 + 1)) (lv' := [(2, .int (nI (j1 + 1))), (1, .int ((mPool L 1 j1) ||| 0)), (0, .ref (ad 0))]) hx hb dX4_pool_32 hl (k := 1) rfl (nI_1 _) (by decide) rfl (fun ls hl => ?_)
          refine lv_goto (tgt := 4) hx hb dX4_pool_35 (by decide) ?_
          exact ih_1 (j1 + 1) (by omega) _ (by simp [mPool, c_3, c_4])  _ _ hW hS ls (lv_sub hl [0, 1, 2] rfl)
        · -- L 5 j1 ne 1 : False
          refine lv_iconst (v := 1) hx hb dX4_pool_23 (by decide) ?_
          refine lv_iload_n hx hb dX4_pool_24 rfl (lv_at hl 0 rfl) ?_
          refine lv_ishl hx hb dX4_pool_25 ?_
          refine lv_goto (tgt := 30) hx hb dX4_pool_26 (by decide) ?_
          refine lv_ior hx hb dX4_pool_30 ?_
          refine lv_istore_n (lv' := [(1, .int ((mPool L 1 j1) ||| ((1 : Int32) <<< ((nI j1) &&& 31)))), (2, .int (nI j1)), (0, .ref (ad 0))]) hx hb dX4_pool_31 rfl hl (by decide) rfl (fun ls hl => ?_)
          refine lv_iinc (v := nI (j1 + 1)) (lv' := [(2, .int (nI (j1 + 1))), (1, .int ((mPool L 1 j1) ||| ((1 : Int32) <<< ((nI j1) &&& 31)))), (0, .ref (ad 0))]) hx hb dX4_pool_32 hl (k := 1) rfl (nI_1 _) (by decide) rfl (fun ls hl => ?_)
          refine lv_goto (tgt := 4) hx hb dX4_pool_35 (by decide) ?_
          exact ih_1 (j1 + 1) (by omega) _ (by simp [mPool, c_3, c_4])  _ _ hW hS ls (lv_sub hl [0, 1, 2] rfl)
  exact loop_1 (n) 0 (by omega) _ rfl  _ _ hW hS ls (lv_sub hl [0, 1, 2] rfl)

set_option maxHeartbeats 4000000 in
set_option maxRecDepth 100000 in
theorem c_X4_owed (l : Launch) (D : va_G) (cs : Nat → ClassId) (A : Nat → Prop) (ad : Nat → Nat) (g : Nat → Int32) (L B : Nat → Nat → Int32) (n b : Nat) (t : Int32) (hn : n ≤ 12) (hb5 : b ≤ 5)  : Met l yX4_owed wsX4_owed ({ frames := 1, cells := 0, slots := 0, locals := 24 } : Room) (va_Pc [.ref (ad 0)] (pM D cs A ad g L B n b t)) (va_Qi (fun (r9 : Int32) (_ : Unit) => r9 = mOwed B b) (fun _ _ => True) (fun _ => False)) 0 0 (fun _ => False) := by
  refine Met.ofW (cc := cX4_owed) (maxL := 3) (ret := (some .int)) (by decide) rfl ?_
  intro p e s m args below meth c s₁ BB hml hv
  obtain ⟨rfl, hv⟩ := hv
  obtain ⟨hK, hW⟩ := hv
  have hx := BB.exec
  have hb := BB.bytes
  have hr := BB.returns
  have hts := atoms_spec (ws := wsX4_owed) BB.pre
  have hown : s.vm.findClass RX4 = some m.cls := findClass_of_methodNamed BB.named
  have hlocks := BB.notSynchronized
  have hS : va_S (fun _ => False) s.heap s.heap [] := va_S.rf
  have hl := lv_entry ([.ref (ad 0)]) (n := 3) (Nat.le_of_ble_eq_true rfl)
  rw [lg_entry_eq]
  generalize (lg_sl ([.ref (ad 0)]) ++ List.replicate (3 - (lg_sl ([.ref (ad 0)])).length) Slot.unset).toArray = ls at hl ⊢
  have hl : lv_has ls 3 [(0, .ref (ad 0))] := hl
  have hf38 := hts (.fieldLink RX4 38 "CoverpoolModel" "bondAmount" "[I") (by decide +kernel)
  have hf44 := hts (.fieldLink RX4 44 "CoverpoolModel" "bondState" "[I") (by decide +kernel)
  have hf57 := hts (.fieldLink RX4 57 "CoverpoolModel" "bonds" "I") (by decide +kernel)
  have hinX4 : ∀ w ∈ u_ws RX4 TX4 18, w ∈ wsX4_owed := by decide +kernel
  refine lv_iconst (v := 0) hx hb dX4_owed_0 (by decide) ?_
  refine lv_istore_n (lv' := [(1, .int 0), (0, .ref (ad 0))]) hx hb dX4_owed_1 rfl hl (by decide) rfl (fun ls hl => ?_)
  refine lv_iconst (v := 0) hx hb dX4_owed_2 (by decide) ?_
  refine lv_istore_n (lv' := [(2, .int 0), (1, .int 0), (0, .ref (ad 0))]) hx hb dX4_owed_3 rfl hl (by decide) rfl (fun ls hl => ?_)
  have loop_1 : ∀ (k1 j1 : Nat), j1 + k1 = b → ∀ (a1_0 : Int32), a1_0 = mOwed B j1 → ∀ (H : Heap) (locs : List Loc), wP D A lvM ad (ctM cs ad g L B n b t) H → va_S (fun _ => False) s.heap H locs → ∀ (ls : Array Slot), lv_has ls 3 [(2, .int (nI j1)), (1, .int a1_0), (0, .ref (ad 0))] → W p l e ({ frames := 1, cells := 0, slots := 0, locals := 24 } : Room) s m (([.ref (ad 0)] : List Value).toArray) below meth c H locs 0 0 (MQ below (va_Qi (fun (r9 : Int32) (_ : Unit) => r9 = mOwed B b) (fun _ _ => True) (fun _ => False)) (([.ref (ad 0)] : List Value).toArray) s 0 0 (fun _ => False)) (F0 m 4 ls []) := by
    intro k1
    induction k1 with
    | zero =>
      intro j1 hj_1 a1_0 ea1_0 H locs hW hS ls hl
      subst ea1_0
      obtain rfl : b = j1 := by omega
      refine lv_iload_n hx hb dX4_owed_4 rfl (lv_at hl 0 rfl) ?_
      refine lv_aload_n hx hb dX4_owed_5 rfl (lv_at hl 2 rfl) ?_
      refine wb_get hx hb hts hinX4 hown hK hW 0 (Nat.le_of_ble_eq_true rfl) rfl rfl 16 (by decide) hf57 (fun _ h9 => h9) (v := .int (nI b)) rfl dX4_owed_6 ?_
      refine lv_icmp_ge (tgt := 40) hx hb dX4_owed_9 (by decide) (fun c_2 => ?_) (fun c_2 => ?_)
      · -- nI b ge nI b : True
        refine lv_iload_n hx hb dX4_owed_40 rfl (lv_at hl 1 rfl) ?_
        exact W.iret (v := (mOwed B b)) hx hb hr (fun t9 ht9 hW9 => ⟨⟨_, (), rfl, (by simp [c_2]), trivial⟩, hS.F ht9⟩) hS.2.2 dX4_owed_41
      · -- nI b ge nI b : False
        exact absurd (by first | exact Int32.le_refl _ | decide) c_2
    | succ k1 ih_1 =>
      intro j1 hj_1 a1_0 ea1_0 H locs hW hS ls hl
      subst ea1_0
      refine lv_iload_n hx hb dX4_owed_4 rfl (lv_at hl 0 rfl) ?_
      refine lv_aload_n hx hb dX4_owed_5 rfl (lv_at hl 2 rfl) ?_
      refine wb_get hx hb hts hinX4 hown hK hW 0 (Nat.le_of_ble_eq_true rfl) rfl rfl 16 (by decide) hf57 (fun _ h9 => h9) (v := .int (nI b)) rfl dX4_owed_6 ?_
      refine lv_icmp_ge (tgt := 40) hx hb dX4_owed_9 (by decide) (fun c_3 => ?_) (fun c_3 => ?_)
      · -- nI j1 ge nI b : True
        exact absurd c_3 (nI_ge (by omega) (by omega))
      · -- nI j1 ge nI b : False
        refine lv_iload_n hx hb dX4_owed_12 rfl (lv_at hl 1 rfl) ?_
        refine lv_aload_n hx hb dX4_owed_13 rfl (lv_at hl 2 rfl) ?_
        refine wb_get hx hb hts hinX4 hown hK hW 0 (Nat.le_of_ble_eq_true rfl) rfl rfl 14 (by decide) hf44 (fun _ h9 => h9) (v := .ref (ad 9)) rfl dX4_owed_14 ?_
        refine lv_iload_n hx hb dX4_owed_17 rfl (lv_at hl 0 rfl) ?_
        refine wb_iald hx hb hK hW 9 (Nat.le_of_ble_eq_true rfl) 0 rfl rfl j1 rfl (by omega) (by decide) dX4_owed_18 ?_
        refine lv_if_ne (tgt := 31) hx hb dX4_owed_19 (by decide) (fun c_4 => ?_) (fun c_4 => ?_)
        · -- B 2 j1 ne 0 : True
          refine lv_iconst (v := 0) hx hb dX4_owed_31 (by decide) ?_
          refine lv_iadd hx hb dX4_owed_32 ?_
          refine lv_istore_n (lv' := [(1, .int ((mOwed B j1) + 0)), (2, .int (nI j1)), (0, .ref (ad 0))]) hx hb dX4_owed_33 rfl hl (by decide) rfl (fun ls hl => ?_)
          refine lv_iinc (v := nI (j1 + 1)) (lv' := [(2, .int (nI (j1 + 1))), (1, .int ((mOwed B j1) + 0)), (0, .ref (ad 0))]) hx hb dX4_owed_34 hl (k := 1) rfl (nI_1 _) (by decide) rfl (fun ls hl => ?_)
          refine lv_goto (tgt := 4) hx hb dX4_owed_37 (by decide) ?_
          exact ih_1 (j1 + 1) (by omega) _ (by simp [mOwed, c_3, c_4])  _ _ hW hS ls (lv_sub hl [0, 1, 2] rfl)
        · -- B 2 j1 ne 0 : False
          refine lv_aload_n hx hb dX4_owed_22 rfl (lv_at hl 2 rfl) ?_
          refine wb_get hx hb hts hinX4 hown hK hW 0 (Nat.le_of_ble_eq_true rfl) rfl rfl 12 (by decide) hf38 (fun _ h9 => h9) (v := .ref (ad 7)) rfl dX4_owed_23 ?_
          refine lv_iload_n hx hb dX4_owed_26 rfl (lv_at hl 0 rfl) ?_
          refine wb_iald hx hb hK hW 7 (Nat.le_of_ble_eq_true rfl) 0 rfl rfl j1 rfl (by omega) (by decide) dX4_owed_27 ?_
          refine lv_goto (tgt := 32) hx hb dX4_owed_28 (by decide) ?_
          refine lv_iadd hx hb dX4_owed_32 ?_
          refine lv_istore_n (lv' := [(1, .int ((mOwed B j1) + (B 0 j1))), (2, .int (nI j1)), (0, .ref (ad 0))]) hx hb dX4_owed_33 rfl hl (by decide) rfl (fun ls hl => ?_)
          refine lv_iinc (v := nI (j1 + 1)) (lv' := [(2, .int (nI (j1 + 1))), (1, .int ((mOwed B j1) + (B 0 j1))), (0, .ref (ad 0))]) hx hb dX4_owed_34 hl (k := 1) rfl (nI_1 _) (by decide) rfl (fun ls hl => ?_)
          refine lv_goto (tgt := 4) hx hb dX4_owed_37 (by decide) ?_
          exact ih_1 (j1 + 1) (by omega) _ (by simp [mOwed, c_3, c_4])  _ _ hW hS ls (lv_sub hl [0, 1, 2] rfl)
  exact loop_1 (b) 0 (by omega) _ rfl  _ _ hW hS ls (lv_sub hl [0, 1, 2] rfl)

set_option maxHeartbeats 4000000 in
set_option maxRecDepth 100000 in
theorem c_X4_beside (l : Launch) (D : va_G) (cs : Nat → ClassId) (A : Nat → Prop) (ad : Nat → Nat) (g : Nat → Int32) (L B : Nat → Nat → Int32) (n b : Nat) (t : Int32) (hn : n ≤ 12) (hb5 : b ≤ 5)  : Met l yX4_beside wsX4_beside ({ frames := 2, cells := 0, slots := 0, locals := 46 } : Room) (va_Pc [.ref (ad 0)] (pM D cs A ad g L B n b t)) (va_Qi (fun (r9 : Int32) (_ : Unit) => r9 = mBeside g B b) (fun _ _ => True) (fun _ => False)) 0 0 (fun _ => False) := by
  refine Met.ofW (cc := cX4_beside) (maxL := 2) (ret := (some .int)) (by decide) rfl ?_
  intro p e s m args below meth c s₁ BB hml hv
  obtain ⟨rfl, hv⟩ := hv
  obtain ⟨hK, hW⟩ := hv
  have hx := BB.exec
  have hb := BB.bytes
  have hr := BB.returns
  have hts := atoms_spec (ws := wsX4_beside) BB.pre
  have hown : s.vm.findClass RX4 = some m.cls := findClass_of_methodNamed BB.named
  have hlocks := BB.notSynchronized
  have hS : va_S (fun _ => False) s.heap s.heap [] := va_S.rf
  have hl := lv_entry ([.ref (ad 0)]) (n := 2) (Nat.le_of_ble_eq_true rfl)
  rw [lg_entry_eq]
  generalize (lg_sl ([.ref (ad 0)]) ++ List.replicate (2 - (lg_sl ([.ref (ad 0)])).length) Slot.unset).toArray = ls at hl ⊢
  have hl : lv_has ls 2 [(0, .ref (ad 0))] := hl
  have hf64 := hts (.fieldLink RX4 64 "CoverpoolModel" "cash" "I") (by decide +kernel)
  have hinX4 : ∀ w ∈ u_ws RX4 TX4 18, w ∈ wsX4_beside := by decide +kernel
  refine lv_aload_n hx hb dX4_beside_0 rfl (lv_at hl 0 rfl) ?_
  refine va_calli (va_runV (As := []) (rest := []) ⟨hx, hb, hml, hown, hts⟩ (c_X4_owed l D cs A ad g L B n b t hn hb5 ) (cwV 0 hts gX4_beside_X4_owed rfl rfl rfl (by decide +kernel) ⟨Nat.le_of_ble_eq_true rfl, Nat.le_of_ble_eq_true rfl⟩) ⟨pM_fb, wb_recv hK hW (r := 0) (Nat.le_of_ble_eq_true rfl) (ci := 5) rfl rfl, fun U hU hV => ⟨rfl, pM_of hK hV.alike hU hW⟩⟩ rfl rfl hl.1 rfl (lv_room (Nat.le_of_ble_eq_true rfl)) dX4_beside_1 ⟨Nat.zero_le _, Nat.zero_le _⟩) hS (fun _ _ h => h.elim) (fun _ h => h.elim) (fun r_1 u t9 H locs ht hvm hw _ hz1 hk1 hS => ?_)
  have hW := hW.kept hk1
  subst hw
  refine lv_bipush (v := 15) hx hb dX4_beside_4 (by decide) ?_
  refine lv_imul hx hb dX4_beside_6 ?_
  refine lv_bipush (v := 100) hx hb dX4_beside_7 (by decide) ?_
  refine lv_idiv hx hb dX4_beside_9 (by decide) ?_
  refine lv_istore_n (lv' := [(1, .int (((mOwed B b) * 15) / 100)), (0, .ref (ad 0))]) hx hb dX4_beside_10 rfl hl (by decide) rfl (fun ls hl => ?_)
  refine lv_iload_n hx hb dX4_beside_11 rfl (lv_at hl 0 rfl) ?_
  refine lv_aload_n hx hb dX4_beside_12 rfl (lv_at hl 1 rfl) ?_
  refine wb_get hx hb hts hinX4 hown hK hW 0 (Nat.le_of_ble_eq_true rfl) rfl rfl 1 (by decide) hf64 (fun _ h9 => h9) (v := .int (g 1)) rfl dX4_beside_13 ?_
  refine lv_icmp_ge (tgt := 23) hx hb dX4_beside_16 (by decide) (fun c_2 => ?_) (fun c_2 => ?_)
  · -- ((mOwed B b) * 15) / 100 ge g 1 : True
    refine lv_aload_n hx hb dX4_beside_23 rfl (lv_at hl 1 rfl) ?_
    refine wb_get hx hb hts hinX4 hown hK hW 0 (Nat.le_of_ble_eq_true rfl) rfl rfl 1 (by decide) hf64 (fun _ h9 => h9) (v := .int (g 1)) rfl dX4_beside_24 ?_
    exact W.iret (v := g 1) hx hb hr (fun t9 ht9 hW9 => ⟨⟨_, (), rfl, (by simp [mBeside, c_2]), trivial⟩, hS.F ht9⟩) hS.2.2 dX4_beside_27
  · -- ((mOwed B b) * 15) / 100 ge g 1 : False
    refine lv_iload_n hx hb dX4_beside_19 rfl (lv_at hl 0 rfl) ?_
    refine lv_goto (tgt := 27) hx hb dX4_beside_20 (by decide) ?_
    exact W.iret (v := ((mOwed B b) * 15) / 100) hx hb hr (fun t9 ht9 hW9 => ⟨⟨_, (), rfl, (by simp [mBeside, c_2]), trivial⟩, hS.F ht9⟩) hS.2.2 dX4_beside_27

set_option maxHeartbeats 4000000 in
set_option maxRecDepth 100000 in
theorem c_X4_valued (l : Launch) (D : va_G) (cs : Nat → ClassId) (A : Nat → Prop) (ad : Nat → Nat) (g : Nat → Int32) (L B : Nat → Nat → Int32) (n b : Nat) (t : Int32) (hn : n ≤ 12) (hb5 : b ≤ 5) (x w r : Int32) (hne : ¬ 1200 + r * mMonths g w = 0) : Met l yX4_valued wsX4_valued ({ frames := 1, cells := 0, slots := 0, locals := 24 } : Room) (va_Pc [.ref (ad 0), .int x, .int w, .int r] (pM D cs A ad g L B n b t)) (va_Qi (fun (r9 : Int32) (_ : Unit) => r9 = mValued g x w r) (fun _ _ => True) (fun _ => False)) 0 0 (fun _ => False) := by
  refine Met.ofW (cc := cX4_valued) (maxL := 5) (ret := (some .int)) (by decide) rfl ?_
  intro p e s m args below meth c s₁ BB hml hv
  obtain ⟨rfl, hv⟩ := hv
  obtain ⟨hK, hW⟩ := hv
  have hx := BB.exec
  have hb := BB.bytes
  have hr := BB.returns
  have hts := atoms_spec (ws := wsX4_valued) BB.pre
  have hown : s.vm.findClass RX4 = some m.cls := findClass_of_methodNamed BB.named
  have hlocks := BB.notSynchronized
  have hS : va_S (fun _ => False) s.heap s.heap [] := va_S.rf
  have hl := lv_entry ([.ref (ad 0), .int x, .int w, .int r]) (n := 5) (Nat.le_of_ble_eq_true rfl)
  rw [lg_entry_eq]
  generalize (lg_sl ([.ref (ad 0), .int x, .int w, .int r]) ++ List.replicate (5 - (lg_sl ([.ref (ad 0), .int x, .int w, .int r])).length) Slot.unset).toArray = ls at hl ⊢
  have hl : lv_has ls 5 [(0, .ref (ad 0)), (1, .int x), (2, .int w), (3, .int r)] := hl
  have hf67 := hts (.fieldLink RX4 67 "CoverpoolModel" "month" "I") (by decide +kernel)
  have hinX4 : ∀ w ∈ u_ws RX4 TX4 18, w ∈ wsX4_valued := by decide +kernel
  refine lv_iload_n hx hb dX4_valued_0 rfl (lv_at hl 2 rfl) ?_
  refine lv_aload_n hx hb dX4_valued_1 rfl (lv_at hl 0 rfl) ?_
  refine wb_get hx hb hts hinX4 hown hK hW 0 (Nat.le_of_ble_eq_true rfl) rfl rfl 0 (by decide) hf67 (fun _ h9 => h9) (v := .int (g 0)) rfl dX4_valued_2 ?_
  refine lv_icmp_le (tgt := 17) hx hb dX4_valued_5 (by decide) (fun c_1 => ?_) (fun c_1 => ?_)
  · -- w le g 0 : True
    refine lv_iconst (v := 0) hx hb dX4_valued_17 (by decide) ?_
    refine lv_istore (lv' := [(4, .int 0), (0, .ref (ad 0)), (1, .int x), (2, .int w), (3, .int r)]) hx hb dX4_valued_18 hl (by decide) rfl (fun ls hl => ?_)
    refine lv_sipush (v := 1200) hx hb dX4_valued_20 (by decide) ?_
    refine lv_iload_n hx hb dX4_valued_23 rfl (lv_at hl 2 rfl) ?_
    refine lv_imul hx hb dX4_valued_24 ?_
    refine lv_sipush (v := 1200) hx hb dX4_valued_25 (by decide) ?_
    refine lv_iload_n hx hb dX4_valued_28 rfl (lv_at hl 4 rfl) ?_
    refine lv_iload hx hb dX4_valued_29 (lv_at hl 0 rfl) ?_
    refine lv_imul hx hb dX4_valued_31 ?_
    refine lv_iadd hx hb dX4_valued_32 ?_
    refine lv_idiv hx hb dX4_valued_33 (by simpa [mMonths, c_1] using hne) ?_
    exact W.iret (v := (1200 * x) / (1200 + (r * 0))) hx hb hr (fun t9 ht9 hW9 => ⟨⟨_, (), rfl, (by simp [mValued, mMonths, c_1]), trivial⟩, hS.F ht9⟩) hS.2.2 dX4_valued_34
  · -- w le g 0 : False
    refine lv_iload_n hx hb dX4_valued_8 rfl (lv_at hl 2 rfl) ?_
    refine lv_aload_n hx hb dX4_valued_9 rfl (lv_at hl 0 rfl) ?_
    refine wb_get hx hb hts hinX4 hown hK hW 0 (Nat.le_of_ble_eq_true rfl) rfl rfl 0 (by decide) hf67 (fun _ h9 => h9) (v := .int (g 0)) rfl dX4_valued_10 ?_
    refine lv_isub hx hb dX4_valued_13 ?_
    refine lv_goto (tgt := 18) hx hb dX4_valued_14 (by decide) ?_
    refine lv_istore (lv' := [(4, .int (w - (g 0))), (0, .ref (ad 0)), (1, .int x), (2, .int w), (3, .int r)]) hx hb dX4_valued_18 hl (by decide) rfl (fun ls hl => ?_)
    refine lv_sipush (v := 1200) hx hb dX4_valued_20 (by decide) ?_
    refine lv_iload_n hx hb dX4_valued_23 rfl (lv_at hl 2 rfl) ?_
    refine lv_imul hx hb dX4_valued_24 ?_
    refine lv_sipush (v := 1200) hx hb dX4_valued_25 (by decide) ?_
    refine lv_iload_n hx hb dX4_valued_28 rfl (lv_at hl 4 rfl) ?_
    refine lv_iload hx hb dX4_valued_29 (lv_at hl 0 rfl) ?_
    refine lv_imul hx hb dX4_valued_31 ?_
    refine lv_iadd hx hb dX4_valued_32 ?_
    refine lv_idiv hx hb dX4_valued_33 (by simpa [mMonths, c_1] using hne) ?_
    exact W.iret (v := (1200 * x) / (1200 + (r * (w - (g 0))))) hx hb hr (fun t9 ht9 hW9 => ⟨⟨_, (), rfl, (by simp [mValued, mMonths, c_1]), trivial⟩, hS.F ht9⟩) hS.2.2 dX4_valued_34
