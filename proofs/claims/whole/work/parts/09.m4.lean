set_option maxHeartbeats 4000000 in
set_option maxRecDepth 100000 in
theorem c_X4_size (l : Launch) (set : Int32) : Met l yX4_size wsX4_size ({ frames := 1, cells := 0, slots := 0, locals := 24 } : Room) (va_Pc [.int set] (fun _ => True)) (va_Qi (fun (r9 : Int32) (_ : Unit) => r9 = mSize set 12) (fun _ _ => True) (fun _ => False)) 0 0 (fun _ => False) := by
  refine Met.ofW (cc := cX4_size) (maxL := 3) (ret := (some .int)) (by decide) rfl ?_
  intro p e s m args below meth c s₁ BB hml hv
  obtain ⟨rfl, hv⟩ := hv
  have hx := BB.exec
  have hb := BB.bytes
  have hr := BB.returns
  have hts := atoms_spec (ws := wsX4_size) BB.pre
  have hown : s.vm.findClass RX4 = some m.cls := findClass_of_methodNamed BB.named
  have hlocks := BB.notSynchronized
  have hS : va_S (fun _ => False) s.heap s.heap [] := va_S.rf
  have hl := lv_entry ([.int set]) (n := 3) (Nat.le_of_ble_eq_true rfl)
  rw [lg_entry_eq]
  generalize (lg_sl ([.int set]) ++ List.replicate (3 - (lg_sl ([.int set])).length) Slot.unset).toArray = ls at hl ⊢
  have hl : lv_has ls 3 [(0, .int set)] := hl
  refine lv_iconst (v := 0) hx hb dX4_size_0 (by decide) ?_
  refine lv_istore_n (lv' := [(1, .int 0), (0, .int set)]) hx hb dX4_size_1 rfl hl (by decide) rfl (fun ls hl => ?_)
  refine lv_iconst (v := 0) hx hb dX4_size_2 (by decide) ?_
  refine lv_istore_n (lv' := [(2, .int 0), (1, .int 0), (0, .int set)]) hx hb dX4_size_3 rfl hl (by decide) rfl (fun ls hl => ?_)
  have loop_1 : ∀ (k1 j1 : Nat), j1 + k1 = 12 → ∀ (a1_0 : Int32), a1_0 = mSize set j1 → ∀ (H : Heap) (locs : List Loc), va_S (fun _ => False) s.heap H locs → ∀ (ls : Array Slot), lv_has ls 3 [(2, .int (nI j1)), (1, .int a1_0), (0, .int set)] → W p l e ({ frames := 1, cells := 0, slots := 0, locals := 24 } : Room) s m (([.int set] : List Value).toArray) below meth c H locs 0 0 (MQ below (va_Qi (fun (r9 : Int32) (_ : Unit) => r9 = mSize set 12) (fun _ _ => True) (fun _ => False)) (([.int set] : List Value).toArray) s 0 0 (fun _ => False)) (F0 m 4 ls []) := by
    intro k1
    induction k1 with
    | zero =>
      intro j1 hj_1 a1_0 ea1_0 H locs hS ls hl
      subst ea1_0
      obtain rfl : 12 = j1 := by omega
      refine lv_iload_n hx hb dX4_size_4 rfl (lv_at hl 0 rfl) ?_
      refine lv_bipush (v := 12) hx hb dX4_size_5 (by decide) ?_
      refine lv_icmp_ge (tgt := 24) hx hb dX4_size_7 (by decide) (fun c_2 => ?_) (fun c_2 => ?_)
      · -- nI 12 ge 12 : True
        refine lv_iload_n hx hb dX4_size_24 rfl (lv_at hl 1 rfl) ?_
        exact W.iret (v := (mSize set 12)) hx hb hr (fun t9 ht9 hW9 => ⟨⟨_, (), rfl, (by rfl), trivial⟩, hS.F ht9⟩) hS.2.2 dX4_size_25
      · -- nI 12 ge 12 : False
        exact absurd (by decide) c_2
    | succ k1 ih_1 =>
      intro j1 hj_1 a1_0 ea1_0 H locs hS ls hl
      subst ea1_0
      refine lv_iload_n hx hb dX4_size_4 rfl (lv_at hl 0 rfl) ?_
      refine lv_bipush (v := 12) hx hb dX4_size_5 (by decide) ?_
      refine lv_icmp_ge (tgt := 24) hx hb dX4_size_7 (by decide) (fun c_3 => ?_) (fun c_3 => ?_)
      · -- nI j1 ge 12 : True
        exact absurd (show nI 12 ≤ _ from c_3) (nI_ge (by omega) (by omega))
      · -- nI j1 ge 12 : False
        refine lv_iload_n hx hb dX4_size_10 rfl (lv_at hl 1 rfl) ?_
        refine lv_iload_n hx hb dX4_size_11 rfl (lv_at hl 2 rfl) ?_
        refine lv_iload_n hx hb dX4_size_12 rfl (lv_at hl 0 rfl) ?_
        refine lv_ishr hx hb dX4_size_13 ?_
        refine lv_iconst (v := 1) hx hb dX4_size_14 (by decide) ?_
        refine lv_iand hx hb dX4_size_15 ?_
        refine lv_iadd hx hb dX4_size_16 ?_
        refine lv_istore_n (lv' := [(1, .int ((mSize set j1) + ((set >>> ((nI j1) &&& 31)) &&& 1))), (2, .int (nI j1)), (0, .int set)]) hx hb dX4_size_17 rfl hl (by decide) rfl (fun ls hl => ?_)
        refine lv_iinc (v := nI (j1 + 1)) (lv' := [(2, .int (nI (j1 + 1))), (1, .int ((mSize set j1) + ((set >>> ((nI j1) &&& 31)) &&& 1))), (0, .int set)]) hx hb dX4_size_18 hl (k := 1) rfl (nI_1 _) (by decide) rfl (fun ls hl => ?_)
        refine lv_goto (tgt := 4) hx hb dX4_size_21 (by decide) ?_
        exact ih_1 (j1 + 1) (by omega) _ (by simp [mSize, c_3])  _ _ hS ls (lv_sub hl [0, 1, 2] rfl)
  exact loop_1 (12) 0 (by omega) _ (by simp [mSize])  _ _ hS ls (lv_sub hl [0, 1, 2] rfl)

set_option maxHeartbeats 4000000 in
set_option maxRecDepth 100000 in
theorem c_X4_leastToAdd (l : Launch) (D : va_G) (cs : Nat → ClassId) (A : Nat → Prop) (ad : Nat → Nat) (g : Nat → Int32) (L B : Nat → Nat → Int32) (n b : Nat) (t : Int32) (hn : n ≤ 12) (hb5 : b ≤ 5) (dv0 : dvOK g L B n b 0) (dvs : dvOK g L B n b (g 4)) : Met l yX4_leastToAdd wsX4_leastToAdd ({ frames := 6, cells := 0, slots := 0, locals := 139 } : Room) (va_Pc [.ref (ad 0)] (pM D cs A ad g L B n b t)) (va_Qi (fun (r9 : Int32) (_ : Unit) => r9 = mFound g L B n b (2 ^ n)) (fun _ t9 => wP D A lvM ad (ctM cs ad g L B n b 0) t9.heap) A) 0 0 A := by
  refine Met.ofW (cc := cX4_leastToAdd) (maxL := 5) (ret := (some .int)) (by decide) rfl ?_
  intro p e s m args below meth c s₁ BB hml hv
  obtain ⟨rfl, hv⟩ := hv
  obtain ⟨hK, hW⟩ := hv
  have hx := BB.exec
  have hb := BB.bytes
  have hr := BB.returns
  have hts := atoms_spec (ws := wsX4_leastToAdd) BB.pre
  have hown : s.vm.findClass RX4 = some m.cls := findClass_of_methodNamed BB.named
  have hlocks := BB.notSynchronized
  have hS : va_S A s.heap s.heap [] := va_S.rf
  have hl := lv_entry ([.ref (ad 0)]) (n := 5) (Nat.le_of_ble_eq_true rfl)
  rw [lg_entry_eq]
  generalize (lg_sl ([.ref (ad 0)]) ++ List.replicate (5 - (lg_sl ([.ref (ad 0)])).length) Slot.unset).toArray = ls at hl ⊢
  have hl : lv_has ls 5 [(0, .ref (ad 0))] := hl
  have hf35 := hts (.fieldLink RX4 35 "CoverpoolModel" "state" "[I") (by decide +kernel)
  have hf51 := hts (.fieldLink RX4 51 "CoverpoolModel" "thrown" "I") (by decide +kernel)
  have hf54 := hts (.fieldLink RX4 54 "CoverpoolModel" "loans" "I") (by decide +kernel)
  have hinX4 : ∀ w ∈ u_ws RX4 TX4 18, w ∈ wsX4_leastToAdd := by decide +kernel
  have h2n : 2 ^ n ≤ 4096 := Nat.le_trans (Nat.pow_le_pow_right (by decide) hn) (by decide)
  refine lv_aload_n hx hb dX4_leastToAdd_0 rfl (lv_at hl 0 rfl) ?_
  refine lv_iconst (v := 0) hx hb dX4_leastToAdd_1 (by decide) ?_
  refine wb_put (v := .int 0) (ty := .int) hx hb hts hinX4 tyX4 tyX4_ok nmX4 hown hK hW hS 0 (Nat.le_of_ble_eq_true rfl) rfl rfl 17 (by decide) hf51 (fun _ h9 => h9) rfl (by decide +kernel) rfl rfl (Nat.le_of_ble_eq_true rfl) dX4_leastToAdd_2 (fun H locs hW hS => ?_)
  have hW : wP D A lvM ad (ctM cs ad g L B n b 0) H := hW.to (fun r hr => ⟨hr, rfl, by rcases lt11 hr with rfl | rfl | rfl | rfl | rfl | rfl | rfl | rfl | rfl | rfl | rfl <;> rfl⟩)
  refine lv_iconst (v := 0) hx hb dX4_leastToAdd_5 (by decide) ?_
  refine lv_istore_n (lv' := [(1, .int 0), (0, .ref (ad 0))]) hx hb dX4_leastToAdd_6 rfl hl (by decide) rfl (fun ls hl => ?_)
  refine lv_iconst (v := 0) hx hb dX4_leastToAdd_7 (by decide) ?_
  refine lv_istore_n (lv' := [(2, .int 0), (1, .int 0), (0, .ref (ad 0))]) hx hb dX4_leastToAdd_8 rfl hl (by decide) rfl (fun ls hl => ?_)
  have loop_2 : ∀ (k2 j2 : Nat), j2 + k2 = n → ∀ (a2_0 : Int32), a2_0 = mPool L 0 j2 → ∀ (H : Heap) (locs : List Loc), wP D A lvM ad (ctM cs ad g L B n b 0) H → va_S A s.heap H locs → ∀ (ls : Array Slot), lv_has ls 5 [(2, .int (nI j2)), (1, .int a2_0), (0, .ref (ad 0))] → W p l e ({ frames := 6, cells := 0, slots := 0, locals := 139 } : Room) s m (([.ref (ad 0)] : List Value).toArray) below meth c H locs 0 0 (MQ below (va_Qi (fun (r9 : Int32) (_ : Unit) => r9 = mFound g L B n b (2 ^ n)) (fun _ t9 => wP D A lvM ad (ctM cs ad g L B n b 0) t9.heap) A) (([.ref (ad 0)] : List Value).toArray) s 0 0 A) (F0 m 9 ls []) := by
    intro k2
    induction k2 with
    | zero =>
      intro j2 hj_2 a2_0 ea2_0 H locs hW hS ls hl
      subst ea2_0
      obtain rfl : n = j2 := by omega
      refine lv_iload_n hx hb dX4_leastToAdd_9 rfl (lv_at hl 0 rfl) ?_
      refine lv_aload_n hx hb dX4_leastToAdd_10 rfl (lv_at hl 2 rfl) ?_
      refine wb_get hx hb hts hinX4 hown hK hW 0 (Nat.le_of_ble_eq_true rfl) rfl rfl 11 (by decide) hf54 (fun _ h9 => h9) (v := .int (nI n)) rfl dX4_leastToAdd_11 ?_
      refine lv_icmp_ge (tgt := 42) hx hb dX4_leastToAdd_14 (by decide) (fun c_3 => ?_) (fun c_3 => ?_)
      · -- nI n ge nI n : True
        refine lv_aload_n hx hb dX4_leastToAdd_42 rfl (lv_at hl 2 rfl) ?_
        refine va_calli (va_runV (As := []) (rest := []) ⟨hx, hb, hml, hown, hts⟩ (c_X4_pool l D cs A ad g L B n b 0 hn hb5 ) (cwV 0 hts gX4_leastToAdd_X4_pool rfl rfl rfl (by decide +kernel) ⟨Nat.le_of_ble_eq_true rfl, Nat.le_of_ble_eq_true rfl⟩) ⟨pM_fb, wb_recv hK hW (r := 0) (Nat.le_of_ble_eq_true rfl) (ci := 5) rfl rfl, fun U hU hV => ⟨rfl, pM_of hK hV.alike hU hW⟩⟩ rfl rfl hl.1 rfl (lv_room (Nat.le_of_ble_eq_true rfl)) dX4_leastToAdd_43 ⟨Nat.zero_le _, Nat.zero_le _⟩) hS (fun _ _ h => h.elim) (fun _ h => h.elim) (fun r_4 u t9 H locs ht hvm hw _ hz1 hk1 hS => ?_)
        have hW := hW.kept hk1
        subst hw
        refine lv_istore_n (lv' := [(2, .int (mPool L 1 n)), (1, .int (mPool L 0 n)), (0, .ref (ad 0))]) hx hb dX4_leastToAdd_46 rfl hl (by decide) rfl (fun ls hl => ?_)
        refine lv_iconst (v := (-1)) hx hb dX4_leastToAdd_47 (by decide) ?_
        refine lv_istore_n (lv' := [(3, .int (-1)), (2, .int (mPool L 1 n)), (1, .int (mPool L 0 n)), (0, .ref (ad 0))]) hx hb dX4_leastToAdd_48 rfl hl (by decide) rfl (fun ls hl => ?_)
        refine lv_iconst (v := 0) hx hb dX4_leastToAdd_49 (by decide) ?_
        refine lv_istore (lv' := [(4, .int 0), (3, .int (-1)), (2, .int (mPool L 1 n)), (1, .int (mPool L 0 n)), (0, .ref (ad 0))]) hx hb dX4_leastToAdd_50 hl (by decide) rfl (fun ls hl => ?_)
        have loop_5 : ∀ (k5 j5 : Nat), j5 + k5 = 2 ^ n → ∀ (a5_0 : Int32), a5_0 = mFound g L B n b j5 → ∀ (H : Heap) (locs : List Loc), wP D A lvM ad (ctM cs ad g L B n b 0) H → va_S A s.heap H locs → ∀ (ls : Array Slot), lv_has ls 5 [(4, .int (nI j5)), (3, .int a5_0), (2, .int (mPool L 1 n)), (1, .int (mPool L 0 n)), (0, .ref (ad 0))] → W p l e ({ frames := 6, cells := 0, slots := 0, locals := 139 } : Room) s m (([.ref (ad 0)] : List Value).toArray) below meth c H locs 0 0 (MQ below (va_Qi (fun (r9 : Int32) (_ : Unit) => r9 = mFound g L B n b (2 ^ n)) (fun _ t9 => wP D A lvM ad (ctM cs ad g L B n b 0) t9.heap) A) (([.ref (ad 0)] : List Value).toArray) s 0 0 A) (F0 m 52 ls []) := by
          intro k5
          induction k5 with
          | zero =>
            intro j5 hj_5 a5_0 ea5_0 H locs hW hS ls hl
            subst ea5_0
            obtain rfl : 2 ^ n = j5 := by omega
            refine lv_iload hx hb dX4_leastToAdd_52 (lv_at hl 0 rfl) ?_
            refine lv_iconst (v := 1) hx hb dX4_leastToAdd_54 (by decide) ?_
            refine lv_aload_n hx hb dX4_leastToAdd_55 rfl (lv_at hl 4 rfl) ?_
            refine wb_get hx hb hts hinX4 hown hK hW 0 (Nat.le_of_ble_eq_true rfl) rfl rfl 11 (by decide) hf54 (fun _ h9 => h9) (v := .int (nI n)) rfl dX4_leastToAdd_56 ?_
            refine lv_ishl hx hb dX4_leastToAdd_59 ?_
            rw [shl_one hn]
            refine lv_icmp_ge (tgt := 108) hx hb dX4_leastToAdd_60 (by decide) (fun c_6 => ?_) (fun c_6 => ?_)
            · -- nI (2 ^ n) ge nI (2 ^ n) : True
              refine lv_iload_n hx hb dX4_leastToAdd_108 rfl (lv_at hl 1 rfl) ?_
              exact W.iret (v := (mFound g L B n b (2 ^ n))) hx hb hr (fun t9 ht9 hW9 => ⟨⟨_, (), rfl, (by rfl), (by dsimp only; rw [ht9]; exact hW)⟩, hS.F ht9⟩) hS.2.2 dX4_leastToAdd_109
            · -- nI (2 ^ n) ge nI (2 ^ n) : False
              exact absurd (by first | exact Int32.le_refl _ | decide) c_6
          | succ k5 ih_5 =>
            intro j5 hj_5 a5_0 ea5_0 H locs hW hS ls hl
            subst ea5_0
            refine lv_iload hx hb dX4_leastToAdd_52 (lv_at hl 0 rfl) ?_
            refine lv_iconst (v := 1) hx hb dX4_leastToAdd_54 (by decide) ?_
            refine lv_aload_n hx hb dX4_leastToAdd_55 rfl (lv_at hl 4 rfl) ?_
            refine wb_get hx hb hts hinX4 hown hK hW 0 (Nat.le_of_ble_eq_true rfl) rfl rfl 11 (by decide) hf54 (fun _ h9 => h9) (v := .int (nI n)) rfl dX4_leastToAdd_56 ?_
            refine lv_ishl hx hb dX4_leastToAdd_59 ?_
            rw [shl_one hn]
            refine lv_icmp_ge (tgt := 108) hx hb dX4_leastToAdd_60 (by decide) (fun c_7 => ?_) (fun c_7 => ?_)
            · -- nI j5 ge nI (2 ^ n) : True
              exact absurd c_7 (nI_ge (by omega) (by omega))
            · -- nI j5 ge nI (2 ^ n) : False
              refine lv_iload hx hb dX4_leastToAdd_63 (lv_at hl 0 rfl) ?_
              refine lv_iload_n hx hb dX4_leastToAdd_65 rfl (lv_at hl 3 rfl) ?_
              refine lv_iconst (v := (-1)) hx hb dX4_leastToAdd_66 (by decide) ?_
              refine lv_ixor hx hb dX4_leastToAdd_67 ?_
              refine lv_iand hx hb dX4_leastToAdd_68 ?_
              refine lv_if_ne (tgt := 102) hx hb dX4_leastToAdd_69 (by decide) (fun c_8 => ?_) (fun c_8 => ?_)
              · -- (nI j5) &&& ((mPool L 0 n) ^^^ (-1)) ne 0 : True
                refine lv_iinc (v := nI (j5 + 1)) (lv' := [(4, .int (nI (j5 + 1))), (3, .int (mFound g L B n b j5)), (2, .int (mPool L 1 n)), (1, .int (mPool L 0 n)), (0, .ref (ad 0))]) hx hb dX4_leastToAdd_102 hl (k := 0) rfl (nI_1 _) (by decide) rfl (fun ls hl => ?_)
                refine lv_goto (tgt := 52) hx hb dX4_leastToAdd_105 (by decide) ?_
                exact ih_5 (j5 + 1) (by omega) _ (by first | (simp only [mFound, c_3, c_7, c_8, reduceIte]; done) | simp [mFound, c_3, c_7, c_8])  _ _ hW hS ls (lv_sub hl [0, 1, 2, 3, 4] rfl)
              · -- (nI j5) &&& ((mPool L 0 n) ^^^ (-1)) ne 0 : False
                refine lv_iload_n hx hb dX4_leastToAdd_72 rfl (lv_at hl 1 rfl) ?_
                refine lv_if_lt (tgt := 88) hx hb dX4_leastToAdd_73 (by decide) (fun c_9 => ?_) (fun c_9 => ?_)
                · -- (mFound g L B n b j5) lt 0 : True
                  refine lv_aload_n hx hb dX4_leastToAdd_88 rfl (lv_at hl 4 rfl) ?_
                  refine lv_iload_n hx hb dX4_leastToAdd_89 rfl (lv_at hl 2 rfl) ?_
                  refine lv_iload hx hb dX4_leastToAdd_90 (lv_at hl 0 rfl) ?_
                  refine lv_ior hx hb dX4_leastToAdd_92 ?_
                  refine va_calli (va_runV (As := [.int ((mPool L 1 n) ||| (nI j5))]) (rest := []) ⟨hx, hb, hml, hown, hts⟩ (c_X4_isSafe l D cs A ad g L B n b 0 hn hb5 ((mPool L 1 n) ||| (nI j5)) dv0 dvs) (cwV 1 hts gX4_leastToAdd_X4_isSafe rfl rfl rfl (by decide +kernel) ⟨Nat.le_of_ble_eq_true rfl, Nat.le_of_ble_eq_true rfl⟩) ⟨pM_fb, wb_recv hK hW (r := 0) (Nat.le_of_ble_eq_true rfl) (ci := 5) rfl rfl, fun U hU hV => ⟨rfl, pM_of hK hV.alike hU hW⟩⟩ rfl rfl hl.1 rfl (lv_room (Nat.le_of_ble_eq_true rfl)) dX4_leastToAdd_93 ⟨Nat.zero_le _, Nat.zero_le _⟩) hS (fun _ _ h => h.elim) (fun _ h => h.elim) (fun r_10 u t9 H locs ht hvm hw _ hz1 hk1 hS => ?_)
                  have hW := hW.kept hk1
                  rcases hw with ⟨rfl, hp_10⟩ | ⟨rfl, hp_10⟩
                  ·
                    refine lv_if_eq (tgt := 102) hx hb dX4_leastToAdd_96 (by decide) (fun c_11 => ?_) (fun c_11 => ?_)
                    · -- 1 eq 0 : True
                      exact absurd c_11 (by decide)
                    · -- 1 eq 0 : False
                      refine lv_iload hx hb dX4_leastToAdd_99 (lv_at hl 0 rfl) ?_
                      refine lv_istore_n (lv' := [(3, .int (nI j5)), (4, .int (nI j5)), (2, .int (mPool L 1 n)), (1, .int (mPool L 0 n)), (0, .ref (ad 0))]) hx hb dX4_leastToAdd_101 rfl hl (by decide) rfl (fun ls hl => ?_)
                      refine lv_iinc (v := nI (j5 + 1)) (lv' := [(4, .int (nI (j5 + 1))), (3, .int (nI j5)), (2, .int (mPool L 1 n)), (1, .int (mPool L 0 n)), (0, .ref (ad 0))]) hx hb dX4_leastToAdd_102 hl (k := 1) rfl (nI_1 _) (by decide) rfl (fun ls hl => ?_)
                      refine lv_goto (tgt := 52) hx hb dX4_leastToAdd_105 (by decide) ?_
                      exact ih_5 (j5 + 1) (by omega) _ (by first | (simp only [mFound, c_3, c_7, c_8, c_9, (eq_true hp_10), c_11, reduceIte]; done) | simp [mFound, c_3, c_7, c_8, c_9, (eq_true hp_10), c_11])  _ _ hW hS ls (lv_sub hl [0, 1, 2, 3, 4] rfl)
                  ·
                    refine lv_if_eq (tgt := 102) hx hb dX4_leastToAdd_96 (by decide) (fun c_12 => ?_) (fun c_12 => ?_)
                    · -- 0 eq 0 : True
                      refine lv_iinc (v := nI (j5 + 1)) (lv' := [(4, .int (nI (j5 + 1))), (3, .int (mFound g L B n b j5)), (2, .int (mPool L 1 n)), (1, .int (mPool L 0 n)), (0, .ref (ad 0))]) hx hb dX4_leastToAdd_102 hl (k := 0) rfl (nI_1 _) (by decide) rfl (fun ls hl => ?_)
                      refine lv_goto (tgt := 52) hx hb dX4_leastToAdd_105 (by decide) ?_
                      exact ih_5 (j5 + 1) (by omega) _ (by first | (simp only [mFound, c_3, c_7, c_8, c_9, (eq_false hp_10), c_12, reduceIte]; done) | simp [mFound, c_3, c_7, c_8, c_9, (eq_false hp_10), c_12])  _ _ hW hS ls (lv_sub hl [0, 1, 2, 3, 4] rfl)
                    · -- 0 eq 0 : False
                      exact absurd c_12 (by decide)
                · -- (mFound g L B n b j5) lt 0 : False
                  refine lv_iload hx hb dX4_leastToAdd_76 (lv_at hl 0 rfl) ?_
                  refine va_calli (va_runS (As := [.int (nI j5)]) (rest := []) ⟨hx, hb, hml, hown, hts⟩ (c_X4_size l (nI j5)) (va_cwS 1 hts gX4_leastToAdd_X4_size rfl rfl rfl (by decide +kernel) ⟨Nat.le_of_ble_eq_true rfl, Nat.le_of_ble_eq_true rfl⟩) ⟨pT_fb, fun U hU hV => ⟨rfl, trivial⟩⟩ rfl rfl hl.1 rfl (lv_room (Nat.le_of_ble_eq_true rfl)) dX4_leastToAdd_78 ⟨Nat.zero_le _, Nat.zero_le _⟩) hS (fun _ _ h => h.elim) (fun _ h => h.elim) (fun r_13 u t9 H locs ht hvm hw _ hz1 hk1 hS => ?_)
                  have hW := hW.kept hk1
                  subst hw
                  refine lv_iload_n hx hb dX4_leastToAdd_81 rfl (lv_at hl 1 rfl) ?_
                  refine va_calli (va_runS (As := [.int (mFound g L B n b j5)]) (rest := [.int (mSize (nI j5) 12)]) ⟨hx, hb, hml, hown, hts⟩ (c_X4_size l (mFound g L B n b j5)) (va_cwS 1 hts gX4_leastToAdd_X4_size rfl rfl rfl (by decide +kernel) ⟨Nat.le_of_ble_eq_true rfl, Nat.le_of_ble_eq_true rfl⟩) ⟨pT_fb, fun U hU hV => ⟨rfl, trivial⟩⟩ rfl rfl hl.1 rfl (lv_room (Nat.le_of_ble_eq_true rfl)) dX4_leastToAdd_82 ⟨Nat.zero_le _, Nat.zero_le _⟩) hS (fun _ _ h => h.elim) (fun _ h => h.elim) (fun r_14 u t9 H locs ht hvm hw _ hz1 hk1 hS => ?_)
                  have hW := hW.kept hk1
                  subst hw
                  refine lv_icmp_ge (tgt := 102) hx hb dX4_leastToAdd_85 (by decide) (fun c_15 => ?_) (fun c_15 => ?_)
                  · -- mSize (nI j5) 12 ge mSize (mFound g L B n b j5) 12 : True
                    refine lv_iinc (v := nI (j5 + 1)) (lv' := [(4, .int (nI (j5 + 1))), (3, .int (mFound g L B n b j5)), (2, .int (mPool L 1 n)), (1, .int (mPool L 0 n)), (0, .ref (ad 0))]) hx hb dX4_leastToAdd_102 hl (k := 0) rfl (nI_1 _) (by decide) rfl (fun ls hl => ?_)
                    refine lv_goto (tgt := 52) hx hb dX4_leastToAdd_105 (by decide) ?_
                    exact ih_5 (j5 + 1) (by omega) _ (by first | (simp only [mFound, c_3, c_7, c_8, c_9, c_15, reduceIte]; done) | simp [mFound, c_3, c_7, c_8, c_9, c_15])  _ _ hW hS ls (lv_sub hl [0, 1, 2, 3, 4] rfl)
                  · -- mSize (nI j5) 12 ge mSize (mFound g L B n b j5) 12 : False
                    refine lv_aload_n hx hb dX4_leastToAdd_88 rfl (lv_at hl 4 rfl) ?_
                    refine lv_iload_n hx hb dX4_leastToAdd_89 rfl (lv_at hl 2 rfl) ?_
                    refine lv_iload hx hb dX4_leastToAdd_90 (lv_at hl 0 rfl) ?_
                    refine lv_ior hx hb dX4_leastToAdd_92 ?_
                    refine va_calli (va_runV (As := [.int ((mPool L 1 n) ||| (nI j5))]) (rest := []) ⟨hx, hb, hml, hown, hts⟩ (c_X4_isSafe l D cs A ad g L B n b 0 hn hb5 ((mPool L 1 n) ||| (nI j5)) dv0 dvs) (cwV 1 hts gX4_leastToAdd_X4_isSafe rfl rfl rfl (by decide +kernel) ⟨Nat.le_of_ble_eq_true rfl, Nat.le_of_ble_eq_true rfl⟩) ⟨pM_fb, wb_recv hK hW (r := 0) (Nat.le_of_ble_eq_true rfl) (ci := 5) rfl rfl, fun U hU hV => ⟨rfl, pM_of hK hV.alike hU hW⟩⟩ rfl rfl hl.1 rfl (lv_room (Nat.le_of_ble_eq_true rfl)) dX4_leastToAdd_93 ⟨Nat.zero_le _, Nat.zero_le _⟩) hS (fun _ _ h => h.elim) (fun _ h => h.elim) (fun r_16 u t9 H locs ht hvm hw _ hz1 hk1 hS => ?_)
                    have hW := hW.kept hk1
                    rcases hw with ⟨rfl, hp_16⟩ | ⟨rfl, hp_16⟩
                    ·
                      refine lv_if_eq (tgt := 102) hx hb dX4_leastToAdd_96 (by decide) (fun c_17 => ?_) (fun c_17 => ?_)
                      · -- 1 eq 0 : True
                        exact absurd c_17 (by decide)
                      · -- 1 eq 0 : False
                        refine lv_iload hx hb dX4_leastToAdd_99 (lv_at hl 0 rfl) ?_
                        refine lv_istore_n (lv' := [(3, .int (nI j5)), (4, .int (nI j5)), (2, .int (mPool L 1 n)), (1, .int (mPool L 0 n)), (0, .ref (ad 0))]) hx hb dX4_leastToAdd_101 rfl hl (by decide) rfl (fun ls hl => ?_)
                        refine lv_iinc (v := nI (j5 + 1)) (lv' := [(4, .int (nI (j5 + 1))), (3, .int (nI j5)), (2, .int (mPool L 1 n)), (1, .int (mPool L 0 n)), (0, .ref (ad 0))]) hx hb dX4_leastToAdd_102 hl (k := 1) rfl (nI_1 _) (by decide) rfl (fun ls hl => ?_)
                        refine lv_goto (tgt := 52) hx hb dX4_leastToAdd_105 (by decide) ?_
                        exact ih_5 (j5 + 1) (by omega) _ (by first | (simp only [mFound, c_3, c_7, c_8, c_9, c_15, (eq_true hp_16), c_17, reduceIte]; done) | simp [mFound, c_3, c_7, c_8, c_9, c_15, (eq_true hp_16), c_17])  _ _ hW hS ls (lv_sub hl [0, 1, 2, 3, 4] rfl)
                    ·
                      refine lv_if_eq (tgt := 102) hx hb dX4_leastToAdd_96 (by decide) (fun c_18 => ?_) (fun c_18 => ?_)
                      · -- 0 eq 0 : True
                        refine lv_iinc (v := nI (j5 + 1)) (lv' := [(4, .int (nI (j5 + 1))), (3, .int (mFound g L B n b j5)), (2, .int (mPool L 1 n)), (1, .int (mPool L 0 n)), (0, .ref (ad 0))]) hx hb dX4_leastToAdd_102 hl (k := 0) rfl (nI_1 _) (by decide) rfl (fun ls hl => ?_)
                        refine lv_goto (tgt := 52) hx hb dX4_leastToAdd_105 (by decide) ?_
                        exact ih_5 (j5 + 1) (by omega) _ (by first | (simp only [mFound, c_3, c_7, c_8, c_9, c_15, (eq_false hp_16), c_18, reduceIte]; done) | simp [mFound, c_3, c_7, c_8, c_9, c_15, (eq_false hp_16), c_18])  _ _ hW hS ls (lv_sub hl [0, 1, 2, 3, 4] rfl)
                      · -- 0 eq 0 : False
                        exact absurd c_18 (by decide)
        exact loop_5 (2 ^ n) 0 (by omega) _ rfl  _ _ hW hS ls (lv_sub hl [0, 1, 2, 3, 4] rfl)
      · -- nI n ge nI n : False
        exact absurd (by first | exact Int32.le_refl _ | decide) c_3
    | succ k2 ih_2 =>
      intro j2 hj_2 a2_0 ea2_0 H locs hW hS ls hl
      subst ea2_0
      refine lv_iload_n hx hb dX4_leastToAdd_9 rfl (lv_at hl 0 rfl) ?_
      refine lv_aload_n hx hb dX4_leastToAdd_10 rfl (lv_at hl 2 rfl) ?_
      refine wb_get hx hb hts hinX4 hown hK hW 0 (Nat.le_of_ble_eq_true rfl) rfl rfl 11 (by decide) hf54 (fun _ h9 => h9) (v := .int (nI n)) rfl dX4_leastToAdd_11 ?_
      refine lv_icmp_ge (tgt := 42) hx hb dX4_leastToAdd_14 (by decide) (fun c_19 => ?_) (fun c_19 => ?_)
      · -- nI j2 ge nI n : True
        exact absurd c_19 (nI_ge (by omega) (by omega))
      · -- nI j2 ge nI n : False
        refine lv_iload_n hx hb dX4_leastToAdd_17 rfl (lv_at hl 1 rfl) ?_
        refine lv_aload_n hx hb dX4_leastToAdd_18 rfl (lv_at hl 2 rfl) ?_
        refine wb_get hx hb hts hinX4 hown hK hW 0 (Nat.le_of_ble_eq_true rfl) rfl rfl 10 (by decide) hf35 (fun _ h9 => h9) (v := .ref (ad 6)) rfl dX4_leastToAdd_19 ?_
        refine lv_iload_n hx hb dX4_leastToAdd_22 rfl (lv_at hl 0 rfl) ?_
        refine wb_iald hx hb hK hW 6 (Nat.le_of_ble_eq_true rfl) 0 rfl rfl j2 rfl (by omega) (by decide) dX4_leastToAdd_23 ?_
        refine lv_if_ne (tgt := 33) hx hb dX4_leastToAdd_24 (by decide) (fun c_20 => ?_) (fun c_20 => ?_)
        · -- L 5 j2 ne 0 : True
          refine lv_iconst (v := 0) hx hb dX4_leastToAdd_33 (by decide) ?_
          refine lv_ior hx hb dX4_leastToAdd_34 ?_
          refine lv_istore_n (lv' := [(1, .int ((mPool L 0 j2) ||| 0)), (2, .int (nI j2)), (0, .ref (ad 0))]) hx hb dX4_leastToAdd_35 rfl hl (by decide) rfl (fun ls hl => ?_)
          refine lv_iinc (v := nI (j2 + 1)) (lv' := [(2, .int (nI (j2 + 1))), (1, .int ((mPool L 0 j2) ||| 0)), (0, .ref (ad 0))]) hx hb dX4_leastToAdd_36 hl (k := 1) rfl (nI_1 _) (by decide) rfl (fun ls hl => ?_)
          refine lv_goto (tgt := 9) hx hb dX4_leastToAdd_39 (by decide) ?_
          exact ih_2 (j2 + 1) (by omega) _ (by simp [mPool, c_19, c_20])  _ _ hW hS ls (lv_sub hl [0, 1, 2] rfl)
        · -- L 5 j2 ne 0 : False
          refine lv_iconst (v := 1) hx hb dX4_leastToAdd_27 (by decide) ?_
          refine lv_iload_n hx hb dX4_leastToAdd_28 rfl (lv_at hl 0 rfl) ?_
          refine lv_ishl hx hb dX4_leastToAdd_29 ?_
          refine lv_goto (tgt := 34) hx hb dX4_leastToAdd_30 (by decide) ?_
          refine lv_ior hx hb dX4_leastToAdd_34 ?_
          refine lv_istore_n (lv' := [(1, .int ((mPool L 0 j2) ||| ((1 : Int32) <<< ((nI j2) &&& 31)))), (2, .int (nI j2)), (0, .ref (ad 0))]) hx hb dX4_leastToAdd_35 rfl hl (by decide) rfl (fun ls hl => ?_)
          refine lv_iinc (v := nI (j2 + 1)) (lv' := [(2, .int (nI (j2 + 1))), (1, .int ((mPool L 0 j2) ||| ((1 : Int32) <<< ((nI j2) &&& 31)))), (0, .ref (ad 0))]) hx hb dX4_leastToAdd_36 hl (k := 1) rfl (nI_1 _) (by decide) rfl (fun ls hl => ?_)
          refine lv_goto (tgt := 9) hx hb dX4_leastToAdd_39 (by decide) ?_
          exact ih_2 (j2 + 1) (by omega) _ (by simp [mPool, c_19, c_20])  _ _ hW hS ls (lv_sub hl [0, 1, 2] rfl)
  exact loop_2 (n) 0 (by omega) _ rfl  _ _ hW hS ls (lv_sub hl [0, 1, 2] rfl)

set_option maxHeartbeats 4000000 in
set_option maxRecDepth 100000 in
theorem c_X4_leastToAddByAll (l : Launch) (D : va_G) (cs : Nat → ClassId) (A : Nat → Prop) (ad : Nat → Nat) (g : Nat → Int32) (L B : Nat → Nat → Int32) (n b : Nat) (t : Int32) (hn : n ≤ 12) (hb5 : b ≤ 5) (dv0 : dvOK g L B n b 0) (dvs : dvOK g L B n b (g 4)) : Met l yX4_leastToAddByAll wsX4_leastToAddByAll ({ frames := 7, cells := 0, slots := 0, locals := 163 } : Room) (va_Pc [.ref (ad 0)] (pM D cs A ad g L B n b t)) (va_Qi (fun (r9 : Int32) (_ : Unit) => r9 = mFound g L B n b (2 ^ n)) (fun _ t9 => wP D A lvM ad (ctM cs ad g L B n b 0) t9.heap) A) 0 0 A := by
  refine Met.ofW (cc := cX4_leastToAddByAll) (maxL := 1) (ret := (some .int)) (by decide) rfl ?_
  intro p e s m args below meth c s₁ BB hml hv
  obtain ⟨rfl, hv⟩ := hv
  obtain ⟨hK, hW⟩ := hv
  have hx := BB.exec
  have hb := BB.bytes
  have hr := BB.returns
  have hts := atoms_spec (ws := wsX4_leastToAddByAll) BB.pre
  have hown : s.vm.findClass RX4 = some m.cls := findClass_of_methodNamed BB.named
  have hlocks := BB.notSynchronized
  have hS : va_S A s.heap s.heap [] := va_S.rf
  have hl := lv_entry ([.ref (ad 0)]) (n := 1) (Nat.le_of_ble_eq_true rfl)
  rw [lg_entry_eq]
  generalize (lg_sl ([.ref (ad 0)]) ++ List.replicate (1 - (lg_sl ([.ref (ad 0)])).length) Slot.unset).toArray = ls at hl ⊢
  have hl : lv_has ls 1 [(0, .ref (ad 0))] := hl
  refine lv_aload_n hx hb dX4_leastToAddByAll_0 rfl (lv_at hl 0 rfl) ?_
  refine va_calli (va_runV (As := []) (rest := []) ⟨hx, hb, hml, hown, hts⟩ (c_X4_leastToAdd l D cs A ad g L B n b t hn hb5  dv0 dvs) (cwV 0 hts gX4_leastToAddByAll_X4_leastToAdd rfl rfl rfl (by decide +kernel) ⟨Nat.le_of_ble_eq_true rfl, Nat.le_of_ble_eq_true rfl⟩) ⟨pM_fb, wb_recv hK hW (r := 0) (Nat.le_of_ble_eq_true rfl) (ci := 5) rfl rfl, fun U hU hV => ⟨rfl, pM_of hK hV.alike hU hW⟩⟩ rfl rfl hl.1 rfl (lv_room (Nat.le_of_ble_eq_true rfl)) dX4_leastToAddByAll_1 ⟨Nat.zero_le _, Nat.zero_le _⟩) hS (fun _ _ h => h) (fun _ h => h) (fun r_1 u t9 H locs ht hvm hw hB hz1 hk1 hS => ?_)
  have hW : wP D A lvM ad (ctM cs ad g L B n b 0) H := by rw [← ht]; exact hB
  subst hw
  exact W.iret (v := mFound g L B n b (2 ^ n)) hx hb hr (fun t9 ht9 hW9 => ⟨⟨_, (), rfl, (by rfl), (by dsimp only; rw [ht9]; exact hW)⟩, hS.F ht9⟩) hS.2.2 dX4_leastToAddByAll_4

set_option maxHeartbeats 4000000 in
set_option maxRecDepth 100000 in
theorem c_X4_swap (l : Launch) (D : va_G) (cs : Nat → ClassId) (A : Nat → Prop) (ad : Nat → Nat) (g : Nat → Int32) (L B : Nat → Nat → Int32) (n b : Nat) (t : Int32) (hn : n ≤ 12) (hb5 : b ≤ 5) (x : Int32) (y : Int32) (dv0 : dvOK g L B n b 0) (dvs : dvOK g L B n b (g 4)) : Met l yX4_swap wsX4_swap ({ frames := 5, cells := 0, slots := 0, locals := 118 } : Room) (va_Pc [.ref (ad 0), .int x, .int y] (pM D cs A ad g L B n b t)) (va_Qi (fun (r9 : Int32) (_ : Unit) => (r9 = 1 ∧ (kSwap L n x y = 0 ∧ canSwap g L B n b x y)) ∨ (r9 = 0 ∧ ¬ (kSwap L n x y = 0 ∧ canSwap g L B n b x y))) (fun _ t9 => wP D A lvM ad (ctM cs ad g (sel (kSwap L n x y) (if canSwap g L B n b x y then updL (updL L 5 (ixN x) 0) 5 (ixN y) 1 else L) L) B n b (kSwap L n x y)) t9.heap) A) 0 0 A := by
  refine Met.ofW (cc := cX4_swap) (maxL := 8) (ret := (some .boolean)) (by decide) rfl ?_
  intro p e s m args below meth c s₁ BB hml hv
  obtain ⟨rfl, hv⟩ := hv
  obtain ⟨hK, hW⟩ := hv
  have hx := BB.exec
  have hb := BB.bytes
  have hr := BB.returns
  have hts := atoms_spec (ws := wsX4_swap) BB.pre
  have hown : s.vm.findClass RX4 = some m.cls := findClass_of_methodNamed BB.named
  have hlocks := BB.notSynchronized
  have hS : va_S A s.heap s.heap [] := va_S.rf
  have hl := lv_entry ([.ref (ad 0), .int x, .int y]) (n := 8) (Nat.le_of_ble_eq_true rfl)
  rw [lg_entry_eq]
  generalize (lg_sl ([.ref (ad 0), .int x, .int y]) ++ List.replicate (8 - (lg_sl ([.ref (ad 0), .int x, .int y])).length) Slot.unset).toArray = ls at hl ⊢
  have hl : lv_has ls 8 [(0, .ref (ad 0)), (1, .int x), (2, .int y)] := hl
  have hf35 := hts (.fieldLink RX4 35 "CoverpoolModel" "state" "[I") (by decide +kernel)
  have hinX4 : ∀ w ∈ u_ws RX4 TX4 18, w ∈ wsX4_swap := by decide +kernel
  rcases isIx_cases n (by omega) x with hx_x | ⟨j, h_j, rfl⟩
  ·
    rcases isIx_cases n (by omega) y with hx_y | ⟨k, h_k, rfl⟩
    ·
      refine lv_aload_n hx hb dX4_swap_0 rfl (lv_at hl 0 rfl) ?_
      refine lv_iload_n hx hb dX4_swap_1 rfl (lv_at hl 1 rfl) ?_
      refine va_calli (va_runV (As := [.int x]) (rest := []) ⟨hx, hb, hml, hown, hts⟩ (c_X4_isLoan l D cs A ad g L B n b t hn hb5 x) (cwV 1 hts gX4_swap_X4_isLoan rfl rfl rfl (by decide +kernel) ⟨Nat.le_of_ble_eq_true rfl, Nat.le_of_ble_eq_true rfl⟩) ⟨pM_fb, wb_recv hK hW (r := 0) (Nat.le_of_ble_eq_true rfl) (ci := 5) rfl rfl, fun U hU hV => ⟨rfl, pM_of hK hV.alike hU hW⟩⟩ rfl rfl hl.1 rfl (lv_room (Nat.le_of_ble_eq_true rfl)) dX4_swap_2 ⟨Nat.zero_le _, Nat.zero_le _⟩) hS (fun _ _ h => h.elim) (fun _ h => h.elim) (fun r_3 u t9 H locs ht hvm hw _ hz1 hk1 hS => ?_)
      have hW := hW.kept hk1
      rcases hw with ⟨rfl, hp_3⟩ | ⟨rfl, hp_3⟩
      ·
        exact absurd hp_3 hx_x
      ·
        refine lv_if_eq (tgt := 20) hx hb dX4_swap_5 (by decide) (fun c_4 => ?_) (fun c_4 => ?_)
        · -- 0 eq 0 : True
          refine lv_iconst (v := 0) hx hb dX4_swap_20 (by decide) ?_
          refine lv_istore_n (lv' := [(3, .int 0), (0, .ref (ad 0)), (1, .int x), (2, .int y)]) hx hb dX4_swap_21 rfl hl (by decide) rfl (fun ls hl => ?_)
          refine lv_aload_n hx hb dX4_swap_22 rfl (lv_at hl 1 rfl) ?_
          refine lv_iload_n hx hb dX4_swap_23 rfl (lv_at hl 0 rfl) ?_
          refine lv_iload_n hx hb dX4_swap_24 rfl (lv_at hl 0 rfl) ?_
          refine lv_if_eq (tgt := 51) hx hb dX4_swap_25 (by decide) (fun c_5 => ?_) (fun c_5 => ?_)
          · -- 0 eq 0 : True
            refine lv_iconst (v := 0) hx hb dX4_swap_51 (by decide) ?_
            refine lv_iconst (v := 1) hx hb dX4_swap_52 (by decide) ?_
            refine va_calli (va_runV (As := [.int 0, .int 0, .int 1]) (rest := []) ⟨hx, hb, hml, hown, hts⟩ (c_X4_goes l D cs A ad g L B n b t hn hb5 0 0 1) (cwV 3 hts gX4_swap_X4_goes rfl rfl rfl (by decide +kernel) ⟨Nat.le_of_ble_eq_true rfl, Nat.le_of_ble_eq_true rfl⟩) ⟨pM_fb, wb_recv hK hW (r := 0) (Nat.le_of_ble_eq_true rfl) (ci := 5) rfl rfl, fun U hU hV => ⟨rfl, pM_of hK hV.alike hU hW⟩⟩ rfl rfl hl.1 rfl (lv_room (Nat.le_of_ble_eq_true rfl)) dX4_swap_53 ⟨Nat.zero_le _, Nat.zero_le _⟩) hS (fun _ _ h => h) (fun _ h => h) (fun r_6 u t9 H locs ht hvm hw hB hz1 hk1 hS => ?_)
            have hW : wP D A lvM ad (ctM cs ad g L B n b 1) H := by rw [← ht]; exact hB
            rcases hw with ⟨rfl, hp_6⟩ | ⟨rfl, hp_6⟩
            ·
              exact absurd hp_6 (by decide)
            ·
              refine lv_if_ne (tgt := 61) hx hb dX4_swap_56 (by decide) (fun c_7 => ?_) (fun c_7 => ?_)
              · -- 0 ne 0 : True
                exact absurd c_7 (by decide)
              · -- 0 ne 0 : False
                refine lv_iconst (v := 0) hx hb dX4_swap_59 (by decide) ?_
                have hk : kSwap L n x y = 1 := by simp [kSwap, (eq_false hx_x), (eq_false hx_y), (eq_false hp_3), c_4, c_5, (eq_false hp_6), c_7]
                exact W.zret (ty := .boolean) (v := 0) hx hb hr (by decide) (fun t9 ht9 hW9 => ⟨⟨_, (), rfl, Or.inr ⟨rfl, fun q => absurd (hk.symm.trans q.1) (by decide)⟩, (by dsimp only; rw [ht9]; simp only [hk, sel_0, sel_1, sel_2, sel_3]; exact hW)⟩, hS.F ht9⟩) hS.2.2 dX4_swap_60
          · -- 0 eq 0 : False
            exact absurd c_5 (by decide)
        · -- 0 eq 0 : False
          exact absurd c_4 (by decide)
    ·
      have hx_y : isIx n (nI k) := isIx_nI h_k (by omega)
      have hn_y : ixN (nI k) = k := ixN_nI (by omega)
      refine lv_aload_n hx hb dX4_swap_0 rfl (lv_at hl 0 rfl) ?_
      refine lv_iload_n hx hb dX4_swap_1 rfl (lv_at hl 1 rfl) ?_
      refine va_calli (va_runV (As := [.int x]) (rest := []) ⟨hx, hb, hml, hown, hts⟩ (c_X4_isLoan l D cs A ad g L B n b t hn hb5 x) (cwV 1 hts gX4_swap_X4_isLoan rfl rfl rfl (by decide +kernel) ⟨Nat.le_of_ble_eq_true rfl, Nat.le_of_ble_eq_true rfl⟩) ⟨pM_fb, wb_recv hK hW (r := 0) (Nat.le_of_ble_eq_true rfl) (ci := 5) rfl rfl, fun U hU hV => ⟨rfl, pM_of hK hV.alike hU hW⟩⟩ rfl rfl hl.1 rfl (lv_room (Nat.le_of_ble_eq_true rfl)) dX4_swap_2 ⟨Nat.zero_le _, Nat.zero_le _⟩) hS (fun _ _ h => h.elim) (fun _ h => h.elim) (fun r_8 u t9 H locs ht hvm hw _ hz1 hk1 hS => ?_)
      have hW := hW.kept hk1
      rcases hw with ⟨rfl, hp_8⟩ | ⟨rfl, hp_8⟩
      ·
        exact absurd hp_8 hx_x
      ·
        refine lv_if_eq (tgt := 20) hx hb dX4_swap_5 (by decide) (fun c_9 => ?_) (fun c_9 => ?_)
        · -- 0 eq 0 : True
          refine lv_iconst (v := 0) hx hb dX4_swap_20 (by decide) ?_
          refine lv_istore_n (lv' := [(3, .int 0), (0, .ref (ad 0)), (1, .int x), (2, .int (nI k))]) hx hb dX4_swap_21 rfl hl (by decide) rfl (fun ls hl => ?_)
          refine lv_aload_n hx hb dX4_swap_22 rfl (lv_at hl 1 rfl) ?_
          refine lv_iload_n hx hb dX4_swap_23 rfl (lv_at hl 0 rfl) ?_
          refine lv_iload_n hx hb dX4_swap_24 rfl (lv_at hl 0 rfl) ?_
          refine lv_if_eq (tgt := 51) hx hb dX4_swap_25 (by decide) (fun c_10 => ?_) (fun c_10 => ?_)
          · -- 0 eq 0 : True
            refine lv_iconst (v := 0) hx hb dX4_swap_51 (by decide) ?_
            refine lv_iconst (v := 1) hx hb dX4_swap_52 (by decide) ?_
            refine va_calli (va_runV (As := [.int 0, .int 0, .int 1]) (rest := []) ⟨hx, hb, hml, hown, hts⟩ (c_X4_goes l D cs A ad g L B n b t hn hb5 0 0 1) (cwV 3 hts gX4_swap_X4_goes rfl rfl rfl (by decide +kernel) ⟨Nat.le_of_ble_eq_true rfl, Nat.le_of_ble_eq_true rfl⟩) ⟨pM_fb, wb_recv hK hW (r := 0) (Nat.le_of_ble_eq_true rfl) (ci := 5) rfl rfl, fun U hU hV => ⟨rfl, pM_of hK hV.alike hU hW⟩⟩ rfl rfl hl.1 rfl (lv_room (Nat.le_of_ble_eq_true rfl)) dX4_swap_53 ⟨Nat.zero_le _, Nat.zero_le _⟩) hS (fun _ _ h => h) (fun _ h => h) (fun r_11 u t9 H locs ht hvm hw hB hz1 hk1 hS => ?_)
            have hW : wP D A lvM ad (ctM cs ad g L B n b 1) H := by rw [← ht]; exact hB
            rcases hw with ⟨rfl, hp_11⟩ | ⟨rfl, hp_11⟩
            ·
              exact absurd hp_11 (by decide)
            ·
              refine lv_if_ne (tgt := 61) hx hb dX4_swap_56 (by decide) (fun c_12 => ?_) (fun c_12 => ?_)
              · -- 0 ne 0 : True
                exact absurd c_12 (by decide)
              · -- 0 ne 0 : False
                refine lv_iconst (v := 0) hx hb dX4_swap_59 (by decide) ?_
                have hk : kSwap L n x (nI k) = 1 := by simp [kSwap, (eq_false hx_x), (eq_true hx_y), hn_y, (eq_false hp_8), c_9, c_10, (eq_false hp_11), c_12]
                exact W.zret (ty := .boolean) (v := 0) hx hb hr (by decide) (fun t9 ht9 hW9 => ⟨⟨_, (), rfl, Or.inr ⟨rfl, fun q => absurd (hk.symm.trans q.1) (by decide)⟩, (by dsimp only; rw [ht9]; simp only [hk, sel_0, sel_1, sel_2, sel_3, hn_y]; exact hW)⟩, hS.F ht9⟩) hS.2.2 dX4_swap_60
          · -- 0 eq 0 : False
            exact absurd c_10 (by decide)
        · -- 0 eq 0 : False
          exact absurd c_9 (by decide)
  ·
    have hx_x : isIx n (nI j) := isIx_nI h_j (by omega)
    have hn_x : ixN (nI j) = j := ixN_nI (by omega)
    rcases isIx_cases n (by omega) y with hx_y | ⟨k, h_k, rfl⟩
    ·
      refine lv_aload_n hx hb dX4_swap_0 rfl (lv_at hl 0 rfl) ?_
      refine lv_iload_n hx hb dX4_swap_1 rfl (lv_at hl 1 rfl) ?_
      refine va_calli (va_runV (As := [.int (nI j)]) (rest := []) ⟨hx, hb, hml, hown, hts⟩ (c_X4_isLoan l D cs A ad g L B n b t hn hb5 (nI j)) (cwV 1 hts gX4_swap_X4_isLoan rfl rfl rfl (by decide +kernel) ⟨Nat.le_of_ble_eq_true rfl, Nat.le_of_ble_eq_true rfl⟩) ⟨pM_fb, wb_recv hK hW (r := 0) (Nat.le_of_ble_eq_true rfl) (ci := 5) rfl rfl, fun U hU hV => ⟨rfl, pM_of hK hV.alike hU hW⟩⟩ rfl rfl hl.1 rfl (lv_room (Nat.le_of_ble_eq_true rfl)) dX4_swap_2 ⟨Nat.zero_le _, Nat.zero_le _⟩) hS (fun _ _ h => h.elim) (fun _ h => h.elim) (fun r_14 u t9 H locs ht hvm hw _ hz1 hk1 hS => ?_)
      have hW := hW.kept hk1
      rcases hw with ⟨rfl, hp_14⟩ | ⟨rfl, hp_14⟩
      ·
        refine lv_if_eq (tgt := 20) hx hb dX4_swap_5 (by decide) (fun c_15 => ?_) (fun c_15 => ?_)
        · -- 1 eq 0 : True
          exact absurd c_15 (by decide)
        · -- 1 eq 0 : False
          refine lv_aload_n hx hb dX4_swap_8 rfl (lv_at hl 0 rfl) ?_
          refine lv_iload_n hx hb dX4_swap_9 rfl (lv_at hl 2 rfl) ?_
          refine va_calli (va_runV (As := [.int y]) (rest := []) ⟨hx, hb, hml, hown, hts⟩ (c_X4_isLoan l D cs A ad g L B n b t hn hb5 y) (cwV 1 hts gX4_swap_X4_isLoan rfl rfl rfl (by decide +kernel) ⟨Nat.le_of_ble_eq_true rfl, Nat.le_of_ble_eq_true rfl⟩) ⟨pM_fb, wb_recv hK hW (r := 0) (Nat.le_of_ble_eq_true rfl) (ci := 5) rfl rfl, fun U hU hV => ⟨rfl, pM_of hK hV.alike hU hW⟩⟩ rfl rfl hl.1 rfl (lv_room (Nat.le_of_ble_eq_true rfl)) dX4_swap_10 ⟨Nat.zero_le _, Nat.zero_le _⟩) hS (fun _ _ h => h.elim) (fun _ h => h.elim) (fun r_16 u t9 H locs ht hvm hw _ hz1 hk1 hS => ?_)
          have hW := hW.kept hk1
          rcases hw with ⟨rfl, hp_16⟩ | ⟨rfl, hp_16⟩
          ·
            exact absurd hp_16 hx_y
          ·
            refine lv_if_eq (tgt := 20) hx hb dX4_swap_13 (by decide) (fun c_17 => ?_) (fun c_17 => ?_)
            · -- 0 eq 0 : True
              refine lv_iconst (v := 0) hx hb dX4_swap_20 (by decide) ?_
              refine lv_istore_n (lv' := [(3, .int 0), (0, .ref (ad 0)), (1, .int (nI j)), (2, .int y)]) hx hb dX4_swap_21 rfl hl (by decide) rfl (fun ls hl => ?_)
              refine lv_aload_n hx hb dX4_swap_22 rfl (lv_at hl 1 rfl) ?_
              refine lv_iload_n hx hb dX4_swap_23 rfl (lv_at hl 0 rfl) ?_
              refine lv_iload_n hx hb dX4_swap_24 rfl (lv_at hl 0 rfl) ?_
              refine lv_if_eq (tgt := 51) hx hb dX4_swap_25 (by decide) (fun c_18 => ?_) (fun c_18 => ?_)
              · -- 0 eq 0 : True
                refine lv_iconst (v := 0) hx hb dX4_swap_51 (by decide) ?_
                refine lv_iconst (v := 1) hx hb dX4_swap_52 (by decide) ?_
                refine va_calli (va_runV (As := [.int 0, .int 0, .int 1]) (rest := []) ⟨hx, hb, hml, hown, hts⟩ (c_X4_goes l D cs A ad g L B n b t hn hb5 0 0 1) (cwV 3 hts gX4_swap_X4_goes rfl rfl rfl (by decide +kernel) ⟨Nat.le_of_ble_eq_true rfl, Nat.le_of_ble_eq_true rfl⟩) ⟨pM_fb, wb_recv hK hW (r := 0) (Nat.le_of_ble_eq_true rfl) (ci := 5) rfl rfl, fun U hU hV => ⟨rfl, pM_of hK hV.alike hU hW⟩⟩ rfl rfl hl.1 rfl (lv_room (Nat.le_of_ble_eq_true rfl)) dX4_swap_53 ⟨Nat.zero_le _, Nat.zero_le _⟩) hS (fun _ _ h => h) (fun _ h => h) (fun r_19 u t9 H locs ht hvm hw hB hz1 hk1 hS => ?_)
                have hW : wP D A lvM ad (ctM cs ad g L B n b 1) H := by rw [← ht]; exact hB
                rcases hw with ⟨rfl, hp_19⟩ | ⟨rfl, hp_19⟩
                ·
                  exact absurd hp_19 (by decide)
                ·
                  refine lv_if_ne (tgt := 61) hx hb dX4_swap_56 (by decide) (fun c_20 => ?_) (fun c_20 => ?_)
                  · -- 0 ne 0 : True
                    exact absurd c_20 (by decide)
                  · -- 0 ne 0 : False
                    refine lv_iconst (v := 0) hx hb dX4_swap_59 (by decide) ?_
                    have hk : kSwap L n (nI j) y = 1 := by simp [kSwap, (eq_true hx_x), hn_x, (eq_false hx_y), (eq_true hp_14), c_15, (eq_false hp_16), c_17, c_18, (eq_false hp_19), c_20]
                    exact W.zret (ty := .boolean) (v := 0) hx hb hr (by decide) (fun t9 ht9 hW9 => ⟨⟨_, (), rfl, Or.inr ⟨rfl, fun q => absurd (hk.symm.trans q.1) (by decide)⟩, (by dsimp only; rw [ht9]; simp only [hk, sel_0, sel_1, sel_2, sel_3, hn_x]; exact hW)⟩, hS.F ht9⟩) hS.2.2 dX4_swap_60
              · -- 0 eq 0 : False
                exact absurd c_18 (by decide)
            · -- 0 eq 0 : False
              exact absurd c_17 (by decide)
      ·
        exact absurd hx_x hp_14
    ·
      have hx_y : isIx n (nI k) := isIx_nI h_k (by omega)
      have hn_y : ixN (nI k) = k := ixN_nI (by omega)
      refine lv_aload_n hx hb dX4_swap_0 rfl (lv_at hl 0 rfl) ?_
      refine lv_iload_n hx hb dX4_swap_1 rfl (lv_at hl 1 rfl) ?_
      refine va_calli (va_runV (As := [.int (nI j)]) (rest := []) ⟨hx, hb, hml, hown, hts⟩ (c_X4_isLoan l D cs A ad g L B n b t hn hb5 (nI j)) (cwV 1 hts gX4_swap_X4_isLoan rfl rfl rfl (by decide +kernel) ⟨Nat.le_of_ble_eq_true rfl, Nat.le_of_ble_eq_true rfl⟩) ⟨pM_fb, wb_recv hK hW (r := 0) (Nat.le_of_ble_eq_true rfl) (ci := 5) rfl rfl, fun U hU hV => ⟨rfl, pM_of hK hV.alike hU hW⟩⟩ rfl rfl hl.1 rfl (lv_room (Nat.le_of_ble_eq_true rfl)) dX4_swap_2 ⟨Nat.zero_le _, Nat.zero_le _⟩) hS (fun _ _ h => h.elim) (fun _ h => h.elim) (fun r_21 u t9 H locs ht hvm hw _ hz1 hk1 hS => ?_)
      have hW := hW.kept hk1
      rcases hw with ⟨rfl, hp_21⟩ | ⟨rfl, hp_21⟩
      ·
        refine lv_if_eq (tgt := 20) hx hb dX4_swap_5 (by decide) (fun c_22 => ?_) (fun c_22 => ?_)
        · -- 1 eq 0 : True
          exact absurd c_22 (by decide)
        · -- 1 eq 0 : False
          refine lv_aload_n hx hb dX4_swap_8 rfl (lv_at hl 0 rfl) ?_
          refine lv_iload_n hx hb dX4_swap_9 rfl (lv_at hl 2 rfl) ?_
          refine va_calli (va_runV (As := [.int (nI k)]) (rest := []) ⟨hx, hb, hml, hown, hts⟩ (c_X4_isLoan l D cs A ad g L B n b t hn hb5 (nI k)) (cwV 1 hts gX4_swap_X4_isLoan rfl rfl rfl (by decide +kernel) ⟨Nat.le_of_ble_eq_true rfl, Nat.le_of_ble_eq_true rfl⟩) ⟨pM_fb, wb_recv hK hW (r := 0) (Nat.le_of_ble_eq_true rfl) (ci := 5) rfl rfl, fun U hU hV => ⟨rfl, pM_of hK hV.alike hU hW⟩⟩ rfl rfl hl.1 rfl (lv_room (Nat.le_of_ble_eq_true rfl)) dX4_swap_10 ⟨Nat.zero_le _, Nat.zero_le _⟩) hS (fun _ _ h => h.elim) (fun _ h => h.elim) (fun r_23 u t9 H locs ht hvm hw _ hz1 hk1 hS => ?_)
          have hW := hW.kept hk1
          rcases hw with ⟨rfl, hp_23⟩ | ⟨rfl, hp_23⟩
          ·
            refine lv_if_eq (tgt := 20) hx hb dX4_swap_13 (by decide) (fun c_24 => ?_) (fun c_24 => ?_)
            · -- 1 eq 0 : True
              exact absurd c_24 (by decide)
            · -- 1 eq 0 : False
              refine lv_iconst (v := 1) hx hb dX4_swap_16 (by decide) ?_
              refine lv_goto (tgt := 21) hx hb dX4_swap_17 (by decide) ?_
              refine lv_istore_n (lv' := [(3, .int 1), (0, .ref (ad 0)), (1, .int (nI j)), (2, .int (nI k))]) hx hb dX4_swap_21 rfl hl (by decide) rfl (fun ls hl => ?_)
              refine lv_aload_n hx hb dX4_swap_22 rfl (lv_at hl 1 rfl) ?_
              refine lv_iload_n hx hb dX4_swap_23 rfl (lv_at hl 0 rfl) ?_
              refine lv_iload_n hx hb dX4_swap_24 rfl (lv_at hl 0 rfl) ?_
              refine lv_if_eq (tgt := 51) hx hb dX4_swap_25 (by decide) (fun c_25 => ?_) (fun c_25 => ?_)
              · -- 1 eq 0 : True
                exact absurd c_25 (by decide)
              · -- 1 eq 0 : False
                refine lv_aload_n hx hb dX4_swap_28 rfl (lv_at hl 1 rfl) ?_
                refine wb_get hx hb hts hinX4 hown hK hW 0 (Nat.le_of_ble_eq_true rfl) rfl rfl 10 (by decide) hf35 (fun _ h9 => h9) (v := .ref (ad 6)) rfl dX4_swap_29 ?_
                refine lv_iload_n hx hb dX4_swap_32 rfl (lv_at hl 2 rfl) ?_
                refine wb_iald hx hb hK hW 6 (Nat.le_of_ble_eq_true rfl) 0 rfl rfl j rfl (by omega) (by decide) dX4_swap_33 ?_
                refine lv_iconst (v := 1) hx hb dX4_swap_34 (by decide) ?_
                refine lv_icmp_ne (tgt := 51) hx hb dX4_swap_35 (by decide) (fun c_26 => ?_) (fun c_26 => ?_)
                · -- L 5 j ne 1 : True
                  refine lv_iconst (v := 0) hx hb dX4_swap_51 (by decide) ?_
                  refine lv_iconst (v := 1) hx hb dX4_swap_52 (by decide) ?_
                  refine va_calli (va_runV (As := [.int 1, .int 0, .int 1]) (rest := []) ⟨hx, hb, hml, hown, hts⟩ (c_X4_goes l D cs A ad g L B n b t hn hb5 1 0 1) (cwV 3 hts gX4_swap_X4_goes rfl rfl rfl (by decide +kernel) ⟨Nat.le_of_ble_eq_true rfl, Nat.le_of_ble_eq_true rfl⟩) ⟨pM_fb, wb_recv hK hW (r := 0) (Nat.le_of_ble_eq_true rfl) (ci := 5) rfl rfl, fun U hU hV => ⟨rfl, pM_of hK hV.alike hU hW⟩⟩ rfl rfl hl.1 rfl (lv_room (Nat.le_of_ble_eq_true rfl)) dX4_swap_53 ⟨Nat.zero_le _, Nat.zero_le _⟩) hS (fun _ _ h => h) (fun _ h => h) (fun r_27 u t9 H locs ht hvm hw hB hz1 hk1 hS => ?_)
                  have hW : wP D A lvM ad (ctM cs ad g L B n b 2) H := by rw [← ht]; exact hB
                  rcases hw with ⟨rfl, hp_27⟩ | ⟨rfl, hp_27⟩
                  ·
                    exact absurd hp_27 (by decide)
                  ·
                    refine lv_if_ne (tgt := 61) hx hb dX4_swap_56 (by decide) (fun c_28 => ?_) (fun c_28 => ?_)
                    · -- 0 ne 0 : True
                      exact absurd c_28 (by decide)
                    · -- 0 ne 0 : False
                      refine lv_iconst (v := 0) hx hb dX4_swap_59 (by decide) ?_
                      have hk : kSwap L n (nI j) (nI k) = 2 := by simp [kSwap, (eq_true hx_x), hn_x, (eq_true hx_y), hn_y, (eq_true hp_21), c_22, (eq_true hp_23), c_24, c_25, c_26, (eq_false hp_27), c_28]
                      exact W.zret (ty := .boolean) (v := 0) hx hb hr (by decide) (fun t9 ht9 hW9 => ⟨⟨_, (), rfl, Or.inr ⟨rfl, fun q => absurd (hk.symm.trans q.1) (by decide)⟩, (by dsimp only; rw [ht9]; simp only [hk, sel_0, sel_1, sel_2, sel_3, hn_x, hn_y]; exact hW)⟩, hS.F ht9⟩) hS.2.2 dX4_swap_60
                · -- L 5 j ne 1 : False
                  refine lv_aload_n hx hb dX4_swap_38 rfl (lv_at hl 1 rfl) ?_
                  refine wb_get hx hb hts hinX4 hown hK hW 0 (Nat.le_of_ble_eq_true rfl) rfl rfl 10 (by decide) hf35 (fun _ h9 => h9) (v := .ref (ad 6)) rfl dX4_swap_39 ?_
                  refine lv_iload_n hx hb dX4_swap_42 rfl (lv_at hl 3 rfl) ?_
                  refine wb_iald hx hb hK hW 6 (Nat.le_of_ble_eq_true rfl) 0 rfl rfl k rfl (by omega) (by decide) dX4_swap_43 ?_
                  refine lv_if_ne (tgt := 51) hx hb dX4_swap_44 (by decide) (fun c_29 => ?_) (fun c_29 => ?_)
                  · -- L 5 k ne 0 : True
                    refine lv_iconst (v := 0) hx hb dX4_swap_51 (by decide) ?_
                    refine lv_iconst (v := 1) hx hb dX4_swap_52 (by decide) ?_
                    refine va_calli (va_runV (As := [.int 1, .int 0, .int 1]) (rest := []) ⟨hx, hb, hml, hown, hts⟩ (c_X4_goes l D cs A ad g L B n b t hn hb5 1 0 1) (cwV 3 hts gX4_swap_X4_goes rfl rfl rfl (by decide +kernel) ⟨Nat.le_of_ble_eq_true rfl, Nat.le_of_ble_eq_true rfl⟩) ⟨pM_fb, wb_recv hK hW (r := 0) (Nat.le_of_ble_eq_true rfl) (ci := 5) rfl rfl, fun U hU hV => ⟨rfl, pM_of hK hV.alike hU hW⟩⟩ rfl rfl hl.1 rfl (lv_room (Nat.le_of_ble_eq_true rfl)) dX4_swap_53 ⟨Nat.zero_le _, Nat.zero_le _⟩) hS (fun _ _ h => h) (fun _ h => h) (fun r_30 u t9 H locs ht hvm hw hB hz1 hk1 hS => ?_)
                    have hW : wP D A lvM ad (ctM cs ad g L B n b 2) H := by rw [← ht]; exact hB
                    rcases hw with ⟨rfl, hp_30⟩ | ⟨rfl, hp_30⟩
                    ·
                      exact absurd hp_30 (by decide)
                    ·
                      refine lv_if_ne (tgt := 61) hx hb dX4_swap_56 (by decide) (fun c_31 => ?_) (fun c_31 => ?_)
                      · -- 0 ne 0 : True
                        exact absurd c_31 (by decide)
                      · -- 0 ne 0 : False
                        refine lv_iconst (v := 0) hx hb dX4_swap_59 (by decide) ?_
                        have hk : kSwap L n (nI j) (nI k) = 2 := by simp [kSwap, (eq_true hx_x), hn_x, (eq_true hx_y), hn_y, (eq_true hp_21), c_22, (eq_true hp_23), c_24, c_25, c_26, c_29, (eq_false hp_30), c_31]
                        exact W.zret (ty := .boolean) (v := 0) hx hb hr (by decide) (fun t9 ht9 hW9 => ⟨⟨_, (), rfl, Or.inr ⟨rfl, fun q => absurd (hk.symm.trans q.1) (by decide)⟩, (by dsimp only; rw [ht9]; simp only [hk, sel_0, sel_1, sel_2, sel_3, hn_x, hn_y]; exact hW)⟩, hS.F ht9⟩) hS.2.2 dX4_swap_60
                  · -- L 5 k ne 0 : False
                    refine lv_iconst (v := 1) hx hb dX4_swap_47 (by decide) ?_
                    refine lv_goto (tgt := 52) hx hb dX4_swap_48 (by decide) ?_
                    refine lv_iconst (v := 1) hx hb dX4_swap_52 (by decide) ?_
                    refine va_calli (va_runV (As := [.int 1, .int 1, .int 1]) (rest := []) ⟨hx, hb, hml, hown, hts⟩ (c_X4_goes l D cs A ad g L B n b t hn hb5 1 1 1) (cwV 3 hts gX4_swap_X4_goes rfl rfl rfl (by decide +kernel) ⟨Nat.le_of_ble_eq_true rfl, Nat.le_of_ble_eq_true rfl⟩) ⟨pM_fb, wb_recv hK hW (r := 0) (Nat.le_of_ble_eq_true rfl) (ci := 5) rfl rfl, fun U hU hV => ⟨rfl, pM_of hK hV.alike hU hW⟩⟩ rfl rfl hl.1 rfl (lv_room (Nat.le_of_ble_eq_true rfl)) dX4_swap_53 ⟨Nat.zero_le _, Nat.zero_le _⟩) hS (fun _ _ h => h) (fun _ h => h) (fun r_32 u t9 H locs ht hvm hw hB hz1 hk1 hS => ?_)
                    have hW : wP D A lvM ad (ctM cs ad g L B n b 0) H := by rw [← ht]; exact hB
                    rcases hw with ⟨rfl, hp_32⟩ | ⟨rfl, hp_32⟩
                    ·
                      refine lv_if_ne (tgt := 61) hx hb dX4_swap_56 (by decide) (fun c_33 => ?_) (fun c_33 => ?_)
                      · -- 1 ne 0 : True
                        refine lv_aload_n hx hb dX4_swap_61 rfl (lv_at hl 1 rfl) ?_
                        refine va_calli (va_runV (As := []) (rest := []) ⟨hx, hb, hml, hown, hts⟩ (c_X4_pool l D cs A ad g L B n b 0 hn hb5 ) (cwV 0 hts gX4_swap_X4_pool rfl rfl rfl (by decide +kernel) ⟨Nat.le_of_ble_eq_true rfl, Nat.le_of_ble_eq_true rfl⟩) ⟨pM_fb, wb_recv hK hW (r := 0) (Nat.le_of_ble_eq_true rfl) (ci := 5) rfl rfl, fun U hU hV => ⟨rfl, pM_of hK hV.alike hU hW⟩⟩ rfl rfl hl.1 rfl (lv_room (Nat.le_of_ble_eq_true rfl)) dX4_swap_62 ⟨Nat.zero_le _, Nat.zero_le _⟩) hS (fun _ _ h => h.elim) (fun _ h => h.elim) (fun r_34 u t9 H locs ht hvm hw _ hz1 hk1 hS => ?_)
                        have hW := hW.kept hk1
                        subst hw
                        refine lv_istore (lv' := [(4, .int (mPool L 1 n)), (3, .int 1), (0, .ref (ad 0)), (1, .int (nI j)), (2, .int (nI k))]) hx hb dX4_swap_65 hl (by decide) rfl (fun ls hl => ?_)
                        refine lv_iload hx hb dX4_swap_67 (lv_at hl 0 rfl) ?_
                        refine lv_iconst (v := 1) hx hb dX4_swap_69 (by decide) ?_
                        refine lv_iload_n hx hb dX4_swap_70 rfl (lv_at hl 3 rfl) ?_
                        refine lv_ishl hx hb dX4_swap_71 ?_
                        refine lv_iconst (v := (-1)) hx hb dX4_swap_72 (by decide) ?_
                        refine lv_ixor hx hb dX4_swap_73 ?_
                        refine lv_iand hx hb dX4_swap_74 ?_
                        refine lv_iconst (v := 1) hx hb dX4_swap_75 (by decide) ?_
                        refine lv_iload_n hx hb dX4_swap_76 rfl (lv_at hl 4 rfl) ?_
                        refine lv_ishl hx hb dX4_swap_77 ?_
                        refine lv_ior hx hb dX4_swap_78 ?_
                        refine lv_istore (lv' := [(5, .int (thenOf L n (nI j) (nI k))), (4, .int (mPool L 1 n)), (3, .int 1), (0, .ref (ad 0)), (1, .int (nI j)), (2, .int (nI k))]) hx hb dX4_swap_79 hl (by decide) rfl (fun ls hl => ?_)
                        refine lv_iconst (v := 1) hx hb dX4_swap_81 (by decide) ?_
                        refine lv_istore (lv' := [(6, .int 1), (5, .int (thenOf L n (nI j) (nI k))), (4, .int (mPool L 1 n)), (3, .int 1), (0, .ref (ad 0)), (1, .int (nI j)), (2, .int (nI k))]) hx hb dX4_swap_82 hl (by decide) rfl (fun ls hl => ?_)
                        refine lv_iconst (v := 0) hx hb dX4_swap_84 (by decide) ?_
                        refine lv_istore (lv' := [(7, .int 0), (6, .int 1), (5, .int (thenOf L n (nI j) (nI k))), (4, .int (mPool L 1 n)), (3, .int 1), (0, .ref (ad 0)), (1, .int (nI j)), (2, .int (nI k))]) hx hb dX4_swap_85 hl (by decide) rfl (fun ls hl => ?_)
                        have loop_35 : ∀ (k35 j35 : Nat), j35 + k35 = 3 → ∀ (a35_0 : Int32), a35_0 = mCan g L B n b (mPool L 1 n) (thenOf L n (nI j) (nI k)) j35 → ∀ (H : Heap) (locs : List Loc), wP D A lvM ad (ctM cs ad g L B n b 0) H → va_S A s.heap H locs → ∀ (ls : Array Slot), lv_has ls 8 [(7, .int (nI j35)), (6, .int a35_0), (5, .int (thenOf L n (nI j) (nI k))), (4, .int (mPool L 1 n)), (3, .int 1), (0, .ref (ad 0)), (1, .int (nI j)), (2, .int (nI k))] → W p l e ({ frames := 5, cells := 0, slots := 0, locals := 118 } : Room) s m (([.ref (ad 0), .int (nI j), .int (nI k)] : List Value).toArray) below meth c H locs 0 0 (MQ below (va_Qi (fun (r9 : Int32) (_ : Unit) => (r9 = 1 ∧ (kSwap L n (nI j) (nI k) = 0 ∧ canSwap g L B n b (nI j) (nI k))) ∨ (r9 = 0 ∧ ¬ (kSwap L n (nI j) (nI k) = 0 ∧ canSwap g L B n b (nI j) (nI k)))) (fun _ t9 => wP D A lvM ad (ctM cs ad g (sel (kSwap L n (nI j) (nI k)) (if canSwap g L B n b (nI j) (nI k) then updL (updL L 5 (ixN (nI j)) 0) 5 (ixN (nI k)) 1 else L) L) B n b (kSwap L n (nI j) (nI k))) t9.heap) A) (([.ref (ad 0), .int (nI j), .int (nI k)] : List Value).toArray) s 0 0 A) (F0 m 87 ls []) := by
                          intro k35
                          induction k35 with
                          | zero =>
                            intro j35 hj_35 a35_0 ea35_0 H locs hW hS ls hl
                            subst ea35_0
                            obtain rfl : 3 = j35 := by omega
                            refine lv_iload hx hb dX4_swap_87 (lv_at hl 0 rfl) ?_
                            refine lv_iconst (v := 2) hx hb dX4_swap_89 (by decide) ?_
                            refine lv_icmp_gt (tgt := 137) hx hb dX4_swap_90 (by decide) (fun c_36 => ?_) (fun c_36 => ?_)
                            · -- nI 3 gt 2 : True
                              rcases mCan_01 g L B n b (mPool L 1 n) (thenOf L n (nI j) (nI k)) 3 with h9 | h9
                              ·
                                rw [h9] at hl
                                refine lv_aload_n hx hb dX4_swap_137 rfl (lv_at hl 5 rfl) ?_
                                refine wb_get hx hb hts hinX4 hown hK hW 0 (Nat.le_of_ble_eq_true rfl) rfl rfl 10 (by decide) hf35 (fun _ h9 => h9) (v := .ref (ad 6)) rfl dX4_swap_138 ?_
                                refine lv_iload_n hx hb dX4_swap_141 rfl (lv_at hl 6 rfl) ?_
                                refine lv_iload hx hb dX4_swap_142 (lv_at hl 1 rfl) ?_
                                refine lv_if_eq (tgt := 151) hx hb dX4_swap_144 (by decide) (fun c_37 => ?_) (fun c_37 => ?_)
                                · -- 0 eq 0 : True
                                  refine lv_iconst (v := 1) hx hb dX4_swap_151 (by decide) ?_
                                  refine wb_iast hx hb hK hW hS 6 (Nat.le_of_ble_eq_true rfl) 0 rfl rfl j rfl (by omega) (by decide) dX4_swap_152 (fun H locs hW hS => ?_)
                                  obtain ⟨L38, hL38⟩ : ∃ z9, z9 = updL L 5 j 1 := ⟨_, rfl⟩
                                  have hW : wP D A lvM ad (ctM cs ad g L38 B n b 0) H := hW.to (fun r hr => ⟨hr, rfl, by subst hL38; rcases lt11 hr with rfl | rfl | rfl | rfl | rfl | rfl | rfl | rfl | rfl | rfl | rfl <;> rfl⟩)
                                  refine lv_aload_n hx hb dX4_swap_153 rfl (lv_at hl 5 rfl) ?_
                                  refine wb_get hx hb hts hinX4 hown hK hW 0 (Nat.le_of_ble_eq_true rfl) rfl rfl 10 (by decide) hf35 (fun _ h9 => h9) (v := .ref (ad 6)) rfl dX4_swap_154 ?_
                                  refine lv_iload_n hx hb dX4_swap_157 rfl (lv_at hl 7 rfl) ?_
                                  refine lv_iload hx hb dX4_swap_158 (lv_at hl 1 rfl) ?_
                                  refine lv_if_eq (tgt := 167) hx hb dX4_swap_160 (by decide) (fun c_39 => ?_) (fun c_39 => ?_)
                                  · -- 0 eq 0 : True
                                    refine lv_iconst (v := 0) hx hb dX4_swap_167 (by decide) ?_
                                    refine wb_iast hx hb hK hW hS 6 (Nat.le_of_ble_eq_true rfl) 0 rfl rfl k rfl (by omega) (by decide) dX4_swap_168 (fun H locs hW hS => ?_)
                                    obtain ⟨L40, hL40⟩ : ∃ z9, z9 = updL L38 5 k 0 := ⟨_, rfl⟩
                                    have hW : wP D A lvM ad (ctM cs ad g L40 B n b 0) H := hW.to (fun r hr => ⟨hr, rfl, by subst hL40; rcases lt11 hr with rfl | rfl | rfl | rfl | rfl | rfl | rfl | rfl | rfl | rfl | rfl <;> rfl⟩)
                                    refine lv_iload hx hb dX4_swap_169 (lv_at hl 1 rfl) ?_
                                    have hk : kSwap L n (nI j) (nI k) = 0 := by simp [kSwap, (eq_true hx_x), hn_x, (eq_true hx_y), hn_y, (eq_true hp_21), c_22, (eq_true hp_23), c_24, c_25, c_26, c_29, (eq_true hp_32), c_33, c_36, c_37, hL38, c_39, hL40]
                                    exact W.zret (ty := .boolean) (v := 0) hx hb hr (by decide) (fun t9 ht9 hW9 => ⟨⟨_, (), rfl, Or.inr ⟨rfl, fun q => (fun q9 => absurd (h9.symm.trans q9) (by decide)) q.2⟩, (by dsimp only; rw [ht9]; simp only [hk, sel_0, sel_1, sel_2, sel_3, hn_x, hn_y]; subst hL40 hL38; rw [if_neg (show ¬ (canSwap g L B n b (nI j) (nI k)) from (fun q9 => absurd (h9.symm.trans q9) (by decide)))]; rw [updL_same c_26] at hW; rw [updL_same c_29] at hW; exact hW)⟩, hS.F ht9⟩) hS.2.2 dX4_swap_171
                                  · -- 0 eq 0 : False
                                    exact absurd c_39 (by decide)
                                · -- 0 eq 0 : False
                                  exact absurd c_37 (by decide)
                              ·
                                rw [h9] at hl
                                refine lv_aload_n hx hb dX4_swap_137 rfl (lv_at hl 5 rfl) ?_
                                refine wb_get hx hb hts hinX4 hown hK hW 0 (Nat.le_of_ble_eq_true rfl) rfl rfl 10 (by decide) hf35 (fun _ h9 => h9) (v := .ref (ad 6)) rfl dX4_swap_138 ?_
                                refine lv_iload_n hx hb dX4_swap_141 rfl (lv_at hl 6 rfl) ?_
                                refine lv_iload hx hb dX4_swap_142 (lv_at hl 1 rfl) ?_
                                refine lv_if_eq (tgt := 151) hx hb dX4_swap_144 (by decide) (fun c_41 => ?_) (fun c_41 => ?_)
                                · -- 1 eq 0 : True
                                  exact absurd c_41 (by decide)
                                · -- 1 eq 0 : False
                                  refine lv_iconst (v := 0) hx hb dX4_swap_147 (by decide) ?_
                                  refine lv_goto (tgt := 152) hx hb dX4_swap_148 (by decide) ?_
                                  refine wb_iast hx hb hK hW hS 6 (Nat.le_of_ble_eq_true rfl) 0 rfl rfl j rfl (by omega) (by decide) dX4_swap_152 (fun H locs hW hS => ?_)
                                  obtain ⟨L42, hL42⟩ : ∃ z9, z9 = updL L 5 j 0 := ⟨_, rfl⟩
                                  have hW : wP D A lvM ad (ctM cs ad g L42 B n b 0) H := hW.to (fun r hr => ⟨hr, rfl, by subst hL42; rcases lt11 hr with rfl | rfl | rfl | rfl | rfl | rfl | rfl | rfl | rfl | rfl | rfl <;> rfl⟩)
                                  refine lv_aload_n hx hb dX4_swap_153 rfl (lv_at hl 5 rfl) ?_
                                  refine wb_get hx hb hts hinX4 hown hK hW 0 (Nat.le_of_ble_eq_true rfl) rfl rfl 10 (by decide) hf35 (fun _ h9 => h9) (v := .ref (ad 6)) rfl dX4_swap_154 ?_
                                  refine lv_iload_n hx hb dX4_swap_157 rfl (lv_at hl 7 rfl) ?_
                                  refine lv_iload hx hb dX4_swap_158 (lv_at hl 1 rfl) ?_
                                  refine lv_if_eq (tgt := 167) hx hb dX4_swap_160 (by decide) (fun c_43 => ?_) (fun c_43 => ?_)
                                  · -- 1 eq 0 : True
                                    exact absurd c_43 (by decide)
                                  · -- 1 eq 0 : False
                                    refine lv_iconst (v := 1) hx hb dX4_swap_163 (by decide) ?_
                                    refine lv_goto (tgt := 168) hx hb dX4_swap_164 (by decide) ?_
                                    refine wb_iast hx hb hK hW hS 6 (Nat.le_of_ble_eq_true rfl) 0 rfl rfl k rfl (by omega) (by decide) dX4_swap_168 (fun H locs hW hS => ?_)
                                    obtain ⟨L44, hL44⟩ : ∃ z9, z9 = updL L42 5 k 1 := ⟨_, rfl⟩
                                    have hW : wP D A lvM ad (ctM cs ad g L44 B n b 0) H := hW.to (fun r hr => ⟨hr, rfl, by subst hL44; rcases lt11 hr with rfl | rfl | rfl | rfl | rfl | rfl | rfl | rfl | rfl | rfl | rfl <;> rfl⟩)
                                    refine lv_iload hx hb dX4_swap_169 (lv_at hl 1 rfl) ?_
                                    have hk : kSwap L n (nI j) (nI k) = 0 := by simp [kSwap, (eq_true hx_x), hn_x, (eq_true hx_y), hn_y, (eq_true hp_21), c_22, (eq_true hp_23), c_24, c_25, c_26, c_29, (eq_true hp_32), c_33, c_36, c_41, hL42, c_43, hL44]
                                    exact W.zret (ty := .boolean) (v := 1) hx hb hr (by decide) (fun t9 ht9 hW9 => ⟨⟨_, (), rfl, Or.inl ⟨rfl, hk, h9⟩, (by dsimp only; rw [ht9]; simp only [hk, sel_0, sel_1, sel_2, sel_3, hn_x, hn_y]; subst hL44 hL42; rw [if_pos (show (canSwap g L B n b (nI j) (nI k)) from h9)]; exact hW)⟩, hS.F ht9⟩) hS.2.2 dX4_swap_171
                            · -- nI 3 gt 2 : False
                              exact absurd (by decide) c_36
                          | succ k35 ih_35 =>
                            intro j35 hj_35 a35_0 ea35_0 H locs hW hS ls hl
                            subst ea35_0
                            refine lv_iload hx hb dX4_swap_87 (lv_at hl 0 rfl) ?_
                            refine lv_iconst (v := 2) hx hb dX4_swap_89 (by decide) ?_
                            refine lv_icmp_gt (tgt := 137) hx hb dX4_swap_90 (by decide) (fun c_45 => ?_) (fun c_45 => ?_)
                            · -- nI j35 gt 2 : True
                              exact absurd (show nI 2 < _ from c_45) (nI_nlt (by omega) (by omega))
                            · -- nI j35 gt 2 : False
                              refine lv_iload hx hb dX4_swap_93 (lv_at hl 1 rfl) ?_
                              refine lv_if_eq (tgt := 128) hx hb dX4_swap_95 (by decide) (fun c_46 => ?_) (fun c_46 => ?_)
                              · -- (mCan g L B n b (mPool L 1 n) (thenOf L n (nI j) (nI k)) j35) eq 0 : True
                                refine lv_iconst (v := 0) hx hb dX4_swap_128 (by decide) ?_
                                refine lv_istore (lv' := [(6, .int 0), (7, .int (nI j35)), (5, .int (thenOf L n (nI j) (nI k))), (4, .int (mPool L 1 n)), (3, .int 1), (0, .ref (ad 0)), (1, .int (nI j)), (2, .int (nI k))]) hx hb dX4_swap_129 hl (by decide) rfl (fun ls hl => ?_)
                                refine lv_iinc (v := nI (j35 + 1)) (lv' := [(7, .int (nI (j35 + 1))), (6, .int 0), (5, .int (thenOf L n (nI j) (nI k))), (4, .int (mPool L 1 n)), (3, .int 1), (0, .ref (ad 0)), (1, .int (nI j)), (2, .int (nI k))]) hx hb dX4_swap_131 hl (k := 1) rfl (nI_1 _) (by decide) rfl (fun ls hl => ?_)
                                refine lv_goto (tgt := 87) hx hb dX4_swap_134 (by decide) ?_
                                exact ih_35 (j35 + 1) (by omega) _ (by first | (simp only [mCan, (eq_true hx_x), hn_x, (eq_true hx_y), hn_y, (eq_true hp_21), c_22, (eq_true hp_23), c_24, c_25, c_26, c_29, (eq_true hp_32), c_33, c_45, c_46, reduceIte]; done) | simp [mCan, (eq_true hx_x), hn_x, (eq_true hx_y), hn_y, (eq_true hp_21), c_22, (eq_true hp_23), c_24, c_25, c_26, c_29, (eq_true hp_32), c_33, c_45, c_46])  _ _ hW hS ls (lv_sub hl [0, 1, 2, 3, 4, 5, 6, 7] rfl)
                              · -- (mCan g L B n b (mPool L 1 n) (thenOf L n (nI j) (nI k)) j35) eq 0 : False
                                refine lv_aload_n hx hb dX4_swap_98 rfl (lv_at hl 5 rfl) ?_
                                refine lv_iload hx hb dX4_swap_99 (lv_at hl 0 rfl) ?_
                                refine lv_iload hx hb dX4_swap_101 (lv_at hl 3 rfl) ?_
                                refine va_calll (va_runV (As := [.int (nI j35), .int (mPool L 1 n)]) (rest := []) ⟨hx, hb, hml, hown, hts⟩ (c_X4_lack l D cs A ad g L B n b 0 hn hb5 (nI j35) (mPool L 1 n) dv0 dvs) (cwV 2 hts gX4_swap_X4_lack rfl rfl rfl (by decide +kernel) ⟨Nat.le_of_ble_eq_true rfl, Nat.le_of_ble_eq_true rfl⟩) ⟨pM_fb, wb_recv hK hW (r := 0) (Nat.le_of_ble_eq_true rfl) (ci := 5) rfl rfl, fun U hU hV => ⟨rfl, pM_of hK hV.alike hU hW⟩⟩ rfl rfl hl.1 rfl (lv_room (Nat.le_of_ble_eq_true rfl)) dX4_swap_103 ⟨Nat.zero_le _, Nat.zero_le _⟩) hS (fun _ _ h => h.elim) (fun _ h => h.elim) (fun r_47 u t9 H locs ht hvm hw _ hz1 hk1 hS => ?_)
                                have hW := hW.kept hk1
                                subst hw
                                refine lv_lconst (v := 0) hx hb dX4_swap_106 (by decide) ?_
                                refine W.lcmp hx hb dX4_swap_107 ?_
                                refine lv_if_gt (tgt := 124) hx hb dX4_swap_108 (by decide) (fun c_48 => ?_) (fun c_48 => ?_)
                                · -- lg_cmp (mLack g L B n b (nI j35) (mPool L 1 n)) 0 gt 0 : True
                                  rw [lg0_gt] at c_48
                                  refine lv_iconst (v := 1) hx hb dX4_swap_124 (by decide) ?_
                                  refine lv_goto (tgt := 129) hx hb dX4_swap_125 (by decide) ?_
                                  refine lv_istore (lv' := [(6, .int 1), (7, .int (nI j35)), (5, .int (thenOf L n (nI j) (nI k))), (4, .int (mPool L 1 n)), (3, .int 1), (0, .ref (ad 0)), (1, .int (nI j)), (2, .int (nI k))]) hx hb dX4_swap_129 hl (by decide) rfl (fun ls hl => ?_)
                                  refine lv_iinc (v := nI (j35 + 1)) (lv' := [(7, .int (nI (j35 + 1))), (6, .int 1), (5, .int (thenOf L n (nI j) (nI k))), (4, .int (mPool L 1 n)), (3, .int 1), (0, .ref (ad 0)), (1, .int (nI j)), (2, .int (nI k))]) hx hb dX4_swap_131 hl (k := 1) rfl (nI_1 _) (by decide) rfl (fun ls hl => ?_)
                                  refine lv_goto (tgt := 87) hx hb dX4_swap_134 (by decide) ?_
                                  exact ih_35 (j35 + 1) (by omega) _ (by first | (simp only [mCan, (eq_true hx_x), hn_x, (eq_true hx_y), hn_y, (eq_true hp_21), c_22, (eq_true hp_23), c_24, c_25, c_26, c_29, (eq_true hp_32), c_33, c_45, c_46, c_48, reduceIte]; done) | simp [mCan, (eq_true hx_x), hn_x, (eq_true hx_y), hn_y, (eq_true hp_21), c_22, (eq_true hp_23), c_24, c_25, c_26, c_29, (eq_true hp_32), c_33, c_45, c_46, c_48])  _ _ hW hS ls (lv_sub hl [0, 1, 2, 3, 4, 5, 6, 7] rfl)
                                · -- lg_cmp (mLack g L B n b (nI j35) (mPool L 1 n)) 0 gt 0 : False
                                  rw [lg0_gt] at c_48
                                  refine lv_aload_n hx hb dX4_swap_111 rfl (lv_at hl 5 rfl) ?_
                                  refine lv_iload hx hb dX4_swap_112 (lv_at hl 0 rfl) ?_
                                  refine lv_iload hx hb dX4_swap_114 (lv_at hl 2 rfl) ?_
                                  refine va_calll (va_runV (As := [.int (nI j35), .int (thenOf L n (nI j) (nI k))]) (rest := []) ⟨hx, hb, hml, hown, hts⟩ (c_X4_lack l D cs A ad g L B n b 0 hn hb5 (nI j35) (thenOf L n (nI j) (nI k)) dv0 dvs) (cwV 2 hts gX4_swap_X4_lack rfl rfl rfl (by decide +kernel) ⟨Nat.le_of_ble_eq_true rfl, Nat.le_of_ble_eq_true rfl⟩) ⟨pM_fb, wb_recv hK hW (r := 0) (Nat.le_of_ble_eq_true rfl) (ci := 5) rfl rfl, fun U hU hV => ⟨rfl, pM_of hK hV.alike hU hW⟩⟩ rfl rfl hl.1 rfl (lv_room (Nat.le_of_ble_eq_true rfl)) dX4_swap_116 ⟨Nat.zero_le _, Nat.zero_le _⟩) hS (fun _ _ h => h.elim) (fun _ h => h.elim) (fun r_49 u t9 H locs ht hvm hw _ hz1 hk1 hS => ?_)
                                  have hW := hW.kept hk1
                                  subst hw
                                  refine lv_lconst (v := 0) hx hb dX4_swap_119 (by decide) ?_
                                  refine W.lcmp hx hb dX4_swap_120 ?_
                                  refine lv_if_ne (tgt := 128) hx hb dX4_swap_121 (by decide) (fun c_50 => ?_) (fun c_50 => ?_)
                                  · -- lg_cmp (mLack g L B n b (nI j35) (thenOf L n (nI j) (nI k))) 0 ne 0 : True
                                    rw [lg0_eq] at c_50
                                    refine lv_iconst (v := 0) hx hb dX4_swap_128 (by decide) ?_
                                    refine lv_istore (lv' := [(6, .int 0), (7, .int (nI j35)), (5, .int (thenOf L n (nI j) (nI k))), (4, .int (mPool L 1 n)), (3, .int 1), (0, .ref (ad 0)), (1, .int (nI j)), (2, .int (nI k))]) hx hb dX4_swap_129 hl (by decide) rfl (fun ls hl => ?_)
                                    refine lv_iinc (v := nI (j35 + 1)) (lv' := [(7, .int (nI (j35 + 1))), (6, .int 0), (5, .int (thenOf L n (nI j) (nI k))), (4, .int (mPool L 1 n)), (3, .int 1), (0, .ref (ad 0)), (1, .int (nI j)), (2, .int (nI k))]) hx hb dX4_swap_131 hl (k := 1) rfl (nI_1 _) (by decide) rfl (fun ls hl => ?_)
                                    refine lv_goto (tgt := 87) hx hb dX4_swap_134 (by decide) ?_
                                    exact ih_35 (j35 + 1) (by omega) _ (by first | (simp only [mCan, (eq_true hx_x), hn_x, (eq_true hx_y), hn_y, (eq_true hp_21), c_22, (eq_true hp_23), c_24, c_25, c_26, c_29, (eq_true hp_32), c_33, c_45, c_46, c_48, c_50, reduceIte]; done) | simp [mCan, (eq_true hx_x), hn_x, (eq_true hx_y), hn_y, (eq_true hp_21), c_22, (eq_true hp_23), c_24, c_25, c_26, c_29, (eq_true hp_32), c_33, c_45, c_46, c_48, c_50])  _ _ hW hS ls (lv_sub hl [0, 1, 2, 3, 4, 5, 6, 7] rfl)
                                  · -- lg_cmp (mLack g L B n b (nI j35) (thenOf L n (nI j) (nI k))) 0 ne 0 : False
                                    rw [lg0_eq] at c_50
                                    refine lv_iconst (v := 1) hx hb dX4_swap_124 (by decide) ?_
                                    refine lv_goto (tgt := 129) hx hb dX4_swap_125 (by decide) ?_
                                    refine lv_istore (lv' := [(6, .int 1), (7, .int (nI j35)), (5, .int (thenOf L n (nI j) (nI k))), (4, .int (mPool L 1 n)), (3, .int 1), (0, .ref (ad 0)), (1, .int (nI j)), (2, .int (nI k))]) hx hb dX4_swap_129 hl (by decide) rfl (fun ls hl => ?_)
                                    refine lv_iinc (v := nI (j35 + 1)) (lv' := [(7, .int (nI (j35 + 1))), (6, .int 1), (5, .int (thenOf L n (nI j) (nI k))), (4, .int (mPool L 1 n)), (3, .int 1), (0, .ref (ad 0)), (1, .int (nI j)), (2, .int (nI k))]) hx hb dX4_swap_131 hl (k := 1) rfl (nI_1 _) (by decide) rfl (fun ls hl => ?_)
                                    refine lv_goto (tgt := 87) hx hb dX4_swap_134 (by decide) ?_
                                    exact ih_35 (j35 + 1) (by omega) _ (by first | (simp only [mCan, (eq_true hx_x), hn_x, (eq_true hx_y), hn_y, (eq_true hp_21), c_22, (eq_true hp_23), c_24, c_25, c_26, c_29, (eq_true hp_32), c_33, c_45, c_46, c_48, c_50, reduceIte]; done) | simp [mCan, (eq_true hx_x), hn_x, (eq_true hx_y), hn_y, (eq_true hp_21), c_22, (eq_true hp_23), c_24, c_25, c_26, c_29, (eq_true hp_32), c_33, c_45, c_46, c_48, c_50])  _ _ hW hS ls (lv_sub hl [0, 1, 2, 3, 4, 5, 6, 7] rfl)
                        exact loop_35 (3) 0 (by omega) _ (by simp [mCan])  _ _ hW hS ls (lv_sub hl [0, 1, 2, 3, 4, 5, 6, 7] rfl)
                      · -- 1 ne 0 : False
                        exact absurd c_33 (by decide)
                    ·
                      exact absurd (by decide) hp_32
          ·
            exact absurd hx_y hp_23
      ·
        exact absurd hx_x hp_21

set_option maxHeartbeats 4000000 in
set_option maxRecDepth 100000 in
theorem c_X4_lives (l : Launch) (D : va_G) (cs : Nat → ClassId) (A : Nat → Prop) (ad : Nat → Nat) (g : Nat → Int32) (L B : Nat → Nat → Int32) (n b : Nat) (t : Int32) (hn : n ≤ 12) (hb5 : b ≤ 5)  : Met l yX4_lives wsX4_lives ({ frames := 1, cells := 0, slots := 0, locals := 24 } : Room) (va_Pc [.ref (ad 0)] (pM D cs A ad g L B n b t)) (va_Qv (fun (_ : Unit) => True) (fun _ t9 => wP D A lvM ad (ctM cs ad ((lvOne n b (g, L, B)).1) ((lvOne n b (g, L, B)).2.1) ((lvOne n b (g, L, B)).2.2) n b t) t9.heap) A) 0 0 A := by
  refine Met.ofW (cc := cX4_lives) (maxL := 2) (ret := none) (by decide) rfl ?_
  intro p e s m args below meth c s₁ BB hml hv
  obtain ⟨rfl, hv⟩ := hv
  obtain ⟨hK, hW⟩ := hv
  have hx := BB.exec
  have hb := BB.bytes
  have hr := BB.returns
  have hts := atoms_spec (ws := wsX4_lives) BB.pre
  have hown : s.vm.findClass RX4 = some m.cls := findClass_of_methodNamed BB.named
  have hlocks := BB.notSynchronized
  have hS : va_S A s.heap s.heap [] := va_S.rf
  have hl := lv_entry ([.ref (ad 0)]) (n := 2) (Nat.le_of_ble_eq_true rfl)
  rw [lg_entry_eq]
  generalize (lg_sl ([.ref (ad 0)]) ++ List.replicate (2 - (lg_sl ([.ref (ad 0)])).length) Slot.unset).toArray = ls at hl ⊢
  have hl : lv_has ls 2 [(0, .ref (ad 0))] := hl
  have hf19 := hts (.fieldLink RX4 19 "CoverpoolModel" "amount" "[I") (by decide +kernel)
  have hf29 := hts (.fieldLink RX4 29 "CoverpoolModel" "due" "[I") (by decide +kernel)
  have hf32 := hts (.fieldLink RX4 32 "CoverpoolModel" "arrears" "[I") (by decide +kernel)
  have hf35 := hts (.fieldLink RX4 35 "CoverpoolModel" "state" "[I") (by decide +kernel)
  have hf38 := hts (.fieldLink RX4 38 "CoverpoolModel" "bondAmount" "[I") (by decide +kernel)
  have hf41 := hts (.fieldLink RX4 41 "CoverpoolModel" "bondDue" "[I") (by decide +kernel)
  have hf44 := hts (.fieldLink RX4 44 "CoverpoolModel" "bondState" "[I") (by decide +kernel)
  have hf47 := hts (.fieldLink RX4 47 "CoverpoolModel" "isPutOff" "[Z") (by decide +kernel)
  have hf54 := hts (.fieldLink RX4 54 "CoverpoolModel" "loans" "I") (by decide +kernel)
  have hf57 := hts (.fieldLink RX4 57 "CoverpoolModel" "bonds" "I") (by decide +kernel)
  have hf64 := hts (.fieldLink RX4 64 "CoverpoolModel" "cash" "I") (by decide +kernel)
  have hf67 := hts (.fieldLink RX4 67 "CoverpoolModel" "month" "I") (by decide +kernel)
  have hinX4 : ∀ w ∈ u_ws RX4 TX4 18, w ∈ wsX4_lives := by decide +kernel
  refine lv_aload_n hx hb dX4_lives_0 rfl (lv_at hl 0 rfl) ?_
  refine lv_dup hx hb dX4_lives_1 rfl ?_
  refine wb_get hx hb hts hinX4 hown hK hW 0 (Nat.le_of_ble_eq_true rfl) rfl rfl 0 (by decide) hf67 (fun _ h9 => h9) (v := .int (g 0)) rfl dX4_lives_2 ?_
  refine lv_iconst (v := 1) hx hb dX4_lives_5 (by decide) ?_
  refine lv_iadd hx hb dX4_lives_6 ?_
  refine wb_put (v := .int ((g 0) + 1)) (ty := .int) hx hb hts hinX4 tyX4 tyX4_ok nmX4 hown hK hW hS 0 (Nat.le_of_ble_eq_true rfl) rfl rfl 0 (by decide) hf67 (fun _ h9 => h9) rfl (by decide +kernel) rfl rfl (Nat.le_of_ble_eq_true rfl) dX4_lives_7 (fun H locs hW hS => ?_)
  obtain ⟨g1, hg1⟩ : ∃ z9, z9 = upd g 0 ((g 0) + 1) := ⟨_, rfl⟩
  have hW : wP D A lvM ad (ctM cs ad g1 L B n b t) H := hW.to (fun r hr => ⟨hr, rfl, by subst hg1; rcases lt11 hr with rfl | rfl | rfl | rfl | rfl | rfl | rfl | rfl | rfl | rfl | rfl <;> rfl⟩)
  subst hg1
  refine lv_iconst (v := 0) hx hb dX4_lives_10 (by decide) ?_
  refine lv_istore_n (lv' := [(1, .int 0), (0, .ref (ad 0))]) hx hb dX4_lives_11 rfl hl (by decide) rfl (fun ls hl => ?_)
  have loop_2 : ∀ (k2 j2 : Nat), j2 + k2 = n → ∀ (H : Heap) (locs : List Loc), wP D A lvM ad (ctM cs ad (upd (upd g 0 (g 0 + 1)) 1 (lvCash L (g 0 + 1) (g 1) j2)) (lvL L (g 0 + 1) j2) B n b t) H → va_S A s.heap H locs → ∀ (ls : Array Slot), lv_has ls 2 [(1, .int (nI j2)), (0, .ref (ad 0))] → W p l e ({ frames := 1, cells := 0, slots := 0, locals := 24 } : Room) s m (([.ref (ad 0)] : List Value).toArray) below meth c H locs 0 0 (MQ below (va_Qv (fun (_ : Unit) => True) (fun _ t9 => wP D A lvM ad (ctM cs ad ((lvOne n b (g, L, B)).1) ((lvOne n b (g, L, B)).2.1) ((lvOne n b (g, L, B)).2.2) n b t) t9.heap) A) (([.ref (ad 0)] : List Value).toArray) s 0 0 A) (F0 m 12 ls []) := by
    intro k2
    induction k2 with
    | zero =>
      intro j2 hj_2  H locs hW hS ls hl
      obtain rfl : n = j2 := by omega
      refine lv_iload_n hx hb dX4_lives_12 rfl (lv_at hl 0 rfl) ?_
      refine lv_aload_n hx hb dX4_lives_13 rfl (lv_at hl 1 rfl) ?_
      refine wb_get hx hb hts hinX4 hown hK hW 0 (Nat.le_of_ble_eq_true rfl) rfl rfl 11 (by decide) hf54 (fun _ h9 => h9) (v := .int (nI n)) rfl dX4_lives_14 ?_
      refine lv_icmp_ge (tgt := 80) hx hb dX4_lives_17 (by decide) (fun c_3 => ?_) (fun c_3 => ?_)
      · -- nI n ge nI n : True
        refine lv_iconst (v := 0) hx hb dX4_lives_80 (by decide) ?_
        refine lv_istore_n (lv' := [(1, .int 0), (0, .ref (ad 0))]) hx hb dX4_lives_81 rfl hl (by decide) rfl (fun ls hl => ?_)
        have loop_4 : ∀ (k4 j4 : Nat), j4 + k4 = b → ∀ (H : Heap) (locs : List Loc), wP D A lvM ad (ctM cs ad (upd (upd g 0 (g 0 + 1)) 1 (bdS (g 0 + 1) (lvCash L (g 0 + 1) (g 1) n) B j4).1) (lvL L (g 0 + 1) n) ((bdS (g 0 + 1) (lvCash L (g 0 + 1) (g 1) n) B j4).2) n b t) H → va_S A s.heap H locs → ∀ (ls : Array Slot), lv_has ls 2 [(1, .int (nI j4)), (0, .ref (ad 0))] → W p l e ({ frames := 1, cells := 0, slots := 0, locals := 24 } : Room) s m (([.ref (ad 0)] : List Value).toArray) below meth c H locs 0 0 (MQ below (va_Qv (fun (_ : Unit) => True) (fun _ t9 => wP D A lvM ad (ctM cs ad ((lvOne n b (g, L, B)).1) ((lvOne n b (g, L, B)).2.1) ((lvOne n b (g, L, B)).2.2) n b t) t9.heap) A) (([.ref (ad 0)] : List Value).toArray) s 0 0 A) (F0 m 82 ls []) := by
          intro k4
          induction k4 with
          | zero =>
            intro j4 hj_4  H locs hW hS ls hl
            obtain rfl : b = j4 := by omega
            refine lv_iload_n hx hb dX4_lives_82 rfl (lv_at hl 0 rfl) ?_
            refine lv_aload_n hx hb dX4_lives_83 rfl (lv_at hl 1 rfl) ?_
            refine wb_get hx hb hts hinX4 hown hK hW 0 (Nat.le_of_ble_eq_true rfl) rfl rfl 16 (by decide) hf57 (fun _ h9 => h9) (v := .int (nI b)) rfl dX4_lives_84 ?_
            refine lv_icmp_ge (tgt := 195) hx hb dX4_lives_87 (by decide) (fun c_5 => ?_) (fun c_5 => ?_)
            · -- nI b ge nI b : True
              exact W.vret hx hb hr (fun t9 ht9 hW9 => ⟨⟨(), rfl, trivial, by dsimp only; rw [ht9]; exact (hW)⟩, hS.F ht9⟩) hS.2.2 dX4_lives_195
            · -- nI b ge nI b : False
              exact absurd (by first | exact Int32.le_refl _ | decide) c_5
          | succ k4 ih_4 =>
            intro j4 hj_4  H locs hW hS ls hl
            refine lv_iload_n hx hb dX4_lives_82 rfl (lv_at hl 0 rfl) ?_
            refine lv_aload_n hx hb dX4_lives_83 rfl (lv_at hl 1 rfl) ?_
            refine wb_get hx hb hts hinX4 hown hK hW 0 (Nat.le_of_ble_eq_true rfl) rfl rfl 16 (by decide) hf57 (fun _ h9 => h9) (v := .int (nI b)) rfl dX4_lives_84 ?_
            refine lv_icmp_ge (tgt := 195) hx hb dX4_lives_87 (by decide) (fun c_6 => ?_) (fun c_6 => ?_)
            · -- nI j4 ge nI b : True
              exact absurd c_6 (nI_ge (by omega) (by omega))
            · -- nI j4 ge nI b : False
              refine lv_aload_n hx hb dX4_lives_90 rfl (lv_at hl 1 rfl) ?_
              refine wb_get hx hb hts hinX4 hown hK hW 0 (Nat.le_of_ble_eq_true rfl) rfl rfl 14 (by decide) hf44 (fun _ h9 => h9) (v := .ref (ad 9)) rfl dX4_lives_91 ?_
              refine lv_iload_n hx hb dX4_lives_94 rfl (lv_at hl 0 rfl) ?_
              refine wb_iald hx hb hK hW 9 (Nat.le_of_ble_eq_true rfl) 0 rfl rfl j4 rfl (by omega) (by decide) dX4_lives_95 ?_
              rw [bdS_ge _ _ B 2 j4 (Nat.le_refl _)]
              refine lv_if_ne (tgt := 189) hx hb dX4_lives_96 (by decide) (fun c_7 => ?_) (fun c_7 => ?_)
              · -- B 2 j4 ne 0 : True
                refine lv_iinc (v := nI (j4 + 1)) (lv' := [(1, .int (nI (j4 + 1))), (0, .ref (ad 0))]) hx hb dX4_lives_189 hl (k := 0) rfl (nI_1 _) (by decide) rfl (fun ls hl => ?_)
                refine lv_goto (tgt := 82) hx hb dX4_lives_192 (by decide) ?_
                have e1 : bdS (g 0 + 1) (lvCash L (g 0 + 1) (g 1) n) B (j4 + 1) = ((bdS (g 0 + 1) (lvCash L (g 0 + 1) (g 1) n) B j4).1, (bdS (g 0 + 1) (lvCash L (g 0 + 1) (g 1) n) B j4).2) := by simp [bdS, c_3, c_6, c_7]
                have hW : wP D A lvM ad (ctM cs ad (upd (upd g 0 (g 0 + 1)) 1 (bdS (g 0 + 1) (lvCash L (g 0 + 1) (g 1) n) B (j4 + 1)).1) (lvL L (g 0 + 1) n) ((bdS (g 0 + 1) (lvCash L (g 0 + 1) (g 1) n) B (j4 + 1)).2) n b t) H := hW.to (fun r hr => ⟨hr, rfl, by first | (rw [e1]; done) | (rw [e1]; rcases lt11 hr with rfl | rfl | rfl | rfl | rfl | rfl | rfl | rfl | rfl | rfl | rfl <;> rfl)⟩)
                exact ih_4 (j4 + 1) (by omega)   _ _ hW hS ls (lv_sub hl [0, 1] rfl)
              · -- B 2 j4 ne 0 : False
                refine lv_aload_n hx hb dX4_lives_99 rfl (lv_at hl 1 rfl) ?_
                refine wb_get hx hb hts hinX4 hown hK hW 0 (Nat.le_of_ble_eq_true rfl) rfl rfl 13 (by decide) hf41 (fun _ h9 => h9) (v := .ref (ad 8)) rfl dX4_lives_100 ?_
                refine lv_iload_n hx hb dX4_lives_103 rfl (lv_at hl 0 rfl) ?_
                refine wb_iald hx hb hK hW 8 (Nat.le_of_ble_eq_true rfl) 0 rfl rfl j4 rfl (by omega) (by decide) dX4_lives_104 ?_
                rw [bdS_ge _ _ B 1 j4 (Nat.le_refl _)]
                refine lv_aload_n hx hb dX4_lives_105 rfl (lv_at hl 1 rfl) ?_
                refine wb_get hx hb hts hinX4 hown hK hW 0 (Nat.le_of_ble_eq_true rfl) rfl rfl 0 (by decide) hf67 (fun _ h9 => h9) (v := .int (g 0 + 1)) rfl dX4_lives_106 ?_
                refine lv_icmp_gt (tgt := 189) hx hb dX4_lives_109 (by decide) (fun c_8 => ?_) (fun c_8 => ?_)
                · -- B 1 j4 gt g 0 + 1 : True
                  refine lv_iinc (v := nI (j4 + 1)) (lv' := [(1, .int (nI (j4 + 1))), (0, .ref (ad 0))]) hx hb dX4_lives_189 hl (k := 0) rfl (nI_1 _) (by decide) rfl (fun ls hl => ?_)
                  refine lv_goto (tgt := 82) hx hb dX4_lives_192 (by decide) ?_
                  have e1 : bdS (g 0 + 1) (lvCash L (g 0 + 1) (g 1) n) B (j4 + 1) = ((bdS (g 0 + 1) (lvCash L (g 0 + 1) (g 1) n) B j4).1, (bdS (g 0 + 1) (lvCash L (g 0 + 1) (g 1) n) B j4).2) := by simp [bdS, c_3, c_6, c_7, c_8]
                  have hW : wP D A lvM ad (ctM cs ad (upd (upd g 0 (g 0 + 1)) 1 (bdS (g 0 + 1) (lvCash L (g 0 + 1) (g 1) n) B (j4 + 1)).1) (lvL L (g 0 + 1) n) ((bdS (g 0 + 1) (lvCash L (g 0 + 1) (g 1) n) B (j4 + 1)).2) n b t) H := hW.to (fun r hr => ⟨hr, rfl, by first | (rw [e1]; done) | (rw [e1]; rcases lt11 hr with rfl | rfl | rfl | rfl | rfl | rfl | rfl | rfl | rfl | rfl | rfl <;> rfl)⟩)
                  exact ih_4 (j4 + 1) (by omega)   _ _ hW hS ls (lv_sub hl [0, 1] rfl)
                · -- B 1 j4 gt g 0 + 1 : False
                  refine lv_aload_n hx hb dX4_lives_112 rfl (lv_at hl 1 rfl) ?_
                  refine wb_get hx hb hts hinX4 hown hK hW 0 (Nat.le_of_ble_eq_true rfl) rfl rfl 1 (by decide) hf64 (fun _ h9 => h9) (v := .int ((bdS (g 0 + 1) (lvCash L (g 0 + 1) (g 1) n) B j4).1)) rfl dX4_lives_113 ?_
                  refine lv_aload_n hx hb dX4_lives_116 rfl (lv_at hl 1 rfl) ?_
                  refine wb_get hx hb hts hinX4 hown hK hW 0 (Nat.le_of_ble_eq_true rfl) rfl rfl 12 (by decide) hf38 (fun _ h9 => h9) (v := .ref (ad 7)) rfl dX4_lives_117 ?_
                  refine lv_iload_n hx hb dX4_lives_120 rfl (lv_at hl 0 rfl) ?_
                  refine wb_iald hx hb hK hW 7 (Nat.le_of_ble_eq_true rfl) 0 rfl rfl j4 rfl (by omega) (by decide) dX4_lives_121 ?_
                  rw [bdS_ge _ _ B 0 j4 (Nat.le_refl _)]
                  refine lv_icmp_lt (tgt := 150) hx hb dX4_lives_122 (by decide) (fun c_9 => ?_) (fun c_9 => ?_)
                  · -- (bdS (g 0 + 1) (lvCash L (g 0 + 1) (g 1) n) B j4).1 lt B 0 j4 : True
                    refine lv_aload_n hx hb dX4_lives_150 rfl (lv_at hl 1 rfl) ?_
                    refine wb_get hx hb hts hinX4 hown hK hW 0 (Nat.le_of_ble_eq_true rfl) rfl rfl 15 (by decide) hf47 (fun _ h9 => h9) (v := .ref (ad 10)) rfl dX4_lives_151 ?_
                    refine lv_iload_n hx hb dX4_lives_154 rfl (lv_at hl 0 rfl) ?_
                    refine wb_zald hx hb hK hW 10 (Nat.le_of_ble_eq_true rfl) 1 rfl rfl j4 rfl (by omega) (by decide) dX4_lives_155 ?_
                    rw [bdS_ge _ _ B 3 j4 (Nat.le_refl _)]
                    refine lv_if_ne (tgt := 182) hx hb dX4_lives_156 (by decide) (fun c_10 => ?_) (fun c_10 => ?_)
                    · -- B 3 j4 ne 0 : True
                      refine lv_aload_n hx hb dX4_lives_182 rfl (lv_at hl 1 rfl) ?_
                      refine wb_get hx hb hts hinX4 hown hK hW 0 (Nat.le_of_ble_eq_true rfl) rfl rfl 14 (by decide) hf44 (fun _ h9 => h9) (v := .ref (ad 9)) rfl dX4_lives_183 ?_
                      refine lv_iload_n hx hb dX4_lives_186 rfl (lv_at hl 0 rfl) ?_
                      refine lv_iconst (v := 3) hx hb dX4_lives_187 (by decide) ?_
                      refine wb_iast hx hb hK hW hS 9 (Nat.le_of_ble_eq_true rfl) 0 rfl rfl j4 rfl (by omega) (by decide) dX4_lives_188 (fun H locs hW hS => ?_)
                      obtain ⟨B11, hB11⟩ : ∃ z9, z9 = updL ((bdS (g 0 + 1) (lvCash L (g 0 + 1) (g 1) n) B j4).2) 2 j4 3 := ⟨_, rfl⟩
                      have hW : wP D A lvM ad (ctM cs ad (upd (upd g 0 (g 0 + 1)) 1 (bdS (g 0 + 1) (lvCash L (g 0 + 1) (g 1) n) B j4).1) (lvL L (g 0 + 1) n) B11 n b t) H := hW.to (fun r hr => ⟨hr, rfl, by subst hB11; rcases lt11 hr with rfl | rfl | rfl | rfl | rfl | rfl | rfl | rfl | rfl | rfl | rfl <;> rfl⟩)
                      refine lv_iinc (v := nI (j4 + 1)) (lv' := [(1, .int (nI (j4 + 1))), (0, .ref (ad 0))]) hx hb dX4_lives_189 hl (k := 0) rfl (nI_1 _) (by decide) rfl (fun ls hl => ?_)
                      refine lv_goto (tgt := 82) hx hb dX4_lives_192 (by decide) ?_
                      have e1 : bdS (g 0 + 1) (lvCash L (g 0 + 1) (g 1) n) B (j4 + 1) = ((bdS (g 0 + 1) (lvCash L (g 0 + 1) (g 1) n) B j4).1, (updL ((bdS (g 0 + 1) (lvCash L (g 0 + 1) (g 1) n) B j4).2) 2 j4 3)) := by simp [bdS, c_3, c_6, c_7, c_8, c_9, c_10]
                      have hW : wP D A lvM ad (ctM cs ad (upd (upd g 0 (g 0 + 1)) 1 (bdS (g 0 + 1) (lvCash L (g 0 + 1) (g 1) n) B (j4 + 1)).1) (lvL L (g 0 + 1) n) ((bdS (g 0 + 1) (lvCash L (g 0 + 1) (g 1) n) B (j4 + 1)).2) n b t) H := hW.to (fun r hr => ⟨hr, rfl, by first | (rw [e1]; done) | (rw [e1]; subst hB11; rcases lt11 hr with rfl | rfl | rfl | rfl | rfl | rfl | rfl | rfl | rfl | rfl | rfl <;> rfl)⟩)
                      exact ih_4 (j4 + 1) (by omega)   _ _ hW hS ls (lv_sub hl [0, 1] rfl)
                    · -- B 3 j4 ne 0 : False
                      refine lv_aload_n hx hb dX4_lives_159 rfl (lv_at hl 1 rfl) ?_
                      refine wb_get hx hb hts hinX4 hown hK hW 0 (Nat.le_of_ble_eq_true rfl) rfl rfl 15 (by decide) hf47 (fun _ h9 => h9) (v := .ref (ad 10)) rfl dX4_lives_160 ?_
                      refine lv_iload_n hx hb dX4_lives_163 rfl (lv_at hl 0 rfl) ?_
                      refine lv_iconst (v := 1) hx hb dX4_lives_164 (by decide) ?_
                      refine wb_zast hx hb hK hW hS 10 (Nat.le_of_ble_eq_true rfl) 1 rfl rfl (by decide) j4 rfl (by omega) (by decide) dX4_lives_165 (fun H locs hW hS => ?_)
                      obtain ⟨B12, hB12⟩ : ∃ z9, z9 = updL ((bdS (g 0 + 1) (lvCash L (g 0 + 1) (g 1) n) B j4).2) 3 j4 1 := ⟨_, rfl⟩
                      have hW : wP D A lvM ad (ctM cs ad (upd (upd g 0 (g 0 + 1)) 1 (bdS (g 0 + 1) (lvCash L (g 0 + 1) (g 1) n) B j4).1) (lvL L (g 0 + 1) n) B12 n b t) H := hW.to (fun r hr => ⟨hr, rfl, by subst hB12; rcases lt11 hr with rfl | rfl | rfl | rfl | rfl | rfl | rfl | rfl | rfl | rfl | rfl <;> rfl⟩)
                      refine lv_aload_n hx hb dX4_lives_166 rfl (lv_at hl 1 rfl) ?_
                      refine wb_get hx hb hts hinX4 hown hK hW 0 (Nat.le_of_ble_eq_true rfl) rfl rfl 13 (by decide) hf41 (fun _ h9 => h9) (v := .ref (ad 8)) rfl dX4_lives_167 ?_
                      refine lv_iload_n hx hb dX4_lives_170 rfl (lv_at hl 0 rfl) ?_
                      refine lv_aload_n hx hb dX4_lives_171 rfl (lv_at hl 1 rfl) ?_
                      refine wb_get hx hb hts hinX4 hown hK hW 0 (Nat.le_of_ble_eq_true rfl) rfl rfl 0 (by decide) hf67 (fun _ h9 => h9) (v := .int (g 0 + 1)) rfl dX4_lives_172 ?_
                      refine lv_bipush (v := 12) hx hb dX4_lives_175 (by decide) ?_
                      refine lv_iadd hx hb dX4_lives_177 ?_
                      refine wb_iast hx hb hK hW hS 8 (Nat.le_of_ble_eq_true rfl) 0 rfl rfl j4 rfl (by omega) (by decide) dX4_lives_178 (fun H locs hW hS => ?_)
                      obtain ⟨B13, hB13⟩ : ∃ z9, z9 = updL B12 1 j4 ((g 0 + 1) + 12) := ⟨_, rfl⟩
                      have hW : wP D A lvM ad (ctM cs ad (upd (upd g 0 (g 0 + 1)) 1 (bdS (g 0 + 1) (lvCash L (g 0 + 1) (g 1) n) B j4).1) (lvL L (g 0 + 1) n) B13 n b t) H := hW.to (fun r hr => ⟨hr, rfl, by subst hB13; rcases lt11 hr with rfl | rfl | rfl | rfl | rfl | rfl | rfl | rfl | rfl | rfl | rfl <;> rfl⟩)
                      refine lv_goto (tgt := 189) hx hb dX4_lives_179 (by decide) ?_
                      refine lv_iinc (v := nI (j4 + 1)) (lv' := [(1, .int (nI (j4 + 1))), (0, .ref (ad 0))]) hx hb dX4_lives_189 hl (k := 0) rfl (nI_1 _) (by decide) rfl (fun ls hl => ?_)
                      refine lv_goto (tgt := 82) hx hb dX4_lives_192 (by decide) ?_
                      have e1 : bdS (g 0 + 1) (lvCash L (g 0 + 1) (g 1) n) B (j4 + 1) = ((bdS (g 0 + 1) (lvCash L (g 0 + 1) (g 1) n) B j4).1, (updL (updL ((bdS (g 0 + 1) (lvCash L (g 0 + 1) (g 1) n) B j4).2) 3 j4 1) 1 j4 ((g 0 + 1) + 12))) := by simp [bdS, c_3, c_6, c_7, c_8, c_9, c_10]
                      have hW : wP D A lvM ad (ctM cs ad (upd (upd g 0 (g 0 + 1)) 1 (bdS (g 0 + 1) (lvCash L (g 0 + 1) (g 1) n) B (j4 + 1)).1) (lvL L (g 0 + 1) n) ((bdS (g 0 + 1) (lvCash L (g 0 + 1) (g 1) n) B (j4 + 1)).2) n b t) H := hW.to (fun r hr => ⟨hr, rfl, by first | (rw [e1]; done) | (rw [e1]; subst hB13 hB12; rcases lt11 hr with rfl | rfl | rfl | rfl | rfl | rfl | rfl | rfl | rfl | rfl | rfl <;> rfl)⟩)
                      exact ih_4 (j4 + 1) (by omega)   _ _ hW hS ls (lv_sub hl [0, 1] rfl)
                  · -- (bdS (g 0 + 1) (lvCash L (g 0 + 1) (g 1) n) B j4).1 lt B 0 j4 : False
                    refine lv_aload_n hx hb dX4_lives_125 rfl (lv_at hl 1 rfl) ?_
                    refine lv_dup hx hb dX4_lives_126 rfl ?_
                    refine wb_get hx hb hts hinX4 hown hK hW 0 (Nat.le_of_ble_eq_true rfl) rfl rfl 1 (by decide) hf64 (fun _ h9 => h9) (v := .int ((bdS (g 0 + 1) (lvCash L (g 0 + 1) (g 1) n) B j4).1)) rfl dX4_lives_127 ?_
                    refine lv_aload_n hx hb dX4_lives_130 rfl (lv_at hl 1 rfl) ?_
                    refine wb_get hx hb hts hinX4 hown hK hW 0 (Nat.le_of_ble_eq_true rfl) rfl rfl 12 (by decide) hf38 (fun _ h9 => h9) (v := .ref (ad 7)) rfl dX4_lives_131 ?_
                    refine lv_iload_n hx hb dX4_lives_134 rfl (lv_at hl 0 rfl) ?_
                    refine wb_iald hx hb hK hW 7 (Nat.le_of_ble_eq_true rfl) 0 rfl rfl j4 rfl (by omega) (by decide) dX4_lives_135 ?_
                    rw [bdS_ge _ _ B 0 j4 (Nat.le_refl _)]
                    refine lv_isub hx hb dX4_lives_136 ?_
                    refine wb_put (v := .int (((bdS (g 0 + 1) (lvCash L (g 0 + 1) (g 1) n) B j4).1) - (B 0 j4))) (ty := .int) hx hb hts hinX4 tyX4 tyX4_ok nmX4 hown hK hW hS 0 (Nat.le_of_ble_eq_true rfl) rfl rfl 1 (by decide) hf64 (fun _ h9 => h9) rfl (by decide +kernel) rfl rfl (Nat.le_of_ble_eq_true rfl) dX4_lives_137 (fun H locs hW hS => ?_)
                    obtain ⟨g14, hg14⟩ : ∃ z9, z9 = upd (upd (upd g 0 (g 0 + 1)) 1 (bdS (g 0 + 1) (lvCash L (g 0 + 1) (g 1) n) B j4).1) 1 (((bdS (g 0 + 1) (lvCash L (g 0 + 1) (g 1) n) B j4).1) - (B 0 j4)) := ⟨_, rfl⟩
                    have hW : wP D A lvM ad (ctM cs ad g14 (lvL L (g 0 + 1) n) ((bdS (g 0 + 1) (lvCash L (g 0 + 1) (g 1) n) B j4).2) n b t) H := hW.to (fun r hr => ⟨hr, rfl, by subst hg14; rcases lt11 hr with rfl | rfl | rfl | rfl | rfl | rfl | rfl | rfl | rfl | rfl | rfl <;> rfl⟩)
                    refine lv_aload_n hx hb dX4_lives_140 rfl (lv_at hl 1 rfl) ?_
                    refine wb_get hx hb hts hinX4 hown hK hW 0 (Nat.le_of_ble_eq_true rfl) rfl rfl 14 (by decide) hf44 (fun _ h9 => h9) (v := .ref (ad 9)) rfl dX4_lives_141 ?_
                    refine lv_iload_n hx hb dX4_lives_144 rfl (lv_at hl 0 rfl) ?_
                    refine lv_iconst (v := 2) hx hb dX4_lives_145 (by decide) ?_
                    refine wb_iast hx hb hK hW hS 9 (Nat.le_of_ble_eq_true rfl) 0 rfl rfl j4 rfl (by omega) (by decide) dX4_lives_146 (fun H locs hW hS => ?_)
                    obtain ⟨B15, hB15⟩ : ∃ z9, z9 = updL ((bdS (g 0 + 1) (lvCash L (g 0 + 1) (g 1) n) B j4).2) 2 j4 2 := ⟨_, rfl⟩
                    have hW : wP D A lvM ad (ctM cs ad g14 (lvL L (g 0 + 1) n) B15 n b t) H := hW.to (fun r hr => ⟨hr, rfl, by subst hB15; rcases lt11 hr with rfl | rfl | rfl | rfl | rfl | rfl | rfl | rfl | rfl | rfl | rfl <;> rfl⟩)
                    refine lv_goto (tgt := 189) hx hb dX4_lives_147 (by decide) ?_
                    refine lv_iinc (v := nI (j4 + 1)) (lv' := [(1, .int (nI (j4 + 1))), (0, .ref (ad 0))]) hx hb dX4_lives_189 hl (k := 0) rfl (nI_1 _) (by decide) rfl (fun ls hl => ?_)
                    refine lv_goto (tgt := 82) hx hb dX4_lives_192 (by decide) ?_
                    have e1 : bdS (g 0 + 1) (lvCash L (g 0 + 1) (g 1) n) B (j4 + 1) = ((bdS (g 0 + 1) (lvCash L (g 0 + 1) (g 1) n) B j4).1 - B 0 j4, (updL ((bdS (g 0 + 1) (lvCash L (g 0 + 1) (g 1) n) B j4).2) 2 j4 2)) := by simp [bdS, c_3, c_6, c_7, c_8, c_9]
                    have hW : wP D A lvM ad (ctM cs ad (upd (upd g 0 (g 0 + 1)) 1 (bdS (g 0 + 1) (lvCash L (g 0 + 1) (g 1) n) B (j4 + 1)).1) (lvL L (g 0 + 1) n) ((bdS (g 0 + 1) (lvCash L (g 0 + 1) (g 1) n) B (j4 + 1)).2) n b t) H := hW.to (fun r hr => ⟨hr, rfl, by first | (rw [e1]; done) | (rw [e1]; subst hB15 hg14; rcases lt11 hr with rfl | rfl | rfl | rfl | rfl | rfl | rfl | rfl | rfl | rfl | rfl <;> rfl)⟩)
                    exact ih_4 (j4 + 1) (by omega)   _ _ hW hS ls (lv_sub hl [0, 1] rfl)
        exact loop_4 (b) 0 (by omega)   _ _ (hW.to (fun r hr => ⟨hr, rfl, by rcases lt11 hr with rfl | rfl | rfl | rfl | rfl | rfl | rfl | rfl | rfl | rfl | rfl <;> rfl⟩)) hS ls (lv_sub hl [0, 1] rfl)
      · -- nI n ge nI n : False
        exact absurd (by first | exact Int32.le_refl _ | decide) c_3
    | succ k2 ih_2 =>
      intro j2 hj_2  H locs hW hS ls hl
      refine lv_iload_n hx hb dX4_lives_12 rfl (lv_at hl 0 rfl) ?_
      refine lv_aload_n hx hb dX4_lives_13 rfl (lv_at hl 1 rfl) ?_
      refine wb_get hx hb hts hinX4 hown hK hW 0 (Nat.le_of_ble_eq_true rfl) rfl rfl 11 (by decide) hf54 (fun _ h9 => h9) (v := .int (nI n)) rfl dX4_lives_14 ?_
      refine lv_icmp_ge (tgt := 80) hx hb dX4_lives_17 (by decide) (fun c_16 => ?_) (fun c_16 => ?_)
      · -- nI j2 ge nI n : True
        exact absurd c_16 (nI_ge (by omega) (by omega))
      · -- nI j2 ge nI n : False
        refine lv_aload_n hx hb dX4_lives_20 rfl (lv_at hl 1 rfl) ?_
        refine wb_get hx hb hts hinX4 hown hK hW 0 (Nat.le_of_ble_eq_true rfl) rfl rfl 10 (by decide) hf35 (fun _ h9 => h9) (v := .ref (ad 6)) rfl dX4_lives_21 ?_
        refine lv_iload_n hx hb dX4_lives_24 rfl (lv_at hl 0 rfl) ?_
        refine wb_iald hx hb hK hW 6 (Nat.le_of_ble_eq_true rfl) 0 rfl rfl j2 rfl (by omega) (by decide) dX4_lives_25 ?_
        rw [lvL_ge L _ _ (Nat.le_refl _)]
        refine lv_iconst (v := 1) hx hb dX4_lives_26 (by decide) ?_
        refine lv_icmp_ne (tgt := 74) hx hb dX4_lives_27 (by decide) (fun c_17 => ?_) (fun c_17 => ?_)
        · -- L 5 j2 ne 1 : True
          refine lv_iinc (v := nI (j2 + 1)) (lv' := [(1, .int (nI (j2 + 1))), (0, .ref (ad 0))]) hx hb dX4_lives_74 hl (k := 0) rfl (nI_1 _) (by decide) rfl (fun ls hl => ?_)
          refine lv_goto (tgt := 12) hx hb dX4_lives_77 (by decide) ?_
          have e1 : lvL L (g 0 + 1) (j2 + 1) = lvL L (g 0 + 1) j2 := by simp [lvL, lvP, c_16, c_17]
          have e2 : lvCash L (g 0 + 1) (g 1) (j2 + 1) = lvCash L (g 0 + 1) (g 1) j2 := by simp [lvCash, lvP, c_16, c_17]
          have hW : wP D A lvM ad (ctM cs ad (upd (upd g 0 (g 0 + 1)) 1 (lvCash L (g 0 + 1) (g 1) (j2 + 1))) (lvL L (g 0 + 1) (j2 + 1)) B n b t) H := hW.to (fun r hr => ⟨hr, rfl, by first | (rw [e1, e2]; done) | (rw [e1, e2]; rcases lt11 hr with rfl | rfl | rfl | rfl | rfl | rfl | rfl | rfl | rfl | rfl | rfl <;> rfl)⟩)
          exact ih_2 (j2 + 1) (by omega)   _ _ hW hS ls (lv_sub hl [0, 1] rfl)
        · -- L 5 j2 ne 1 : False
          refine lv_aload_n hx hb dX4_lives_30 rfl (lv_at hl 1 rfl) ?_
          refine wb_get hx hb hts hinX4 hown hK hW 0 (Nat.le_of_ble_eq_true rfl) rfl rfl 8 (by decide) hf29 (fun _ h9 => h9) (v := .ref (ad 4)) rfl dX4_lives_31 ?_
          refine lv_iload_n hx hb dX4_lives_34 rfl (lv_at hl 0 rfl) ?_
          refine wb_iald hx hb hK hW 4 (Nat.le_of_ble_eq_true rfl) 0 rfl rfl j2 rfl (by omega) (by decide) dX4_lives_35 ?_
          rw [lvL_k L _ (k := 3) (by decide) _ _]
          refine lv_aload_n hx hb dX4_lives_36 rfl (lv_at hl 1 rfl) ?_
          refine wb_get hx hb hts hinX4 hown hK hW 0 (Nat.le_of_ble_eq_true rfl) rfl rfl 0 (by decide) hf67 (fun _ h9 => h9) (v := .int (g 0 + 1)) rfl dX4_lives_37 ?_
          refine lv_icmp_gt (tgt := 74) hx hb dX4_lives_40 (by decide) (fun c_18 => ?_) (fun c_18 => ?_)
          · -- L 3 j2 gt g 0 + 1 : True
            refine lv_iinc (v := nI (j2 + 1)) (lv' := [(1, .int (nI (j2 + 1))), (0, .ref (ad 0))]) hx hb dX4_lives_74 hl (k := 0) rfl (nI_1 _) (by decide) rfl (fun ls hl => ?_)
            refine lv_goto (tgt := 12) hx hb dX4_lives_77 (by decide) ?_
            have e1 : lvL L (g 0 + 1) (j2 + 1) = lvL L (g 0 + 1) j2 := by simp [lvL, lvP, c_16, c_17, c_18]
            have e2 : lvCash L (g 0 + 1) (g 1) (j2 + 1) = lvCash L (g 0 + 1) (g 1) j2 := by simp [lvCash, lvP, c_16, c_17, c_18]
            have hW : wP D A lvM ad (ctM cs ad (upd (upd g 0 (g 0 + 1)) 1 (lvCash L (g 0 + 1) (g 1) (j2 + 1))) (lvL L (g 0 + 1) (j2 + 1)) B n b t) H := hW.to (fun r hr => ⟨hr, rfl, by first | (rw [e1, e2]; done) | (rw [e1, e2]; rcases lt11 hr with rfl | rfl | rfl | rfl | rfl | rfl | rfl | rfl | rfl | rfl | rfl <;> rfl)⟩)
            exact ih_2 (j2 + 1) (by omega)   _ _ hW hS ls (lv_sub hl [0, 1] rfl)
          · -- L 3 j2 gt g 0 + 1 : False
            refine lv_aload_n hx hb dX4_lives_43 rfl (lv_at hl 1 rfl) ?_
            refine wb_get hx hb hts hinX4 hown hK hW 0 (Nat.le_of_ble_eq_true rfl) rfl rfl 9 (by decide) hf32 (fun _ h9 => h9) (v := .ref (ad 5)) rfl dX4_lives_44 ?_
            refine lv_iload_n hx hb dX4_lives_47 rfl (lv_at hl 0 rfl) ?_
            refine wb_iald hx hb hK hW 5 (Nat.le_of_ble_eq_true rfl) 0 rfl rfl j2 rfl (by omega) (by decide) dX4_lives_48 ?_
            rw [lvL_k L _ (k := 4) (by decide) _ _]
            refine lv_if_ne (tgt := 74) hx hb dX4_lives_49 (by decide) (fun c_19 => ?_) (fun c_19 => ?_)
            · -- L 4 j2 ne 0 : True
              refine lv_iinc (v := nI (j2 + 1)) (lv' := [(1, .int (nI (j2 + 1))), (0, .ref (ad 0))]) hx hb dX4_lives_74 hl (k := 0) rfl (nI_1 _) (by decide) rfl (fun ls hl => ?_)
              refine lv_goto (tgt := 12) hx hb dX4_lives_77 (by decide) ?_
              have e1 : lvL L (g 0 + 1) (j2 + 1) = lvL L (g 0 + 1) j2 := by simp [lvL, lvP, c_16, c_17, c_18, c_19]
              have e2 : lvCash L (g 0 + 1) (g 1) (j2 + 1) = lvCash L (g 0 + 1) (g 1) j2 := by simp [lvCash, lvP, c_16, c_17, c_18, c_19]
              have hW : wP D A lvM ad (ctM cs ad (upd (upd g 0 (g 0 + 1)) 1 (lvCash L (g 0 + 1) (g 1) (j2 + 1))) (lvL L (g 0 + 1) (j2 + 1)) B n b t) H := hW.to (fun r hr => ⟨hr, rfl, by first | (rw [e1, e2]; done) | (rw [e1, e2]; rcases lt11 hr with rfl | rfl | rfl | rfl | rfl | rfl | rfl | rfl | rfl | rfl | rfl <;> rfl)⟩)
              exact ih_2 (j2 + 1) (by omega)   _ _ hW hS ls (lv_sub hl [0, 1] rfl)
            · -- L 4 j2 ne 0 : False
              refine lv_aload_n hx hb dX4_lives_52 rfl (lv_at hl 1 rfl) ?_
              refine wb_get hx hb hts hinX4 hown hK hW 0 (Nat.le_of_ble_eq_true rfl) rfl rfl 10 (by decide) hf35 (fun _ h9 => h9) (v := .ref (ad 6)) rfl dX4_lives_53 ?_
              refine lv_iload_n hx hb dX4_lives_56 rfl (lv_at hl 0 rfl) ?_
              refine lv_iconst (v := 2) hx hb dX4_lives_57 (by decide) ?_
              refine wb_iast hx hb hK hW hS 6 (Nat.le_of_ble_eq_true rfl) 0 rfl rfl j2 rfl (by omega) (by decide) dX4_lives_58 (fun H locs hW hS => ?_)
              obtain ⟨L20, hL20⟩ : ∃ z9, z9 = updL (lvL L (g 0 + 1) j2) 5 j2 2 := ⟨_, rfl⟩
              have hW : wP D A lvM ad (ctM cs ad (upd (upd g 0 (g 0 + 1)) 1 (lvCash L (g 0 + 1) (g 1) j2)) L20 B n b t) H := hW.to (fun r hr => ⟨hr, rfl, by subst hL20; rcases lt11 hr with rfl | rfl | rfl | rfl | rfl | rfl | rfl | rfl | rfl | rfl | rfl <;> rfl⟩)
              refine lv_aload_n hx hb dX4_lives_59 rfl (lv_at hl 1 rfl) ?_
              refine lv_dup hx hb dX4_lives_60 rfl ?_
              refine wb_get hx hb hts hinX4 hown hK hW 0 (Nat.le_of_ble_eq_true rfl) rfl rfl 1 (by decide) hf64 (fun _ h9 => h9) (v := .int (lvCash L (g 0 + 1) (g 1) j2)) rfl dX4_lives_61 ?_
              refine lv_aload_n hx hb dX4_lives_64 rfl (lv_at hl 1 rfl) ?_
              refine wb_get hx hb hts hinX4 hown hK hW 0 (Nat.le_of_ble_eq_true rfl) rfl rfl 5 (by decide) hf19 (fun _ h9 => h9) (v := .ref (ad 1)) rfl dX4_lives_65 ?_
              refine lv_iload_n hx hb dX4_lives_68 rfl (lv_at hl 0 rfl) ?_
              refine wb_iald hx hb hK hW 1 (Nat.le_of_ble_eq_true rfl) 0 rfl rfl j2 rfl (by omega) (by decide) dX4_lives_69 ?_
              rw [hL20, updL_nk _ 5 _ _ (k' := 0) (by decide), lvL_k L _ (k := 0) (by decide) _ _]
              refine lv_iadd hx hb dX4_lives_70 ?_
              refine wb_put (v := .int ((lvCash L (g 0 + 1) (g 1) j2) + (L 0 j2))) (ty := .int) hx hb hts hinX4 tyX4 tyX4_ok nmX4 hown hK hW hS 0 (Nat.le_of_ble_eq_true rfl) rfl rfl 1 (by decide) hf64 (fun _ h9 => h9) rfl (by decide +kernel) rfl rfl (Nat.le_of_ble_eq_true rfl) dX4_lives_71 (fun H locs hW hS => ?_)
              obtain ⟨g21, hg21⟩ : ∃ z9, z9 = upd (upd (upd g 0 (g 0 + 1)) 1 (lvCash L (g 0 + 1) (g 1) j2)) 1 ((lvCash L (g 0 + 1) (g 1) j2) + (L 0 j2)) := ⟨_, rfl⟩
              have hW : wP D A lvM ad (ctM cs ad g21 L20 B n b t) H := hW.to (fun r hr => ⟨hr, rfl, by subst hg21; rcases lt11 hr with rfl | rfl | rfl | rfl | rfl | rfl | rfl | rfl | rfl | rfl | rfl <;> rfl⟩)
              refine lv_iinc (v := nI (j2 + 1)) (lv' := [(1, .int (nI (j2 + 1))), (0, .ref (ad 0))]) hx hb dX4_lives_74 hl (k := 0) rfl (nI_1 _) (by decide) rfl (fun ls hl => ?_)
              refine lv_goto (tgt := 12) hx hb dX4_lives_77 (by decide) ?_
              have e1 : lvL L (g 0 + 1) (j2 + 1) = updL (lvL L (g 0 + 1) j2) 5 j2 2 := by simp [lvL, lvP, c_16, c_17, c_18, c_19, hL20, hg21]
              have e2 : lvCash L (g 0 + 1) (g 1) (j2 + 1) = lvCash L (g 0 + 1) (g 1) j2 + L 0 j2 := by simp [lvCash, lvP, c_16, c_17, c_18, c_19, hL20, hg21]
              have hW : wP D A lvM ad (ctM cs ad (upd (upd g 0 (g 0 + 1)) 1 (lvCash L (g 0 + 1) (g 1) (j2 + 1))) (lvL L (g 0 + 1) (j2 + 1)) B n b t) H := hW.to (fun r hr => ⟨hr, rfl, by first | (rw [e1, e2]; done) | (rw [e1, e2]; subst hg21 hL20; rcases lt11 hr with rfl | rfl | rfl | rfl | rfl | rfl | rfl | rfl | rfl | rfl | rfl <;> rfl)⟩)
              exact ih_2 (j2 + 1) (by omega)   _ _ hW hS ls (lv_sub hl [0, 1] rfl)
  exact loop_2 (n) 0 (by omega)   _ _ (hW.to (fun r hr => ⟨hr, rfl, by rcases lt11 hr with rfl | rfl | rfl | rfl | rfl | rfl | rfl | rfl | rfl | rfl | rfl <;> rfl⟩)) hS ls (lv_sub hl [0, 1] rfl)

set_option maxHeartbeats 4000000 in
set_option maxRecDepth 100000 in
theorem c_X4_pass (l : Launch) (D : va_G) (cs : Nat → ClassId) (A : Nat → Prop) (ad : Nat → Nat) (g : Nat → Int32) (L B : Nat → Nat → Int32) (n b : Nat) (t : Int32) (hn : n ≤ 12) (hb5 : b ≤ 5) (x : Int32)  : Met l yX4_pass wsX4_pass ({ frames := 2, cells := 0, slots := 0, locals := 47 } : Room) (va_Pc [.ref (ad 0), .int x] (pM D cs A ad g L B n b t)) (va_Qi (fun (r9 : Int32) (_ : Unit) => r9 = sel (kIn 1 24 x) ((lvMany n b (g, L, B) (ixN x)).1 0) 0) (fun _ t9 => wP D A lvM ad (ctM cs ad (sel (kIn 1 24 x) ((lvMany n b (g, L, B) (ixN x)).1) g) (sel (kIn 1 24 x) ((lvMany n b (g, L, B) (ixN x)).2.1) L) (sel (kIn 1 24 x) ((lvMany n b (g, L, B) (ixN x)).2.2) B) n b (kIn 1 24 x)) t9.heap) A) 0 0 A := by
  refine Met.ofW (cc := cX4_pass) (maxL := 3) (ret := (some .int)) (by decide) rfl ?_
  intro p e s m args below meth c s₁ BB hml hv
  obtain ⟨rfl, hv⟩ := hv
  obtain ⟨hK, hW⟩ := hv
  have hx := BB.exec
  have hb := BB.bytes
  have hr := BB.returns
  have hts := atoms_spec (ws := wsX4_pass) BB.pre
  have hown : s.vm.findClass RX4 = some m.cls := findClass_of_methodNamed BB.named
  have hlocks := BB.notSynchronized
  have hS : va_S A s.heap s.heap [] := va_S.rf
  have hl := lv_entry ([.ref (ad 0), .int x]) (n := 3) (Nat.le_of_ble_eq_true rfl)
  rw [lg_entry_eq]
  generalize (lg_sl ([.ref (ad 0), .int x]) ++ List.replicate (3 - (lg_sl ([.ref (ad 0), .int x])).length) Slot.unset).toArray = ls at hl ⊢
  have hl : lv_has ls 3 [(0, .ref (ad 0)), (1, .int x)] := hl
  have hf67 := hts (.fieldLink RX4 67 "CoverpoolModel" "month" "I") (by decide +kernel)
  have hinX4 : ∀ w ∈ u_ws RX4 TX4 18, w ∈ wsX4_pass := by decide +kernel
  refine lv_aload_n hx hb dX4_pass_0 rfl (lv_at hl 0 rfl) ?_
  refine lv_iload_n hx hb dX4_pass_1 rfl (lv_at hl 1 rfl) ?_
  refine lv_iconst (v := 1) hx hb dX4_pass_2 (by decide) ?_
  refine lv_bipush (v := 24) hx hb dX4_pass_3 (by decide) ?_
  refine va_calli (va_runS (As := [.int x, .int 1, .int 24]) (rest := [.ref (ad 0)]) ⟨hx, hb, hml, hown, hts⟩ (c_X4_isWithin l x 1 24) (va_cwS 3 hts gX4_pass_X4_isWithin rfl rfl rfl (by decide +kernel) ⟨Nat.le_of_ble_eq_true rfl, Nat.le_of_ble_eq_true rfl⟩) ⟨pT_fb, fun U hU hV => ⟨rfl, trivial⟩⟩ rfl rfl hl.1 rfl (lv_room (Nat.le_of_ble_eq_true rfl)) dX4_pass_5 ⟨Nat.zero_le _, Nat.zero_le _⟩) hS (fun _ _ h => h.elim) (fun _ h => h.elim) (fun r_1 u t9 H locs ht hvm hw _ hz1 hk1 hS => ?_)
  have hW := hW.kept hk1
  rcases hw with ⟨rfl, hp_1⟩ | ⟨rfl, hp_1⟩
  ·
    refine lv_iconst (v := 1) hx hb dX4_pass_8 (by decide) ?_
    refine lv_iconst (v := 1) hx hb dX4_pass_9 (by decide) ?_
    refine va_calli (va_runV (As := [.int 1, .int 1, .int 1]) (rest := []) ⟨hx, hb, hml, hown, hts⟩ (c_X4_goes l D cs A ad g L B n b t hn hb5 1 1 1) (cwV 3 hts gX4_pass_X4_goes rfl rfl rfl (by decide +kernel) ⟨Nat.le_of_ble_eq_true rfl, Nat.le_of_ble_eq_true rfl⟩) ⟨pM_fb, wb_recv hK hW (r := 0) (Nat.le_of_ble_eq_true rfl) (ci := 5) rfl rfl, fun U hU hV => ⟨rfl, pM_of hK hV.alike hU hW⟩⟩ rfl rfl hl.1 rfl (lv_room (Nat.le_of_ble_eq_true rfl)) dX4_pass_10 ⟨Nat.zero_le _, Nat.zero_le _⟩) hS (fun _ _ h => h) (fun _ h => h) (fun r_2 u t9 H locs ht hvm hw hB hz1 hk1 hS => ?_)
    have hW : wP D A lvM ad (ctM cs ad g L B n b 0) H := by rw [← ht]; exact hB
    rcases hw with ⟨rfl, hp_2⟩ | ⟨rfl, hp_2⟩
    ·
      refine lv_if_ne (tgt := 18) hx hb dX4_pass_13 (by decide) (fun c_3 => ?_) (fun c_3 => ?_)
      · -- 1 ne 0 : True
        obtain ⟨k9, -, hk9, rfl⟩ := wi_nI (lo := 1) (hi := 24) (by decide) (by decide) (by decide) hp_1
        have hn_x : ixN (nI k9) = k9 := ixN_nI (by omega)
        refine lv_iconst (v := 0) hx hb dX4_pass_18 (by decide) ?_
        refine lv_istore_n (lv' := [(2, .int 0), (0, .ref (ad 0)), (1, .int (nI k9))]) hx hb dX4_pass_19 rfl hl (by decide) rfl (fun ls hl => ?_)
        have loop_4 : ∀ (k4 j4 : Nat), j4 + k4 = k9 → ∀ (H : Heap) (locs : List Loc), wP D A lvM ad (ctM cs ad ((lvMany n b (g, L, B) j4).1) ((lvMany n b (g, L, B) j4).2.1) ((lvMany n b (g, L, B) j4).2.2) n b 0) H → va_S A s.heap H locs → ∀ (ls : Array Slot), lv_has ls 3 [(2, .int (nI j4)), (0, .ref (ad 0)), (1, .int (nI k9))] → W p l e ({ frames := 2, cells := 0, slots := 0, locals := 47 } : Room) s m (([.ref (ad 0), .int (nI k9)] : List Value).toArray) below meth c H locs 0 0 (MQ below (va_Qi (fun (r9 : Int32) (_ : Unit) => r9 = sel (kIn 1 24 (nI k9)) ((lvMany n b (g, L, B) (ixN (nI k9))).1 0) 0) (fun _ t9 => wP D A lvM ad (ctM cs ad (sel (kIn 1 24 (nI k9)) ((lvMany n b (g, L, B) (ixN (nI k9))).1) g) (sel (kIn 1 24 (nI k9)) ((lvMany n b (g, L, B) (ixN (nI k9))).2.1) L) (sel (kIn 1 24 (nI k9)) ((lvMany n b (g, L, B) (ixN (nI k9))).2.2) B) n b (kIn 1 24 (nI k9))) t9.heap) A) (([.ref (ad 0), .int (nI k9)] : List Value).toArray) s 0 0 A) (F0 m 20 ls []) := by
          intro k4
          induction k4 with
          | zero =>
            intro j4 hj_4  H locs hW hS ls hl
            obtain rfl : k9 = j4 := by omega
            refine lv_iload_n hx hb dX4_pass_20 rfl (lv_at hl 0 rfl) ?_
            refine lv_iload_n hx hb dX4_pass_21 rfl (lv_at hl 2 rfl) ?_
            refine lv_icmp_ge (tgt := 35) hx hb dX4_pass_22 (by decide) (fun c_5 => ?_) (fun c_5 => ?_)
            · -- nI k9 ge nI k9 : True
              refine lv_aload_n hx hb dX4_pass_35 rfl (lv_at hl 1 rfl) ?_
              refine wb_get hx hb hts hinX4 hown hK hW 0 (Nat.le_of_ble_eq_true rfl) rfl rfl 0 (by decide) hf67 (fun _ h9 => h9) (v := .int (((lvMany n b (g, L, B) k9).1) 0)) rfl dX4_pass_36 ?_
              have hk : kIn 1 24 (nI k9) = 0 := by simp [kIn, (eq_true hp_1), (eq_true hp_2), c_3, hn_x, c_5]
              exact W.iret (v := ((lvMany n b (g, L, B) k9).1) 0) hx hb hr (fun t9 ht9 hW9 => ⟨⟨_, (), rfl, (by first | (simp only [hk, sel_0, sel_1, sel_2, sel_3, hn_x]; done) | (simp only [hk, sel_0, sel_1, sel_2, sel_3, hn_x]; first | rfl | (simp [(eq_true hp_1), (eq_true hp_2), c_3, hn_x, c_5, upd]; done))), (by dsimp only; rw [ht9]; simp only [hk, sel_0, sel_1, sel_2, sel_3, hn_x]; exact hW)⟩, hS.F ht9⟩) hS.2.2 dX4_pass_39
            · -- nI k9 ge nI k9 : False
              exact absurd (by first | exact Int32.le_refl _ | decide) c_5
          | succ k4 ih_4 =>
            intro j4 hj_4  H locs hW hS ls hl
            refine lv_iload_n hx hb dX4_pass_20 rfl (lv_at hl 0 rfl) ?_
            refine lv_iload_n hx hb dX4_pass_21 rfl (lv_at hl 2 rfl) ?_
            refine lv_icmp_ge (tgt := 35) hx hb dX4_pass_22 (by decide) (fun c_6 => ?_) (fun c_6 => ?_)
            · -- nI j4 ge nI k9 : True
              exact absurd c_6 (nI_ge (by omega) (by omega))
            · -- nI j4 ge nI k9 : False
              refine lv_aload_n hx hb dX4_pass_25 rfl (lv_at hl 1 rfl) ?_
              refine va_callv (va_runV (As := []) (rest := []) ⟨hx, hb, hml, hown, hts⟩ (c_X4_lives l D cs A ad ((lvMany n b (g, L, B) j4).1) ((lvMany n b (g, L, B) j4).2.1) ((lvMany n b (g, L, B) j4).2.2) n b 0 hn hb5 ) (cwV 0 hts gX4_pass_X4_lives rfl rfl rfl (by decide +kernel) ⟨Nat.le_of_ble_eq_true rfl, Nat.le_of_ble_eq_true rfl⟩) ⟨pM_fb, wb_recv hK hW (r := 0) (Nat.le_of_ble_eq_true rfl) (ci := 5) rfl rfl, fun U hU hV => ⟨rfl, pM_of hK hV.alike hU hW⟩⟩ rfl rfl hl.1 rfl (lv_room (Nat.le_of_ble_eq_true rfl)) dX4_pass_26 ⟨Nat.zero_le _, Nat.zero_le _⟩) hS (fun _ _ h => h) (fun _ h => h) (fun u t9 H locs ht hvm hw hB hz1 hk1 hS => ?_)
              have hW : wP D A lvM ad (ctM cs ad ((lvOne n b ((lvMany n b (g, L, B) j4).1, (lvMany n b (g, L, B) j4).2.1, (lvMany n b (g, L, B) j4).2.2)).1) ((lvOne n b ((lvMany n b (g, L, B) j4).1, (lvMany n b (g, L, B) j4).2.1, (lvMany n b (g, L, B) j4).2.2)).2.1) ((lvOne n b ((lvMany n b (g, L, B) j4).1, (lvMany n b (g, L, B) j4).2.1, (lvMany n b (g, L, B) j4).2.2)).2.2) n b 0) H := by rw [← ht]; exact hB
              refine lv_iinc (v := nI (j4 + 1)) (lv' := [(2, .int (nI (j4 + 1))), (0, .ref (ad 0)), (1, .int (nI k9))]) hx hb dX4_pass_29 hl (k := 0) rfl (nI_1 _) (by decide) rfl (fun ls hl => ?_)
              refine lv_goto (tgt := 20) hx hb dX4_pass_32 (by decide) ?_
              exact ih_4 (j4 + 1) (by omega)   _ _ hW hS ls (lv_sub hl [0, 1, 2] rfl)
        exact loop_4 (k9) 0 (by omega)   _ _ hW hS ls (lv_sub hl [0, 1, 2] rfl)
      · -- 1 ne 0 : False
        exact absurd c_3 (by decide)
    ·
      exact absurd (by decide) hp_2
  ·
    refine lv_iconst (v := 1) hx hb dX4_pass_8 (by decide) ?_
    refine lv_iconst (v := 1) hx hb dX4_pass_9 (by decide) ?_
    refine va_calli (va_runV (As := [.int 0, .int 1, .int 1]) (rest := []) ⟨hx, hb, hml, hown, hts⟩ (c_X4_goes l D cs A ad g L B n b t hn hb5 0 1 1) (cwV 3 hts gX4_pass_X4_goes rfl rfl rfl (by decide +kernel) ⟨Nat.le_of_ble_eq_true rfl, Nat.le_of_ble_eq_true rfl⟩) ⟨pM_fb, wb_recv hK hW (r := 0) (Nat.le_of_ble_eq_true rfl) (ci := 5) rfl rfl, fun U hU hV => ⟨rfl, pM_of hK hV.alike hU hW⟩⟩ rfl rfl hl.1 rfl (lv_room (Nat.le_of_ble_eq_true rfl)) dX4_pass_10 ⟨Nat.zero_le _, Nat.zero_le _⟩) hS (fun _ _ h => h) (fun _ h => h) (fun r_8 u t9 H locs ht hvm hw hB hz1 hk1 hS => ?_)
    have hW : wP D A lvM ad (ctM cs ad g L B n b 1) H := by rw [← ht]; exact hB
    rcases hw with ⟨rfl, hp_8⟩ | ⟨rfl, hp_8⟩
    ·
      exact absurd hp_8 (by decide)
    ·
      refine lv_if_ne (tgt := 18) hx hb dX4_pass_13 (by decide) (fun c_9 => ?_) (fun c_9 => ?_)
      · -- 0 ne 0 : True
        exact absurd c_9 (by decide)
      · -- 0 ne 0 : False
        refine lv_iconst (v := 0) hx hb dX4_pass_16 (by decide) ?_
        have hk : kIn 1 24 x = 1 := by simp [kIn, (eq_false hp_1), (eq_false hp_8), c_9]
        exact W.iret (v := 0) hx hb hr (fun t9 ht9 hW9 => ⟨⟨_, (), rfl, (by first | (simp only [hk, sel_0, sel_1, sel_2, sel_3]; done) | (simp only [hk, sel_0, sel_1, sel_2, sel_3]; first | rfl | (simp [(eq_false hp_1), (eq_false hp_8), c_9, upd]; done))), (by dsimp only; rw [ht9]; simp only [hk, sel_0, sel_1, sel_2, sel_3]; exact hW)⟩, hS.F ht9⟩) hS.2.2 dX4_pass_17
