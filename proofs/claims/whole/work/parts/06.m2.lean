set_option maxHeartbeats 4000000 in
set_option maxRecDepth 100000 in
theorem c_X4_lackOfFace (l : Launch) (D : va_G) (cs : Nat → ClassId) (A : Nat → Prop) (ad : Nat → Nat) (g : Nat → Int32) (L B : Nat → Nat → Int32) (n b : Nat) (t : Int32) (hn : n ≤ 12) (hb5 : b ≤ 5) (set : Int32) : Met l yX4_lackOfFace wsX4_lackOfFace ({ frames := 3, cells := 0, slots := 0, locals := 67 } : Room) (va_Pc [.ref (ad 0), .int set] (pM D cs A ad g L B n b t)) (va_Ql (fun (r9 : Int64) (_ : Unit) => r9 = mLackF g L B n b set) (fun _ _ => True) (fun _ => False)) 0 0 (fun _ => False) := by
  refine Met.ofW (cc := cX4_lackOfFace) (maxL := 6) (ret := (some .long)) (by decide) rfl ?_
  intro p e s m args below meth c s₁ BB hml hv
  obtain ⟨rfl, hv⟩ := hv
  obtain ⟨hK, hW⟩ := hv
  have hx := BB.exec
  have hb := BB.bytes
  have hr := BB.returns
  have hts := atoms_spec (ws := wsX4_lackOfFace) BB.pre
  have hown : s.vm.findClass RX4 = some m.cls := findClass_of_methodNamed BB.named
  have hlocks := BB.notSynchronized
  have hS : va_S (fun _ => False) s.heap s.heap [] := va_S.rf
  have hl := lv_entry ([.ref (ad 0), .int set]) (n := 6) (Nat.le_of_ble_eq_true rfl)
  rw [lg_entry_eq]
  generalize (lg_sl ([.ref (ad 0), .int set]) ++ List.replicate (6 - (lg_sl ([.ref (ad 0), .int set])).length) Slot.unset).toArray = ls at hl ⊢
  have hl : lv_has ls 6 [(0, .ref (ad 0)), (1, .int set)] := hl
  have hf13 := hts (.fieldLink RX4 13 "CoverpoolModel" "cover" "I") (by decide +kernel)
  have hf54 := hts (.fieldLink RX4 54 "CoverpoolModel" "loans" "I") (by decide +kernel)
  have hinX4 : ∀ w ∈ u_ws RX4 TX4 18, w ∈ wsX4_lackOfFace := by decide +kernel
  refine lv_aload_n hx hb dX4_lackOfFace_0 rfl (lv_at hl 0 rfl) ?_
  refine va_calli (va_runV (As := []) (rest := []) ⟨hx, hb, hml, hown, hts⟩ (c_X4_beside l D cs A ad g L B n b t hn hb5 ) (cwV 0 hts gX4_lackOfFace_X4_beside rfl rfl rfl (by decide +kernel) ⟨Nat.le_of_ble_eq_true rfl, Nat.le_of_ble_eq_true rfl⟩) ⟨pM_fb, wb_recv hK hW (r := 0) (Nat.le_of_ble_eq_true rfl) (ci := 5) rfl rfl, fun U hU hV => ⟨rfl, pM_of hK hV.alike hU hW⟩⟩ rfl rfl hl.1 rfl (lv_room (Nat.le_of_ble_eq_true rfl)) dX4_lackOfFace_1 ⟨Nat.zero_le _, Nat.zero_le _⟩) hS (fun _ _ h => h.elim) (fun _ h => h.elim) (fun r_1 u t9 H locs ht hvm hw _ hz1 hk1 hS => ?_)
  have hW := hW.kept hk1
  subst hw
  refine lv_i2l (v := (mBeside g B b).toInt64) hx hb dX4_lackOfFace_4 rfl ?_
  refine lv_lstore_n (lv' := [(2, .long ((mBeside g B b).toInt64)), (0, .ref (ad 0)), (1, .int set)]) hx hb dX4_lackOfFace_5 rfl hl (by decide) rfl (fun ls hl => ?_)
  refine lv_iconst (v := 0) hx hb dX4_lackOfFace_6 (by decide) ?_
  refine lv_istore (lv' := [(4, .int 0), (2, .long ((mBeside g B b).toInt64)), (0, .ref (ad 0)), (1, .int set)]) hx hb dX4_lackOfFace_7 hl (by decide) rfl (fun ls hl => ?_)
  have loop_2 : ∀ (k2 j2 : Nat), j2 + k2 = n → ∀ (a2_0 : Int64), a2_0 = mFace g L B b set j2 → ∀ (H : Heap) (locs : List Loc), wP D A lvM ad (ctM cs ad g L B n b t) H → va_S (fun _ => False) s.heap H locs → ∀ (ls : Array Slot), lv_has ls 6 [(4, .int (nI j2)), (2, .long a2_0), (0, .ref (ad 0)), (1, .int set)] → W p l e ({ frames := 3, cells := 0, slots := 0, locals := 67 } : Room) s m (([.ref (ad 0), .int set] : List Value).toArray) below meth c H locs 0 0 (MQ below (va_Ql (fun (r9 : Int64) (_ : Unit) => r9 = mLackF g L B n b set) (fun _ _ => True) (fun _ => False)) (([.ref (ad 0), .int set] : List Value).toArray) s 0 0 (fun _ => False)) (F0 m 9 ls []) := by
    intro k2
    induction k2 with
    | zero =>
      intro j2 hj_2 a2_0 ea2_0 H locs hW hS ls hl
      subst ea2_0
      obtain rfl : n = j2 := by omega
      refine lv_iload hx hb dX4_lackOfFace_9 (lv_at hl 0 rfl) ?_
      refine lv_aload_n hx hb dX4_lackOfFace_11 rfl (lv_at hl 2 rfl) ?_
      refine wb_get hx hb hts hinX4 hown hK hW 0 (Nat.le_of_ble_eq_true rfl) rfl rfl 11 (by decide) hf54 (fun _ h9 => h9) (v := .int (nI n)) rfl dX4_lackOfFace_12 ?_
      refine lv_icmp_ge (tgt := 48) hx hb dX4_lackOfFace_15 (by decide) (fun c_3 => ?_) (fun c_3 => ?_)
      · -- nI n ge nI n : True
        refine lv_aload_n hx hb dX4_lackOfFace_48 rfl (lv_at hl 2 rfl) ?_
        refine va_calli (va_runV (As := []) (rest := []) ⟨hx, hb, hml, hown, hts⟩ (c_X4_owed l D cs A ad g L B n b t hn hb5 ) (cwV 0 hts gX4_lackOfFace_X4_owed rfl rfl rfl (by decide +kernel) ⟨Nat.le_of_ble_eq_true rfl, Nat.le_of_ble_eq_true rfl⟩) ⟨pM_fb, wb_recv hK hW (r := 0) (Nat.le_of_ble_eq_true rfl) (ci := 5) rfl rfl, fun U hU hV => ⟨rfl, pM_of hK hV.alike hU hW⟩⟩ rfl rfl hl.1 rfl (lv_room (Nat.le_of_ble_eq_true rfl)) dX4_lackOfFace_49 ⟨Nat.zero_le _, Nat.zero_le _⟩) hS (fun _ _ h => h.elim) (fun _ h => h.elim) (fun r_4 u t9 H locs ht hvm hw _ hz1 hk1 hS => ?_)
        have hW := hW.kept hk1
        subst hw
        refine lv_i2l (v := (mOwed B b).toInt64) hx hb dX4_lackOfFace_52 rfl ?_
        refine lv_bipush (v := 100) hx hb dX4_lackOfFace_53 (by decide) ?_
        refine lv_aload_n hx hb dX4_lackOfFace_55 rfl (lv_at hl 2 rfl) ?_
        refine wb_get hx hb hts hinX4 hown hK hW 0 (Nat.le_of_ble_eq_true rfl) rfl rfl 3 (by decide) hf13 (fun _ h9 => h9) (v := .int (g 3)) rfl dX4_lackOfFace_56 ?_
        refine lv_iadd hx hb dX4_lackOfFace_59 ?_
        refine lv_i2l (v := (100 + (g 3)).toInt64) hx hb dX4_lackOfFace_60 rfl ?_
        refine lv_lmul hx hb dX4_lackOfFace_61 ?_
        refine lv_ldc2 (v := 100) hx hb hown (hts (.constantLong RX4 77 (100)) (by decide +kernel)) dX4_lackOfFace_62 ?_
        refine lv_lload_n hx hb dX4_lackOfFace_65 rfl (lv_at hl 1 rfl) ?_
        refine lv_lmul hx hb dX4_lackOfFace_66 ?_
        refine lv_lsub hx hb dX4_lackOfFace_67 ?_
        refine lv_lstore (lv' := [(4, .long ((((mOwed B b).toInt64) * ((100 + (g 3)).toInt64)) - (100 * (mFace g L B b set n)))), (2, .long (mFace g L B b set n)), (0, .ref (ad 0)), (1, .int set)]) hx hb dX4_lackOfFace_68 hl (by decide) rfl (fun ls hl => ?_)
        refine lv_lload hx hb dX4_lackOfFace_70 (lv_at hl 0 rfl) ?_
        refine lv_lconst (v := 0) hx hb dX4_lackOfFace_72 (by decide) ?_
        refine W.lcmp hx hb dX4_lackOfFace_73 ?_
        refine lv_if_ge (tgt := 81) hx hb dX4_lackOfFace_74 (by decide) (fun c_5 => ?_) (fun c_5 => ?_)
        · -- lg_cmp ((((mOwed B b).toInt64) * ((100 + (g 3)).toInt64)) - (100 * (mFace g L B b set n))) 0 ge 0 : True
          rw [lg_cmp_ge] at c_5
          refine lv_lload hx hb dX4_lackOfFace_81 (lv_at hl 0 rfl) ?_
          exact W.lret (v := (((mOwed B b).toInt64) * ((100 + (g 3)).toInt64)) - (100 * (mFace g L B b set n))) hx hb hr (fun t9 ht9 hW9 => ⟨⟨_, (), rfl, (by simp [mLackF, mPos, lg_cmp_ge, c_3, c_5]), trivial⟩, hS.F ht9⟩) hS.2.2 dX4_lackOfFace_83
        · -- lg_cmp ((((mOwed B b).toInt64) * ((100 + (g 3)).toInt64)) - (100 * (mFace g L B b set n))) 0 ge 0 : False
          rw [lg_cmp_ge] at c_5
          refine lv_lconst (v := 0) hx hb dX4_lackOfFace_77 (by decide) ?_
          refine lv_goto (tgt := 83) hx hb dX4_lackOfFace_78 (by decide) ?_
          exact W.lret (v := 0) hx hb hr (fun t9 ht9 hW9 => ⟨⟨_, (), rfl, (by simp [mLackF, mPos, lg_cmp_ge, c_3, c_5]), trivial⟩, hS.F ht9⟩) hS.2.2 dX4_lackOfFace_83
      · -- nI n ge nI n : False
        exact absurd (by first | exact Int32.le_refl _ | decide) c_3
    | succ k2 ih_2 =>
      intro j2 hj_2 a2_0 ea2_0 H locs hW hS ls hl
      subst ea2_0
      refine lv_iload hx hb dX4_lackOfFace_9 (lv_at hl 0 rfl) ?_
      refine lv_aload_n hx hb dX4_lackOfFace_11 rfl (lv_at hl 2 rfl) ?_
      refine wb_get hx hb hts hinX4 hown hK hW 0 (Nat.le_of_ble_eq_true rfl) rfl rfl 11 (by decide) hf54 (fun _ h9 => h9) (v := .int (nI n)) rfl dX4_lackOfFace_12 ?_
      refine lv_icmp_ge (tgt := 48) hx hb dX4_lackOfFace_15 (by decide) (fun c_6 => ?_) (fun c_6 => ?_)
      · -- nI j2 ge nI n : True
        exact absurd c_6 (nI_ge (by omega) (by omega))
      · -- nI j2 ge nI n : False
        refine lv_lload_n hx hb dX4_lackOfFace_18 rfl (lv_at hl 1 rfl) ?_
        refine lv_iload_n hx hb dX4_lackOfFace_19 rfl (lv_at hl 3 rfl) ?_
        refine lv_iload hx hb dX4_lackOfFace_20 (lv_at hl 0 rfl) ?_
        refine lv_ishr hx hb dX4_lackOfFace_22 ?_
        refine lv_iconst (v := 1) hx hb dX4_lackOfFace_23 (by decide) ?_
        refine lv_iand hx hb dX4_lackOfFace_24 ?_
        refine lv_iconst (v := 1) hx hb dX4_lackOfFace_25 (by decide) ?_
        refine lv_icmp_ne (tgt := 39) hx hb dX4_lackOfFace_26 (by decide) (fun c_7 => ?_) (fun c_7 => ?_)
        · -- (set >>> ((nI j2) &&& 31)) &&& 1 ne 1 : True
          refine lv_lconst (v := 0) hx hb dX4_lackOfFace_39 (by decide) ?_
          refine lv_ladd hx hb dX4_lackOfFace_40 ?_
          refine lv_lstore_n (lv' := [(2, .long ((mFace g L B b set j2) + 0)), (4, .int (nI j2)), (0, .ref (ad 0)), (1, .int set)]) hx hb dX4_lackOfFace_41 rfl hl (by decide) rfl (fun ls hl => ?_)
          refine lv_iinc (v := nI (j2 + 1)) (lv' := [(4, .int (nI (j2 + 1))), (2, .long ((mFace g L B b set j2) + 0)), (0, .ref (ad 0)), (1, .int set)]) hx hb dX4_lackOfFace_42 hl (k := 1) rfl (nI_1 _) (by decide) rfl (fun ls hl => ?_)
          refine lv_goto (tgt := 9) hx hb dX4_lackOfFace_45 (by decide) ?_
          exact ih_2 (j2 + 1) (by omega) _ (by simp [mFace, c_6, c_7])  _ _ hW hS ls (lv_sub hl [0, 1, 2, 3] rfl)
        · -- (set >>> ((nI j2) &&& 31)) &&& 1 ne 1 : False
          refine lv_aload_n hx hb dX4_lackOfFace_29 rfl (lv_at hl 2 rfl) ?_
          refine lv_iload hx hb dX4_lackOfFace_30 (lv_at hl 0 rfl) ?_
          refine va_calli (va_runV (As := [.int (nI j2)]) (rest := [.long (mFace g L B b set j2)]) ⟨hx, hb, hml, hown, hts⟩ (c_X4_countOf l D cs A ad g L B n b t hn hb5 j2 (by omega)) (cwV 1 hts gX4_lackOfFace_X4_countOf rfl rfl rfl (by decide +kernel) ⟨Nat.le_of_ble_eq_true rfl, Nat.le_of_ble_eq_true rfl⟩) ⟨pM_fb, wb_recv hK hW (r := 0) (Nat.le_of_ble_eq_true rfl) (ci := 5) rfl rfl, fun U hU hV => ⟨rfl, pM_of hK hV.alike hU hW⟩⟩ rfl rfl hl.1 rfl (lv_room (Nat.le_of_ble_eq_true rfl)) dX4_lackOfFace_32 ⟨Nat.zero_le _, Nat.zero_le _⟩) hS (fun _ _ h => h.elim) (fun _ h => h.elim) (fun r_8 u t9 H locs ht hvm hw _ hz1 hk1 hS => ?_)
          have hW := hW.kept hk1
          subst hw
          refine lv_i2l (v := (mCount g L j2).toInt64) hx hb dX4_lackOfFace_35 rfl ?_
          refine lv_goto (tgt := 40) hx hb dX4_lackOfFace_36 (by decide) ?_
          refine lv_ladd hx hb dX4_lackOfFace_40 ?_
          refine lv_lstore_n (lv' := [(2, .long ((mFace g L B b set j2) + ((mCount g L j2).toInt64))), (4, .int (nI j2)), (0, .ref (ad 0)), (1, .int set)]) hx hb dX4_lackOfFace_41 rfl hl (by decide) rfl (fun ls hl => ?_)
          refine lv_iinc (v := nI (j2 + 1)) (lv' := [(4, .int (nI (j2 + 1))), (2, .long ((mFace g L B b set j2) + ((mCount g L j2).toInt64))), (0, .ref (ad 0)), (1, .int set)]) hx hb dX4_lackOfFace_42 hl (k := 1) rfl (nI_1 _) (by decide) rfl (fun ls hl => ?_)
          refine lv_goto (tgt := 9) hx hb dX4_lackOfFace_45 (by decide) ?_
          exact ih_2 (j2 + 1) (by omega) _ (by simp [mFace, c_6, c_7])  _ _ hW hS ls (lv_sub hl [0, 1, 2, 3] rfl)
  exact loop_2 (n) 0 (by omega) _ rfl  _ _ hW hS ls (lv_sub hl [0, 1, 2, 3] rfl)

set_option maxHeartbeats 4000000 in
set_option maxRecDepth 100000 in
theorem c_X4_lackOfWorth (l : Launch) (D : va_G) (cs : Nat → ClassId) (A : Nat → Prop) (ad : Nat → Nat) (g : Nat → Int32) (L B : Nat → Nat → Int32) (n b : Nat) (t : Int32) (hn : n ≤ 12) (hb5 : b ≤ 5) (set r : Int32) (hdv : dvOK g L B n b r) : Met l yX4_lackOfWorth wsX4_lackOfWorth ({ frames := 3, cells := 0, slots := 0, locals := 67 } : Room) (va_Pc [.ref (ad 0), .int set, .int r] (pM D cs A ad g L B n b t)) (va_Ql (fun (r9 : Int64) (_ : Unit) => r9 = mLackW g L B n b set r) (fun _ _ => True) (fun _ => False)) 0 0 (fun _ => False) := by
  refine Met.ofW (cc := cX4_lackOfWorth) (maxL := 6) (ret := (some .long)) (by decide) rfl ?_
  intro p e s m args below meth c s₁ BB hml hv
  obtain ⟨rfl, hv⟩ := hv
  obtain ⟨hK, hW⟩ := hv
  have hx := BB.exec
  have hb := BB.bytes
  have hr := BB.returns
  have hts := atoms_spec (ws := wsX4_lackOfWorth) BB.pre
  have hown : s.vm.findClass RX4 = some m.cls := findClass_of_methodNamed BB.named
  have hlocks := BB.notSynchronized
  have hS : va_S (fun _ => False) s.heap s.heap [] := va_S.rf
  have hl := lv_entry ([.ref (ad 0), .int set, .int r]) (n := 6) (Nat.le_of_ble_eq_true rfl)
  rw [lg_entry_eq]
  generalize (lg_sl ([.ref (ad 0), .int set, .int r]) ++ List.replicate (6 - (lg_sl ([.ref (ad 0), .int set, .int r])).length) Slot.unset).toArray = ls at hl ⊢
  have hl : lv_has ls 6 [(0, .ref (ad 0)), (1, .int set), (2, .int r)] := hl
  have hf29 := hts (.fieldLink RX4 29 "CoverpoolModel" "due" "[I") (by decide +kernel)
  have hf38 := hts (.fieldLink RX4 38 "CoverpoolModel" "bondAmount" "[I") (by decide +kernel)
  have hf41 := hts (.fieldLink RX4 41 "CoverpoolModel" "bondDue" "[I") (by decide +kernel)
  have hf44 := hts (.fieldLink RX4 44 "CoverpoolModel" "bondState" "[I") (by decide +kernel)
  have hf54 := hts (.fieldLink RX4 54 "CoverpoolModel" "loans" "I") (by decide +kernel)
  have hf57 := hts (.fieldLink RX4 57 "CoverpoolModel" "bonds" "I") (by decide +kernel)
  have hinX4 : ∀ w ∈ u_ws RX4 TX4 18, w ∈ wsX4_lackOfWorth := by decide +kernel
  refine lv_aload_n hx hb dX4_lackOfWorth_0 rfl (lv_at hl 0 rfl) ?_
  refine va_calli (va_runV (As := []) (rest := []) ⟨hx, hb, hml, hown, hts⟩ (c_X4_beside l D cs A ad g L B n b t hn hb5 ) (cwV 0 hts gX4_lackOfWorth_X4_beside rfl rfl rfl (by decide +kernel) ⟨Nat.le_of_ble_eq_true rfl, Nat.le_of_ble_eq_true rfl⟩) ⟨pM_fb, wb_recv hK hW (r := 0) (Nat.le_of_ble_eq_true rfl) (ci := 5) rfl rfl, fun U hU hV => ⟨rfl, pM_of hK hV.alike hU hW⟩⟩ rfl rfl hl.1 rfl (lv_room (Nat.le_of_ble_eq_true rfl)) dX4_lackOfWorth_1 ⟨Nat.zero_le _, Nat.zero_le _⟩) hS (fun _ _ h => h.elim) (fun _ h => h.elim) (fun r_1 u t9 H locs ht hvm hw _ hz1 hk1 hS => ?_)
  have hW := hW.kept hk1
  subst hw
  refine lv_ineg hx hb dX4_lackOfWorth_4 ?_
  refine lv_i2l (v := (-(mBeside g B b)).toInt64) hx hb dX4_lackOfWorth_5 rfl ?_
  refine lv_lstore_n (lv' := [(3, .long ((-(mBeside g B b)).toInt64)), (0, .ref (ad 0)), (1, .int set), (2, .int r)]) hx hb dX4_lackOfWorth_6 rfl hl (by decide) rfl (fun ls hl => ?_)
  refine lv_iconst (v := 0) hx hb dX4_lackOfWorth_7 (by decide) ?_
  refine lv_istore (lv' := [(5, .int 0), (3, .long ((-(mBeside g B b)).toInt64)), (0, .ref (ad 0)), (1, .int set), (2, .int r)]) hx hb dX4_lackOfWorth_8 hl (by decide) rfl (fun ls hl => ?_)
  have loop_2 : ∀ (k2 j2 : Nat), j2 + k2 = b → ∀ (a2_0 : Int64), a2_0 = mWorthB g B b r j2 → ∀ (H : Heap) (locs : List Loc), wP D A lvM ad (ctM cs ad g L B n b t) H → va_S (fun _ => False) s.heap H locs → ∀ (ls : Array Slot), lv_has ls 6 [(5, .int (nI j2)), (3, .long a2_0), (0, .ref (ad 0)), (1, .int set), (2, .int r)] → W p l e ({ frames := 3, cells := 0, slots := 0, locals := 67 } : Room) s m (([.ref (ad 0), .int set, .int r] : List Value).toArray) below meth c H locs 0 0 (MQ below (va_Ql (fun (r9 : Int64) (_ : Unit) => r9 = mLackW g L B n b set r) (fun _ _ => True) (fun _ => False)) (([.ref (ad 0), .int set, .int r] : List Value).toArray) s 0 0 (fun _ => False)) (F0 m 10 ls []) := by
    intro k2
    induction k2 with
    | zero =>
      intro j2 hj_2 a2_0 ea2_0 H locs hW hS ls hl
      subst ea2_0
      obtain rfl : b = j2 := by omega
      refine lv_iload hx hb dX4_lackOfWorth_10 (lv_at hl 0 rfl) ?_
      refine lv_aload_n hx hb dX4_lackOfWorth_12 rfl (lv_at hl 2 rfl) ?_
      refine wb_get hx hb hts hinX4 hown hK hW 0 (Nat.le_of_ble_eq_true rfl) rfl rfl 16 (by decide) hf57 (fun _ h9 => h9) (v := .int (nI b)) rfl dX4_lackOfWorth_13 ?_
      refine lv_icmp_ge (tgt := 62) hx hb dX4_lackOfWorth_16 (by decide) (fun c_3 => ?_) (fun c_3 => ?_)
      · -- nI b ge nI b : True
        refine lv_iconst (v := 0) hx hb dX4_lackOfWorth_62 (by decide) ?_
        refine lv_istore (lv' := [(5, .int 0), (3, .long (mWorthB g B b r b)), (0, .ref (ad 0)), (1, .int set), (2, .int r)]) hx hb dX4_lackOfWorth_63 hl (by decide) rfl (fun ls hl => ?_)
        have loop_4 : ∀ (k4 j4 : Nat), j4 + k4 = n → ∀ (a4_0 : Int64), a4_0 = mWorthL g L B b set r j4 → ∀ (H : Heap) (locs : List Loc), wP D A lvM ad (ctM cs ad g L B n b t) H → va_S (fun _ => False) s.heap H locs → ∀ (ls : Array Slot), lv_has ls 6 [(5, .int (nI j4)), (3, .long a4_0), (0, .ref (ad 0)), (1, .int set), (2, .int r)] → W p l e ({ frames := 3, cells := 0, slots := 0, locals := 67 } : Room) s m (([.ref (ad 0), .int set, .int r] : List Value).toArray) below meth c H locs 0 0 (MQ below (va_Ql (fun (r9 : Int64) (_ : Unit) => r9 = mLackW g L B n b set r) (fun _ _ => True) (fun _ => False)) (([.ref (ad 0), .int set, .int r] : List Value).toArray) s 0 0 (fun _ => False)) (F0 m 65 ls []) := by
          intro k4
          induction k4 with
          | zero =>
            intro j4 hj_4 a4_0 ea4_0 H locs hW hS ls hl
            subst ea4_0
            obtain rfl : n = j4 := by omega
            refine lv_iload hx hb dX4_lackOfWorth_65 (lv_at hl 0 rfl) ?_
            refine lv_aload_n hx hb dX4_lackOfWorth_67 rfl (lv_at hl 2 rfl) ?_
            refine wb_get hx hb hts hinX4 hown hK hW 0 (Nat.le_of_ble_eq_true rfl) rfl rfl 11 (by decide) hf54 (fun _ h9 => h9) (v := .int (nI n)) rfl dX4_lackOfWorth_68 ?_
            refine lv_icmp_ge (tgt := 116) hx hb dX4_lackOfWorth_71 (by decide) (fun c_5 => ?_) (fun c_5 => ?_)
            · -- nI n ge nI n : True
              refine lv_lload_n hx hb dX4_lackOfWorth_116 rfl (lv_at hl 1 rfl) ?_
              refine lv_lconst (v := 0) hx hb dX4_lackOfWorth_117 (by decide) ?_
              refine W.lcmp hx hb dX4_lackOfWorth_118 ?_
              refine lv_if_ge (tgt := 126) hx hb dX4_lackOfWorth_119 (by decide) (fun c_6 => ?_) (fun c_6 => ?_)
              · -- lg_cmp (mWorthL g L B b set r n) 0 ge 0 : True
                rw [lg_cmp_ge] at c_6
                refine lv_lload_n hx hb dX4_lackOfWorth_126 rfl (lv_at hl 1 rfl) ?_
                exact W.lret (v := (mWorthL g L B b set r n)) hx hb hr (fun t9 ht9 hW9 => ⟨⟨_, (), rfl, (by simp [mLackW, mPos, lg_cmp_ge, c_3, c_5, c_6]), trivial⟩, hS.F ht9⟩) hS.2.2 dX4_lackOfWorth_127
              · -- lg_cmp (mWorthL g L B b set r n) 0 ge 0 : False
                rw [lg_cmp_ge] at c_6
                refine lv_lconst (v := 0) hx hb dX4_lackOfWorth_122 (by decide) ?_
                refine lv_goto (tgt := 127) hx hb dX4_lackOfWorth_123 (by decide) ?_
                exact W.lret (v := 0) hx hb hr (fun t9 ht9 hW9 => ⟨⟨_, (), rfl, (by simp [mLackW, mPos, lg_cmp_ge, c_3, c_5, c_6]), trivial⟩, hS.F ht9⟩) hS.2.2 dX4_lackOfWorth_127
            · -- nI n ge nI n : False
              exact absurd (by first | exact Int32.le_refl _ | decide) c_5
          | succ k4 ih_4 =>
            intro j4 hj_4 a4_0 ea4_0 H locs hW hS ls hl
            subst ea4_0
            refine lv_iload hx hb dX4_lackOfWorth_65 (lv_at hl 0 rfl) ?_
            refine lv_aload_n hx hb dX4_lackOfWorth_67 rfl (lv_at hl 2 rfl) ?_
            refine wb_get hx hb hts hinX4 hown hK hW 0 (Nat.le_of_ble_eq_true rfl) rfl rfl 11 (by decide) hf54 (fun _ h9 => h9) (v := .int (nI n)) rfl dX4_lackOfWorth_68 ?_
            refine lv_icmp_ge (tgt := 116) hx hb dX4_lackOfWorth_71 (by decide) (fun c_7 => ?_) (fun c_7 => ?_)
            · -- nI j4 ge nI n : True
              exact absurd c_7 (nI_ge (by omega) (by omega))
            · -- nI j4 ge nI n : False
              refine lv_lload_n hx hb dX4_lackOfWorth_74 rfl (lv_at hl 1 rfl) ?_
              refine lv_iload_n hx hb dX4_lackOfWorth_75 rfl (lv_at hl 3 rfl) ?_
              refine lv_iload hx hb dX4_lackOfWorth_76 (lv_at hl 0 rfl) ?_
              refine lv_ishr hx hb dX4_lackOfWorth_78 ?_
              refine lv_iconst (v := 1) hx hb dX4_lackOfWorth_79 (by decide) ?_
              refine lv_iand hx hb dX4_lackOfWorth_80 ?_
              refine lv_iconst (v := 1) hx hb dX4_lackOfWorth_81 (by decide) ?_
              refine lv_icmp_ne (tgt := 107) hx hb dX4_lackOfWorth_82 (by decide) (fun c_8 => ?_) (fun c_8 => ?_)
              · -- (set >>> ((nI j4) &&& 31)) &&& 1 ne 1 : True
                refine lv_lconst (v := 0) hx hb dX4_lackOfWorth_107 (by decide) ?_
                refine lv_lsub hx hb dX4_lackOfWorth_108 ?_
                refine lv_lstore_n (lv' := [(3, .long ((mWorthL g L B b set r j4) - 0)), (5, .int (nI j4)), (0, .ref (ad 0)), (1, .int set), (2, .int r)]) hx hb dX4_lackOfWorth_109 rfl hl (by decide) rfl (fun ls hl => ?_)
                refine lv_iinc (v := nI (j4 + 1)) (lv' := [(5, .int (nI (j4 + 1))), (3, .long ((mWorthL g L B b set r j4) - 0)), (0, .ref (ad 0)), (1, .int set), (2, .int r)]) hx hb dX4_lackOfWorth_110 hl (k := 1) rfl (nI_1 _) (by decide) rfl (fun ls hl => ?_)
                refine lv_goto (tgt := 65) hx hb dX4_lackOfWorth_113 (by decide) ?_
                exact ih_4 (j4 + 1) (by omega) _ (by simp [mWorthL, c_3, c_7, c_8])  _ _ hW hS ls (lv_sub hl [0, 1, 2, 3, 4] rfl)
              · -- (set >>> ((nI j4) &&& 31)) &&& 1 ne 1 : False
                refine lv_aload_n hx hb dX4_lackOfWorth_85 rfl (lv_at hl 2 rfl) ?_
                refine lv_aload_n hx hb dX4_lackOfWorth_86 rfl (lv_at hl 2 rfl) ?_
                refine lv_iload hx hb dX4_lackOfWorth_87 (lv_at hl 0 rfl) ?_
                refine va_calli (va_runV (As := [.int (nI j4)]) (rest := [.ref (ad 0), .long (mWorthL g L B b set r j4)]) ⟨hx, hb, hml, hown, hts⟩ (c_X4_countOf l D cs A ad g L B n b t hn hb5 j4 (by omega)) (cwV 1 hts gX4_lackOfWorth_X4_countOf rfl rfl rfl (by decide +kernel) ⟨Nat.le_of_ble_eq_true rfl, Nat.le_of_ble_eq_true rfl⟩) ⟨pM_fb, wb_recv hK hW (r := 0) (Nat.le_of_ble_eq_true rfl) (ci := 5) rfl rfl, fun U hU hV => ⟨rfl, pM_of hK hV.alike hU hW⟩⟩ rfl rfl hl.1 rfl (lv_room (Nat.le_of_ble_eq_true rfl)) dX4_lackOfWorth_89 ⟨Nat.zero_le _, Nat.zero_le _⟩) hS (fun _ _ h => h.elim) (fun _ h => h.elim) (fun r_9 u t9 H locs ht hvm hw _ hz1 hk1 hS => ?_)
                have hW := hW.kept hk1
                subst hw
                refine lv_aload_n hx hb dX4_lackOfWorth_92 rfl (lv_at hl 2 rfl) ?_
                refine wb_get hx hb hts hinX4 hown hK hW 0 (Nat.le_of_ble_eq_true rfl) rfl rfl 8 (by decide) hf29 (fun _ h9 => h9) (v := .ref (ad 4)) rfl dX4_lackOfWorth_93 ?_
                refine lv_iload hx hb dX4_lackOfWorth_96 (lv_at hl 0 rfl) ?_
                refine wb_iald hx hb hK hW 4 (Nat.le_of_ble_eq_true rfl) 0 rfl rfl j4 rfl (by omega) (by decide) dX4_lackOfWorth_98 ?_
                refine lv_iload_n hx hb dX4_lackOfWorth_99 rfl (lv_at hl 4 rfl) ?_
                refine va_calli (va_runV (As := [.int (mCount g L j4), .int (L 3 j4), .int r]) (rest := [.long (mWorthL g L B b set r j4)]) ⟨hx, hb, hml, hown, hts⟩ (c_X4_valued l D cs A ad g L B n b t hn hb5 (mCount g L j4) (L 3 j4) r (hdv.1 _ (by omega))) (cwV 3 hts gX4_lackOfWorth_X4_valued rfl rfl rfl (by decide +kernel) ⟨Nat.le_of_ble_eq_true rfl, Nat.le_of_ble_eq_true rfl⟩) ⟨pM_fb, wb_recv hK hW (r := 0) (Nat.le_of_ble_eq_true rfl) (ci := 5) rfl rfl, fun U hU hV => ⟨rfl, pM_of hK hV.alike hU hW⟩⟩ rfl rfl hl.1 rfl (lv_room (Nat.le_of_ble_eq_true rfl)) dX4_lackOfWorth_100 ⟨Nat.zero_le _, Nat.zero_le _⟩) hS (fun _ _ h => h.elim) (fun _ h => h.elim) (fun r_10 u t9 H locs ht hvm hw _ hz1 hk1 hS => ?_)
                have hW := hW.kept hk1
                subst hw
                refine lv_i2l (v := (mValued g (mCount g L j4) (L 3 j4) r).toInt64) hx hb dX4_lackOfWorth_103 rfl ?_
                refine lv_goto (tgt := 108) hx hb dX4_lackOfWorth_104 (by decide) ?_
                refine lv_lsub hx hb dX4_lackOfWorth_108 ?_
                refine lv_lstore_n (lv' := [(3, .long ((mWorthL g L B b set r j4) - ((mValued g (mCount g L j4) (L 3 j4) r).toInt64))), (5, .int (nI j4)), (0, .ref (ad 0)), (1, .int set), (2, .int r)]) hx hb dX4_lackOfWorth_109 rfl hl (by decide) rfl (fun ls hl => ?_)
                refine lv_iinc (v := nI (j4 + 1)) (lv' := [(5, .int (nI (j4 + 1))), (3, .long ((mWorthL g L B b set r j4) - ((mValued g (mCount g L j4) (L 3 j4) r).toInt64))), (0, .ref (ad 0)), (1, .int set), (2, .int r)]) hx hb dX4_lackOfWorth_110 hl (k := 1) rfl (nI_1 _) (by decide) rfl (fun ls hl => ?_)
                refine lv_goto (tgt := 65) hx hb dX4_lackOfWorth_113 (by decide) ?_
                exact ih_4 (j4 + 1) (by omega) _ (by simp [mWorthL, c_3, c_7, c_8])  _ _ hW hS ls (lv_sub hl [0, 1, 2, 3, 4] rfl)
        exact loop_4 (n) 0 (by omega) _ (by simp [mWorthL, c_3])  _ _ hW hS ls (lv_sub hl [0, 1, 2, 3, 4] rfl)
      · -- nI b ge nI b : False
        exact absurd (by first | exact Int32.le_refl _ | decide) c_3
    | succ k2 ih_2 =>
      intro j2 hj_2 a2_0 ea2_0 H locs hW hS ls hl
      subst ea2_0
      refine lv_iload hx hb dX4_lackOfWorth_10 (lv_at hl 0 rfl) ?_
      refine lv_aload_n hx hb dX4_lackOfWorth_12 rfl (lv_at hl 2 rfl) ?_
      refine wb_get hx hb hts hinX4 hown hK hW 0 (Nat.le_of_ble_eq_true rfl) rfl rfl 16 (by decide) hf57 (fun _ h9 => h9) (v := .int (nI b)) rfl dX4_lackOfWorth_13 ?_
      refine lv_icmp_ge (tgt := 62) hx hb dX4_lackOfWorth_16 (by decide) (fun c_11 => ?_) (fun c_11 => ?_)
      · -- nI j2 ge nI b : True
        exact absurd c_11 (nI_ge (by omega) (by omega))
      · -- nI j2 ge nI b : False
        refine lv_lload_n hx hb dX4_lackOfWorth_19 rfl (lv_at hl 1 rfl) ?_
        refine lv_aload_n hx hb dX4_lackOfWorth_20 rfl (lv_at hl 2 rfl) ?_
        refine wb_get hx hb hts hinX4 hown hK hW 0 (Nat.le_of_ble_eq_true rfl) rfl rfl 14 (by decide) hf44 (fun _ h9 => h9) (v := .ref (ad 9)) rfl dX4_lackOfWorth_21 ?_
        refine lv_iload hx hb dX4_lackOfWorth_24 (lv_at hl 0 rfl) ?_
        refine wb_iald hx hb hK hW 9 (Nat.le_of_ble_eq_true rfl) 0 rfl rfl j2 rfl (by omega) (by decide) dX4_lackOfWorth_26 ?_
        refine lv_if_ne (tgt := 53) hx hb dX4_lackOfWorth_27 (by decide) (fun c_12 => ?_) (fun c_12 => ?_)
        · -- B 2 j2 ne 0 : True
          refine lv_lconst (v := 0) hx hb dX4_lackOfWorth_53 (by decide) ?_
          refine lv_ladd hx hb dX4_lackOfWorth_54 ?_
          refine lv_lstore_n (lv' := [(3, .long ((mWorthB g B b r j2) + 0)), (5, .int (nI j2)), (0, .ref (ad 0)), (1, .int set), (2, .int r)]) hx hb dX4_lackOfWorth_55 rfl hl (by decide) rfl (fun ls hl => ?_)
          refine lv_iinc (v := nI (j2 + 1)) (lv' := [(5, .int (nI (j2 + 1))), (3, .long ((mWorthB g B b r j2) + 0)), (0, .ref (ad 0)), (1, .int set), (2, .int r)]) hx hb dX4_lackOfWorth_56 hl (k := 1) rfl (nI_1 _) (by decide) rfl (fun ls hl => ?_)
          refine lv_goto (tgt := 10) hx hb dX4_lackOfWorth_59 (by decide) ?_
          exact ih_2 (j2 + 1) (by omega) _ (by simp [mWorthB, c_11, c_12])  _ _ hW hS ls (lv_sub hl [0, 1, 2, 3, 4] rfl)
        · -- B 2 j2 ne 0 : False
          refine lv_aload_n hx hb dX4_lackOfWorth_30 rfl (lv_at hl 2 rfl) ?_
          refine lv_aload_n hx hb dX4_lackOfWorth_31 rfl (lv_at hl 2 rfl) ?_
          refine wb_get hx hb hts hinX4 hown hK hW 0 (Nat.le_of_ble_eq_true rfl) rfl rfl 12 (by decide) hf38 (fun _ h9 => h9) (v := .ref (ad 7)) rfl dX4_lackOfWorth_32 ?_
          refine lv_iload hx hb dX4_lackOfWorth_35 (lv_at hl 0 rfl) ?_
          refine wb_iald hx hb hK hW 7 (Nat.le_of_ble_eq_true rfl) 0 rfl rfl j2 rfl (by omega) (by decide) dX4_lackOfWorth_37 ?_
          refine lv_aload_n hx hb dX4_lackOfWorth_38 rfl (lv_at hl 2 rfl) ?_
          refine wb_get hx hb hts hinX4 hown hK hW 0 (Nat.le_of_ble_eq_true rfl) rfl rfl 13 (by decide) hf41 (fun _ h9 => h9) (v := .ref (ad 8)) rfl dX4_lackOfWorth_39 ?_
          refine lv_iload hx hb dX4_lackOfWorth_42 (lv_at hl 0 rfl) ?_
          refine wb_iald hx hb hK hW 8 (Nat.le_of_ble_eq_true rfl) 0 rfl rfl j2 rfl (by omega) (by decide) dX4_lackOfWorth_44 ?_
          refine lv_iload_n hx hb dX4_lackOfWorth_45 rfl (lv_at hl 4 rfl) ?_
          refine va_calli (va_runV (As := [.int (B 0 j2), .int (B 1 j2), .int r]) (rest := [.long (mWorthB g B b r j2)]) ⟨hx, hb, hml, hown, hts⟩ (c_X4_valued l D cs A ad g L B n b t hn hb5 (B 0 j2) (B 1 j2) r (hdv.2 _ (by omega))) (cwV 3 hts gX4_lackOfWorth_X4_valued rfl rfl rfl (by decide +kernel) ⟨Nat.le_of_ble_eq_true rfl, Nat.le_of_ble_eq_true rfl⟩) ⟨pM_fb, wb_recv hK hW (r := 0) (Nat.le_of_ble_eq_true rfl) (ci := 5) rfl rfl, fun U hU hV => ⟨rfl, pM_of hK hV.alike hU hW⟩⟩ rfl rfl hl.1 rfl (lv_room (Nat.le_of_ble_eq_true rfl)) dX4_lackOfWorth_46 ⟨Nat.zero_le _, Nat.zero_le _⟩) hS (fun _ _ h => h.elim) (fun _ h => h.elim) (fun r_13 u t9 H locs ht hvm hw _ hz1 hk1 hS => ?_)
          have hW := hW.kept hk1
          subst hw
          refine lv_i2l (v := (mValued g (B 0 j2) (B 1 j2) r).toInt64) hx hb dX4_lackOfWorth_49 rfl ?_
          refine lv_goto (tgt := 54) hx hb dX4_lackOfWorth_50 (by decide) ?_
          refine lv_ladd hx hb dX4_lackOfWorth_54 ?_
          refine lv_lstore_n (lv' := [(3, .long ((mWorthB g B b r j2) + ((mValued g (B 0 j2) (B 1 j2) r).toInt64))), (5, .int (nI j2)), (0, .ref (ad 0)), (1, .int set), (2, .int r)]) hx hb dX4_lackOfWorth_55 rfl hl (by decide) rfl (fun ls hl => ?_)
          refine lv_iinc (v := nI (j2 + 1)) (lv' := [(5, .int (nI (j2 + 1))), (3, .long ((mWorthB g B b r j2) + ((mValued g (B 0 j2) (B 1 j2) r).toInt64))), (0, .ref (ad 0)), (1, .int set), (2, .int r)]) hx hb dX4_lackOfWorth_56 hl (k := 1) rfl (nI_1 _) (by decide) rfl (fun ls hl => ?_)
          refine lv_goto (tgt := 10) hx hb dX4_lackOfWorth_59 (by decide) ?_
          exact ih_2 (j2 + 1) (by omega) _ (by simp [mWorthB, c_11, c_12])  _ _ hW hS ls (lv_sub hl [0, 1, 2, 3, 4] rfl)
  exact loop_2 (b) 0 (by omega) _ rfl  _ _ hW hS ls (lv_sub hl [0, 1, 2, 3, 4] rfl)

set_option maxHeartbeats 4000000 in
set_option maxRecDepth 100000 in
theorem c_X4_lackOfMoney (l : Launch) (D : va_G) (cs : Nat → ClassId) (A : Nat → Prop) (ad : Nat → Nat) (g : Nat → Int32) (L B : Nat → Nat → Int32) (n b : Nat) (t : Int32) (hn : n ≤ 12) (hb5 : b ≤ 5) (set : Int32) : Met l yX4_lackOfMoney wsX4_lackOfMoney ({ frames := 2, cells := 0, slots := 0, locals := 47 } : Room) (va_Pc [.ref (ad 0), .int set] (pM D cs A ad g L B n b t)) (va_Ql (fun (r9 : Int64) (_ : Unit) => r9 = mLackM g L B n b set 6) (fun _ _ => True) (fun _ => False)) 0 0 (fun _ => False) := by
  refine Met.ofW (cc := cX4_lackOfMoney) (maxL := 8) (ret := (some .long)) (by decide) rfl ?_
  intro p e s m args below meth c s₁ BB hml hv
  obtain ⟨rfl, hv⟩ := hv
  obtain ⟨hK, hW⟩ := hv
  have hx := BB.exec
  have hb := BB.bytes
  have hr := BB.returns
  have hts := atoms_spec (ws := wsX4_lackOfMoney) BB.pre
  have hown : s.vm.findClass RX4 = some m.cls := findClass_of_methodNamed BB.named
  have hlocks := BB.notSynchronized
  have hS : va_S (fun _ => False) s.heap s.heap [] := va_S.rf
  have hl := lv_entry ([.ref (ad 0), .int set]) (n := 8) (Nat.le_of_ble_eq_true rfl)
  rw [lg_entry_eq]
  generalize (lg_sl ([.ref (ad 0), .int set]) ++ List.replicate (8 - (lg_sl ([.ref (ad 0), .int set])).length) Slot.unset).toArray = ls at hl ⊢
  have hl : lv_has ls 8 [(0, .ref (ad 0)), (1, .int set)] := hl
  have hf29 := hts (.fieldLink RX4 29 "CoverpoolModel" "due" "[I") (by decide +kernel)
  have hf38 := hts (.fieldLink RX4 38 "CoverpoolModel" "bondAmount" "[I") (by decide +kernel)
  have hf41 := hts (.fieldLink RX4 41 "CoverpoolModel" "bondDue" "[I") (by decide +kernel)
  have hf44 := hts (.fieldLink RX4 44 "CoverpoolModel" "bondState" "[I") (by decide +kernel)
  have hf54 := hts (.fieldLink RX4 54 "CoverpoolModel" "loans" "I") (by decide +kernel)
  have hf57 := hts (.fieldLink RX4 57 "CoverpoolModel" "bonds" "I") (by decide +kernel)
  have hf64 := hts (.fieldLink RX4 64 "CoverpoolModel" "cash" "I") (by decide +kernel)
  have hf67 := hts (.fieldLink RX4 67 "CoverpoolModel" "month" "I") (by decide +kernel)
  have hinX4 : ∀ w ∈ u_ws RX4 TX4 18, w ∈ wsX4_lackOfMoney := by decide +kernel
  refine lv_lconst (v := 0) hx hb dX4_lackOfMoney_0 (by decide) ?_
  refine lv_lstore_n (lv' := [(2, .long 0), (0, .ref (ad 0)), (1, .int set)]) hx hb dX4_lackOfMoney_1 rfl hl (by decide) rfl (fun ls hl => ?_)
  refine lv_iconst (v := 1) hx hb dX4_lackOfMoney_2 (by decide) ?_
  refine lv_istore (lv' := [(4, .int 1), (2, .long 0), (0, .ref (ad 0)), (1, .int set)]) hx hb dX4_lackOfMoney_3 hl (by decide) rfl (fun ls hl => ?_)
  have loop_1 : ∀ (k1 j1 : Nat), j1 + k1 = 6 → ∀ (a1_0 : Int64), a1_0 = mLackM g L B n b set j1 → ∀ (H : Heap) (locs : List Loc), wP D A lvM ad (ctM cs ad g L B n b t) H → va_S (fun _ => False) s.heap H locs → ∀ (ls : Array Slot), lv_has ls 8 [(4, .int (nI (j1 + 1))), (2, .long a1_0), (0, .ref (ad 0)), (1, .int set)] → W p l e ({ frames := 2, cells := 0, slots := 0, locals := 47 } : Room) s m (([.ref (ad 0), .int set] : List Value).toArray) below meth c H locs 0 0 (MQ below (va_Ql (fun (r9 : Int64) (_ : Unit) => r9 = mLackM g L B n b set 6) (fun _ _ => True) (fun _ => False)) (([.ref (ad 0), .int set] : List Value).toArray) s 0 0 (fun _ => False)) (F0 m 5 ls []) := by
    intro k1
    induction k1 with
    | zero =>
      intro j1 hj_1 a1_0 ea1_0 H locs hW hS ls hl
      subst ea1_0
      obtain rfl : 6 = j1 := by omega
      refine lv_iload hx hb dX4_lackOfMoney_5 (lv_at hl 0 rfl) ?_
      refine lv_bipush (v := 6) hx hb dX4_lackOfMoney_7 (by decide) ?_
      refine lv_icmp_gt (tgt := 163) hx hb dX4_lackOfMoney_9 (by decide) (fun c_2 => ?_) (fun c_2 => ?_)
      · -- nI (6 + 1) gt 6 : True
        refine lv_lload_n hx hb dX4_lackOfMoney_163 rfl (lv_at hl 1 rfl) ?_
        exact W.lret (v := (mLackM g L B n b set 6)) hx hb hr (fun t9 ht9 hW9 => ⟨⟨_, (), rfl, (by simp [c_2]), trivial⟩, hS.F ht9⟩) hS.2.2 dX4_lackOfMoney_164
      · -- nI (6 + 1) gt 6 : False
        exact absurd (by decide) c_2
    | succ k1 ih_1 =>
      intro j1 hj_1 a1_0 ea1_0 H locs hW hS ls hl
      subst ea1_0
      refine lv_iload hx hb dX4_lackOfMoney_5 (lv_at hl 0 rfl) ?_
      refine lv_bipush (v := 6) hx hb dX4_lackOfMoney_7 (by decide) ?_
      refine lv_icmp_gt (tgt := 163) hx hb dX4_lackOfMoney_9 (by decide) (fun c_3 => ?_) (fun c_3 => ?_)
      · -- nI (j1 + 1) gt 6 : True
        exact absurd (show nI 6 < _ from c_3) (nI_nlt (by omega) (by omega))
      · -- nI (j1 + 1) gt 6 : False
        refine lv_aload_n hx hb dX4_lackOfMoney_12 rfl (lv_at hl 2 rfl) ?_
        refine wb_get hx hb hts hinX4 hown hK hW 0 (Nat.le_of_ble_eq_true rfl) rfl rfl 1 (by decide) hf64 (fun _ h9 => h9) (v := .int (g 1)) rfl dX4_lackOfMoney_13 ?_
        refine lv_ineg hx hb dX4_lackOfMoney_16 ?_
        refine lv_i2l (v := (-(g 1)).toInt64) hx hb dX4_lackOfMoney_17 rfl ?_
        refine lv_lstore (lv' := [(5, .long ((-(g 1)).toInt64)), (4, .int (nI (j1 + 1))), (2, .long (mLackM g L B n b set j1)), (0, .ref (ad 0)), (1, .int set)]) hx hb dX4_lackOfMoney_18 hl (by decide) rfl (fun ls hl => ?_)
        refine lv_iconst (v := 0) hx hb dX4_lackOfMoney_20 (by decide) ?_
        refine lv_istore (lv' := [(7, .int 0), (5, .long ((-(g 1)).toInt64)), (4, .int (nI (j1 + 1))), (2, .long (mLackM g L B n b set j1)), (0, .ref (ad 0)), (1, .int set)]) hx hb dX4_lackOfMoney_21 hl (by decide) rfl (fun ls hl => ?_)
        have loop_4 : ∀ (k4 j4 : Nat), j4 + k4 = b → ∀ (a4_0 : Int64), a4_0 = mMoneyB g B (nI (j1 + 1)) j4 → ∀ (H : Heap) (locs : List Loc), wP D A lvM ad (ctM cs ad g L B n b t) H → va_S (fun _ => False) s.heap H locs → ∀ (ls : Array Slot), lv_has ls 8 [(7, .int (nI j4)), (5, .long a4_0), (4, .int (nI (j1 + 1))), (2, .long (mLackM g L B n b set j1)), (0, .ref (ad 0)), (1, .int set)] → W p l e ({ frames := 2, cells := 0, slots := 0, locals := 47 } : Room) s m (([.ref (ad 0), .int set] : List Value).toArray) below meth c H locs 0 0 (MQ below (va_Ql (fun (r9 : Int64) (_ : Unit) => r9 = mLackM g L B n b set 6) (fun _ _ => True) (fun _ => False)) (([.ref (ad 0), .int set] : List Value).toArray) s 0 0 (fun _ => False)) (F0 m 23 ls []) := by
          intro k4
          induction k4 with
          | zero =>
            intro j4 hj_4 a4_0 ea4_0 H locs hW hS ls hl
            subst ea4_0
            obtain rfl : b = j4 := by omega
            refine lv_iload hx hb dX4_lackOfMoney_23 (lv_at hl 0 rfl) ?_
            refine lv_aload_n hx hb dX4_lackOfMoney_25 rfl (lv_at hl 4 rfl) ?_
            refine wb_get hx hb hts hinX4 hown hK hW 0 (Nat.le_of_ble_eq_true rfl) rfl rfl 16 (by decide) hf57 (fun _ h9 => h9) (v := .int (nI b)) rfl dX4_lackOfMoney_26 ?_
            refine lv_icmp_ge (tgt := 82) hx hb dX4_lackOfMoney_29 (by decide) (fun c_5 => ?_) (fun c_5 => ?_)
            · -- nI b ge nI b : True
              refine lv_iconst (v := 0) hx hb dX4_lackOfMoney_82 (by decide) ?_
              refine lv_istore (lv' := [(7, .int 0), (5, .long (mMoneyB g B (nI (j1 + 1)) b)), (4, .int (nI (j1 + 1))), (2, .long (mLackM g L B n b set j1)), (0, .ref (ad 0)), (1, .int set)]) hx hb dX4_lackOfMoney_83 hl (by decide) rfl (fun ls hl => ?_)
              have loop_6 : ∀ (k6 j6 : Nat), j6 + k6 = n → ∀ (a6_0 : Int64), a6_0 = mMoneyL g L B b set (nI (j1 + 1)) j6 → ∀ (H : Heap) (locs : List Loc), wP D A lvM ad (ctM cs ad g L B n b t) H → va_S (fun _ => False) s.heap H locs → ∀ (ls : Array Slot), lv_has ls 8 [(7, .int (nI j6)), (5, .long a6_0), (4, .int (nI (j1 + 1))), (2, .long (mLackM g L B n b set j1)), (0, .ref (ad 0)), (1, .int set)] → W p l e ({ frames := 2, cells := 0, slots := 0, locals := 47 } : Room) s m (([.ref (ad 0), .int set] : List Value).toArray) below meth c H locs 0 0 (MQ below (va_Ql (fun (r9 : Int64) (_ : Unit) => r9 = mLackM g L B n b set 6) (fun _ _ => True) (fun _ => False)) (([.ref (ad 0), .int set] : List Value).toArray) s 0 0 (fun _ => False)) (F0 m 85 ls []) := by
                intro k6
                induction k6 with
                | zero =>
                  intro j6 hj_6 a6_0 ea6_0 H locs hW hS ls hl
                  subst ea6_0
                  obtain rfl : n = j6 := by omega
                  refine lv_iload hx hb dX4_lackOfMoney_85 (lv_at hl 0 rfl) ?_
                  refine lv_aload_n hx hb dX4_lackOfMoney_87 rfl (lv_at hl 4 rfl) ?_
                  refine wb_get hx hb hts hinX4 hown hK hW 0 (Nat.le_of_ble_eq_true rfl) rfl rfl 11 (by decide) hf54 (fun _ h9 => h9) (v := .int (nI n)) rfl dX4_lackOfMoney_88 ?_
                  refine lv_icmp_ge (tgt := 143) hx hb dX4_lackOfMoney_91 (by decide) (fun c_7 => ?_) (fun c_7 => ?_)
                  · -- nI n ge nI n : True
                    refine lv_lload hx hb dX4_lackOfMoney_143 (lv_at hl 1 rfl) ?_
                    refine lv_lload_n hx hb dX4_lackOfMoney_145 rfl (lv_at hl 3 rfl) ?_
                    refine W.lcmp hx hb dX4_lackOfMoney_146 ?_
                    refine lv_if_le (tgt := 155) hx hb dX4_lackOfMoney_147 (by decide) (fun c_8 => ?_) (fun c_8 => ?_)
                    · -- lg_cmp (mMoneyL g L B b set (nI (j1 + 1)) n) (mLackM g L B n b set j1) le 0 : True
                      rw [lg0_le] at c_8
                      refine lv_lload_n hx hb dX4_lackOfMoney_155 rfl (lv_at hl 3 rfl) ?_
                      refine lv_lstore_n (lv' := [(2, .long (mLackM g L B n b set j1)), (7, .int (nI n)), (5, .long (mMoneyL g L B b set (nI (j1 + 1)) n)), (4, .int (nI (j1 + 1))), (0, .ref (ad 0)), (1, .int set)]) hx hb dX4_lackOfMoney_156 rfl hl (by decide) rfl (fun ls hl => ?_)
                      refine lv_iinc (v := nI ((j1 + 1) + 1)) (lv' := [(4, .int (nI ((j1 + 1) + 1))), (2, .long (mLackM g L B n b set j1)), (7, .int (nI n)), (5, .long (mMoneyL g L B b set (nI (j1 + 1)) n)), (0, .ref (ad 0)), (1, .int set)]) hx hb dX4_lackOfMoney_157 hl (k := 3) rfl (nI_1 _) (by decide) rfl (fun ls hl => ?_)
                      refine lv_goto (tgt := 5) hx hb dX4_lackOfMoney_160 (by decide) ?_
                      exact ih_1 (j1 + 1) (by omega) _ (by simp [mLackM, lg0_le, c_3, c_5, c_7, c_8])  _ _ hW hS ls (lv_sub hl [0, 1, 4, 5] rfl)
                    · -- lg_cmp (mMoneyL g L B b set (nI (j1 + 1)) n) (mLackM g L B n b set j1) le 0 : False
                      rw [lg0_le] at c_8
                      refine lv_lload hx hb dX4_lackOfMoney_150 (lv_at hl 1 rfl) ?_
                      refine lv_goto (tgt := 156) hx hb dX4_lackOfMoney_152 (by decide) ?_
                      refine lv_lstore_n (lv' := [(2, .long (mMoneyL g L B b set (nI (j1 + 1)) n)), (7, .int (nI n)), (5, .long (mMoneyL g L B b set (nI (j1 + 1)) n)), (4, .int (nI (j1 + 1))), (0, .ref (ad 0)), (1, .int set)]) hx hb dX4_lackOfMoney_156 rfl hl (by decide) rfl (fun ls hl => ?_)
                      refine lv_iinc (v := nI ((j1 + 1) + 1)) (lv' := [(4, .int (nI ((j1 + 1) + 1))), (2, .long (mMoneyL g L B b set (nI (j1 + 1)) n)), (7, .int (nI n)), (5, .long (mMoneyL g L B b set (nI (j1 + 1)) n)), (0, .ref (ad 0)), (1, .int set)]) hx hb dX4_lackOfMoney_157 hl (k := 3) rfl (nI_1 _) (by decide) rfl (fun ls hl => ?_)
                      refine lv_goto (tgt := 5) hx hb dX4_lackOfMoney_160 (by decide) ?_
                      exact ih_1 (j1 + 1) (by omega) _ (by simp [mLackM, lg0_le, c_3, c_5, c_7, c_8])  _ _ hW hS ls (lv_sub hl [0, 1, 4, 5] rfl)
                  · -- nI n ge nI n : False
                    exact absurd (by first | exact Int32.le_refl _ | decide) c_7
                | succ k6 ih_6 =>
                  intro j6 hj_6 a6_0 ea6_0 H locs hW hS ls hl
                  subst ea6_0
                  refine lv_iload hx hb dX4_lackOfMoney_85 (lv_at hl 0 rfl) ?_
                  refine lv_aload_n hx hb dX4_lackOfMoney_87 rfl (lv_at hl 4 rfl) ?_
                  refine wb_get hx hb hts hinX4 hown hK hW 0 (Nat.le_of_ble_eq_true rfl) rfl rfl 11 (by decide) hf54 (fun _ h9 => h9) (v := .int (nI n)) rfl dX4_lackOfMoney_88 ?_
                  refine lv_icmp_ge (tgt := 143) hx hb dX4_lackOfMoney_91 (by decide) (fun c_9 => ?_) (fun c_9 => ?_)
                  · -- nI j6 ge nI n : True
                    exact absurd c_9 (nI_ge (by omega) (by omega))
                  · -- nI j6 ge nI n : False
                    refine lv_lload hx hb dX4_lackOfMoney_94 (lv_at hl 1 rfl) ?_
                    refine lv_iload_n hx hb dX4_lackOfMoney_96 rfl (lv_at hl 5 rfl) ?_
                    refine lv_iload hx hb dX4_lackOfMoney_97 (lv_at hl 0 rfl) ?_
                    refine lv_ishr hx hb dX4_lackOfMoney_99 ?_
                    refine lv_iconst (v := 1) hx hb dX4_lackOfMoney_100 (by decide) ?_
                    refine lv_iand hx hb dX4_lackOfMoney_101 ?_
                    refine lv_iconst (v := 1) hx hb dX4_lackOfMoney_102 (by decide) ?_
                    refine lv_icmp_ne (tgt := 133) hx hb dX4_lackOfMoney_103 (by decide) (fun c_10 => ?_) (fun c_10 => ?_)
                    · -- (set >>> ((nI j6) &&& 31)) &&& 1 ne 1 : True
                      refine lv_lconst (v := 0) hx hb dX4_lackOfMoney_133 (by decide) ?_
                      refine lv_lsub hx hb dX4_lackOfMoney_134 ?_
                      refine lv_lstore (lv' := [(5, .long ((mMoneyL g L B b set (nI (j1 + 1)) j6) - 0)), (7, .int (nI j6)), (4, .int (nI (j1 + 1))), (2, .long (mLackM g L B n b set j1)), (0, .ref (ad 0)), (1, .int set)]) hx hb dX4_lackOfMoney_135 hl (by decide) rfl (fun ls hl => ?_)
                      refine lv_iinc (v := nI (j6 + 1)) (lv' := [(7, .int (nI (j6 + 1))), (5, .long ((mMoneyL g L B b set (nI (j1 + 1)) j6) - 0)), (4, .int (nI (j1 + 1))), (2, .long (mLackM g L B n b set j1)), (0, .ref (ad 0)), (1, .int set)]) hx hb dX4_lackOfMoney_137 hl (k := 1) rfl (nI_1 _) (by decide) rfl (fun ls hl => ?_)
                      refine lv_goto (tgt := 85) hx hb dX4_lackOfMoney_140 (by decide) ?_
                      exact ih_6 (j6 + 1) (by omega) _ (by simp [mMoneyL, c_3, c_5, c_9, c_10])  _ _ hW hS ls (lv_sub hl [0, 1, 2, 3, 4, 5] rfl)
                    · -- (set >>> ((nI j6) &&& 31)) &&& 1 ne 1 : False
                      refine lv_aload_n hx hb dX4_lackOfMoney_106 rfl (lv_at hl 4 rfl) ?_
                      refine wb_get hx hb hts hinX4 hown hK hW 0 (Nat.le_of_ble_eq_true rfl) rfl rfl 8 (by decide) hf29 (fun _ h9 => h9) (v := .ref (ad 4)) rfl dX4_lackOfMoney_107 ?_
                      refine lv_iload hx hb dX4_lackOfMoney_110 (lv_at hl 0 rfl) ?_
                      refine wb_iald hx hb hK hW 4 (Nat.le_of_ble_eq_true rfl) 0 rfl rfl j6 rfl (by omega) (by decide) dX4_lackOfMoney_112 ?_
                      refine lv_aload_n hx hb dX4_lackOfMoney_113 rfl (lv_at hl 4 rfl) ?_
                      refine wb_get hx hb hts hinX4 hown hK hW 0 (Nat.le_of_ble_eq_true rfl) rfl rfl 0 (by decide) hf67 (fun _ h9 => h9) (v := .int (g 0)) rfl dX4_lackOfMoney_114 ?_
                      refine lv_iload hx hb dX4_lackOfMoney_117 (lv_at hl 2 rfl) ?_
                      refine lv_iadd hx hb dX4_lackOfMoney_119 ?_
                      refine lv_icmp_gt (tgt := 133) hx hb dX4_lackOfMoney_120 (by decide) (fun c_11 => ?_) (fun c_11 => ?_)
                      · -- L 3 j6 gt (g 0) + (nI (j1 + 1)) : True
                        refine lv_lconst (v := 0) hx hb dX4_lackOfMoney_133 (by decide) ?_
                        refine lv_lsub hx hb dX4_lackOfMoney_134 ?_
                        refine lv_lstore (lv' := [(5, .long ((mMoneyL g L B b set (nI (j1 + 1)) j6) - 0)), (7, .int (nI j6)), (4, .int (nI (j1 + 1))), (2, .long (mLackM g L B n b set j1)), (0, .ref (ad 0)), (1, .int set)]) hx hb dX4_lackOfMoney_135 hl (by decide) rfl (fun ls hl => ?_)
                        refine lv_iinc (v := nI (j6 + 1)) (lv' := [(7, .int (nI (j6 + 1))), (5, .long ((mMoneyL g L B b set (nI (j1 + 1)) j6) - 0)), (4, .int (nI (j1 + 1))), (2, .long (mLackM g L B n b set j1)), (0, .ref (ad 0)), (1, .int set)]) hx hb dX4_lackOfMoney_137 hl (k := 1) rfl (nI_1 _) (by decide) rfl (fun ls hl => ?_)
                        refine lv_goto (tgt := 85) hx hb dX4_lackOfMoney_140 (by decide) ?_
                        exact ih_6 (j6 + 1) (by omega) _ (by simp [mMoneyL, c_3, c_5, c_9, c_10, c_11])  _ _ hW hS ls (lv_sub hl [0, 1, 2, 3, 4, 5] rfl)
                      · -- L 3 j6 gt (g 0) + (nI (j1 + 1)) : False
                        refine lv_aload_n hx hb dX4_lackOfMoney_123 rfl (lv_at hl 4 rfl) ?_
                        refine lv_iload hx hb dX4_lackOfMoney_124 (lv_at hl 0 rfl) ?_
                        refine va_calli (va_runV (As := [.int (nI j6)]) (rest := [.long (mMoneyL g L B b set (nI (j1 + 1)) j6)]) ⟨hx, hb, hml, hown, hts⟩ (c_X4_countOf l D cs A ad g L B n b t hn hb5 j6 (by omega)) (cwV 1 hts gX4_lackOfMoney_X4_countOf rfl rfl rfl (by decide +kernel) ⟨Nat.le_of_ble_eq_true rfl, Nat.le_of_ble_eq_true rfl⟩) ⟨pM_fb, wb_recv hK hW (r := 0) (Nat.le_of_ble_eq_true rfl) (ci := 5) rfl rfl, fun U hU hV => ⟨rfl, pM_of hK hV.alike hU hW⟩⟩ rfl rfl hl.1 rfl (lv_room (Nat.le_of_ble_eq_true rfl)) dX4_lackOfMoney_126 ⟨Nat.zero_le _, Nat.zero_le _⟩) hS (fun _ _ h => h.elim) (fun _ h => h.elim) (fun r_12 u t9 H locs ht hvm hw _ hz1 hk1 hS => ?_)
                        have hW := hW.kept hk1
                        subst hw
                        refine lv_i2l (v := (mCount g L j6).toInt64) hx hb dX4_lackOfMoney_129 rfl ?_
                        refine lv_goto (tgt := 134) hx hb dX4_lackOfMoney_130 (by decide) ?_
                        refine lv_lsub hx hb dX4_lackOfMoney_134 ?_
                        refine lv_lstore (lv' := [(5, .long ((mMoneyL g L B b set (nI (j1 + 1)) j6) - ((mCount g L j6).toInt64))), (7, .int (nI j6)), (4, .int (nI (j1 + 1))), (2, .long (mLackM g L B n b set j1)), (0, .ref (ad 0)), (1, .int set)]) hx hb dX4_lackOfMoney_135 hl (by decide) rfl (fun ls hl => ?_)
                        refine lv_iinc (v := nI (j6 + 1)) (lv' := [(7, .int (nI (j6 + 1))), (5, .long ((mMoneyL g L B b set (nI (j1 + 1)) j6) - ((mCount g L j6).toInt64))), (4, .int (nI (j1 + 1))), (2, .long (mLackM g L B n b set j1)), (0, .ref (ad 0)), (1, .int set)]) hx hb dX4_lackOfMoney_137 hl (k := 1) rfl (nI_1 _) (by decide) rfl (fun ls hl => ?_)
                        refine lv_goto (tgt := 85) hx hb dX4_lackOfMoney_140 (by decide) ?_
                        exact ih_6 (j6 + 1) (by omega) _ (by simp [mMoneyL, c_3, c_5, c_9, c_10, c_11])  _ _ hW hS ls (lv_sub hl [0, 1, 2, 3, 4, 5] rfl)
              exact loop_6 (n) 0 (by omega) _ (by simp [mMoneyL, c_3, c_5])  _ _ hW hS ls (lv_sub hl [0, 1, 2, 3, 4, 5] rfl)
            · -- nI b ge nI b : False
              exact absurd (by first | exact Int32.le_refl _ | decide) c_5
          | succ k4 ih_4 =>
            intro j4 hj_4 a4_0 ea4_0 H locs hW hS ls hl
            subst ea4_0
            refine lv_iload hx hb dX4_lackOfMoney_23 (lv_at hl 0 rfl) ?_
            refine lv_aload_n hx hb dX4_lackOfMoney_25 rfl (lv_at hl 4 rfl) ?_
            refine wb_get hx hb hts hinX4 hown hK hW 0 (Nat.le_of_ble_eq_true rfl) rfl rfl 16 (by decide) hf57 (fun _ h9 => h9) (v := .int (nI b)) rfl dX4_lackOfMoney_26 ?_
            refine lv_icmp_ge (tgt := 82) hx hb dX4_lackOfMoney_29 (by decide) (fun c_13 => ?_) (fun c_13 => ?_)
            · -- nI j4 ge nI b : True
              exact absurd c_13 (nI_ge (by omega) (by omega))
            · -- nI j4 ge nI b : False
              refine lv_lload hx hb dX4_lackOfMoney_32 (lv_at hl 1 rfl) ?_
              refine lv_aload_n hx hb dX4_lackOfMoney_34 rfl (lv_at hl 4 rfl) ?_
              refine wb_get hx hb hts hinX4 hown hK hW 0 (Nat.le_of_ble_eq_true rfl) rfl rfl 14 (by decide) hf44 (fun _ h9 => h9) (v := .ref (ad 9)) rfl dX4_lackOfMoney_35 ?_
              refine lv_iload hx hb dX4_lackOfMoney_38 (lv_at hl 0 rfl) ?_
              refine wb_iald hx hb hK hW 9 (Nat.le_of_ble_eq_true rfl) 0 rfl rfl j4 rfl (by omega) (by decide) dX4_lackOfMoney_40 ?_
              refine lv_if_ne (tgt := 72) hx hb dX4_lackOfMoney_41 (by decide) (fun c_14 => ?_) (fun c_14 => ?_)
              · -- B 2 j4 ne 0 : True
                refine lv_lconst (v := 0) hx hb dX4_lackOfMoney_72 (by decide) ?_
                refine lv_ladd hx hb dX4_lackOfMoney_73 ?_
                refine lv_lstore (lv' := [(5, .long ((mMoneyB g B (nI (j1 + 1)) j4) + 0)), (7, .int (nI j4)), (4, .int (nI (j1 + 1))), (2, .long (mLackM g L B n b set j1)), (0, .ref (ad 0)), (1, .int set)]) hx hb dX4_lackOfMoney_74 hl (by decide) rfl (fun ls hl => ?_)
                refine lv_iinc (v := nI (j4 + 1)) (lv' := [(7, .int (nI (j4 + 1))), (5, .long ((mMoneyB g B (nI (j1 + 1)) j4) + 0)), (4, .int (nI (j1 + 1))), (2, .long (mLackM g L B n b set j1)), (0, .ref (ad 0)), (1, .int set)]) hx hb dX4_lackOfMoney_76 hl (k := 1) rfl (nI_1 _) (by decide) rfl (fun ls hl => ?_)
                refine lv_goto (tgt := 23) hx hb dX4_lackOfMoney_79 (by decide) ?_
                exact ih_4 (j4 + 1) (by omega) _ (by simp [mMoneyB, c_3, c_13, c_14])  _ _ hW hS ls (lv_sub hl [0, 1, 2, 3, 4, 5] rfl)
              · -- B 2 j4 ne 0 : False
                refine lv_aload_n hx hb dX4_lackOfMoney_44 rfl (lv_at hl 4 rfl) ?_
                refine wb_get hx hb hts hinX4 hown hK hW 0 (Nat.le_of_ble_eq_true rfl) rfl rfl 13 (by decide) hf41 (fun _ h9 => h9) (v := .ref (ad 8)) rfl dX4_lackOfMoney_45 ?_
                refine lv_iload hx hb dX4_lackOfMoney_48 (lv_at hl 0 rfl) ?_
                refine wb_iald hx hb hK hW 8 (Nat.le_of_ble_eq_true rfl) 0 rfl rfl j4 rfl (by omega) (by decide) dX4_lackOfMoney_50 ?_
                refine lv_aload_n hx hb dX4_lackOfMoney_51 rfl (lv_at hl 4 rfl) ?_
                refine wb_get hx hb hts hinX4 hown hK hW 0 (Nat.le_of_ble_eq_true rfl) rfl rfl 0 (by decide) hf67 (fun _ h9 => h9) (v := .int (g 0)) rfl dX4_lackOfMoney_52 ?_
                refine lv_iload hx hb dX4_lackOfMoney_55 (lv_at hl 2 rfl) ?_
                refine lv_iadd hx hb dX4_lackOfMoney_57 ?_
                refine lv_icmp_gt (tgt := 72) hx hb dX4_lackOfMoney_58 (by decide) (fun c_15 => ?_) (fun c_15 => ?_)
                · -- B 1 j4 gt (g 0) + (nI (j1 + 1)) : True
                  refine lv_lconst (v := 0) hx hb dX4_lackOfMoney_72 (by decide) ?_
                  refine lv_ladd hx hb dX4_lackOfMoney_73 ?_
                  refine lv_lstore (lv' := [(5, .long ((mMoneyB g B (nI (j1 + 1)) j4) + 0)), (7, .int (nI j4)), (4, .int (nI (j1 + 1))), (2, .long (mLackM g L B n b set j1)), (0, .ref (ad 0)), (1, .int set)]) hx hb dX4_lackOfMoney_74 hl (by decide) rfl (fun ls hl => ?_)
                  refine lv_iinc (v := nI (j4 + 1)) (lv' := [(7, .int (nI (j4 + 1))), (5, .long ((mMoneyB g B (nI (j1 + 1)) j4) + 0)), (4, .int (nI (j1 + 1))), (2, .long (mLackM g L B n b set j1)), (0, .ref (ad 0)), (1, .int set)]) hx hb dX4_lackOfMoney_76 hl (k := 1) rfl (nI_1 _) (by decide) rfl (fun ls hl => ?_)
                  refine lv_goto (tgt := 23) hx hb dX4_lackOfMoney_79 (by decide) ?_
                  exact ih_4 (j4 + 1) (by omega) _ (by simp [mMoneyB, c_3, c_13, c_14, c_15])  _ _ hW hS ls (lv_sub hl [0, 1, 2, 3, 4, 5] rfl)
                · -- B 1 j4 gt (g 0) + (nI (j1 + 1)) : False
                  refine lv_aload_n hx hb dX4_lackOfMoney_61 rfl (lv_at hl 4 rfl) ?_
                  refine wb_get hx hb hts hinX4 hown hK hW 0 (Nat.le_of_ble_eq_true rfl) rfl rfl 12 (by decide) hf38 (fun _ h9 => h9) (v := .ref (ad 7)) rfl dX4_lackOfMoney_62 ?_
                  refine lv_iload hx hb dX4_lackOfMoney_65 (lv_at hl 0 rfl) ?_
                  refine wb_iald hx hb hK hW 7 (Nat.le_of_ble_eq_true rfl) 0 rfl rfl j4 rfl (by omega) (by decide) dX4_lackOfMoney_67 ?_
                  refine lv_i2l (v := (B 0 j4).toInt64) hx hb dX4_lackOfMoney_68 rfl ?_
                  refine lv_goto (tgt := 73) hx hb dX4_lackOfMoney_69 (by decide) ?_
                  refine lv_ladd hx hb dX4_lackOfMoney_73 ?_
                  refine lv_lstore (lv' := [(5, .long ((mMoneyB g B (nI (j1 + 1)) j4) + ((B 0 j4).toInt64))), (7, .int (nI j4)), (4, .int (nI (j1 + 1))), (2, .long (mLackM g L B n b set j1)), (0, .ref (ad 0)), (1, .int set)]) hx hb dX4_lackOfMoney_74 hl (by decide) rfl (fun ls hl => ?_)
                  refine lv_iinc (v := nI (j4 + 1)) (lv' := [(7, .int (nI (j4 + 1))), (5, .long ((mMoneyB g B (nI (j1 + 1)) j4) + ((B 0 j4).toInt64))), (4, .int (nI (j1 + 1))), (2, .long (mLackM g L B n b set j1)), (0, .ref (ad 0)), (1, .int set)]) hx hb dX4_lackOfMoney_76 hl (k := 1) rfl (nI_1 _) (by decide) rfl (fun ls hl => ?_)
                  refine lv_goto (tgt := 23) hx hb dX4_lackOfMoney_79 (by decide) ?_
                  exact ih_4 (j4 + 1) (by omega) _ (by simp [mMoneyB, c_3, c_13, c_14, c_15])  _ _ hW hS ls (lv_sub hl [0, 1, 2, 3, 4, 5] rfl)
        exact loop_4 (b) 0 (by omega) _ rfl  _ _ hW hS ls (lv_sub hl [0, 1, 2, 3, 4, 5] rfl)
  exact loop_1 (6) 0 (by omega) _ (by simp [mLackM])  _ _ hW hS ls (lv_sub hl [0, 1, 2, 3] rfl)

set_option maxHeartbeats 4000000 in
set_option maxRecDepth 100000 in
theorem c_X4_lack (l : Launch) (D : va_G) (cs : Nat → ClassId) (A : Nat → Prop) (ad : Nat → Nat) (g : Nat → Int32) (L B : Nat → Nat → Int32) (n b : Nat) (t : Int32) (hn : n ≤ 12) (hb5 : b ≤ 5) (test set : Int32) (dv0 : dvOK g L B n b 0) (dvs : dvOK g L B n b (g 4)) : Met l yX4_lack wsX4_lack ({ frames := 4, cells := 0, slots := 0, locals := 92 } : Room) (va_Pc [.ref (ad 0), .int test, .int set] (pM D cs A ad g L B n b t)) (va_Ql (fun (r9 : Int64) (_ : Unit) => r9 = mLack g L B n b test set) (fun _ _ => True) (fun _ => False)) 0 0 (fun _ => False) := by
  refine Met.ofW (cc := cX4_lack) (maxL := 7) (ret := (some .long)) (by decide) rfl ?_
  intro p e s m args below meth c s₁ BB hml hv
  obtain ⟨rfl, hv⟩ := hv
  obtain ⟨hK, hW⟩ := hv
  have hx := BB.exec
  have hb := BB.bytes
  have hr := BB.returns
  have hts := atoms_spec (ws := wsX4_lack) BB.pre
  have hown : s.vm.findClass RX4 = some m.cls := findClass_of_methodNamed BB.named
  have hlocks := BB.notSynchronized
  have hS : va_S (fun _ => False) s.heap s.heap [] := va_S.rf
  have hl := lv_entry ([.ref (ad 0), .int test, .int set]) (n := 7) (Nat.le_of_ble_eq_true rfl)
  rw [lg_entry_eq]
  generalize (lg_sl ([.ref (ad 0), .int test, .int set]) ++ List.replicate (7 - (lg_sl ([.ref (ad 0), .int test, .int set])).length) Slot.unset).toArray = ls at hl ⊢
  have hl : lv_has ls 7 [(0, .ref (ad 0)), (1, .int test), (2, .int set)] := hl
  have hf16 := hts (.fieldLink RX4 16 "CoverpoolModel" "stress" "I") (by decide +kernel)
  have hinX4 : ∀ w ∈ u_ws RX4 TX4 18, w ∈ wsX4_lack := by decide +kernel
  refine lv_iload_n hx hb dX4_lack_0 rfl (lv_at hl 1 rfl) ?_
  refine lv_if_ne (tgt := 10) hx hb dX4_lack_1 (by decide) (fun c_1 => ?_) (fun c_1 => ?_)
  · -- test ne 0 : True
    refine lv_iload_n hx hb dX4_lack_10 rfl (lv_at hl 1 rfl) ?_
    refine lv_iconst (v := 2) hx hb dX4_lack_11 (by decide) ?_
    refine lv_icmp_ne (tgt := 21) hx hb dX4_lack_12 (by decide) (fun c_2 => ?_) (fun c_2 => ?_)
    · -- test ne 2 : True
      refine lv_aload_n hx hb dX4_lack_21 rfl (lv_at hl 0 rfl) ?_
      refine lv_iload_n hx hb dX4_lack_22 rfl (lv_at hl 2 rfl) ?_
      refine lv_iconst (v := 0) hx hb dX4_lack_23 (by decide) ?_
      refine va_calll (va_runV (As := [.int set, .int 0]) (rest := []) ⟨hx, hb, hml, hown, hts⟩ (c_X4_lackOfWorth l D cs A ad g L B n b t hn hb5 set 0 dv0) (cwV 2 hts gX4_lack_X4_lackOfWorth rfl rfl rfl (by decide +kernel) ⟨Nat.le_of_ble_eq_true rfl, Nat.le_of_ble_eq_true rfl⟩) ⟨pM_fb, wb_recv hK hW (r := 0) (Nat.le_of_ble_eq_true rfl) (ci := 5) rfl rfl, fun U hU hV => ⟨rfl, pM_of hK hV.alike hU hW⟩⟩ rfl rfl hl.1 rfl (lv_room (Nat.le_of_ble_eq_true rfl)) dX4_lack_24 ⟨Nat.zero_le _, Nat.zero_le _⟩) hS (fun _ _ h => h.elim) (fun _ h => h.elim) (fun r_3 u t9 H locs ht hvm hw _ hz1 hk1 hS => ?_)
      have hW := hW.kept hk1
      subst hw
      refine lv_lstore_n (lv' := [(3, .long (mLackW g L B n b set 0)), (0, .ref (ad 0)), (1, .int test), (2, .int set)]) hx hb dX4_lack_27 rfl hl (by decide) rfl (fun ls hl => ?_)
      refine lv_aload_n hx hb dX4_lack_28 rfl (lv_at hl 1 rfl) ?_
      refine lv_iload_n hx hb dX4_lack_29 rfl (lv_at hl 3 rfl) ?_
      refine lv_aload_n hx hb dX4_lack_30 rfl (lv_at hl 1 rfl) ?_
      refine wb_get hx hb hts hinX4 hown hK hW 0 (Nat.le_of_ble_eq_true rfl) rfl rfl 4 (by decide) hf16 (fun _ h9 => h9) (v := .int (g 4)) rfl dX4_lack_31 ?_
      refine va_calll (va_runV (As := [.int set, .int (g 4)]) (rest := []) ⟨hx, hb, hml, hown, hts⟩ (c_X4_lackOfWorth l D cs A ad g L B n b t hn hb5 set (g 4) dvs) (cwV 2 hts gX4_lack_X4_lackOfWorth rfl rfl rfl (by decide +kernel) ⟨Nat.le_of_ble_eq_true rfl, Nat.le_of_ble_eq_true rfl⟩) ⟨pM_fb, wb_recv hK hW (r := 0) (Nat.le_of_ble_eq_true rfl) (ci := 5) rfl rfl, fun U hU hV => ⟨rfl, pM_of hK hV.alike hU hW⟩⟩ rfl rfl hl.1 rfl (lv_room (Nat.le_of_ble_eq_true rfl)) dX4_lack_34 ⟨Nat.zero_le _, Nat.zero_le _⟩) hS (fun _ _ h => h.elim) (fun _ h => h.elim) (fun r_4 u t9 H locs ht hvm hw _ hz1 hk1 hS => ?_)
      have hW := hW.kept hk1
      subst hw
      refine lv_lstore (lv' := [(5, .long (mLackW g L B n b set (g 4))), (3, .long (mLackW g L B n b set 0)), (0, .ref (ad 0)), (1, .int test), (2, .int set)]) hx hb dX4_lack_37 hl (by decide) rfl (fun ls hl => ?_)
      refine lv_lload_n hx hb dX4_lack_39 rfl (lv_at hl 1 rfl) ?_
      refine lv_lload hx hb dX4_lack_40 (lv_at hl 0 rfl) ?_
      refine W.lcmp hx hb dX4_lack_42 ?_
      refine lv_if_le (tgt := 50) hx hb dX4_lack_43 (by decide) (fun c_5 => ?_) (fun c_5 => ?_)
      · -- lg_cmp (mLackW g L B n b set 0) (mLackW g L B n b set (g 4)) le 0 : True
        rw [lg0_le] at c_5
        refine lv_lload hx hb dX4_lack_50 (lv_at hl 0 rfl) ?_
        exact W.lret (v := mLackW g L B n b set (g 4)) hx hb hr (fun t9 ht9 hW9 => ⟨⟨_, (), rfl, (by simp [mLack, lg0_le, c_1, c_2, c_5]), trivial⟩, hS.F ht9⟩) hS.2.2 dX4_lack_52
      · -- lg_cmp (mLackW g L B n b set 0) (mLackW g L B n b set (g 4)) le 0 : False
        rw [lg0_le] at c_5
        refine lv_lload_n hx hb dX4_lack_46 rfl (lv_at hl 1 rfl) ?_
        refine lv_goto (tgt := 52) hx hb dX4_lack_47 (by decide) ?_
        exact W.lret (v := mLackW g L B n b set 0) hx hb hr (fun t9 ht9 hW9 => ⟨⟨_, (), rfl, (by simp [mLack, lg0_le, c_1, c_2, c_5]), trivial⟩, hS.F ht9⟩) hS.2.2 dX4_lack_52
    · -- test ne 2 : False
      refine lv_aload_n hx hb dX4_lack_15 rfl (lv_at hl 0 rfl) ?_
      refine lv_iload_n hx hb dX4_lack_16 rfl (lv_at hl 2 rfl) ?_
      refine va_calll (va_runV (As := [.int set]) (rest := []) ⟨hx, hb, hml, hown, hts⟩ (c_X4_lackOfMoney l D cs A ad g L B n b t hn hb5 set) (cwV 1 hts gX4_lack_X4_lackOfMoney rfl rfl rfl (by decide +kernel) ⟨Nat.le_of_ble_eq_true rfl, Nat.le_of_ble_eq_true rfl⟩) ⟨pM_fb, wb_recv hK hW (r := 0) (Nat.le_of_ble_eq_true rfl) (ci := 5) rfl rfl, fun U hU hV => ⟨rfl, pM_of hK hV.alike hU hW⟩⟩ rfl rfl hl.1 rfl (lv_room (Nat.le_of_ble_eq_true rfl)) dX4_lack_17 ⟨Nat.zero_le _, Nat.zero_le _⟩) hS (fun _ _ h => h.elim) (fun _ h => h.elim) (fun r_6 u t9 H locs ht hvm hw _ hz1 hk1 hS => ?_)
      have hW := hW.kept hk1
      subst hw
      exact W.lret (v := mLackM g L B n b set 6) hx hb hr (fun t9 ht9 hW9 => ⟨⟨_, (), rfl, (by simp [mLack, lg0_le, c_1, c_2]), trivial⟩, hS.F ht9⟩) hS.2.2 dX4_lack_20
  · -- test ne 0 : False
    refine lv_aload_n hx hb dX4_lack_4 rfl (lv_at hl 0 rfl) ?_
    refine lv_iload_n hx hb dX4_lack_5 rfl (lv_at hl 2 rfl) ?_
    refine va_calll (va_runV (As := [.int set]) (rest := []) ⟨hx, hb, hml, hown, hts⟩ (c_X4_lackOfFace l D cs A ad g L B n b t hn hb5 set) (cwV 1 hts gX4_lack_X4_lackOfFace rfl rfl rfl (by decide +kernel) ⟨Nat.le_of_ble_eq_true rfl, Nat.le_of_ble_eq_true rfl⟩) ⟨pM_fb, wb_recv hK hW (r := 0) (Nat.le_of_ble_eq_true rfl) (ci := 5) rfl rfl, fun U hU hV => ⟨rfl, pM_of hK hV.alike hU hW⟩⟩ rfl rfl hl.1 rfl (lv_room (Nat.le_of_ble_eq_true rfl)) dX4_lack_6 ⟨Nat.zero_le _, Nat.zero_le _⟩) hS (fun _ _ h => h.elim) (fun _ h => h.elim) (fun r_7 u t9 H locs ht hvm hw _ hz1 hk1 hS => ?_)
    have hW := hW.kept hk1
    subst hw
    exact W.lret (v := mLackF g L B n b set) hx hb hr (fun t9 ht9 hW9 => ⟨⟨_, (), rfl, (by simp [mLack, lg0_le, c_1]), trivial⟩, hS.F ht9⟩) hS.2.2 dX4_lack_9

set_option maxHeartbeats 4000000 in
set_option maxRecDepth 100000 in
theorem c_X4_isSafe (l : Launch) (D : va_G) (cs : Nat → ClassId) (A : Nat → Prop) (ad : Nat → Nat) (g : Nat → Int32) (L B : Nat → Nat → Int32) (n b : Nat) (t : Int32) (hn : n ≤ 12) (hb5 : b ≤ 5) (set : Int32) (dv0 : dvOK g L B n b 0) (dvs : dvOK g L B n b (g 4)) : Met l yX4_isSafe wsX4_isSafe ({ frames := 5, cells := 0, slots := 0, locals := 118 } : Room) (va_Pc [.ref (ad 0), .int set] (pM D cs A ad g L B n b t)) (va_Qi (fun (r9 : Int32) (_ : Unit) => (r9 = 1 ∧ (mSafe g L B n b set)) ∨ (r9 = 0 ∧ ¬ (mSafe g L B n b set))) (fun _ _ => True) (fun _ => False)) 0 0 (fun _ => False) := by
  refine Met.ofW (cc := cX4_isSafe) (maxL := 2) (ret := (some .boolean)) (by decide) rfl ?_
  intro p e s m args below meth c s₁ BB hml hv
  obtain ⟨rfl, hv⟩ := hv
  obtain ⟨hK, hW⟩ := hv
  have hx := BB.exec
  have hb := BB.bytes
  have hr := BB.returns
  have hts := atoms_spec (ws := wsX4_isSafe) BB.pre
  have hown : s.vm.findClass RX4 = some m.cls := findClass_of_methodNamed BB.named
  have hlocks := BB.notSynchronized
  have hS : va_S (fun _ => False) s.heap s.heap [] := va_S.rf
  have hl := lv_entry ([.ref (ad 0), .int set]) (n := 2) (Nat.le_of_ble_eq_true rfl)
  rw [lg_entry_eq]
  generalize (lg_sl ([.ref (ad 0), .int set]) ++ List.replicate (2 - (lg_sl ([.ref (ad 0), .int set])).length) Slot.unset).toArray = ls at hl ⊢
  have hl : lv_has ls 2 [(0, .ref (ad 0)), (1, .int set)] := hl
  refine lv_aload_n hx hb dX4_isSafe_0 rfl (lv_at hl 0 rfl) ?_
  refine lv_iconst (v := 0) hx hb dX4_isSafe_1 (by decide) ?_
  refine lv_iload_n hx hb dX4_isSafe_2 rfl (lv_at hl 1 rfl) ?_
  refine va_calll (va_runV (As := [.int 0, .int set]) (rest := []) ⟨hx, hb, hml, hown, hts⟩ (c_X4_lack l D cs A ad g L B n b t hn hb5 0 set dv0 dvs) (cwV 2 hts gX4_isSafe_X4_lack rfl rfl rfl (by decide +kernel) ⟨Nat.le_of_ble_eq_true rfl, Nat.le_of_ble_eq_true rfl⟩) ⟨pM_fb, wb_recv hK hW (r := 0) (Nat.le_of_ble_eq_true rfl) (ci := 5) rfl rfl, fun U hU hV => ⟨rfl, pM_of hK hV.alike hU hW⟩⟩ rfl rfl hl.1 rfl (lv_room (Nat.le_of_ble_eq_true rfl)) dX4_isSafe_3 ⟨Nat.zero_le _, Nat.zero_le _⟩) hS (fun _ _ h => h.elim) (fun _ h => h.elim) (fun r_1 u t9 H locs ht hvm hw _ hz1 hk1 hS => ?_)
  have hW := hW.kept hk1
  subst hw
  refine lv_lconst (v := 0) hx hb dX4_isSafe_6 (by decide) ?_
  refine W.lcmp hx hb dX4_isSafe_7 ?_
  refine lv_if_ne (tgt := 37) hx hb dX4_isSafe_8 (by decide) (fun c_2 => ?_) (fun c_2 => ?_)
  · -- lg_cmp (mLack g L B n b 0 set) 0 ne 0 : True
    rw [lg0_eq] at c_2
    refine lv_iconst (v := 0) hx hb dX4_isSafe_37 (by decide) ?_
    exact W.zret (ty := .boolean) (v := 0) hx hb hr (by decide) (fun t9 ht9 hW9 => ⟨⟨_, (), rfl, Or.inr ⟨rfl, by simp_all [mSafe, lg0_eq]⟩, trivial⟩, hS.F ht9⟩) hS.2.2 dX4_isSafe_38
  · -- lg_cmp (mLack g L B n b 0 set) 0 ne 0 : False
    rw [lg0_eq] at c_2
    refine lv_aload_n hx hb dX4_isSafe_11 rfl (lv_at hl 0 rfl) ?_
    refine lv_iconst (v := 1) hx hb dX4_isSafe_12 (by decide) ?_
    refine lv_iload_n hx hb dX4_isSafe_13 rfl (lv_at hl 1 rfl) ?_
    refine va_calll (va_runV (As := [.int 1, .int set]) (rest := []) ⟨hx, hb, hml, hown, hts⟩ (c_X4_lack l D cs A ad g L B n b t hn hb5 1 set dv0 dvs) (cwV 2 hts gX4_isSafe_X4_lack rfl rfl rfl (by decide +kernel) ⟨Nat.le_of_ble_eq_true rfl, Nat.le_of_ble_eq_true rfl⟩) ⟨pM_fb, wb_recv hK hW (r := 0) (Nat.le_of_ble_eq_true rfl) (ci := 5) rfl rfl, fun U hU hV => ⟨rfl, pM_of hK hV.alike hU hW⟩⟩ rfl rfl hl.1 rfl (lv_room (Nat.le_of_ble_eq_true rfl)) dX4_isSafe_14 ⟨Nat.zero_le _, Nat.zero_le _⟩) hS (fun _ _ h => h.elim) (fun _ h => h.elim) (fun r_3 u t9 H locs ht hvm hw _ hz1 hk1 hS => ?_)
    have hW := hW.kept hk1
    subst hw
    refine lv_lconst (v := 0) hx hb dX4_isSafe_17 (by decide) ?_
    refine W.lcmp hx hb dX4_isSafe_18 ?_
    refine lv_if_ne (tgt := 37) hx hb dX4_isSafe_19 (by decide) (fun c_4 => ?_) (fun c_4 => ?_)
    · -- lg_cmp (mLack g L B n b 1 set) 0 ne 0 : True
      rw [lg0_eq] at c_4
      refine lv_iconst (v := 0) hx hb dX4_isSafe_37 (by decide) ?_
      exact W.zret (ty := .boolean) (v := 0) hx hb hr (by decide) (fun t9 ht9 hW9 => ⟨⟨_, (), rfl, Or.inr ⟨rfl, by simp_all [mSafe, lg0_eq]⟩, trivial⟩, hS.F ht9⟩) hS.2.2 dX4_isSafe_38
    · -- lg_cmp (mLack g L B n b 1 set) 0 ne 0 : False
      rw [lg0_eq] at c_4
      refine lv_aload_n hx hb dX4_isSafe_22 rfl (lv_at hl 0 rfl) ?_
      refine lv_iconst (v := 2) hx hb dX4_isSafe_23 (by decide) ?_
      refine lv_iload_n hx hb dX4_isSafe_24 rfl (lv_at hl 1 rfl) ?_
      refine va_calll (va_runV (As := [.int 2, .int set]) (rest := []) ⟨hx, hb, hml, hown, hts⟩ (c_X4_lack l D cs A ad g L B n b t hn hb5 2 set dv0 dvs) (cwV 2 hts gX4_isSafe_X4_lack rfl rfl rfl (by decide +kernel) ⟨Nat.le_of_ble_eq_true rfl, Nat.le_of_ble_eq_true rfl⟩) ⟨pM_fb, wb_recv hK hW (r := 0) (Nat.le_of_ble_eq_true rfl) (ci := 5) rfl rfl, fun U hU hV => ⟨rfl, pM_of hK hV.alike hU hW⟩⟩ rfl rfl hl.1 rfl (lv_room (Nat.le_of_ble_eq_true rfl)) dX4_isSafe_25 ⟨Nat.zero_le _, Nat.zero_le _⟩) hS (fun _ _ h => h.elim) (fun _ h => h.elim) (fun r_5 u t9 H locs ht hvm hw _ hz1 hk1 hS => ?_)
      have hW := hW.kept hk1
      subst hw
      refine lv_lconst (v := 0) hx hb dX4_isSafe_28 (by decide) ?_
      refine W.lcmp hx hb dX4_isSafe_29 ?_
      refine lv_if_ne (tgt := 37) hx hb dX4_isSafe_30 (by decide) (fun c_6 => ?_) (fun c_6 => ?_)
      · -- lg_cmp (mLack g L B n b 2 set) 0 ne 0 : True
        rw [lg0_eq] at c_6
        refine lv_iconst (v := 0) hx hb dX4_isSafe_37 (by decide) ?_
        exact W.zret (ty := .boolean) (v := 0) hx hb hr (by decide) (fun t9 ht9 hW9 => ⟨⟨_, (), rfl, Or.inr ⟨rfl, by simp_all [mSafe, lg0_eq]⟩, trivial⟩, hS.F ht9⟩) hS.2.2 dX4_isSafe_38
      · -- lg_cmp (mLack g L B n b 2 set) 0 ne 0 : False
        rw [lg0_eq] at c_6
        refine lv_iconst (v := 1) hx hb dX4_isSafe_33 (by decide) ?_
        refine lv_goto (tgt := 38) hx hb dX4_isSafe_34 (by decide) ?_
        exact W.zret (ty := .boolean) (v := 1) hx hb hr (by decide) (fun t9 ht9 hW9 => ⟨⟨_, (), rfl, Or.inl ⟨rfl, by simp_all [mSafe, lg0_eq]⟩, trivial⟩, hS.F ht9⟩) hS.2.2 dX4_isSafe_38
