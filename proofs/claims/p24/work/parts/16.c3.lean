set_option maxHeartbeats 4000000 in
set_option maxRecDepth 100000 in
theorem c_X3_fillRow (l : Launch) (D : va_G) (cs : Nat → ClassId) (A : Nat → Prop) (z0 : Nat) (sa : Nat → Nat) (ad : Nat → Nat) (g : Nat → Int32) (L B : Nat → Nat → Int32) (n b : Nat) (y1 y2 : Int32) (N1 N2 : Nat) (nd : Nat → Int32) (gv : Nat → Nat → Int32) (hn : n ≤ 12) (hb5 : b ≤ 5) (hN1 : n ≤ N1 ∧ N1 < 1000) (hN2 : b ≤ N2 ∧ N2 < 1000) (i : Nat) (hi : i < 12) (x w : Int32) : Met l yX3_fillRow wsX3_fillRow ({ frames := 2, cells := 0, slots := 0, locals := 47 } : Room) (va_Pc [.ref (ad 0), .ref (ad (8 + i)), .int x, .int w] (pC D cs A z0 sa (lvC n b) ad (ctC cs ad z0 g L B n b y1 y2 N1 N2 nd gv))) (va_Qv (fun (_ : Unit) => True) (fun _ t9 => wP D A (lvC n b) ad (ctC cs ad z0 g L B n b y1 y2 N1 N2 nd (va_up gv i (rowU (gv i) g x w 6))) t9.heap) A) 0 0 A := by
  refine Met.ofW (cc := cX3_fillRow) (maxL := 5) (ret := none) (by decide) rfl ?_
  intro p e s m args below meth c s₁ BB hml hv
  obtain ⟨rfl, hv⟩ := hv
  obtain ⟨hE, hW⟩ := hv
  have hK := hE.1
  have hx := BB.exec
  have hb := BB.bytes
  have hr := BB.returns
  have hts := atoms_spec (ws := wsX3_fillRow) BB.pre
  have hown : s.vm.findClass RX3 = some m.cls := findClass_of_methodNamed BB.named
  have hlocks := BB.notSynchronized
  have hS : va_S A s.heap s.heap [] := va_S.rf
  have hl := lv_entry ([.ref (ad 0), .ref (ad (8 + i)), .int x, .int w]) (n := 5) (Nat.le_of_ble_eq_true rfl)
  rw [lg_entry_eq]
  generalize (lg_sl ([.ref (ad 0), .ref (ad (8 + i)), .int x, .int w]) ++ List.replicate (5 - (lg_sl ([.ref (ad 0), .ref (ad (8 + i)), .int x, .int w])).length) Slot.unset).toArray = ls at hl ⊢
  have hl : lv_has ls 5 [(0, .ref (ad 0)), (1, .ref (ad (8 + i))), (2, .int x), (3, .int w)] := hl
  have hf26 := hts (.fieldLink RX3 26 "Coverpool" "month" "I") (by decide +kernel)
  have hinX3 : ∀ w ∈ u_ws RX3 TX3 8, w ∈ wsX3_fillRow := by decide +kernel
  refine lv_aload_n hx hb dX3_fillRow_0 rfl (lv_at hl 1 rfl) ?_
  refine lv_iconst (v := 0) hx hb dX3_fillRow_1 (by decide) ?_
  refine lv_bipush (v := 100) hx hb dX3_fillRow_2 (by decide) ?_
  refine lv_iload_n hx hb dX3_fillRow_4 rfl (lv_at hl 2 rfl) ?_
  refine lv_imul hx hb dX3_fillRow_5 ?_
  refine wb_iast hx hb hK hW hS (8 + i) (lvC_rw (by omega)) 0 (ctC_rw (by omega)) rfl 0 rfl (by omega) (by decide) dX3_fillRow_6 (fun H locs hW hS => ?_)
  obtain ⟨gv1, hgv1⟩ : ∃ z9, z9 = updL gv i 0 (100 * x) := ⟨_, rfl⟩
  have hW : wP D A (lvC n b) ad (ctC cs ad z0 g L B n b y1 y2 N1 N2 nd gv1) H := by subst hgv1; exact hW.up (by rw [ctC_rw (by omega)]; simp [updL, va_up]) (fun r _ hr => ctC_gv (fun j9 h9 => by simp [updL, va_up, show j9 ≠ i by omega]))
  refine lv_aload_n hx hb dX3_fillRow_7 rfl (lv_at hl 1 rfl) ?_
  refine lv_iconst (v := 1) hx hb dX3_fillRow_8 (by decide) ?_
  refine lv_iload_n hx hb dX3_fillRow_9 rfl (lv_at hl 2 rfl) ?_
  refine wb_iast hx hb hK hW hS (8 + i) (lvC_rw (by omega)) 0 (ctC_rw (by omega)) rfl 1 rfl (by omega) (by decide) dX3_fillRow_10 (fun H locs hW hS => ?_)
  obtain ⟨gv2, hgv2⟩ : ∃ z9, z9 = updL gv1 i 1 x := ⟨_, rfl⟩
  have hW : wP D A (lvC n b) ad (ctC cs ad z0 g L B n b y1 y2 N1 N2 nd gv2) H := by subst hgv2; exact hW.up (by rw [ctC_rw (by omega)]; simp [updL, va_up]) (fun r _ hr => ctC_gv (fun j9 h9 => by simp [updL, va_up, show j9 ≠ i by omega]))
  refine lv_aload_n hx hb dX3_fillRow_11 rfl (lv_at hl 1 rfl) ?_
  refine lv_iconst (v := 2) hx hb dX3_fillRow_12 (by decide) ?_
  refine lv_aload_n hx hb dX3_fillRow_13 rfl (lv_at hl 0 rfl) ?_
  refine lv_iload_n hx hb dX3_fillRow_14 rfl (lv_at hl 2 rfl) ?_
  refine lv_iload_n hx hb dX3_fillRow_15 rfl (lv_at hl 3 rfl) ?_
  refine va_calli (va_runV (As := [.int x, .int w]) (rest := [.int 2, .ref (ad (8 + i))]) ⟨hx, hb, hml, hown, hts⟩ (c_X3_worthNow l D cs A z0 sa ad g L B n b y1 y2 N1 N2 nd gv2 hn hb5 hN1 hN2 x w) (cwV 2 hts gX3_fillRow_X3_worthNow rfl rfl rfl (by decide +kernel) ⟨Nat.le_of_ble_eq_true rfl, Nat.le_of_ble_eq_true rfl⟩) ⟨pC_fb, wb_recv hK hW (r := 0) (lvC_0 (by decide)) (ci := 4) rfl rfl, fun U hU hV => ⟨rfl, hE.at (fun _ h => h) hS hV hU, by rw [hU]; exact hW⟩⟩ rfl rfl hl.1 rfl (lv_room (Nat.le_of_ble_eq_true rfl)) dX3_fillRow_16 ⟨Nat.zero_le _, Nat.zero_le _⟩) hS (fun _ _ h => h.elim) (fun _ h => h.elim) (fun r_3 u t9 H locs ht hvm hw _ hz1 hk1 hS => ?_)
  have hW := hW.kept hk1
  subst hw
  refine wb_iast hx hb hK hW hS (8 + i) (lvC_rw (by omega)) 0 (ctC_rw (by omega)) rfl 2 rfl (by omega) (by decide) dX3_fillRow_19 (fun H locs hW hS => ?_)
  obtain ⟨gv4, hgv4⟩ : ∃ z9, z9 = updL gv2 i 2 (cWorth g x w) := ⟨_, rfl⟩
  have hW : wP D A (lvC n b) ad (ctC cs ad z0 g L B n b y1 y2 N1 N2 nd gv4) H := by subst hgv4; exact hW.up (by rw [ctC_rw (by omega)]; simp [updL, va_up]) (fun r _ hr => ctC_gv (fun j9 h9 => by simp [updL, va_up, show j9 ≠ i by omega]))
  have e0 : gv4 = va_up gv i (rowU (gv i) g x w 0) := by subst hgv4 hgv2 hgv1; rw [show updL gv i 0 (100 * x) = va_up gv i (upd (gv i) 0 (100 * x)) from rfl, updL_up, updL_up]; rfl
  rw [e0] at hW
  refine lv_iconst (v := 1) hx hb dX3_fillRow_20 (by decide) ?_
  refine lv_istore (lv' := [(4, .int 1), (0, .ref (ad 0)), (1, .ref (ad (8 + i))), (2, .int x), (3, .int w)]) hx hb dX3_fillRow_21 hl (by decide) rfl (fun ls hl => ?_)
  have loop_5 : ∀ (k5 j5 : Nat), j5 + k5 = 6 → ∀ (H : Heap) (locs : List Loc), wP D A (lvC n b) ad (ctC cs ad z0 g L B n b y1 y2 N1 N2 nd (va_up gv i (rowU (gv i) g x w j5))) H → va_S A s.heap H locs → ∀ (ls : Array Slot), lv_has ls 5 [(4, .int (nI (j5 + 1))), (0, .ref (ad 0)), (1, .ref (ad (8 + i))), (2, .int x), (3, .int w)] → W p l e ({ frames := 2, cells := 0, slots := 0, locals := 47 } : Room) s m (([.ref (ad 0), .ref (ad (8 + i)), .int x, .int w] : List Value).toArray) below meth c H locs 0 0 (MQ below (va_Qv (fun (_ : Unit) => True) (fun _ t9 => wP D A (lvC n b) ad (ctC cs ad z0 g L B n b y1 y2 N1 N2 nd (va_up gv i (rowU (gv i) g x w 6))) t9.heap) A) (([.ref (ad 0), .ref (ad (8 + i)), .int x, .int w] : List Value).toArray) s 0 0 A) (F0 m 23 ls []) := by
    intro k5
    induction k5 with
    | zero =>
      intro j5 hj_5  H locs hW hS ls hl
      obtain rfl : 6 = j5 := by omega
      refine lv_iload hx hb dX3_fillRow_23 (lv_at hl 0 rfl) ?_
      refine lv_bipush (v := 6) hx hb dX3_fillRow_25 (by decide) ?_
      refine lv_icmp_gt (tgt := 58) hx hb dX3_fillRow_27 (by decide) (fun c_6 => ?_) (fun c_6 => ?_)
      · -- nI (6 + 1) gt 6 : True
        exact W.vret hx hb hr (fun t9 ht9 hW9 => ⟨⟨(), rfl, trivial, (by dsimp only; rw [ht9]; exact hW)⟩, hS.F ht9⟩) hS.2.2 dX3_fillRow_58
      · -- nI (6 + 1) gt 6 : False
        exact absurd (by decide) c_6
    | succ k5 ih_5 =>
      intro j5 hj_5  H locs hW hS ls hl
      refine lv_iload hx hb dX3_fillRow_23 (lv_at hl 0 rfl) ?_
      refine lv_bipush (v := 6) hx hb dX3_fillRow_25 (by decide) ?_
      refine lv_icmp_gt (tgt := 58) hx hb dX3_fillRow_27 (by decide) (fun c_7 => ?_) (fun c_7 => ?_)
      · -- nI (j5 + 1) gt 6 : True
        exact absurd (show nI 6 < _ from c_7) (nI_nlt (by omega) (by omega))
      · -- nI (j5 + 1) gt 6 : False
        refine lv_aload_n hx hb dX3_fillRow_30 rfl (lv_at hl 2 rfl) ?_
        refine lv_iconst (v := 2) hx hb dX3_fillRow_31 (by decide) ?_
        refine lv_iload hx hb dX3_fillRow_32 (lv_at hl 0 rfl) ?_
        refine lv_iadd hx hb dX3_fillRow_34 ?_
        rw [show (2 : Int32) + nI (j5 + 1) = nI (2 + (j5 + 1)) from nI_add 2 _]
        refine lv_iload_n hx hb dX3_fillRow_35 rfl (lv_at hl 4 rfl) ?_
        refine lv_aload_n hx hb dX3_fillRow_36 rfl (lv_at hl 1 rfl) ?_
        refine wb_get hx hb hts hinX3 hown hK hW 0 (lvC_0 (by decide)) rfl rfl 3 (by decide) hf26 (fun _ h9 => h9) (v := .int (g 0)) rfl dX3_fillRow_37 ?_
        refine lv_iload hx hb dX3_fillRow_40 (lv_at hl 0 rfl) ?_
        refine lv_iadd hx hb dX3_fillRow_42 ?_
        refine lv_icmp_gt (tgt := 50) hx hb dX3_fillRow_43 (by decide) (fun c_8 => ?_) (fun c_8 => ?_)
        · -- w gt (g 0) + (nI (j5 + 1)) : True
          refine lv_iconst (v := 0) hx hb dX3_fillRow_50 (by decide) ?_
          refine wb_iast hx hb hK hW hS (8 + i) (lvC_rw (by omega)) 0 (ctC_rw (by omega)) rfl (2 + (j5 + 1)) rfl (by omega) (by decide) dX3_fillRow_51 (fun H locs hW hS => ?_)
          obtain ⟨gv9, hgv9⟩ : ∃ z9, z9 = updL (va_up gv i (rowU (gv i) g x w j5)) i (2 + (j5 + 1)) 0 := ⟨_, rfl⟩
          have hW : wP D A (lvC n b) ad (ctC cs ad z0 g L B n b y1 y2 N1 N2 nd gv9) H := by subst hgv9; exact hW.up (by rw [ctC_rw (by omega)]; simp [updL, va_up]) (fun r _ hr => ctC_gv (fun j9 h9 => by simp [updL, va_up, show j9 ≠ i by omega]))
          refine lv_iinc (v := nI ((j5 + 1) + 1)) (lv' := [(4, .int (nI ((j5 + 1) + 1))), (0, .ref (ad 0)), (1, .ref (ad (8 + i))), (2, .int x), (3, .int w)]) hx hb dX3_fillRow_52 hl (k := 0) rfl (nI_1 _) (by decide) rfl (fun ls hl => ?_)
          refine lv_goto (tgt := 23) hx hb dX3_fillRow_55 (by decide) ?_
          have e1 : gv9 = va_up gv i (rowU (gv i) g x w (j5 + 1)) := by subst hgv9; rw [updL_up]; simp only [rowU, c_8, reduceIte]
          rw [e1] at hW
          exact ih_5 (j5 + 1) (by omega)   _ _ hW hS ls (lv_sub hl [0, 1, 2, 3, 4] rfl)
        · -- w gt (g 0) + (nI (j5 + 1)) : False
          refine lv_iload_n hx hb dX3_fillRow_46 rfl (lv_at hl 3 rfl) ?_
          refine lv_goto (tgt := 51) hx hb dX3_fillRow_47 (by decide) ?_
          refine wb_iast hx hb hK hW hS (8 + i) (lvC_rw (by omega)) 0 (ctC_rw (by omega)) rfl (2 + (j5 + 1)) rfl (by omega) (by decide) dX3_fillRow_51 (fun H locs hW hS => ?_)
          obtain ⟨gv10, hgv10⟩ : ∃ z9, z9 = updL (va_up gv i (rowU (gv i) g x w j5)) i (2 + (j5 + 1)) x := ⟨_, rfl⟩
          have hW : wP D A (lvC n b) ad (ctC cs ad z0 g L B n b y1 y2 N1 N2 nd gv10) H := by subst hgv10; exact hW.up (by rw [ctC_rw (by omega)]; simp [updL, va_up]) (fun r _ hr => ctC_gv (fun j9 h9 => by simp [updL, va_up, show j9 ≠ i by omega]))
          refine lv_iinc (v := nI ((j5 + 1) + 1)) (lv' := [(4, .int (nI ((j5 + 1) + 1))), (0, .ref (ad 0)), (1, .ref (ad (8 + i))), (2, .int x), (3, .int w)]) hx hb dX3_fillRow_52 hl (k := 0) rfl (nI_1 _) (by decide) rfl (fun ls hl => ?_)
          refine lv_goto (tgt := 23) hx hb dX3_fillRow_55 (by decide) ?_
          have e1 : gv10 = va_up gv i (rowU (gv i) g x w (j5 + 1)) := by subst hgv10; rw [updL_up]; simp only [rowU, c_8, reduceIte]
          rw [e1] at hW
          exact ih_5 (j5 + 1) (by omega)   _ _ hW hS ls (lv_sub hl [0, 1, 2, 3, 4] rfl)
  exact loop_5 (6) 0 (by omega)   _ _ hW hS ls (lv_sub hl [0, 1, 2, 3, 4] rfl)

set_option maxHeartbeats 4000000 in
set_option maxRecDepth 100000 in
theorem c_X3_startWithCashAndSubstitutes (l : Launch) (D : va_G) (cs : Nat → ClassId) (A : Nat → Prop) (z0 : Nat) (sa : Nat → Nat) (ad : Nat → Nat) (g : Nat → Int32) (L B : Nat → Nat → Int32) (n b : Nat) (y1 y2 : Int32) (N1 N2 : Nat) (nd : Nat → Int32) (gv : Nat → Nat → Int32) (hn : n ≤ 12) (hb5 : b ≤ 5) (hN1 : n ≤ N1 ∧ N1 < 1000) (hN2 : b ≤ N2 ∧ N2 < 1000)  : Met l yX3_startWithCashAndSubstitutes wsX3_startWithCashAndSubstitutes ({ frames := 6, cells := 0, slots := 0, locals := 131 } : Room) (va_Pc [.ref (ad 0), .ref (ad 4)] (pC D cs A z0 sa (lvC n b) ad (ctC cs ad z0 g L B n b y1 y2 N1 N2 nd gv))) (va_Qv (fun (_ : Unit) => True) (fun _ t9 => wP D A (lvC n b) ad (ctC cs ad z0 g L B n b y1 y2 N1 N2 (ndS nd g (mBeside g B b) 6) gv) t9.heap) A) 0 0 A := by
  refine Met.ofW (cc := cX3_startWithCashAndSubstitutes) (maxL := 4) (ret := none) (by decide) rfl ?_
  intro p e s m args below meth c s₁ BB hml hv
  obtain ⟨rfl, hv⟩ := hv
  obtain ⟨hE, hW⟩ := hv
  have hK := hE.1
  have hx := BB.exec
  have hb := BB.bytes
  have hr := BB.returns
  have hts := atoms_spec (ws := wsX3_startWithCashAndSubstitutes) BB.pre
  have hown : s.vm.findClass RX3 = some m.cls := findClass_of_methodNamed BB.named
  have hlocks := BB.notSynchronized
  have hS : va_S A s.heap s.heap [] := va_S.rf
  have hl := lv_entry ([.ref (ad 0), .ref (ad 4)]) (n := 4) (Nat.le_of_ble_eq_true rfl)
  rw [lg_entry_eq]
  generalize (lg_sl ([.ref (ad 0), .ref (ad 4)]) ++ List.replicate (4 - (lg_sl ([.ref (ad 0), .ref (ad 4)])).length) Slot.unset).toArray = ls at hl ⊢
  have hl : lv_has ls 4 [(0, .ref (ad 0)), (1, .ref (ad 4))] := hl
  have hf30 := hts (.fieldLink RX3 30 "Coverpool" "cash" "I") (by decide +kernel)
  have hinX3 : ∀ w ∈ u_ws RX3 TX3 8, w ∈ wsX3_startWithCashAndSubstitutes := by decide +kernel
  refine lv_aload_n hx hb dX3_startWithCashAndSubstitutes_0 rfl (lv_at hl 0 rfl) ?_
  refine va_calli (va_runV (As := []) (rest := []) ⟨hx, hb, hml, hown, hts⟩ (c_X3_substitutes l D cs A z0 sa ad g L B n b y1 y2 N1 N2 nd gv hn hb5 hN1 hN2 ) (cwV 0 hts gX3_startWithCashAndSubstitutes_X3_substitutes rfl rfl rfl (by decide +kernel) ⟨Nat.le_of_ble_eq_true rfl, Nat.le_of_ble_eq_true rfl⟩) ⟨pC_fb, wb_recv hK hW (r := 0) (lvC_0 (by decide)) (ci := 4) rfl rfl, fun U hU hV => ⟨rfl, hE.at (fun _ h => h) hS hV hU, by rw [hU]; exact hW⟩⟩ rfl rfl hl.1 rfl (lv_room (Nat.le_of_ble_eq_true rfl)) dX3_startWithCashAndSubstitutes_1 ⟨Nat.zero_le _, Nat.zero_le _⟩) hS (fun _ _ h => h.elim) (fun _ h => h.elim) (fun r_1 u t9 H locs ht hvm hw _ hz1 hk1 hS => ?_)
  have hW := hW.kept hk1
  subst hw
  refine lv_istore_n (lv' := [(2, .int (mBeside g B b)), (0, .ref (ad 0)), (1, .ref (ad 4))]) hx hb dX3_startWithCashAndSubstitutes_4 rfl hl (by decide) rfl (fun ls hl => ?_)
  refine lv_aload_n hx hb dX3_startWithCashAndSubstitutes_5 rfl (lv_at hl 2 rfl) ?_
  refine lv_iconst (v := 0) hx hb dX3_startWithCashAndSubstitutes_6 (by decide) ?_
  refine lv_bipush (v := (-100)) hx hb dX3_startWithCashAndSubstitutes_7 (by decide) ?_
  refine lv_iload_n hx hb dX3_startWithCashAndSubstitutes_9 rfl (lv_at hl 0 rfl) ?_
  refine lv_imul hx hb dX3_startWithCashAndSubstitutes_10 ?_
  refine wb_iast hx hb hK hW hS 4 (lvC_0 (by decide)) 0 rfl rfl 0 rfl (by omega) (by decide) dX3_startWithCashAndSubstitutes_11 (fun H locs hW hS => ?_)
  obtain ⟨nd2, hnd2⟩ : ∃ z9, z9 = upd nd 0 ((-100) * (mBeside g B b)) := ⟨_, rfl⟩
  have hW : wP D A (lvC n b) ad (ctC cs ad z0 g L B n b y1 y2 N1 N2 nd2 gv) H := by subst hnd2; exact hW.up rfl (fun r _ hr => ctC_nd hr)
  refine lv_aload_n hx hb dX3_startWithCashAndSubstitutes_12 rfl (lv_at hl 2 rfl) ?_
  refine lv_iconst (v := 1) hx hb dX3_startWithCashAndSubstitutes_13 (by decide) ?_
  refine lv_iload_n hx hb dX3_startWithCashAndSubstitutes_14 rfl (lv_at hl 0 rfl) ?_
  refine lv_ineg hx hb dX3_startWithCashAndSubstitutes_15 ?_
  refine wb_iast hx hb hK hW hS 4 (lvC_0 (by decide)) 0 rfl rfl 1 rfl (by omega) (by decide) dX3_startWithCashAndSubstitutes_16 (fun H locs hW hS => ?_)
  obtain ⟨nd3, hnd3⟩ : ∃ z9, z9 = upd nd2 1 (-(mBeside g B b)) := ⟨_, rfl⟩
  have hW : wP D A (lvC n b) ad (ctC cs ad z0 g L B n b y1 y2 N1 N2 nd3 gv) H := by subst hnd3; exact hW.up rfl (fun r _ hr => ctC_nd hr)
  refine lv_aload_n hx hb dX3_startWithCashAndSubstitutes_17 rfl (lv_at hl 2 rfl) ?_
  refine lv_iconst (v := 2) hx hb dX3_startWithCashAndSubstitutes_18 (by decide) ?_
  refine lv_iload_n hx hb dX3_startWithCashAndSubstitutes_19 rfl (lv_at hl 0 rfl) ?_
  refine lv_ineg hx hb dX3_startWithCashAndSubstitutes_20 ?_
  refine wb_iast hx hb hK hW hS 4 (lvC_0 (by decide)) 0 rfl rfl 2 rfl (by omega) (by decide) dX3_startWithCashAndSubstitutes_21 (fun H locs hW hS => ?_)
  obtain ⟨nd4, hnd4⟩ : ∃ z9, z9 = upd nd3 2 (-(mBeside g B b)) := ⟨_, rfl⟩
  have hW : wP D A (lvC n b) ad (ctC cs ad z0 g L B n b y1 y2 N1 N2 nd4 gv) H := by subst hnd4; exact hW.up rfl (fun r _ hr => ctC_nd hr)
  have e0 : nd4 = ndS nd g (mBeside g B b) 0 := by subst hnd4 hnd3 hnd2; rfl
  rw [e0] at hW
  refine lv_iconst (v := 1) hx hb dX3_startWithCashAndSubstitutes_22 (by decide) ?_
  refine lv_istore_n (lv' := [(3, .int 1), (2, .int (mBeside g B b)), (0, .ref (ad 0)), (1, .ref (ad 4))]) hx hb dX3_startWithCashAndSubstitutes_23 rfl hl (by decide) rfl (fun ls hl => ?_)
  have loop_5 : ∀ (k5 j5 : Nat), j5 + k5 = 6 → ∀ (H : Heap) (locs : List Loc), wP D A (lvC n b) ad (ctC cs ad z0 g L B n b y1 y2 N1 N2 (ndS nd g (mBeside g B b) j5) gv) H → va_S A s.heap H locs → ∀ (ls : Array Slot), lv_has ls 4 [(3, .int (nI (j5 + 1))), (2, .int (mBeside g B b)), (0, .ref (ad 0)), (1, .ref (ad 4))] → W p l e ({ frames := 6, cells := 0, slots := 0, locals := 131 } : Room) s m (([.ref (ad 0), .ref (ad 4)] : List Value).toArray) below meth c H locs 0 0 (MQ below (va_Qv (fun (_ : Unit) => True) (fun _ t9 => wP D A (lvC n b) ad (ctC cs ad z0 g L B n b y1 y2 N1 N2 (ndS nd g (mBeside g B b) 6) gv) t9.heap) A) (([.ref (ad 0), .ref (ad 4)] : List Value).toArray) s 0 0 A) (F0 m 24 ls []) := by
    intro k5
    induction k5 with
    | zero =>
      intro j5 hj_5  H locs hW hS ls hl
      obtain rfl : 6 = j5 := by omega
      refine lv_iload_n hx hb dX3_startWithCashAndSubstitutes_24 rfl (lv_at hl 0 rfl) ?_
      refine lv_bipush (v := 6) hx hb dX3_startWithCashAndSubstitutes_25 (by decide) ?_
      refine lv_icmp_gt (tgt := 46) hx hb dX3_startWithCashAndSubstitutes_27 (by decide) (fun c_6 => ?_) (fun c_6 => ?_)
      · -- nI (6 + 1) gt 6 : True
        exact W.vret hx hb hr (fun t9 ht9 hW9 => ⟨⟨(), rfl, trivial, (by dsimp only; rw [ht9]; exact hW)⟩, hS.F ht9⟩) hS.2.2 dX3_startWithCashAndSubstitutes_46
      · -- nI (6 + 1) gt 6 : False
        exact absurd (by decide) c_6
    | succ k5 ih_5 =>
      intro j5 hj_5  H locs hW hS ls hl
      refine lv_iload_n hx hb dX3_startWithCashAndSubstitutes_24 rfl (lv_at hl 0 rfl) ?_
      refine lv_bipush (v := 6) hx hb dX3_startWithCashAndSubstitutes_25 (by decide) ?_
      refine lv_icmp_gt (tgt := 46) hx hb dX3_startWithCashAndSubstitutes_27 (by decide) (fun c_7 => ?_) (fun c_7 => ?_)
      · -- nI (j5 + 1) gt 6 : True
        exact absurd (show nI 6 < _ from c_7) (nI_nlt (by omega) (by omega))
      · -- nI (j5 + 1) gt 6 : False
        refine lv_aload_n hx hb dX3_startWithCashAndSubstitutes_30 rfl (lv_at hl 3 rfl) ?_
        refine lv_iconst (v := 2) hx hb dX3_startWithCashAndSubstitutes_31 (by decide) ?_
        refine lv_iload_n hx hb dX3_startWithCashAndSubstitutes_32 rfl (lv_at hl 0 rfl) ?_
        refine lv_iadd hx hb dX3_startWithCashAndSubstitutes_33 ?_
        rw [show (2 : Int32) + nI (j5 + 1) = nI (2 + (j5 + 1)) from nI_add 2 _]
        refine lv_aload_n hx hb dX3_startWithCashAndSubstitutes_34 rfl (lv_at hl 2 rfl) ?_
        refine wb_get hx hb hts hinX3 hown hK hW 0 (lvC_0 (by decide)) rfl rfl 4 (by decide) hf30 (fun _ h9 => h9) (v := .int (g 1)) rfl dX3_startWithCashAndSubstitutes_35 ?_
        refine lv_ineg hx hb dX3_startWithCashAndSubstitutes_38 ?_
        refine wb_iast hx hb hK hW hS 4 (lvC_0 (by decide)) 0 rfl rfl (2 + (j5 + 1)) rfl (by omega) (by decide) dX3_startWithCashAndSubstitutes_39 (fun H locs hW hS => ?_)
        obtain ⟨nd8, hnd8⟩ : ∃ z9, z9 = upd (ndS nd g (mBeside g B b) j5) (2 + (j5 + 1)) (-(g 1)) := ⟨_, rfl⟩
        have hW : wP D A (lvC n b) ad (ctC cs ad z0 g L B n b y1 y2 N1 N2 nd8 gv) H := by subst hnd8; exact hW.up rfl (fun r _ hr => ctC_nd hr)
        refine lv_iinc (v := nI ((j5 + 1) + 1)) (lv' := [(3, .int (nI ((j5 + 1) + 1))), (2, .int (mBeside g B b)), (0, .ref (ad 0)), (1, .ref (ad 4))]) hx hb dX3_startWithCashAndSubstitutes_40 hl (k := 0) rfl (nI_1 _) (by decide) rfl (fun ls hl => ?_)
        refine lv_goto (tgt := 24) hx hb dX3_startWithCashAndSubstitutes_43 (by decide) ?_
        have e1 : nd8 = ndS nd g (mBeside g B b) (j5 + 1) := by subst hnd8; rfl
        rw [e1] at hW
        exact ih_5 (j5 + 1) (by omega)   _ _ hW hS ls (lv_sub hl [0, 1, 2, 3] rfl)
  exact loop_5 (6) 0 (by omega)   _ _ hW hS ls (lv_sub hl [0, 1, 2, 3] rfl)

set_option maxHeartbeats 4000000 in
set_option maxRecDepth 100000 in
theorem c_X3_addBondTo (l : Launch) (D : va_G) (cs : Nat → ClassId) (A : Nat → Prop) (z0 : Nat) (sa : Nat → Nat) (ad : Nat → Nat) (g : Nat → Int32) (L B : Nat → Nat → Int32) (n b : Nat) (y1 y2 : Int32) (N1 N2 : Nat) (nd : Nat → Int32) (gv : Nat → Nat → Int32) (hn : n ≤ 12) (hb5 : b ≤ 5) (hN1 : n ≤ N1 ∧ N1 < 1000) (hN2 : b ≤ N2 ∧ N2 < 1000) (i : Nat) (hi : i < b) : Met l yX3_addBondTo wsX3_addBondTo ({ frames := 2, cells := 0, slots := 0, locals := 47 } : Room) (va_Pc [.ref (ad 0), .ref (ad 4), .ref (ad (32 + i))] (pC D cs A z0 sa (lvC n b) ad (ctC cs ad z0 g L B n b y1 y2 N1 N2 nd gv))) (va_Qv (fun (_ : Unit) => True) (fun _ t9 => wP D A (lvC n b) ad (ctC cs ad z0 g L B n b y1 y2 N1 N2 (ndB nd g (B 0 i) (B 1 i) 6) gv) t9.heap) A) 0 0 A := by
  refine Met.ofW (cc := cX3_addBondTo) (maxL := 4) (ret := none) (by decide) rfl ?_
  intro p e s m args below meth c s₁ BB hml hv
  obtain ⟨rfl, hv⟩ := hv
  obtain ⟨hE, hW⟩ := hv
  have hK := hE.1
  have hx := BB.exec
  have hb := BB.bytes
  have hr := BB.returns
  have hts := atoms_spec (ws := wsX3_addBondTo) BB.pre
  have hown : s.vm.findClass RX3 = some m.cls := findClass_of_methodNamed BB.named
  have hlocks := BB.notSynchronized
  have hS : va_S A s.heap s.heap [] := va_S.rf
  have hl := lv_entry ([.ref (ad 0), .ref (ad 4), .ref (ad (32 + i))]) (n := 4) (Nat.le_of_ble_eq_true rfl)
  rw [lg_entry_eq]
  generalize (lg_sl ([.ref (ad 0), .ref (ad 4), .ref (ad (32 + i))]) ++ List.replicate (4 - (lg_sl ([.ref (ad 0), .ref (ad 4), .ref (ad (32 + i))])).length) Slot.unset).toArray = ls at hl ⊢
  have hl : lv_has ls 4 [(0, .ref (ad 0)), (1, .ref (ad 4)), (2, .ref (ad (32 + i)))] := hl
  have hf26 := hts (.fieldLink RX3 26 "Coverpool" "month" "I") (by decide +kernel)
  have hf36 := hts (.fieldLink RX3 36 "Coverpool" "cover" "I") (by decide +kernel)
  have hf124 := hts (.fieldLink RX3 124 "Coverpool$Bond" "due" "I") (by decide +kernel)
  have hf131 := hts (.fieldLink RX3 131 "Coverpool$Bond" "amount" "I") (by decide +kernel)
  have hinX0 : ∀ w ∈ u_ws RX0 TX0 4, w ∈ wsX3_addBondTo := by decide +kernel
  have hinX3 : ∀ w ∈ u_ws RX3 TX3 8, w ∈ wsX3_addBondTo := by decide +kernel
  refine lv_aload_n hx hb dX3_addBondTo_0 rfl (lv_at hl 1 rfl) ?_
  refine lv_iconst (v := 0) hx hb dX3_addBondTo_1 (by decide) ?_
  refine lv_dup2_11 hx hb dX3_addBondTo_2 rfl rfl ?_
  refine wb_iald hx hb hK hW 4 (lvC_0 (by decide)) 0 rfl rfl 0 rfl (by omega) (by decide) dX3_addBondTo_3 ?_
  refine lv_aload_n hx hb dX3_addBondTo_4 rfl (lv_at hl 2 rfl) ?_
  refine wb_get hx hb hts hinX0 hown hK hW (32 + i) (lvC_bd (by omega)) ctC_bd rfl 0 (by decide) hf131 (fun _ h9 => h9) (v := .int (B 0 i)) rfl dX3_addBondTo_5 ?_
  refine lv_bipush (v := 100) hx hb dX3_addBondTo_8 (by decide) ?_
  refine lv_aload_n hx hb dX3_addBondTo_10 rfl (lv_at hl 0 rfl) ?_
  refine wb_get hx hb hts hinX3 hown hK hW 0 (lvC_0 (by decide)) rfl rfl 6 (by decide) hf36 (fun _ h9 => h9) (v := .int (g 3)) rfl dX3_addBondTo_11 ?_
  refine lv_iadd hx hb dX3_addBondTo_14 ?_
  refine lv_imul hx hb dX3_addBondTo_15 ?_
  refine lv_iadd hx hb dX3_addBondTo_16 ?_
  refine wb_iast hx hb hK hW hS 4 (lvC_0 (by decide)) 0 rfl rfl 0 rfl (by omega) (by decide) dX3_addBondTo_17 (fun H locs hW hS => ?_)
  obtain ⟨nd1, hnd1⟩ : ∃ z9, z9 = upd nd 0 ((nd 0) + ((B 0 i) * (100 + (g 3)))) := ⟨_, rfl⟩
  have hW : wP D A (lvC n b) ad (ctC cs ad z0 g L B n b y1 y2 N1 N2 nd1 gv) H := by subst hnd1; exact hW.up rfl (fun r _ hr => ctC_nd hr)
  refine lv_aload_n hx hb dX3_addBondTo_18 rfl (lv_at hl 1 rfl) ?_
  refine lv_iconst (v := 1) hx hb dX3_addBondTo_19 (by decide) ?_
  refine lv_dup2_11 hx hb dX3_addBondTo_20 rfl rfl ?_
  refine wb_iald hx hb hK hW 4 (lvC_0 (by decide)) 0 rfl rfl 1 rfl (by omega) (by decide) dX3_addBondTo_21 ?_
  refine lv_aload_n hx hb dX3_addBondTo_22 rfl (lv_at hl 2 rfl) ?_
  refine wb_get hx hb hts hinX0 hown hK hW (32 + i) (lvC_bd (by omega)) ctC_bd rfl 0 (by decide) hf131 (fun _ h9 => h9) (v := .int (B 0 i)) rfl dX3_addBondTo_23 ?_
  refine lv_iadd hx hb dX3_addBondTo_26 ?_
  refine wb_iast hx hb hK hW hS 4 (lvC_0 (by decide)) 0 rfl rfl 1 rfl (by omega) (by decide) dX3_addBondTo_27 (fun H locs hW hS => ?_)
  obtain ⟨nd2, hnd2⟩ : ∃ z9, z9 = upd nd1 1 ((nd1 1) + (B 0 i)) := ⟨_, rfl⟩
  have hW : wP D A (lvC n b) ad (ctC cs ad z0 g L B n b y1 y2 N1 N2 nd2 gv) H := by subst hnd2; exact hW.up rfl (fun r _ hr => ctC_nd hr)
  refine lv_aload_n hx hb dX3_addBondTo_28 rfl (lv_at hl 1 rfl) ?_
  refine lv_iconst (v := 2) hx hb dX3_addBondTo_29 (by decide) ?_
  refine lv_dup2_11 hx hb dX3_addBondTo_30 rfl rfl ?_
  refine wb_iald hx hb hK hW 4 (lvC_0 (by decide)) 0 rfl rfl 2 rfl (by omega) (by decide) dX3_addBondTo_31 ?_
  refine lv_aload_n hx hb dX3_addBondTo_32 rfl (lv_at hl 0 rfl) ?_
  refine lv_aload_n hx hb dX3_addBondTo_33 rfl (lv_at hl 2 rfl) ?_
  refine wb_get hx hb hts hinX0 hown hK hW (32 + i) (lvC_bd (by omega)) ctC_bd rfl 0 (by decide) hf131 (fun _ h9 => h9) (v := .int (B 0 i)) rfl dX3_addBondTo_34 ?_
  refine lv_aload_n hx hb dX3_addBondTo_37 rfl (lv_at hl 2 rfl) ?_
  refine wb_get hx hb hts hinX0 hown hK hW (32 + i) (lvC_bd (by omega)) ctC_bd rfl 1 (by decide) hf124 (fun _ h9 => h9) (v := .int (B 1 i)) rfl dX3_addBondTo_38 ?_
  refine va_calli (va_runV (As := [.int (B 0 i), .int (B 1 i)]) (rest := [.int (nd2 2), .int 2, .ref (ad 4)]) ⟨hx, hb, hml, hown, hts⟩ (c_X3_worthNow l D cs A z0 sa ad g L B n b y1 y2 N1 N2 nd2 gv hn hb5 hN1 hN2 (B 0 i) (B 1 i)) (cwV 2 hts gX3_addBondTo_X3_worthNow rfl rfl rfl (by decide +kernel) ⟨Nat.le_of_ble_eq_true rfl, Nat.le_of_ble_eq_true rfl⟩) ⟨pC_fb, wb_recv hK hW (r := 0) (lvC_0 (by decide)) (ci := 4) rfl rfl, fun U hU hV => ⟨rfl, hE.at (fun _ h => h) hS hV hU, by rw [hU]; exact hW⟩⟩ rfl rfl hl.1 rfl (lv_room (Nat.le_of_ble_eq_true rfl)) dX3_addBondTo_41 ⟨Nat.zero_le _, Nat.zero_le _⟩) hS (fun _ _ h => h.elim) (fun _ h => h.elim) (fun r_3 u t9 H locs ht hvm hw _ hz1 hk1 hS => ?_)
  have hW := hW.kept hk1
  subst hw
  refine lv_iadd hx hb dX3_addBondTo_44 ?_
  refine wb_iast hx hb hK hW hS 4 (lvC_0 (by decide)) 0 rfl rfl 2 rfl (by omega) (by decide) dX3_addBondTo_45 (fun H locs hW hS => ?_)
  obtain ⟨nd4, hnd4⟩ : ∃ z9, z9 = upd nd2 2 ((nd2 2) + (cWorth g (B 0 i) (B 1 i))) := ⟨_, rfl⟩
  have hW : wP D A (lvC n b) ad (ctC cs ad z0 g L B n b y1 y2 N1 N2 nd4 gv) H := by subst hnd4; exact hW.up rfl (fun r _ hr => ctC_nd hr)
  have e0 : nd4 = ndB nd g (B 0 i) (B 1 i) 0 := by subst hnd4 hnd2 hnd1; rfl
  rw [e0] at hW
  refine lv_iconst (v := 1) hx hb dX3_addBondTo_46 (by decide) ?_
  refine lv_istore_n (lv' := [(3, .int 1), (0, .ref (ad 0)), (1, .ref (ad 4)), (2, .ref (ad (32 + i)))]) hx hb dX3_addBondTo_47 rfl hl (by decide) rfl (fun ls hl => ?_)
  have loop_5 : ∀ (k5 j5 : Nat), j5 + k5 = 6 → ∀ (H : Heap) (locs : List Loc), wP D A (lvC n b) ad (ctC cs ad z0 g L B n b y1 y2 N1 N2 (ndB nd g (B 0 i) (B 1 i) j5) gv) H → va_S A s.heap H locs → ∀ (ls : Array Slot), lv_has ls 4 [(3, .int (nI (j5 + 1))), (0, .ref (ad 0)), (1, .ref (ad 4)), (2, .ref (ad (32 + i)))] → W p l e ({ frames := 2, cells := 0, slots := 0, locals := 47 } : Room) s m (([.ref (ad 0), .ref (ad 4), .ref (ad (32 + i))] : List Value).toArray) below meth c H locs 0 0 (MQ below (va_Qv (fun (_ : Unit) => True) (fun _ t9 => wP D A (lvC n b) ad (ctC cs ad z0 g L B n b y1 y2 N1 N2 (ndB nd g (B 0 i) (B 1 i) 6) gv) t9.heap) A) (([.ref (ad 0), .ref (ad 4), .ref (ad (32 + i))] : List Value).toArray) s 0 0 A) (F0 m 48 ls []) := by
    intro k5
    induction k5 with
    | zero =>
      intro j5 hj_5  H locs hW hS ls hl
      obtain rfl : 6 = j5 := by omega
      refine lv_iload_n hx hb dX3_addBondTo_48 rfl (lv_at hl 0 rfl) ?_
      refine lv_bipush (v := 6) hx hb dX3_addBondTo_49 (by decide) ?_
      refine lv_icmp_gt (tgt := 85) hx hb dX3_addBondTo_51 (by decide) (fun c_6 => ?_) (fun c_6 => ?_)
      · -- nI (6 + 1) gt 6 : True
        exact W.vret hx hb hr (fun t9 ht9 hW9 => ⟨⟨(), rfl, trivial, (by dsimp only; rw [ht9]; exact hW)⟩, hS.F ht9⟩) hS.2.2 dX3_addBondTo_85
      · -- nI (6 + 1) gt 6 : False
        exact absurd (by decide) c_6
    | succ k5 ih_5 =>
      intro j5 hj_5  H locs hW hS ls hl
      refine lv_iload_n hx hb dX3_addBondTo_48 rfl (lv_at hl 0 rfl) ?_
      refine lv_bipush (v := 6) hx hb dX3_addBondTo_49 (by decide) ?_
      refine lv_icmp_gt (tgt := 85) hx hb dX3_addBondTo_51 (by decide) (fun c_7 => ?_) (fun c_7 => ?_)
      · -- nI (j5 + 1) gt 6 : True
        exact absurd (show nI 6 < _ from c_7) (nI_nlt (by omega) (by omega))
      · -- nI (j5 + 1) gt 6 : False
        refine lv_aload_n hx hb dX3_addBondTo_54 rfl (lv_at hl 3 rfl) ?_
        refine wb_get hx hb hts hinX0 hown hK hW (32 + i) (lvC_bd (by omega)) ctC_bd rfl 1 (by decide) hf124 (fun _ h9 => h9) (v := .int (B 1 i)) rfl dX3_addBondTo_55 ?_
        refine lv_aload_n hx hb dX3_addBondTo_58 rfl (lv_at hl 1 rfl) ?_
        refine wb_get hx hb hts hinX3 hown hK hW 0 (lvC_0 (by decide)) rfl rfl 3 (by decide) hf26 (fun _ h9 => h9) (v := .int (g 0)) rfl dX3_addBondTo_59 ?_
        refine lv_iload_n hx hb dX3_addBondTo_62 rfl (lv_at hl 0 rfl) ?_
        refine lv_iadd hx hb dX3_addBondTo_63 ?_
        refine lv_icmp_gt (tgt := 79) hx hb dX3_addBondTo_64 (by decide) (fun c_8 => ?_) (fun c_8 => ?_)
        · -- B 1 i gt (g 0) + (nI (j5 + 1)) : True
          refine lv_iinc (v := nI ((j5 + 1) + 1)) (lv' := [(3, .int (nI ((j5 + 1) + 1))), (0, .ref (ad 0)), (1, .ref (ad 4)), (2, .ref (ad (32 + i)))]) hx hb dX3_addBondTo_79 hl (k := 0) rfl (nI_1 _) (by decide) rfl (fun ls hl => ?_)
          refine lv_goto (tgt := 48) hx hb dX3_addBondTo_82 (by decide) ?_
          have e1 : ndB nd g (B 0 i) (B 1 i) (j5 + 1) = (ndB nd g (B 0 i) (B 1 i) j5) := by simp only [ndB, c_8, reduceIte]
          rw [← e1] at hW
          exact ih_5 (j5 + 1) (by omega)   _ _ hW hS ls (lv_sub hl [0, 1, 2, 3] rfl)
        · -- B 1 i gt (g 0) + (nI (j5 + 1)) : False
          refine lv_aload_n hx hb dX3_addBondTo_67 rfl (lv_at hl 2 rfl) ?_
          refine lv_iconst (v := 2) hx hb dX3_addBondTo_68 (by decide) ?_
          refine lv_iload_n hx hb dX3_addBondTo_69 rfl (lv_at hl 0 rfl) ?_
          refine lv_iadd hx hb dX3_addBondTo_70 ?_
          rw [show (2 : Int32) + nI (j5 + 1) = nI (2 + (j5 + 1)) from nI_add 2 _]
          refine lv_dup2_11 hx hb dX3_addBondTo_71 rfl rfl ?_
          refine wb_iald hx hb hK hW 4 (lvC_0 (by decide)) 0 rfl rfl (2 + (j5 + 1)) rfl (by omega) (by decide) dX3_addBondTo_72 ?_
          refine lv_aload_n hx hb dX3_addBondTo_73 rfl (lv_at hl 3 rfl) ?_
          refine wb_get hx hb hts hinX0 hown hK hW (32 + i) (lvC_bd (by omega)) ctC_bd rfl 0 (by decide) hf131 (fun _ h9 => h9) (v := .int (B 0 i)) rfl dX3_addBondTo_74 ?_
          refine lv_iadd hx hb dX3_addBondTo_77 ?_
          refine wb_iast hx hb hK hW hS 4 (lvC_0 (by decide)) 0 rfl rfl (2 + (j5 + 1)) rfl (by omega) (by decide) dX3_addBondTo_78 (fun H locs hW hS => ?_)
          obtain ⟨nd9, hnd9⟩ : ∃ z9, z9 = upd (ndB nd g (B 0 i) (B 1 i) j5) (2 + (j5 + 1)) (((ndB nd g (B 0 i) (B 1 i) j5) (2 + (j5 + 1))) + (B 0 i)) := ⟨_, rfl⟩
          have hW : wP D A (lvC n b) ad (ctC cs ad z0 g L B n b y1 y2 N1 N2 nd9 gv) H := by subst hnd9; exact hW.up rfl (fun r _ hr => ctC_nd hr)
          refine lv_iinc (v := nI ((j5 + 1) + 1)) (lv' := [(3, .int (nI ((j5 + 1) + 1))), (0, .ref (ad 0)), (1, .ref (ad 4)), (2, .ref (ad (32 + i)))]) hx hb dX3_addBondTo_79 hl (k := 0) rfl (nI_1 _) (by decide) rfl (fun ls hl => ?_)
          refine lv_goto (tgt := 48) hx hb dX3_addBondTo_82 (by decide) ?_
          have e1 : nd9 = ndB nd g (B 0 i) (B 1 i) (j5 + 1) := by subst hnd9; simp only [ndB, c_8, reduceIte]
          rw [e1] at hW
          exact ih_5 (j5 + 1) (by omega)   _ _ hW hS ls (lv_sub hl [0, 1, 2, 3] rfl)
  exact loop_5 (6) 0 (by omega)   _ _ hW hS ls (lv_sub hl [0, 1, 2, 3] rfl)

set_option maxHeartbeats 4000000 in
set_option maxRecDepth 100000 in
theorem c_X3_fillSheet (l : Launch) (D : va_G) (cs : Nat → ClassId) (A : Nat → Prop) (z0 : Nat) (sa : Nat → Nat) (ad : Nat → Nat) (g : Nat → Int32) (L B : Nat → Nat → Int32) (n b : Nat) (y1 y2 : Int32) (N1 N2 : Nat) (nd : Nat → Int32) (gv : Nat → Nat → Int32) (hn : n ≤ 12) (hb5 : b ≤ 5) (hN1 : n ≤ N1 ∧ N1 < 1000) (hN2 : b ≤ N2 ∧ N2 < 1000)  : Met l yX3_fillSheet wsX3_fillSheet ({ frames := 7, cells := 0, slots := 0, locals := 154 } : Room) (va_Pc [.ref (ad 0)] (pC D cs A z0 sa (lvC n b) ad (ctC cs ad z0 g L B n b y1 y2 N1 N2 nd gv))) (va_Qv (fun (_ : Unit) => True) (fun _ t9 => wP D A (lvC n b) ad (ctC cs ad z0 g L B n b y1 y2 N1 N2 (fsN nd g B b) (gvS gv g L n)) t9.heap) A) 0 0 A := by
  refine Met.ofW (cc := cX3_fillSheet) (maxL := 3) (ret := none) (by decide) rfl ?_
  intro p e s m args below meth c s₁ BB hml hv
  obtain ⟨rfl, hv⟩ := hv
  obtain ⟨hE, hW⟩ := hv
  have hK := hE.1
  have hx := BB.exec
  have hb := BB.bytes
  have hr := BB.returns
  have hts := atoms_spec (ws := wsX3_fillSheet) BB.pre
  have hown : s.vm.findClass RX3 = some m.cls := findClass_of_methodNamed BB.named
  have hlocks := BB.notSynchronized
  have hS : va_S A s.heap s.heap [] := va_S.rf
  have hl := lv_entry ([.ref (ad 0)]) (n := 3) (Nat.le_of_ble_eq_true rfl)
  rw [lg_entry_eq]
  generalize (lg_sl ([.ref (ad 0)]) ++ List.replicate (3 - (lg_sl ([.ref (ad 0)])).length) Slot.unset).toArray = ls at hl ⊢
  have hl : lv_has ls 3 [(0, .ref (ad 0))] := hl
  have hf10 := hts (.fieldLink RX3 10 "Coverpool" "loans" "Ljava/util/ArrayList;") (by decide +kernel)
  have hf16 := hts (.fieldLink RX3 16 "Coverpool" "bonds" "Ljava/util/ArrayList;") (by decide +kernel)
  have hf22 := hts (.fieldLink RX3 22 "Coverpool" "sheet" "LCoverpool$Sheet;") (by decide +kernel)
  have hf123 := hts (.fieldLink RX3 123 "Coverpool$Bond" "state" "I") (by decide +kernel)
  have hf176 := hts (.fieldLink RX3 176 "Coverpool$Loan" "due" "I") (by decide +kernel)
  have hf192 := hts (.fieldLink RX3 192 "Coverpool$Sheet" "gives" "[[I") (by decide +kernel)
  have hf200 := hts (.fieldLink RX3 200 "Coverpool$Sheet" "needs" "[I") (by decide +kernel)
  have hinX0 : ∀ w ∈ u_ws RX0 TX0 4, w ∈ wsX3_fillSheet := by decide +kernel
  have hinX1 : ∀ w ∈ u_ws RX1 TX1 6, w ∈ wsX3_fillSheet := by decide +kernel
  have hinX2 : ∀ w ∈ u_ws RX2 TX2 2, w ∈ wsX3_fillSheet := by decide +kernel
  have hinX3 : ∀ w ∈ u_ws RX3 TX3 8, w ∈ wsX3_fillSheet := by decide +kernel
  refine lv_iconst (v := 0) hx hb dX3_fillSheet_0 (by decide) ?_
  refine lv_istore_n (lv' := [(1, .int 0), (0, .ref (ad 0))]) hx hb dX3_fillSheet_1 rfl hl (by decide) rfl (fun ls hl => ?_)
  have loop_1 : ∀ (k1 j1 : Nat), j1 + k1 = n → ∀ (H : Heap) (locs : List Loc), wP D A (lvC n b) ad (ctC cs ad z0 g L B n b y1 y2 N1 N2 nd (gvS gv g L j1)) H → va_S A s.heap H locs → ∀ (ls : Array Slot), lv_has ls 3 [(1, .int (nI j1)), (0, .ref (ad 0))] → W p l e ({ frames := 7, cells := 0, slots := 0, locals := 154 } : Room) s m (([.ref (ad 0)] : List Value).toArray) below meth c H locs 0 0 (MQ below (va_Qv (fun (_ : Unit) => True) (fun _ t9 => wP D A (lvC n b) ad (ctC cs ad z0 g L B n b y1 y2 N1 N2 (fsN nd g B b) (gvS gv g L n)) t9.heap) A) (([.ref (ad 0)] : List Value).toArray) s 0 0 A) (F0 m 2 ls []) := by
    intro k1
    induction k1 with
    | zero =>
      intro j1 hj_1  H locs hW hS ls hl
      obtain rfl : n = j1 := by omega
      refine lv_iload_n hx hb dX3_fillSheet_2 rfl (lv_at hl 0 rfl) ?_
      refine lv_aload_n hx hb dX3_fillSheet_3 rfl (lv_at hl 1 rfl) ?_
      refine wb_get hx hb hts hinX3 hown hK hW 0 (lvC_0 (by decide)) rfl rfl 0 (by decide) hf10 (fun _ h9 => h9) (v := .ref (ad 1)) rfl dX3_fillSheet_4 ?_
      refine va_calli (va_runV (As := []) (rest := [.int (nI n)]) ⟨hx, hb, hml, hown, hts⟩ (c_Jx4a65c_size_8abf51 l D cs A z0 sa ad g L B n b y1 y2 N1 N2 nd (gvS gv g L n) hn hb5 hN1 hN2 ) (cwV 0 hts gX3_fillSheet_Jx4a65c_size_8abf5 rfl rfl rfl (by decide +kernel) ⟨Nat.le_of_ble_eq_true rfl, Nat.le_of_ble_eq_true rfl⟩) ⟨pC_fb, wb_recv hK hW (r := 1) (lvC_0 (by decide)) (ci := 0) rfl rfl, fun U hU hV => ⟨rfl, hE.at (fun _ h => h) hS hV hU, by rw [hU]; exact hW⟩⟩ rfl rfl hl.1 rfl (lv_room (Nat.le_of_ble_eq_true rfl)) dX3_fillSheet_7 ⟨Nat.zero_le _, Nat.zero_le _⟩) hS (fun _ _ h => h.elim) (fun _ h => h.elim) (fun r_2 u t9 H locs ht hvm hw _ hz1 hk1 hS => ?_)
      have hW := hW.kept hk1
      subst hw
      refine lv_icmp_ge (tgt := 59) hx hb dX3_fillSheet_10 (by decide) (fun c_3 => ?_) (fun c_3 => ?_)
      · -- nI n ge nI n : True
        refine lv_aload_n hx hb dX3_fillSheet_59 rfl (lv_at hl 1 rfl) ?_
        refine lv_aload_n hx hb dX3_fillSheet_60 rfl (lv_at hl 1 rfl) ?_
        refine wb_get hx hb hts hinX3 hown hK hW 0 (lvC_0 (by decide)) rfl rfl 2 (by decide) hf22 (fun _ h9 => h9) (v := .ref (ad 3)) rfl dX3_fillSheet_61 ?_
        refine wb_get hx hb hts hinX2 hown hK hW 3 (lvC_0 (by decide)) rfl rfl 0 (by decide) hf200 (fun _ h9 => h9) (v := .ref (ad 4)) rfl dX3_fillSheet_64 ?_
        refine va_callv (va_runV (As := [.ref (ad 4)]) (rest := []) ⟨hx, hb, hml, hown, hts⟩ (c_X3_startWithCashAndSubstitutes l D cs A z0 sa ad g L B n b y1 y2 N1 N2 nd (gvS gv g L n) hn hb5 hN1 hN2 ) (cwV 1 hts gX3_fillSheet_X3_startWithCashAndSubstitutes rfl rfl rfl (by decide +kernel) ⟨Nat.le_of_ble_eq_true rfl, Nat.le_of_ble_eq_true rfl⟩) ⟨pC_fb, wb_recv hK hW (r := 0) (lvC_0 (by decide)) (ci := 4) rfl rfl, fun U hU hV => ⟨rfl, hE.at (fun _ h => h) hS hV hU, by rw [hU]; exact hW⟩⟩ rfl rfl hl.1 rfl (lv_room (Nat.le_of_ble_eq_true rfl)) dX3_fillSheet_67 ⟨Nat.zero_le _, Nat.zero_le _⟩) hS (fun _ _ h => h) (fun _ h => h) (fun u t9 H locs ht hvm hw hB hz1 hk1 hS => ?_)
        have hW : wP D A (lvC n b) ad (ctC cs ad z0 g L B n b y1 y2 N1 N2 (ndS nd g (mBeside g B b) 6) (gvS gv g L n)) H := by rw [← ht]; exact hB
        refine lv_iconst (v := 0) hx hb dX3_fillSheet_70 (by decide) ?_
        refine lv_istore_n (lv' := [(1, .int 0), (0, .ref (ad 0))]) hx hb dX3_fillSheet_71 rfl hl (by decide) rfl (fun ls hl => ?_)
        have loop_5 : ∀ (k5 j5 : Nat), j5 + k5 = b → ∀ (H : Heap) (locs : List Loc), wP D A (lvC n b) ad (ctC cs ad z0 g L B n b y1 y2 N1 N2 (ndF (ndS nd g (mBeside g B b) 6) g B j5) (gvS gv g L n)) H → va_S A s.heap H locs → ∀ (ls : Array Slot), lv_has ls 3 [(1, .int (nI j5)), (0, .ref (ad 0))] → W p l e ({ frames := 7, cells := 0, slots := 0, locals := 154 } : Room) s m (([.ref (ad 0)] : List Value).toArray) below meth c H locs 0 0 (MQ below (va_Qv (fun (_ : Unit) => True) (fun _ t9 => wP D A (lvC n b) ad (ctC cs ad z0 g L B n b y1 y2 N1 N2 (fsN nd g B b) (gvS gv g L n)) t9.heap) A) (([.ref (ad 0)] : List Value).toArray) s 0 0 A) (F0 m 72 ls []) := by
          intro k5
          induction k5 with
          | zero =>
            intro j5 hj_5  H locs hW hS ls hl
            obtain rfl : b = j5 := by omega
            refine lv_iload_n hx hb dX3_fillSheet_72 rfl (lv_at hl 0 rfl) ?_
            refine lv_aload_n hx hb dX3_fillSheet_73 rfl (lv_at hl 1 rfl) ?_
            refine wb_get hx hb hts hinX3 hown hK hW 0 (lvC_0 (by decide)) rfl rfl 1 (by decide) hf16 (fun _ h9 => h9) (v := .ref (ad 2)) rfl dX3_fillSheet_74 ?_
            refine va_calli (va_runV (As := []) (rest := [.int (nI b)]) ⟨hx, hb, hml, hown, hts⟩ (c_Jx4a65c_size_8abf52 l D cs A z0 sa ad g L B n b y1 y2 N1 N2 (ndF (ndS nd g (mBeside g B b) 6) g B b) (gvS gv g L n) hn hb5 hN1 hN2 ) (cwV 0 hts gX3_fillSheet_Jx4a65c_size_8abf5 rfl rfl rfl (by decide +kernel) ⟨Nat.le_of_ble_eq_true rfl, Nat.le_of_ble_eq_true rfl⟩) ⟨pC_fb, wb_recv hK hW (r := 2) (lvC_0 (by decide)) (ci := 0) rfl rfl, fun U hU hV => ⟨rfl, hE.at (fun _ h => h) hS hV hU, by rw [hU]; exact hW⟩⟩ rfl rfl hl.1 rfl (lv_room (Nat.le_of_ble_eq_true rfl)) dX3_fillSheet_77 ⟨Nat.zero_le _, Nat.zero_le _⟩) hS (fun _ _ h => h.elim) (fun _ h => h.elim) (fun r_6 u t9 H locs ht hvm hw _ hz1 hk1 hS => ?_)
            have hW := hW.kept hk1
            subst hw
            refine lv_icmp_ge (tgt := 120) hx hb dX3_fillSheet_80 (by decide) (fun c_7 => ?_) (fun c_7 => ?_)
            · -- nI b ge nI b : True
              exact W.vret hx hb hr (fun t9 ht9 hW9 => ⟨⟨(), rfl, trivial, (by dsimp only; rw [ht9]; exact hW)⟩, hS.F ht9⟩) hS.2.2 dX3_fillSheet_120
            · -- nI b ge nI b : False
              exact absurd (by first | exact Int32.le_refl _ | decide) c_7
          | succ k5 ih_5 =>
            intro j5 hj_5  H locs hW hS ls hl
            refine lv_iload_n hx hb dX3_fillSheet_72 rfl (lv_at hl 0 rfl) ?_
            refine lv_aload_n hx hb dX3_fillSheet_73 rfl (lv_at hl 1 rfl) ?_
            refine wb_get hx hb hts hinX3 hown hK hW 0 (lvC_0 (by decide)) rfl rfl 1 (by decide) hf16 (fun _ h9 => h9) (v := .ref (ad 2)) rfl dX3_fillSheet_74 ?_
            refine va_calli (va_runV (As := []) (rest := [.int (nI j5)]) ⟨hx, hb, hml, hown, hts⟩ (c_Jx4a65c_size_8abf52 l D cs A z0 sa ad g L B n b y1 y2 N1 N2 (ndF (ndS nd g (mBeside g B b) 6) g B j5) (gvS gv g L n) hn hb5 hN1 hN2 ) (cwV 0 hts gX3_fillSheet_Jx4a65c_size_8abf5 rfl rfl rfl (by decide +kernel) ⟨Nat.le_of_ble_eq_true rfl, Nat.le_of_ble_eq_true rfl⟩) ⟨pC_fb, wb_recv hK hW (r := 2) (lvC_0 (by decide)) (ci := 0) rfl rfl, fun U hU hV => ⟨rfl, hE.at (fun _ h => h) hS hV hU, by rw [hU]; exact hW⟩⟩ rfl rfl hl.1 rfl (lv_room (Nat.le_of_ble_eq_true rfl)) dX3_fillSheet_77 ⟨Nat.zero_le _, Nat.zero_le _⟩) hS (fun _ _ h => h.elim) (fun _ h => h.elim) (fun r_8 u t9 H locs ht hvm hw _ hz1 hk1 hS => ?_)
            have hW := hW.kept hk1
            subst hw
            refine lv_icmp_ge (tgt := 120) hx hb dX3_fillSheet_80 (by decide) (fun c_9 => ?_) (fun c_9 => ?_)
            · -- nI j5 ge nI b : True
              exact absurd c_9 (nI_ge (by omega) (by omega))
            · -- nI j5 ge nI b : False
              refine lv_aload_n hx hb dX3_fillSheet_83 rfl (lv_at hl 1 rfl) ?_
              refine wb_get hx hb hts hinX3 hown hK hW 0 (lvC_0 (by decide)) rfl rfl 1 (by decide) hf16 (fun _ h9 => h9) (v := .ref (ad 2)) rfl dX3_fillSheet_84 ?_
              refine lv_iload_n hx hb dX3_fillSheet_87 rfl (lv_at hl 0 rfl) ?_
              refine va_callr (va_runV (As := [.int (nI j5)]) (rest := []) ⟨hx, hb, hml, hown, hts⟩ (c_Jx4a65c_get_915e32 l D cs A z0 sa ad g L B n b y1 y2 N1 N2 (ndF (ndS nd g (mBeside g B b) 6) g B j5) (gvS gv g L n) hn hb5 hN1 hN2 j5 (by omega)) (cwV 1 hts gX3_fillSheet_Jx4a65c_get_915e3 rfl rfl rfl (by decide +kernel) ⟨Nat.le_of_ble_eq_true rfl, Nat.le_of_ble_eq_true rfl⟩) ⟨pC_fb, wb_recv hK hW (r := 2) (lvC_0 (by decide)) (ci := 0) rfl rfl, fun U hU hV => ⟨rfl, hE.at (fun _ h => h) hS hV hU, by rw [hU]; exact hW⟩⟩ rfl rfl hl.1 rfl (lv_room (Nat.le_of_ble_eq_true rfl)) dX3_fillSheet_88 ⟨Nat.zero_le _, Nat.zero_le _⟩) hS (fun _ _ h => h.elim) (fun _ h => h.elim) (fun u r_10 t9 H locs ht hvm hw hB hz1 hk1 hS => ?_)
              have hW := hW.kept hk1
              subst hB
              refine va_castS hx hb hown (hts (.classLink RX3 111 "Coverpool$Bond") (by decide +kernel)) (hK.1 1 _ rfl).2 (wb_recv hK hW (r := (32 + j5)) (lvC_bd (by omega)) (ci := 1) rfl ctC_bd) dX3_fillSheet_91 ?_
              refine lv_astore_n (lv' := [(2, .ref (ad (32 + j5))), (1, .int (nI j5)), (0, .ref (ad 0))]) hx hb dX3_fillSheet_94 rfl hl (by decide) rfl (fun ls hl => ?_)
              refine lv_aload_n hx hb dX3_fillSheet_95 rfl (lv_at hl 0 rfl) ?_
              refine wb_get hx hb hts hinX0 hown hK hW (32 + j5) (lvC_bd (by omega)) ctC_bd rfl 2 (by decide) hf123 (fun _ h9 => h9) (v := .int (B 2 j5)) rfl dX3_fillSheet_96 ?_
              refine lv_if_ne (tgt := 114) hx hb dX3_fillSheet_99 (by decide) (fun c_11 => ?_) (fun c_11 => ?_)
              · -- B 2 j5 ne 0 : True
                refine lv_iinc (v := nI (j5 + 1)) (lv' := [(1, .int (nI (j5 + 1))), (2, .ref (ad (32 + j5))), (0, .ref (ad 0))]) hx hb dX3_fillSheet_114 hl (k := 1) rfl (nI_1 _) (by decide) rfl (fun ls hl => ?_)
                refine lv_goto (tgt := 72) hx hb dX3_fillSheet_117 (by decide) ?_
                have e1 : ndF (ndS nd g (mBeside g B b) 6) g B (j5 + 1) = (ndF (ndS nd g (mBeside g B b) 6) g B j5) := by simp only [ndF, c_11, reduceIte]
                rw [← e1] at hW
                exact ih_5 (j5 + 1) (by omega)   _ _ hW hS ls (lv_sub hl [0, 2] rfl)
              · -- B 2 j5 ne 0 : False
                refine lv_aload_n hx hb dX3_fillSheet_102 rfl (lv_at hl 2 rfl) ?_
                refine lv_aload_n hx hb dX3_fillSheet_103 rfl (lv_at hl 2 rfl) ?_
                refine wb_get hx hb hts hinX3 hown hK hW 0 (lvC_0 (by decide)) rfl rfl 2 (by decide) hf22 (fun _ h9 => h9) (v := .ref (ad 3)) rfl dX3_fillSheet_104 ?_
                refine wb_get hx hb hts hinX2 hown hK hW 3 (lvC_0 (by decide)) rfl rfl 0 (by decide) hf200 (fun _ h9 => h9) (v := .ref (ad 4)) rfl dX3_fillSheet_107 ?_
                refine lv_aload_n hx hb dX3_fillSheet_110 rfl (lv_at hl 0 rfl) ?_
                refine va_callv (va_runV (As := [.ref (ad 4), .ref (ad (32 + j5))]) (rest := []) ⟨hx, hb, hml, hown, hts⟩ (c_X3_addBondTo l D cs A z0 sa ad g L B n b y1 y2 N1 N2 (ndF (ndS nd g (mBeside g B b) 6) g B j5) (gvS gv g L n) hn hb5 hN1 hN2 j5 (by omega)) (cwV 2 hts gX3_fillSheet_X3_addBondTo rfl rfl rfl (by decide +kernel) ⟨Nat.le_of_ble_eq_true rfl, Nat.le_of_ble_eq_true rfl⟩) ⟨pC_fb, wb_recv hK hW (r := 0) (lvC_0 (by decide)) (ci := 4) rfl rfl, fun U hU hV => ⟨rfl, hE.at (fun _ h => h) hS hV hU, by rw [hU]; exact hW⟩⟩ rfl rfl hl.1 rfl (lv_room (Nat.le_of_ble_eq_true rfl)) dX3_fillSheet_111 ⟨Nat.zero_le _, Nat.zero_le _⟩) hS (fun _ _ h => h) (fun _ h => h) (fun u t9 H locs ht hvm hw hB hz1 hk1 hS => ?_)
                have hW : wP D A (lvC n b) ad (ctC cs ad z0 g L B n b y1 y2 N1 N2 (ndB (ndF (ndS nd g (mBeside g B b) 6) g B j5) g (B 0 j5) (B 1 j5) 6) (gvS gv g L n)) H := by rw [← ht]; exact hB
                refine lv_iinc (v := nI (j5 + 1)) (lv' := [(1, .int (nI (j5 + 1))), (2, .ref (ad (32 + j5))), (0, .ref (ad 0))]) hx hb dX3_fillSheet_114 hl (k := 1) rfl (nI_1 _) (by decide) rfl (fun ls hl => ?_)
                refine lv_goto (tgt := 72) hx hb dX3_fillSheet_117 (by decide) ?_
                have e1 : ndF (ndS nd g (mBeside g B b) 6) g B (j5 + 1) = (ndB (ndF (ndS nd g (mBeside g B b) 6) g B j5) g (B 0 j5) (B 1 j5) 6) := by simp only [ndF, c_11, reduceIte]
                rw [← e1] at hW
                exact ih_5 (j5 + 1) (by omega)   _ _ hW hS ls (lv_sub hl [0, 2] rfl)
        exact loop_5 (b) 0 (by omega)   _ _ hW hS ls (lv_sub hl [0, 1] rfl)
      · -- nI n ge nI n : False
        exact absurd (by first | exact Int32.le_refl _ | decide) c_3
    | succ k1 ih_1 =>
      intro j1 hj_1  H locs hW hS ls hl
      refine lv_iload_n hx hb dX3_fillSheet_2 rfl (lv_at hl 0 rfl) ?_
      refine lv_aload_n hx hb dX3_fillSheet_3 rfl (lv_at hl 1 rfl) ?_
      refine wb_get hx hb hts hinX3 hown hK hW 0 (lvC_0 (by decide)) rfl rfl 0 (by decide) hf10 (fun _ h9 => h9) (v := .ref (ad 1)) rfl dX3_fillSheet_4 ?_
      refine va_calli (va_runV (As := []) (rest := [.int (nI j1)]) ⟨hx, hb, hml, hown, hts⟩ (c_Jx4a65c_size_8abf51 l D cs A z0 sa ad g L B n b y1 y2 N1 N2 nd (gvS gv g L j1) hn hb5 hN1 hN2 ) (cwV 0 hts gX3_fillSheet_Jx4a65c_size_8abf5 rfl rfl rfl (by decide +kernel) ⟨Nat.le_of_ble_eq_true rfl, Nat.le_of_ble_eq_true rfl⟩) ⟨pC_fb, wb_recv hK hW (r := 1) (lvC_0 (by decide)) (ci := 0) rfl rfl, fun U hU hV => ⟨rfl, hE.at (fun _ h => h) hS hV hU, by rw [hU]; exact hW⟩⟩ rfl rfl hl.1 rfl (lv_room (Nat.le_of_ble_eq_true rfl)) dX3_fillSheet_7 ⟨Nat.zero_le _, Nat.zero_le _⟩) hS (fun _ _ h => h.elim) (fun _ h => h.elim) (fun r_13 u t9 H locs ht hvm hw _ hz1 hk1 hS => ?_)
      have hW := hW.kept hk1
      subst hw
      refine lv_icmp_ge (tgt := 59) hx hb dX3_fillSheet_10 (by decide) (fun c_14 => ?_) (fun c_14 => ?_)
      · -- nI j1 ge nI n : True
        exact absurd c_14 (nI_ge (by omega) (by omega))
      · -- nI j1 ge nI n : False
        refine lv_iload_n hx hb dX3_fillSheet_13 rfl (lv_at hl 0 rfl) ?_
        refine lv_bipush (v := 12) hx hb dX3_fillSheet_14 (by decide) ?_
        refine lv_icmp_ge (tgt := 59) hx hb dX3_fillSheet_16 (by decide) (fun c_15 => ?_) (fun c_15 => ?_)
        · -- nI j1 ge 12 : True
          exact absurd (show nI 12 ≤ _ from c_15) (nI_ge (by omega) (by omega))
        · -- nI j1 ge 12 : False
          refine lv_aload_n hx hb dX3_fillSheet_19 rfl (lv_at hl 1 rfl) ?_
          refine wb_get hx hb hts hinX3 hown hK hW 0 (lvC_0 (by decide)) rfl rfl 0 (by decide) hf10 (fun _ h9 => h9) (v := .ref (ad 1)) rfl dX3_fillSheet_20 ?_
          refine lv_iload_n hx hb dX3_fillSheet_23 rfl (lv_at hl 0 rfl) ?_
          refine va_callr (va_runV (As := [.int (nI j1)]) (rest := []) ⟨hx, hb, hml, hown, hts⟩ (c_Jx4a65c_get_915e31 l D cs A z0 sa ad g L B n b y1 y2 N1 N2 nd (gvS gv g L j1) hn hb5 hN1 hN2 j1 (by omega)) (cwV 1 hts gX3_fillSheet_Jx4a65c_get_915e3 rfl rfl rfl (by decide +kernel) ⟨Nat.le_of_ble_eq_true rfl, Nat.le_of_ble_eq_true rfl⟩) ⟨pC_fb, wb_recv hK hW (r := 1) (lvC_0 (by decide)) (ci := 0) rfl rfl, fun U hU hV => ⟨rfl, hE.at (fun _ h => h) hS hV hU, by rw [hU]; exact hW⟩⟩ rfl rfl hl.1 rfl (lv_room (Nat.le_of_ble_eq_true rfl)) dX3_fillSheet_24 ⟨Nat.zero_le _, Nat.zero_le _⟩) hS (fun _ _ h => h.elim) (fun _ h => h.elim) (fun u r_16 t9 H locs ht hvm hw hB hz1 hk1 hS => ?_)
          have hW := hW.kept hk1
          subst hB
          refine va_castS hx hb hown (hts (.classLink RX3 61 "Coverpool$Loan") (by decide +kernel)) (hK.1 2 _ rfl).2 (wb_recv hK hW (r := (20 + j1)) (lvC_ln (by omega)) (ci := 2) rfl (ctC_ln (by omega))) dX3_fillSheet_27 ?_
          refine lv_astore_n (lv' := [(2, .ref (ad (20 + j1))), (1, .int (nI j1)), (0, .ref (ad 0))]) hx hb dX3_fillSheet_30 rfl hl (by decide) rfl (fun ls hl => ?_)
          refine lv_aload_n hx hb dX3_fillSheet_31 rfl (lv_at hl 2 rfl) ?_
          refine lv_aload_n hx hb dX3_fillSheet_32 rfl (lv_at hl 2 rfl) ?_
          refine wb_get hx hb hts hinX3 hown hK hW 0 (lvC_0 (by decide)) rfl rfl 2 (by decide) hf22 (fun _ h9 => h9) (v := .ref (ad 3)) rfl dX3_fillSheet_33 ?_
          refine wb_get hx hb hts hinX2 hown hK hW 3 (lvC_0 (by decide)) rfl rfl 1 (by decide) hf192 (fun _ h9 => h9) (v := .ref (ad 5)) rfl dX3_fillSheet_36 ?_
          refine lv_iload_n hx hb dX3_fillSheet_39 rfl (lv_at hl 1 rfl) ?_
          refine wb_aaldI hx hb hK hW 5 (lvC_0 (by decide)) 3 rfl rfl j1 rfl (by omega) (by decide) dX3_fillSheet_40 ?_
          rw [if_pos (show j1 < 12 by omega)]
          refine lv_aload_n hx hb dX3_fillSheet_41 rfl (lv_at hl 2 rfl) ?_
          refine lv_aload_n hx hb dX3_fillSheet_42 rfl (lv_at hl 0 rfl) ?_
          refine va_calli (va_runV (As := [.ref (ad (20 + j1))]) (rest := [.ref (ad (8 + j1)), .ref (ad 0)]) ⟨hx, hb, hml, hown, hts⟩ (c_X3_countOf l D cs A z0 sa ad g L B n b y1 y2 N1 N2 nd (gvS gv g L j1) hn hb5 hN1 hN2 j1 (by omega)) (cwV 1 hts gX3_fillSheet_X3_countOf rfl rfl rfl (by decide +kernel) ⟨Nat.le_of_ble_eq_true rfl, Nat.le_of_ble_eq_true rfl⟩) ⟨pC_fb, wb_recv hK hW (r := 0) (lvC_0 (by decide)) (ci := 4) rfl rfl, fun U hU hV => ⟨rfl, hE.at (fun _ h => h) hS hV hU, by rw [hU]; exact hW⟩⟩ rfl rfl hl.1 rfl (lv_room (Nat.le_of_ble_eq_true rfl)) dX3_fillSheet_43 ⟨Nat.zero_le _, Nat.zero_le _⟩) hS (fun _ _ h => h.elim) (fun _ h => h.elim) (fun r_17 u t9 H locs ht hvm hw _ hz1 hk1 hS => ?_)
          have hW := hW.kept hk1
          subst hw
          refine lv_aload_n hx hb dX3_fillSheet_46 rfl (lv_at hl 0 rfl) ?_
          refine wb_get hx hb hts hinX1 hown hK hW (20 + j1) (lvC_ln (by omega)) (ctC_ln (by omega)) rfl 2 (by decide) hf176 (fun _ h9 => h9) (v := .int (L 3 j1)) rfl dX3_fillSheet_47 ?_
          refine va_callv (va_runV (As := [.ref (ad (8 + j1)), .int (mCount g L j1), .int (L 3 j1)]) (rest := []) ⟨hx, hb, hml, hown, hts⟩ (c_X3_fillRow l D cs A z0 sa ad g L B n b y1 y2 N1 N2 nd (gvS gv g L j1) hn hb5 hN1 hN2 j1 (by omega) (mCount g L j1) (L 3 j1)) (cwV 3 hts gX3_fillSheet_X3_fillRow rfl rfl rfl (by decide +kernel) ⟨Nat.le_of_ble_eq_true rfl, Nat.le_of_ble_eq_true rfl⟩) ⟨pC_fb, wb_recv hK hW (r := 0) (lvC_0 (by decide)) (ci := 4) rfl rfl, fun U hU hV => ⟨rfl, hE.at (fun _ h => h) hS hV hU, by rw [hU]; exact hW⟩⟩ rfl rfl hl.1 rfl (lv_room (Nat.le_of_ble_eq_true rfl)) dX3_fillSheet_50 ⟨Nat.zero_le _, Nat.zero_le _⟩) hS (fun _ _ h => h) (fun _ h => h) (fun u t9 H locs ht hvm hw hB hz1 hk1 hS => ?_)
          have hW : wP D A (lvC n b) ad (ctC cs ad z0 g L B n b y1 y2 N1 N2 nd (va_up (gvS gv g L j1) j1 (rowU ((gvS gv g L j1) j1) g (mCount g L j1) (L 3 j1) 6))) H := by rw [← ht]; exact hB
          refine lv_iinc (v := nI (j1 + 1)) (lv' := [(1, .int (nI (j1 + 1))), (2, .ref (ad (20 + j1))), (0, .ref (ad 0))]) hx hb dX3_fillSheet_53 hl (k := 1) rfl (nI_1 _) (by decide) rfl (fun ls hl => ?_)
          refine lv_goto (tgt := 2) hx hb dX3_fillSheet_56 (by decide) ?_
          exact ih_1 (j1 + 1) (by omega)   _ _ hW hS ls (lv_sub hl [0, 2] rfl)
  exact loop_1 (n) 0 (by omega)   _ _ hW hS ls (lv_sub hl [0, 1] rfl)

set_option maxHeartbeats 4000000 in
set_option maxRecDepth 100000 in
theorem c_X3_settle (l : Launch) (D : va_G) (cs : Nat → ClassId) (A : Nat → Prop) (z0 : Nat) (sa : Nat → Nat) (ad : Nat → Nat) (g : Nat → Int32) (L B : Nat → Nat → Int32) (n b : Nat) (y1 y2 : Int32) (N1 N2 : Nat) (nd : Nat → Int32) (gv : Nat → Nat → Int32) (hn : n ≤ 12) (hb5 : b ≤ 5) (hN1 : n ≤ N1 ∧ N1 < 1000) (hN2 : b ≤ N2 ∧ N2 < 1000) (i : Nat) (hi : i < b) : Met l yX3_settle wsX3_settle ({ frames := 1, cells := 0, slots := 0, locals := 24 } : Room) (va_Pc [.ref (ad 0), .ref (ad (32 + i))] (pC D cs A z0 sa (lvC n b) ad (ctC cs ad z0 g L B n b y1 y2 N1 N2 nd gv))) (va_Qv (fun (_ : Unit) => True) (fun _ t9 => wP D A (lvC n b) ad (ctC cs ad z0 (upd g 1 (stl (g 0) (g 1) B i).1) L ((stl (g 0) (g 1) B i).2) n b y1 y2 N1 N2 nd gv) t9.heap) A) 0 0 A := by
  refine Met.ofW (cc := cX3_settle) (maxL := 2) (ret := none) (by decide) rfl ?_
  intro p e s m args below meth c s₁ BB hml hv
  obtain ⟨rfl, hv⟩ := hv
  obtain ⟨hE, hW⟩ := hv
  have hK := hE.1
  have hx := BB.exec
  have hb := BB.bytes
  have hr := BB.returns
  have hts := atoms_spec (ws := wsX3_settle) BB.pre
  have hown : s.vm.findClass RX3 = some m.cls := findClass_of_methodNamed BB.named
  have hlocks := BB.notSynchronized
  have hS : va_S A s.heap s.heap [] := va_S.rf
  have hl := lv_entry ([.ref (ad 0), .ref (ad (32 + i))]) (n := 2) (Nat.le_of_ble_eq_true rfl)
  rw [lg_entry_eq]
  generalize (lg_sl ([.ref (ad 0), .ref (ad (32 + i))]) ++ List.replicate (2 - (lg_sl ([.ref (ad 0), .ref (ad (32 + i))])).length) Slot.unset).toArray = ls at hl ⊢
  have hl : lv_has ls 2 [(0, .ref (ad 0)), (1, .ref (ad (32 + i)))] := hl
  have hf26 := hts (.fieldLink RX3 26 "Coverpool" "month" "I") (by decide +kernel)
  have hf30 := hts (.fieldLink RX3 30 "Coverpool" "cash" "I") (by decide +kernel)
  have hf123 := hts (.fieldLink RX3 123 "Coverpool$Bond" "state" "I") (by decide +kernel)
  have hf124 := hts (.fieldLink RX3 124 "Coverpool$Bond" "due" "I") (by decide +kernel)
  have hf131 := hts (.fieldLink RX3 131 "Coverpool$Bond" "amount" "I") (by decide +kernel)
  have hf182 := hts (.fieldLink RX3 182 "Coverpool$Bond" "wasPutOff" "Z") (by decide +kernel)
  have hinX0 : ∀ w ∈ u_ws RX0 TX0 4, w ∈ wsX3_settle := by decide +kernel
  have hinX3 : ∀ w ∈ u_ws RX3 TX3 8, w ∈ wsX3_settle := by decide +kernel
  refine lv_aload_n hx hb dX3_settle_0 rfl (lv_at hl 0 rfl) ?_
  refine wb_get hx hb hts hinX3 hown hK hW 0 (lvC_0 (by decide)) rfl rfl 4 (by decide) hf30 (fun _ h9 => h9) (v := .int (g 1)) rfl dX3_settle_1 ?_
  refine lv_aload_n hx hb dX3_settle_4 rfl (lv_at hl 1 rfl) ?_
  refine wb_get hx hb hts hinX0 hown hK hW (32 + i) (lvC_bd (by omega)) ctC_bd rfl 0 (by decide) hf131 (fun _ h9 => h9) (v := .int (B 0 i)) rfl dX3_settle_5 ?_
  refine lv_icmp_lt (tgt := 32) hx hb dX3_settle_8 (by decide) (fun c_1 => ?_) (fun c_1 => ?_)
  · -- g 1 lt B 0 i : True
    refine lv_aload_n hx hb dX3_settle_32 rfl (lv_at hl 1 rfl) ?_
    refine wb_get hx hb hts hinX0 hown hK hW (32 + i) (lvC_bd (by omega)) ctC_bd rfl 3 (by decide) hf182 (fun _ h9 => h9) (v := .int (B 3 i)) rfl dX3_settle_33 ?_
    refine lv_if_ne (tgt := 58) hx hb dX3_settle_36 (by decide) (fun c_2 => ?_) (fun c_2 => ?_)
    · -- B 3 i ne 0 : True
      refine lv_aload_n hx hb dX3_settle_58 rfl (lv_at hl 1 rfl) ?_
      refine lv_iconst (v := 3) hx hb dX3_settle_59 (by decide) ?_
      refine wb_put (v := .int 3) (ty := .int) hx hb hts hinX0 tyX0 tyX0_ok nmX0 hown hK hW hS (32 + i) (lvC_bd (by omega)) ctC_bd rfl 2 (by decide) hf123 (fun _ h9 => h9) rfl (by decide +kernel) rfl rfl (Nat.le_of_ble_eq_true rfl) dX3_settle_60 (fun H locs hW hS => ?_)
      obtain ⟨B4, hB4⟩ : ∃ z9, z9 = updL B 2 i 3 := ⟨_, rfl⟩
      have hW : wP D A (lvC n b) ad (ctC cs ad z0 g L B4 n b y1 y2 N1 N2 nd gv) H := by subst hB4; exact hW.up (by rw [ctC_bd]; simp [updL_at, updL_nk]) (fun r _ hr => ctC_B (fun i9 k9 h8 => updL_ni _ _ _ _ (by omega)))
      exact W.vret hx hb hr (fun t9 ht9 hW9 => ⟨⟨(), rfl, trivial, (by dsimp only; rw [ht9]; rw [show stl (g 0) (g 1) B i = (g 1, (updL B 2 i 3)) by simp only [stl, c_1, c_2, reduceIte]]; rw [show upd g 1 (g 1, (updL B 2 i 3)).1 = g from upd_id g 1]; subst hB4; exact hW)⟩, hS.F ht9⟩) hS.2.2 dX3_settle_63
    · -- B 3 i ne 0 : False
      refine lv_aload_n hx hb dX3_settle_39 rfl (lv_at hl 1 rfl) ?_
      refine lv_iconst (v := 1) hx hb dX3_settle_40 (by decide) ?_
      refine wb_put (v := .int 1) (ty := .boolean) hx hb hts hinX0 tyX0 tyX0_ok nmX0 hown hK hW hS (32 + i) (lvC_bd (by omega)) ctC_bd rfl 3 (by decide) hf182 (fun _ h9 => h9) rfl (by decide +kernel) (by decide) (by decide) (Nat.le_of_ble_eq_true rfl) dX3_settle_41 (fun H locs hW hS => ?_)
      obtain ⟨B6, hB6⟩ : ∃ z9, z9 = updL B 3 i 1 := ⟨_, rfl⟩
      have hW : wP D A (lvC n b) ad (ctC cs ad z0 g L B6 n b y1 y2 N1 N2 nd gv) H := by subst hB6; exact hW.up (by rw [ctC_bd]; simp [updL_at, updL_nk]) (fun r _ hr => ctC_B (fun i9 k9 h8 => updL_ni _ _ _ _ (by omega)))
      refine lv_aload_n hx hb dX3_settle_44 rfl (lv_at hl 1 rfl) ?_
      refine lv_aload_n hx hb dX3_settle_45 rfl (lv_at hl 0 rfl) ?_
      refine wb_get hx hb hts hinX3 hown hK hW 0 (lvC_0 (by decide)) rfl rfl 3 (by decide) hf26 (fun _ h9 => h9) (v := .int (g 0)) rfl dX3_settle_46 ?_
      refine lv_bipush (v := 12) hx hb dX3_settle_49 (by decide) ?_
      refine lv_iadd hx hb dX3_settle_51 ?_
      refine wb_put (v := .int ((g 0) + 12)) (ty := .int) hx hb hts hinX0 tyX0 tyX0_ok nmX0 hown hK hW hS (32 + i) (lvC_bd (by omega)) ctC_bd rfl 1 (by decide) hf124 (fun _ h9 => h9) rfl (by decide +kernel) rfl rfl (Nat.le_of_ble_eq_true rfl) dX3_settle_52 (fun H locs hW hS => ?_)
      obtain ⟨B8, hB8⟩ : ∃ z9, z9 = updL B6 1 i ((g 0) + 12) := ⟨_, rfl⟩
      have hW : wP D A (lvC n b) ad (ctC cs ad z0 g L B8 n b y1 y2 N1 N2 nd gv) H := by subst hB8; exact hW.up (by rw [ctC_bd]; simp [updL_at, updL_nk]) (fun r _ hr => ctC_B (fun i9 k9 h8 => updL_ni _ _ _ _ (by omega)))
      refine lv_goto (tgt := 63) hx hb dX3_settle_55 (by decide) ?_
      exact W.vret hx hb hr (fun t9 ht9 hW9 => ⟨⟨(), rfl, trivial, (by dsimp only; rw [ht9]; rw [show stl (g 0) (g 1) B i = (g 1, (updL (updL B 3 i 1) 1 i ((g 0) + 12))) by simp only [stl, c_1, c_2, reduceIte]]; rw [show upd g 1 (g 1, (updL (updL B 3 i 1) 1 i ((g 0) + 12))).1 = g from upd_id g 1]; subst hB8 hB6; exact hW)⟩, hS.F ht9⟩) hS.2.2 dX3_settle_63
  · -- g 1 lt B 0 i : False
    refine lv_aload_n hx hb dX3_settle_11 rfl (lv_at hl 0 rfl) ?_
    refine lv_dup hx hb dX3_settle_12 rfl ?_
    refine wb_get hx hb hts hinX3 hown hK hW 0 (lvC_0 (by decide)) rfl rfl 4 (by decide) hf30 (fun _ h9 => h9) (v := .int (g 1)) rfl dX3_settle_13 ?_
    refine lv_aload_n hx hb dX3_settle_16 rfl (lv_at hl 1 rfl) ?_
    refine wb_get hx hb hts hinX0 hown hK hW (32 + i) (lvC_bd (by omega)) ctC_bd rfl 0 (by decide) hf131 (fun _ h9 => h9) (v := .int (B 0 i)) rfl dX3_settle_17 ?_
    refine lv_isub hx hb dX3_settle_20 ?_
    refine wb_put (v := .int ((g 1) - (B 0 i))) (ty := .int) hx hb hts hinX3 tyX3 tyX3_ok nmX3 hown hK hW hS 0 (lvC_0 (by decide)) rfl rfl 4 (by decide) hf30 (fun _ h9 => h9) rfl (by decide +kernel) rfl rfl (Nat.le_of_ble_eq_true rfl) dX3_settle_21 (fun H locs hW hS => ?_)
    obtain ⟨g10, hg10⟩ : ∃ z9, z9 = upd g 1 ((g 1) - (B 0 i)) := ⟨_, rfl⟩
    have hW : wP D A (lvC n b) ad (ctC cs ad z0 g10 L B n b y1 y2 N1 N2 nd gv) H := by subst hg10; exact hW.up rfl (fun r _ hr => ctC_g hr)
    refine lv_aload_n hx hb dX3_settle_24 rfl (lv_at hl 1 rfl) ?_
    refine lv_iconst (v := 2) hx hb dX3_settle_25 (by decide) ?_
    refine wb_put (v := .int 2) (ty := .int) hx hb hts hinX0 tyX0 tyX0_ok nmX0 hown hK hW hS (32 + i) (lvC_bd (by omega)) ctC_bd rfl 2 (by decide) hf123 (fun _ h9 => h9) rfl (by decide +kernel) rfl rfl (Nat.le_of_ble_eq_true rfl) dX3_settle_26 (fun H locs hW hS => ?_)
    obtain ⟨B12, hB12⟩ : ∃ z9, z9 = updL B 2 i 2 := ⟨_, rfl⟩
    have hW : wP D A (lvC n b) ad (ctC cs ad z0 g10 L B12 n b y1 y2 N1 N2 nd gv) H := by subst hB12; exact hW.up (by rw [ctC_bd]; simp [updL_at, updL_nk]) (fun r _ hr => ctC_B (fun i9 k9 h8 => updL_ni _ _ _ _ (by omega)))
    refine lv_goto (tgt := 63) hx hb dX3_settle_29 (by decide) ?_
    exact W.vret hx hb hr (fun t9 ht9 hW9 => ⟨⟨(), rfl, trivial, (by dsimp only; rw [ht9]; rw [show stl (g 0) (g 1) B i = (g 1 - B 0 i, (updL B 2 i 2)) by simp only [stl, c_1, reduceIte]]; subst hB12 hg10; exact hW)⟩, hS.F ht9⟩) hS.2.2 dX3_settle_63

set_option maxHeartbeats 4000000 in
set_option maxRecDepth 100000 in
theorem c_X3_receiveDueLoans (l : Launch) (D : va_G) (cs : Nat → ClassId) (A : Nat → Prop) (z0 : Nat) (sa : Nat → Nat) (ad : Nat → Nat) (g : Nat → Int32) (L B : Nat → Nat → Int32) (n b : Nat) (y1 y2 : Int32) (N1 N2 : Nat) (nd : Nat → Int32) (gv : Nat → Nat → Int32) (hn : n ≤ 12) (hb5 : b ≤ 5) (hN1 : n ≤ N1 ∧ N1 < 1000) (hN2 : b ≤ N2 ∧ N2 < 1000)  : Met l yX3_receiveDueLoans wsX3_receiveDueLoans ({ frames := 4, cells := 0, slots := 0, locals := 88 } : Room) (va_Pc [.ref (ad 0)] (pC D cs A z0 sa (lvC n b) ad (ctC cs ad z0 g L B n b y1 y2 N1 N2 nd gv))) (va_Qv (fun (_ : Unit) => True) (fun _ t9 => wP D A (lvC n b) ad (ctC cs ad z0 (upd g 1 (lvCash L (g 0) (g 1) n)) (lvL L (g 0) n) B n b y1 y2 N1 N2 nd gv) t9.heap) A) 0 0 A := by
  refine Met.ofW (cc := cX3_receiveDueLoans) (maxL := 3) (ret := none) (by decide) rfl ?_
  intro p e s m args below meth c s₁ BB hml hv
  obtain ⟨rfl, hv⟩ := hv
  obtain ⟨hE, hW⟩ := hv
  have hK := hE.1
  have hx := BB.exec
  have hb := BB.bytes
  have hr := BB.returns
  have hts := atoms_spec (ws := wsX3_receiveDueLoans) BB.pre
  have hown : s.vm.findClass RX3 = some m.cls := findClass_of_methodNamed BB.named
  have hlocks := BB.notSynchronized
  have hS : va_S A s.heap s.heap [] := va_S.rf
  have hl := lv_entry ([.ref (ad 0)]) (n := 3) (Nat.le_of_ble_eq_true rfl)
  rw [lg_entry_eq]
  generalize (lg_sl ([.ref (ad 0)]) ++ List.replicate (3 - (lg_sl ([.ref (ad 0)])).length) Slot.unset).toArray = ls at hl ⊢
  have hl : lv_has ls 3 [(0, .ref (ad 0))] := hl
  have hf10 := hts (.fieldLink RX3 10 "Coverpool" "loans" "Ljava/util/ArrayList;") (by decide +kernel)
  have hf26 := hts (.fieldLink RX3 26 "Coverpool" "month" "I") (by decide +kernel)
  have hf30 := hts (.fieldLink RX3 30 "Coverpool" "cash" "I") (by decide +kernel)
  have hf78 := hts (.fieldLink RX3 78 "Coverpool$Loan" "state" "I") (by decide +kernel)
  have hf102 := hts (.fieldLink RX3 102 "Coverpool$Loan" "arrears" "I") (by decide +kernel)
  have hf176 := hts (.fieldLink RX3 176 "Coverpool$Loan" "due" "I") (by decide +kernel)
  have hf177 := hts (.fieldLink RX3 177 "Coverpool$Loan" "amount" "I") (by decide +kernel)
  have hinX1 : ∀ w ∈ u_ws RX1 TX1 6, w ∈ wsX3_receiveDueLoans := by decide +kernel
  have hinX3 : ∀ w ∈ u_ws RX3 TX3 8, w ∈ wsX3_receiveDueLoans := by decide +kernel
  refine lv_iconst (v := 0) hx hb dX3_receiveDueLoans_0 (by decide) ?_
  refine lv_istore_n (lv' := [(1, .int 0), (0, .ref (ad 0))]) hx hb dX3_receiveDueLoans_1 rfl hl (by decide) rfl (fun ls hl => ?_)
  have loop_1 : ∀ (k1 j1 : Nat), j1 + k1 = n → ∀ (H : Heap) (locs : List Loc), wP D A (lvC n b) ad (ctC cs ad z0 (upd g 1 (lvCash L (g 0) (g 1) j1)) (lvL L (g 0) j1) B n b y1 y2 N1 N2 nd gv) H → va_S A s.heap H locs → ∀ (ls : Array Slot), lv_has ls 3 [(1, .int (nI j1)), (0, .ref (ad 0))] → W p l e ({ frames := 4, cells := 0, slots := 0, locals := 88 } : Room) s m (([.ref (ad 0)] : List Value).toArray) below meth c H locs 0 0 (MQ below (va_Qv (fun (_ : Unit) => True) (fun _ t9 => wP D A (lvC n b) ad (ctC cs ad z0 (upd g 1 (lvCash L (g 0) (g 1) n)) (lvL L (g 0) n) B n b y1 y2 N1 N2 nd gv) t9.heap) A) (([.ref (ad 0)] : List Value).toArray) s 0 0 A) (F0 m 2 ls []) := by
    intro k1
    induction k1 with
    | zero =>
      intro j1 hj_1  H locs hW hS ls hl
      obtain rfl : n = j1 := by omega
      refine lv_iload_n hx hb dX3_receiveDueLoans_2 rfl (lv_at hl 0 rfl) ?_
      refine lv_aload_n hx hb dX3_receiveDueLoans_3 rfl (lv_at hl 1 rfl) ?_
      refine wb_get hx hb hts hinX3 hown hK hW 0 (lvC_0 (by decide)) rfl rfl 0 (by decide) hf10 (fun _ h9 => h9) (v := .ref (ad 1)) rfl dX3_receiveDueLoans_4 ?_
      refine va_calli (va_runV (As := []) (rest := [.int (nI n)]) ⟨hx, hb, hml, hown, hts⟩ (c_Jx4a65c_size_8abf51 l D cs A z0 sa ad (upd g 1 (lvCash L (g 0) (g 1) n)) (lvL L (g 0) n) B n b y1 y2 N1 N2 nd gv hn hb5 hN1 hN2 ) (cwV 0 hts gX3_receiveDueLoans_Jx4a65c_size_8abf5 rfl rfl rfl (by decide +kernel) ⟨Nat.le_of_ble_eq_true rfl, Nat.le_of_ble_eq_true rfl⟩) ⟨pC_fb, wb_recv hK hW (r := 1) (lvC_0 (by decide)) (ci := 0) rfl rfl, fun U hU hV => ⟨rfl, hE.at (fun _ h => h) hS hV hU, by rw [hU]; exact hW⟩⟩ rfl rfl hl.1 rfl (lv_room (Nat.le_of_ble_eq_true rfl)) dX3_receiveDueLoans_7 ⟨Nat.zero_le _, Nat.zero_le _⟩) hS (fun _ _ h => h.elim) (fun _ h => h.elim) (fun r_2 u t9 H locs ht hvm hw _ hz1 hk1 hS => ?_)
      have hW := hW.kept hk1
      subst hw
      refine lv_icmp_ge (tgt := 75) hx hb dX3_receiveDueLoans_10 (by decide) (fun c_3 => ?_) (fun c_3 => ?_)
      · -- nI n ge nI n : True
        exact W.vret hx hb hr (fun t9 ht9 hW9 => ⟨⟨(), rfl, trivial, (by dsimp only; rw [ht9]; exact hW)⟩, hS.F ht9⟩) hS.2.2 dX3_receiveDueLoans_75
      · -- nI n ge nI n : False
        exact absurd (by first | exact Int32.le_refl _ | decide) c_3
    | succ k1 ih_1 =>
      intro j1 hj_1  H locs hW hS ls hl
      refine lv_iload_n hx hb dX3_receiveDueLoans_2 rfl (lv_at hl 0 rfl) ?_
      refine lv_aload_n hx hb dX3_receiveDueLoans_3 rfl (lv_at hl 1 rfl) ?_
      refine wb_get hx hb hts hinX3 hown hK hW 0 (lvC_0 (by decide)) rfl rfl 0 (by decide) hf10 (fun _ h9 => h9) (v := .ref (ad 1)) rfl dX3_receiveDueLoans_4 ?_
      refine va_calli (va_runV (As := []) (rest := [.int (nI j1)]) ⟨hx, hb, hml, hown, hts⟩ (c_Jx4a65c_size_8abf51 l D cs A z0 sa ad (upd g 1 (lvCash L (g 0) (g 1) j1)) (lvL L (g 0) j1) B n b y1 y2 N1 N2 nd gv hn hb5 hN1 hN2 ) (cwV 0 hts gX3_receiveDueLoans_Jx4a65c_size_8abf5 rfl rfl rfl (by decide +kernel) ⟨Nat.le_of_ble_eq_true rfl, Nat.le_of_ble_eq_true rfl⟩) ⟨pC_fb, wb_recv hK hW (r := 1) (lvC_0 (by decide)) (ci := 0) rfl rfl, fun U hU hV => ⟨rfl, hE.at (fun _ h => h) hS hV hU, by rw [hU]; exact hW⟩⟩ rfl rfl hl.1 rfl (lv_room (Nat.le_of_ble_eq_true rfl)) dX3_receiveDueLoans_7 ⟨Nat.zero_le _, Nat.zero_le _⟩) hS (fun _ _ h => h.elim) (fun _ h => h.elim) (fun r_4 u t9 H locs ht hvm hw _ hz1 hk1 hS => ?_)
      have hW := hW.kept hk1
      subst hw
      refine lv_icmp_ge (tgt := 75) hx hb dX3_receiveDueLoans_10 (by decide) (fun c_5 => ?_) (fun c_5 => ?_)
      · -- nI j1 ge nI n : True
        exact absurd c_5 (nI_ge (by omega) (by omega))
      · -- nI j1 ge nI n : False
        refine lv_aload_n hx hb dX3_receiveDueLoans_13 rfl (lv_at hl 1 rfl) ?_
        refine wb_get hx hb hts hinX3 hown hK hW 0 (lvC_0 (by decide)) rfl rfl 0 (by decide) hf10 (fun _ h9 => h9) (v := .ref (ad 1)) rfl dX3_receiveDueLoans_14 ?_
        refine lv_iload_n hx hb dX3_receiveDueLoans_17 rfl (lv_at hl 0 rfl) ?_
        refine va_callr (va_runV (As := [.int (nI j1)]) (rest := []) ⟨hx, hb, hml, hown, hts⟩ (c_Jx4a65c_get_915e31 l D cs A z0 sa ad (upd g 1 (lvCash L (g 0) (g 1) j1)) (lvL L (g 0) j1) B n b y1 y2 N1 N2 nd gv hn hb5 hN1 hN2 j1 (by omega)) (cwV 1 hts gX3_receiveDueLoans_Jx4a65c_get_915e3 rfl rfl rfl (by decide +kernel) ⟨Nat.le_of_ble_eq_true rfl, Nat.le_of_ble_eq_true rfl⟩) ⟨pC_fb, wb_recv hK hW (r := 1) (lvC_0 (by decide)) (ci := 0) rfl rfl, fun U hU hV => ⟨rfl, hE.at (fun _ h => h) hS hV hU, by rw [hU]; exact hW⟩⟩ rfl rfl hl.1 rfl (lv_room (Nat.le_of_ble_eq_true rfl)) dX3_receiveDueLoans_18 ⟨Nat.zero_le _, Nat.zero_le _⟩) hS (fun _ _ h => h.elim) (fun _ h => h.elim) (fun u r_6 t9 H locs ht hvm hw hB hz1 hk1 hS => ?_)
        have hW := hW.kept hk1
        subst hB
        refine va_castS hx hb hown (hts (.classLink RX3 61 "Coverpool$Loan") (by decide +kernel)) (hK.1 2 _ rfl).2 (wb_recv hK hW (r := (20 + j1)) (lvC_ln (by omega)) (ci := 2) rfl (ctC_ln (by omega))) dX3_receiveDueLoans_21 ?_
        refine lv_astore_n (lv' := [(2, .ref (ad (20 + j1))), (1, .int (nI j1)), (0, .ref (ad 0))]) hx hb dX3_receiveDueLoans_24 rfl hl (by decide) rfl (fun ls hl => ?_)
        refine lv_aload_n hx hb dX3_receiveDueLoans_25 rfl (lv_at hl 0 rfl) ?_
        refine wb_get hx hb hts hinX1 hown hK hW (20 + j1) (lvC_ln (by omega)) (ctC_ln (by omega)) rfl 5 (by decide) hf78 (fun _ h9 => h9) (v := .int ((lvL L (g 0) j1) 5 j1)) rfl dX3_receiveDueLoans_26 ?_
        rw [lvL_ge L _ _ (Nat.le_refl _)]
        refine lv_iconst (v := 1) hx hb dX3_receiveDueLoans_29 (by decide) ?_
        refine lv_icmp_ne (tgt := 69) hx hb dX3_receiveDueLoans_30 (by decide) (fun c_7 => ?_) (fun c_7 => ?_)
        · -- L 5 j1 ne 1 : True
          refine lv_iinc (v := nI (j1 + 1)) (lv' := [(1, .int (nI (j1 + 1))), (2, .ref (ad (20 + j1))), (0, .ref (ad 0))]) hx hb dX3_receiveDueLoans_69 hl (k := 1) rfl (nI_1 _) (by decide) rfl (fun ls hl => ?_)
          refine lv_goto (tgt := 2) hx hb dX3_receiveDueLoans_72 (by decide) ?_
          have e1 : lvL L (g 0) (j1 + 1) = lvL L (g 0) j1 := by simp [lvL, lvP, c_5, c_7]
          have e2 : lvCash L (g 0) (g 1) (j1 + 1) = lvCash L (g 0) (g 1) j1 := by simp [lvCash, lvP, c_5, c_7]
          rw [← e1, ← e2] at hW
          exact ih_1 (j1 + 1) (by omega)   _ _ hW hS ls (lv_sub hl [0, 2] rfl)
        · -- L 5 j1 ne 1 : False
          refine lv_aload_n hx hb dX3_receiveDueLoans_33 rfl (lv_at hl 0 rfl) ?_
          refine wb_get hx hb hts hinX1 hown hK hW (20 + j1) (lvC_ln (by omega)) (ctC_ln (by omega)) rfl 2 (by decide) hf176 (fun _ h9 => h9) (v := .int ((lvL L (g 0) j1) 3 j1)) rfl dX3_receiveDueLoans_34 ?_
          rw [lvL_k L _ (k := 3) (by decide) _ _]
          refine lv_aload_n hx hb dX3_receiveDueLoans_37 rfl (lv_at hl 2 rfl) ?_
          refine wb_get hx hb hts hinX3 hown hK hW 0 (lvC_0 (by decide)) rfl rfl 3 (by decide) hf26 (fun _ h9 => h9) (v := .int (g 0)) rfl dX3_receiveDueLoans_38 ?_
          refine lv_icmp_gt (tgt := 69) hx hb dX3_receiveDueLoans_41 (by decide) (fun c_8 => ?_) (fun c_8 => ?_)
          · -- L 3 j1 gt g 0 : True
            refine lv_iinc (v := nI (j1 + 1)) (lv' := [(1, .int (nI (j1 + 1))), (2, .ref (ad (20 + j1))), (0, .ref (ad 0))]) hx hb dX3_receiveDueLoans_69 hl (k := 1) rfl (nI_1 _) (by decide) rfl (fun ls hl => ?_)
            refine lv_goto (tgt := 2) hx hb dX3_receiveDueLoans_72 (by decide) ?_
            have e1 : lvL L (g 0) (j1 + 1) = lvL L (g 0) j1 := by simp [lvL, lvP, c_5, c_7, c_8]
            have e2 : lvCash L (g 0) (g 1) (j1 + 1) = lvCash L (g 0) (g 1) j1 := by simp [lvCash, lvP, c_5, c_7, c_8]
            rw [← e1, ← e2] at hW
            exact ih_1 (j1 + 1) (by omega)   _ _ hW hS ls (lv_sub hl [0, 2] rfl)
          · -- L 3 j1 gt g 0 : False
            refine lv_aload_n hx hb dX3_receiveDueLoans_44 rfl (lv_at hl 0 rfl) ?_
            refine wb_get hx hb hts hinX1 hown hK hW (20 + j1) (lvC_ln (by omega)) (ctC_ln (by omega)) rfl 4 (by decide) hf102 (fun _ h9 => h9) (v := .int ((lvL L (g 0) j1) 4 j1)) rfl dX3_receiveDueLoans_45 ?_
            rw [lvL_k L _ (k := 4) (by decide) _ _]
            refine lv_if_ne (tgt := 69) hx hb dX3_receiveDueLoans_48 (by decide) (fun c_9 => ?_) (fun c_9 => ?_)
            · -- L 4 j1 ne 0 : True
              refine lv_iinc (v := nI (j1 + 1)) (lv' := [(1, .int (nI (j1 + 1))), (2, .ref (ad (20 + j1))), (0, .ref (ad 0))]) hx hb dX3_receiveDueLoans_69 hl (k := 1) rfl (nI_1 _) (by decide) rfl (fun ls hl => ?_)
              refine lv_goto (tgt := 2) hx hb dX3_receiveDueLoans_72 (by decide) ?_
              have e1 : lvL L (g 0) (j1 + 1) = lvL L (g 0) j1 := by simp [lvL, lvP, c_5, c_7, c_8, c_9]
              have e2 : lvCash L (g 0) (g 1) (j1 + 1) = lvCash L (g 0) (g 1) j1 := by simp [lvCash, lvP, c_5, c_7, c_8, c_9]
              rw [← e1, ← e2] at hW
              exact ih_1 (j1 + 1) (by omega)   _ _ hW hS ls (lv_sub hl [0, 2] rfl)
            · -- L 4 j1 ne 0 : False
              refine lv_aload_n hx hb dX3_receiveDueLoans_51 rfl (lv_at hl 0 rfl) ?_
              refine lv_iconst (v := 2) hx hb dX3_receiveDueLoans_52 (by decide) ?_
              refine wb_put (v := .int 2) (ty := .int) hx hb hts hinX1 tyX1 tyX1_ok nmX1 hown hK hW hS (20 + j1) (lvC_ln (by omega)) (ctC_ln (by omega)) rfl 5 (by decide) hf78 (fun _ h9 => h9) rfl (by decide +kernel) rfl rfl (Nat.le_of_ble_eq_true rfl) dX3_receiveDueLoans_53 (fun H locs hW hS => ?_)
              obtain ⟨L11, hL11⟩ : ∃ z9, z9 = updL (lvL L (g 0) j1) 5 j1 2 := ⟨_, rfl⟩
              have hW : wP D A (lvC n b) ad (ctC cs ad z0 (upd g 1 (lvCash L (g 0) (g 1) j1)) L11 B n b y1 y2 N1 N2 nd gv) H := by subst hL11; exact hW.up (by rw [ctC_ln (by omega)]; simp [updL_at, updL_nk]) (fun r _ hr => ctC_L (fun i9 k9 h8 _ => updL_ni _ _ _ _ (by omega)))
              refine lv_aload_n hx hb dX3_receiveDueLoans_56 rfl (lv_at hl 2 rfl) ?_
              refine lv_dup hx hb dX3_receiveDueLoans_57 rfl ?_
              refine wb_get hx hb hts hinX3 hown hK hW 0 (lvC_0 (by decide)) rfl rfl 4 (by decide) hf30 (fun _ h9 => h9) (v := .int (lvCash L (g 0) (g 1) j1)) rfl dX3_receiveDueLoans_58 ?_
              refine lv_aload_n hx hb dX3_receiveDueLoans_61 rfl (lv_at hl 0 rfl) ?_
              refine wb_get hx hb hts hinX1 hown hK hW (20 + j1) (lvC_ln (by omega)) (ctC_ln (by omega)) rfl 0 (by decide) hf177 (fun _ h9 => h9) (v := .int (L11 0 j1)) rfl dX3_receiveDueLoans_62 ?_
              rw [hL11, updL_nk _ 5 _ _ (k' := 0) (by decide), lvL_k L _ (k := 0) (by decide) _ _]
              refine lv_iadd hx hb dX3_receiveDueLoans_65 ?_
              refine wb_put (v := .int ((lvCash L (g 0) (g 1) j1) + (L 0 j1))) (ty := .int) hx hb hts hinX3 tyX3 tyX3_ok nmX3 hown hK hW hS 0 (lvC_0 (by decide)) rfl rfl 4 (by decide) hf30 (fun _ h9 => h9) rfl (by decide +kernel) rfl rfl (Nat.le_of_ble_eq_true rfl) dX3_receiveDueLoans_66 (fun H locs hW hS => ?_)
              obtain ⟨g13, hg13⟩ : ∃ z9, z9 = upd (upd g 1 (lvCash L (g 0) (g 1) j1)) 1 ((lvCash L (g 0) (g 1) j1) + (L 0 j1)) := ⟨_, rfl⟩
              have hW : wP D A (lvC n b) ad (ctC cs ad z0 g13 L11 B n b y1 y2 N1 N2 nd gv) H := by subst hg13; exact hW.up rfl (fun r _ hr => ctC_g hr)
              refine lv_iinc (v := nI (j1 + 1)) (lv' := [(1, .int (nI (j1 + 1))), (2, .ref (ad (20 + j1))), (0, .ref (ad 0))]) hx hb dX3_receiveDueLoans_69 hl (k := 1) rfl (nI_1 _) (by decide) rfl (fun ls hl => ?_)
              refine lv_goto (tgt := 2) hx hb dX3_receiveDueLoans_72 (by decide) ?_
              have e1 : lvL L (g 0) (j1 + 1) = updL (lvL L (g 0) j1) 5 j1 2 := by simp [lvL, lvP, c_5, c_7, c_8, c_9]
              have e2 : lvCash L (g 0) (g 1) (j1 + 1) = lvCash L (g 0) (g 1) j1 + L 0 j1 := by simp [lvCash, lvP, c_5, c_7, c_8, c_9]
              have e3 : g13 = upd g 1 (lvCash L (g 0) (g 1) j1 + L 0 j1) := by subst hg13; exact upd_upd _ _ _ _
              rw [e3, hL11] at hW
              rw [← e1, ← e2] at hW
              exact ih_1 (j1 + 1) (by omega)   _ _ hW hS ls (lv_sub hl [0, 2] rfl)
  exact loop_1 (n) 0 (by omega)   _ _ (by rw [show upd g 1 (lvCash L (g 0) (g 1) 0) = g from upd_id g 1]; exact hW) hS ls (lv_sub hl [0, 1] rfl)

set_option maxHeartbeats 4000000 in
set_option maxRecDepth 100000 in
theorem c_X3_settleDueBonds (l : Launch) (D : va_G) (cs : Nat → ClassId) (A : Nat → Prop) (z0 : Nat) (sa : Nat → Nat) (ad : Nat → Nat) (g : Nat → Int32) (L B : Nat → Nat → Int32) (n b : Nat) (y1 y2 : Int32) (N1 N2 : Nat) (nd : Nat → Int32) (gv : Nat → Nat → Int32) (hn : n ≤ 12) (hb5 : b ≤ 5) (hN1 : n ≤ N1 ∧ N1 < 1000) (hN2 : b ≤ N2 ∧ N2 < 1000)  : Met l yX3_settleDueBonds wsX3_settleDueBonds ({ frames := 4, cells := 0, slots := 0, locals := 88 } : Room) (va_Pc [.ref (ad 0)] (pC D cs A z0 sa (lvC n b) ad (ctC cs ad z0 g L B n b y1 y2 N1 N2 nd gv))) (va_Qv (fun (_ : Unit) => True) (fun _ t9 => wP D A (lvC n b) ad (ctC cs ad z0 (upd g 1 (bdS (g 0) (g 1) B b).1) L ((bdS (g 0) (g 1) B b).2) n b y1 y2 N1 N2 nd gv) t9.heap) A) 0 0 A := by
  refine Met.ofW (cc := cX3_settleDueBonds) (maxL := 3) (ret := none) (by decide) rfl ?_
  intro p e s m args below meth c s₁ BB hml hv
  obtain ⟨rfl, hv⟩ := hv
  obtain ⟨hE, hW⟩ := hv
  have hK := hE.1
  have hx := BB.exec
  have hb := BB.bytes
  have hr := BB.returns
  have hts := atoms_spec (ws := wsX3_settleDueBonds) BB.pre
  have hown : s.vm.findClass RX3 = some m.cls := findClass_of_methodNamed BB.named
  have hlocks := BB.notSynchronized
  have hS : va_S A s.heap s.heap [] := va_S.rf
  have hl := lv_entry ([.ref (ad 0)]) (n := 3) (Nat.le_of_ble_eq_true rfl)
  rw [lg_entry_eq]
  generalize (lg_sl ([.ref (ad 0)]) ++ List.replicate (3 - (lg_sl ([.ref (ad 0)])).length) Slot.unset).toArray = ls at hl ⊢
  have hl : lv_has ls 3 [(0, .ref (ad 0))] := hl
  have hf16 := hts (.fieldLink RX3 16 "Coverpool" "bonds" "Ljava/util/ArrayList;") (by decide +kernel)
  have hf26 := hts (.fieldLink RX3 26 "Coverpool" "month" "I") (by decide +kernel)
  have hf123 := hts (.fieldLink RX3 123 "Coverpool$Bond" "state" "I") (by decide +kernel)
  have hf124 := hts (.fieldLink RX3 124 "Coverpool$Bond" "due" "I") (by decide +kernel)
  have hinX0 : ∀ w ∈ u_ws RX0 TX0 4, w ∈ wsX3_settleDueBonds := by decide +kernel
  have hinX3 : ∀ w ∈ u_ws RX3 TX3 8, w ∈ wsX3_settleDueBonds := by decide +kernel
  refine lv_iconst (v := 0) hx hb dX3_settleDueBonds_0 (by decide) ?_
  refine lv_istore_n (lv' := [(1, .int 0), (0, .ref (ad 0))]) hx hb dX3_settleDueBonds_1 rfl hl (by decide) rfl (fun ls hl => ?_)
  have loop_1 : ∀ (k1 j1 : Nat), j1 + k1 = b → ∀ (H : Heap) (locs : List Loc), wP D A (lvC n b) ad (ctC cs ad z0 (upd g 1 (bdS (g 0) (g 1) B j1).1) L ((bdS (g 0) (g 1) B j1).2) n b y1 y2 N1 N2 nd gv) H → va_S A s.heap H locs → ∀ (ls : Array Slot), lv_has ls 3 [(1, .int (nI j1)), (0, .ref (ad 0))] → W p l e ({ frames := 4, cells := 0, slots := 0, locals := 88 } : Room) s m (([.ref (ad 0)] : List Value).toArray) below meth c H locs 0 0 (MQ below (va_Qv (fun (_ : Unit) => True) (fun _ t9 => wP D A (lvC n b) ad (ctC cs ad z0 (upd g 1 (bdS (g 0) (g 1) B b).1) L ((bdS (g 0) (g 1) B b).2) n b y1 y2 N1 N2 nd gv) t9.heap) A) (([.ref (ad 0)] : List Value).toArray) s 0 0 A) (F0 m 2 ls []) := by
    intro k1
    induction k1 with
    | zero =>
      intro j1 hj_1  H locs hW hS ls hl
      obtain rfl : b = j1 := by omega
      refine lv_iload_n hx hb dX3_settleDueBonds_2 rfl (lv_at hl 0 rfl) ?_
      refine lv_aload_n hx hb dX3_settleDueBonds_3 rfl (lv_at hl 1 rfl) ?_
      refine wb_get hx hb hts hinX3 hown hK hW 0 (lvC_0 (by decide)) rfl rfl 1 (by decide) hf16 (fun _ h9 => h9) (v := .ref (ad 2)) rfl dX3_settleDueBonds_4 ?_
      refine va_calli (va_runV (As := []) (rest := [.int (nI b)]) ⟨hx, hb, hml, hown, hts⟩ (c_Jx4a65c_size_8abf52 l D cs A z0 sa ad (upd g 1 (bdS (g 0) (g 1) B b).1) L ((bdS (g 0) (g 1) B b).2) n b y1 y2 N1 N2 nd gv hn hb5 hN1 hN2 ) (cwV 0 hts gX3_settleDueBonds_Jx4a65c_size_8abf5 rfl rfl rfl (by decide +kernel) ⟨Nat.le_of_ble_eq_true rfl, Nat.le_of_ble_eq_true rfl⟩) ⟨pC_fb, wb_recv hK hW (r := 2) (lvC_0 (by decide)) (ci := 0) rfl rfl, fun U hU hV => ⟨rfl, hE.at (fun _ h => h) hS hV hU, by rw [hU]; exact hW⟩⟩ rfl rfl hl.1 rfl (lv_room (Nat.le_of_ble_eq_true rfl)) dX3_settleDueBonds_7 ⟨Nat.zero_le _, Nat.zero_le _⟩) hS (fun _ _ h => h.elim) (fun _ h => h.elim) (fun r_2 u t9 H locs ht hvm hw _ hz1 hk1 hS => ?_)
      have hW := hW.kept hk1
      subst hw
      refine lv_icmp_ge (tgt := 54) hx hb dX3_settleDueBonds_10 (by decide) (fun c_3 => ?_) (fun c_3 => ?_)
      · -- nI b ge nI b : True
        exact W.vret hx hb hr (fun t9 ht9 hW9 => ⟨⟨(), rfl, trivial, (by dsimp only; rw [ht9]; exact hW)⟩, hS.F ht9⟩) hS.2.2 dX3_settleDueBonds_54
      · -- nI b ge nI b : False
        exact absurd (by first | exact Int32.le_refl _ | decide) c_3
    | succ k1 ih_1 =>
      intro j1 hj_1  H locs hW hS ls hl
      refine lv_iload_n hx hb dX3_settleDueBonds_2 rfl (lv_at hl 0 rfl) ?_
      refine lv_aload_n hx hb dX3_settleDueBonds_3 rfl (lv_at hl 1 rfl) ?_
      refine wb_get hx hb hts hinX3 hown hK hW 0 (lvC_0 (by decide)) rfl rfl 1 (by decide) hf16 (fun _ h9 => h9) (v := .ref (ad 2)) rfl dX3_settleDueBonds_4 ?_
      refine va_calli (va_runV (As := []) (rest := [.int (nI j1)]) ⟨hx, hb, hml, hown, hts⟩ (c_Jx4a65c_size_8abf52 l D cs A z0 sa ad (upd g 1 (bdS (g 0) (g 1) B j1).1) L ((bdS (g 0) (g 1) B j1).2) n b y1 y2 N1 N2 nd gv hn hb5 hN1 hN2 ) (cwV 0 hts gX3_settleDueBonds_Jx4a65c_size_8abf5 rfl rfl rfl (by decide +kernel) ⟨Nat.le_of_ble_eq_true rfl, Nat.le_of_ble_eq_true rfl⟩) ⟨pC_fb, wb_recv hK hW (r := 2) (lvC_0 (by decide)) (ci := 0) rfl rfl, fun U hU hV => ⟨rfl, hE.at (fun _ h => h) hS hV hU, by rw [hU]; exact hW⟩⟩ rfl rfl hl.1 rfl (lv_room (Nat.le_of_ble_eq_true rfl)) dX3_settleDueBonds_7 ⟨Nat.zero_le _, Nat.zero_le _⟩) hS (fun _ _ h => h.elim) (fun _ h => h.elim) (fun r_4 u t9 H locs ht hvm hw _ hz1 hk1 hS => ?_)
      have hW := hW.kept hk1
      subst hw
      refine lv_icmp_ge (tgt := 54) hx hb dX3_settleDueBonds_10 (by decide) (fun c_5 => ?_) (fun c_5 => ?_)
      · -- nI j1 ge nI b : True
        exact absurd c_5 (nI_ge (by omega) (by omega))
      · -- nI j1 ge nI b : False
        refine lv_aload_n hx hb dX3_settleDueBonds_13 rfl (lv_at hl 1 rfl) ?_
        refine wb_get hx hb hts hinX3 hown hK hW 0 (lvC_0 (by decide)) rfl rfl 1 (by decide) hf16 (fun _ h9 => h9) (v := .ref (ad 2)) rfl dX3_settleDueBonds_14 ?_
        refine lv_iload_n hx hb dX3_settleDueBonds_17 rfl (lv_at hl 0 rfl) ?_
        refine va_callr (va_runV (As := [.int (nI j1)]) (rest := []) ⟨hx, hb, hml, hown, hts⟩ (c_Jx4a65c_get_915e32 l D cs A z0 sa ad (upd g 1 (bdS (g 0) (g 1) B j1).1) L ((bdS (g 0) (g 1) B j1).2) n b y1 y2 N1 N2 nd gv hn hb5 hN1 hN2 j1 (by omega)) (cwV 1 hts gX3_settleDueBonds_Jx4a65c_get_915e3 rfl rfl rfl (by decide +kernel) ⟨Nat.le_of_ble_eq_true rfl, Nat.le_of_ble_eq_true rfl⟩) ⟨pC_fb, wb_recv hK hW (r := 2) (lvC_0 (by decide)) (ci := 0) rfl rfl, fun U hU hV => ⟨rfl, hE.at (fun _ h => h) hS hV hU, by rw [hU]; exact hW⟩⟩ rfl rfl hl.1 rfl (lv_room (Nat.le_of_ble_eq_true rfl)) dX3_settleDueBonds_18 ⟨Nat.zero_le _, Nat.zero_le _⟩) hS (fun _ _ h => h.elim) (fun _ h => h.elim) (fun u r_6 t9 H locs ht hvm hw hB hz1 hk1 hS => ?_)
        have hW := hW.kept hk1
        subst hB
        refine va_castS hx hb hown (hts (.classLink RX3 111 "Coverpool$Bond") (by decide +kernel)) (hK.1 1 _ rfl).2 (wb_recv hK hW (r := (32 + j1)) (lvC_bd (by omega)) (ci := 1) rfl ctC_bd) dX3_settleDueBonds_21 ?_
        refine lv_astore_n (lv' := [(2, .ref (ad (32 + j1))), (1, .int (nI j1)), (0, .ref (ad 0))]) hx hb dX3_settleDueBonds_24 rfl hl (by decide) rfl (fun ls hl => ?_)
        refine lv_aload_n hx hb dX3_settleDueBonds_25 rfl (lv_at hl 0 rfl) ?_
        refine wb_get hx hb hts hinX0 hown hK hW (32 + j1) (lvC_bd (by omega)) ctC_bd rfl 2 (by decide) hf123 (fun _ h9 => h9) (v := .int (((bdS (g 0) (g 1) B j1).2) 2 j1)) rfl dX3_settleDueBonds_26 ?_
        rw [bdS_ge _ _ B 2 j1 (Nat.le_refl _)]
        refine lv_if_ne (tgt := 48) hx hb dX3_settleDueBonds_29 (by decide) (fun c_7 => ?_) (fun c_7 => ?_)
        · -- B 2 j1 ne 0 : True
          refine lv_iinc (v := nI (j1 + 1)) (lv' := [(1, .int (nI (j1 + 1))), (2, .ref (ad (32 + j1))), (0, .ref (ad 0))]) hx hb dX3_settleDueBonds_48 hl (k := 1) rfl (nI_1 _) (by decide) rfl (fun ls hl => ?_)
          refine lv_goto (tgt := 2) hx hb dX3_settleDueBonds_51 (by decide) ?_
          have e1 : (bdS (g 0) (g 1) B (j1 + 1)) = (bdS (g 0) (g 1) B j1) := by simp only [bdS, c_5, c_7, reduceIte]
          rw [← e1] at hW
          exact ih_1 (j1 + 1) (by omega)   _ _ hW hS ls (lv_sub hl [0, 2] rfl)
        · -- B 2 j1 ne 0 : False
          refine lv_aload_n hx hb dX3_settleDueBonds_32 rfl (lv_at hl 0 rfl) ?_
          refine wb_get hx hb hts hinX0 hown hK hW (32 + j1) (lvC_bd (by omega)) ctC_bd rfl 1 (by decide) hf124 (fun _ h9 => h9) (v := .int (((bdS (g 0) (g 1) B j1).2) 1 j1)) rfl dX3_settleDueBonds_33 ?_
          rw [bdS_ge _ _ B 1 j1 (Nat.le_refl _)]
          refine lv_aload_n hx hb dX3_settleDueBonds_36 rfl (lv_at hl 2 rfl) ?_
          refine wb_get hx hb hts hinX3 hown hK hW 0 (lvC_0 (by decide)) rfl rfl 3 (by decide) hf26 (fun _ h9 => h9) (v := .int (g 0)) rfl dX3_settleDueBonds_37 ?_
          refine lv_icmp_gt (tgt := 48) hx hb dX3_settleDueBonds_40 (by decide) (fun c_8 => ?_) (fun c_8 => ?_)
          · -- B 1 j1 gt g 0 : True
            refine lv_iinc (v := nI (j1 + 1)) (lv' := [(1, .int (nI (j1 + 1))), (2, .ref (ad (32 + j1))), (0, .ref (ad 0))]) hx hb dX3_settleDueBonds_48 hl (k := 1) rfl (nI_1 _) (by decide) rfl (fun ls hl => ?_)
            refine lv_goto (tgt := 2) hx hb dX3_settleDueBonds_51 (by decide) ?_
            have e1 : (bdS (g 0) (g 1) B (j1 + 1)) = (bdS (g 0) (g 1) B j1) := by simp only [bdS, c_5, c_7, c_8, reduceIte]
            rw [← e1] at hW
            exact ih_1 (j1 + 1) (by omega)   _ _ hW hS ls (lv_sub hl [0, 2] rfl)
          · -- B 1 j1 gt g 0 : False
            refine lv_aload_n hx hb dX3_settleDueBonds_43 rfl (lv_at hl 2 rfl) ?_
            refine lv_aload_n hx hb dX3_settleDueBonds_44 rfl (lv_at hl 0 rfl) ?_
            refine va_callv (va_runV (As := [.ref (ad (32 + j1))]) (rest := []) ⟨hx, hb, hml, hown, hts⟩ (c_X3_settle l D cs A z0 sa ad (upd g 1 (bdS (g 0) (g 1) B j1).1) L ((bdS (g 0) (g 1) B j1).2) n b y1 y2 N1 N2 nd gv hn hb5 hN1 hN2 j1 (by omega)) (cwV 1 hts gX3_settleDueBonds_X3_settle rfl rfl rfl (by decide +kernel) ⟨Nat.le_of_ble_eq_true rfl, Nat.le_of_ble_eq_true rfl⟩) ⟨pC_fb, wb_recv hK hW (r := 0) (lvC_0 (by decide)) (ci := 4) rfl rfl, fun U hU hV => ⟨rfl, hE.at (fun _ h => h) hS hV hU, by rw [hU]; exact hW⟩⟩ rfl rfl hl.1 rfl (lv_room (Nat.le_of_ble_eq_true rfl)) dX3_settleDueBonds_45 ⟨Nat.zero_le _, Nat.zero_le _⟩) hS (fun _ _ h => h) (fun _ h => h) (fun u t9 H locs ht hvm hw hB hz1 hk1 hS => ?_)
            have hW : wP D A (lvC n b) ad (ctC cs ad z0 (upd (upd g 1 (bdS (g 0) (g 1) B j1).1) 1 (stl ((upd g 1 (bdS (g 0) (g 1) B j1).1) 0) ((upd g 1 (bdS (g 0) (g 1) B j1).1) 1) ((bdS (g 0) (g 1) B j1).2) j1).1) L ((stl ((upd g 1 (bdS (g 0) (g 1) B j1).1) 0) ((upd g 1 (bdS (g 0) (g 1) B j1).1) 1) ((bdS (g 0) (g 1) B j1).2) j1).2) n b y1 y2 N1 N2 nd gv) H := by rw [← ht]; exact hB
            refine lv_iinc (v := nI (j1 + 1)) (lv' := [(1, .int (nI (j1 + 1))), (2, .ref (ad (32 + j1))), (0, .ref (ad 0))]) hx hb dX3_settleDueBonds_48 hl (k := 1) rfl (nI_1 _) (by decide) rfl (fun ls hl => ?_)
            refine lv_goto (tgt := 2) hx hb dX3_settleDueBonds_51 (by decide) ?_
            have e1 : (bdS (g 0) (g 1) B (j1 + 1)) = stl (g 0) (bdS (g 0) (g 1) B j1).1 (bdS (g 0) (g 1) B j1).2 j1 := bdS_stl _ _ _ _ c_7 c_8
            have hW : wP D A (lvC n b) ad (ctC cs ad z0 (upd g 1 (bdS (g 0) (g 1) B (j1 + 1)).1) L ((bdS (g 0) (g 1) B (j1 + 1)).2) n b y1 y2 N1 N2 nd gv) H := by rw [e1]; rw [upd_upd] at hW; exact hW
            exact ih_1 (j1 + 1) (by omega)   _ _ hW hS ls (lv_sub hl [0, 2] rfl)
  exact loop_1 (b) 0 (by omega)   _ _ (by rw [show upd g 1 (bdS (g 0) (g 1) B 0).1 = g from upd_id g 1]; exact hW) hS ls (lv_sub hl [0, 1] rfl)
