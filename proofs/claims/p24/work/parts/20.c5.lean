set_option maxHeartbeats 4000000 in
set_option maxRecDepth 100000 in
theorem c_X3_holds (l : Launch) (hst : l.stackTraces = false) (D : va_G) (cs : Nat → ClassId) (A : Nat → Prop) (z0 : Nat) (sa : Nat → Nat) (ad : Nat → Nat) (g : Nat → Int32) (L B : Nat → Nat → Int32) (n b : Nat) (y1 y2 : Int32) (N1 N2 : Nat) (nd : Nat → Int32) (gv : Nat → Nat → Int32) (hn : n ≤ 12) (hb5 : b ≤ 5) (hN1 : n ≤ N1 ∧ N1 < 1000) (hN2 : b ≤ N2 ∧ N2 < 1000) (x : Int32)  : vx_Met l yX3_holds wsX3_holds ({ frames := 9, cells := 1, slots := 6, locals := 197 } : Room) (va_Pc [.ref (ad 0), .int x] (pC D cs A z0 sa (lvC n b) ad (ctC cs ad z0 g L B n b y1 y2 N1 N2 nd gv))) (va_Qi (fun (r9 u9 : Int32) => kIn 0 2 x = 0 ∧ u9 = r9 ∧ ((r9 = 1 ∧ ((cMost (fsN nd g B b) (gvS gv g L n) x (mPool L 1 n) 9).toInt64 = 0)) ∨ (r9 = 0 ∧ ¬ ((cMost (fsN nd g B b) (gvS gv g L n) x (mPool L 1 n) 9).toInt64 = 0)))) (fun u9 t9 => RC D cs A z0 (ad 0) g L B n b t9.heap) A) (vx_X (fun (_ : Unit) => True) (fun E9 _ t9 => ((kIn 0 2 x = 1 ∧ E9 = xA)) ∧ wP D A (lvC n b) ad (ctC cs ad z0 g L B n b y1 y2 N1 N2 nd gv) t9.heap) A) 1 6 A := by
  refine vx_ofW (cc := cX3_holds) (maxL := 2) (ret := (some .boolean)) (by decide) rfl ?_
  intro p e s m args below meth c s₁ BB hml htab hv
  obtain ⟨rfl, hv⟩ := hv
  obtain ⟨hE, hW⟩ := hv
  have hK := hE.1
  have hx := BB.exec
  have hb := BB.bytes
  have hr := BB.returns
  have hts := atoms_spec (ws := wsX3_holds) BB.pre
  have hown : s.vm.findClass RX3 = some m.cls := findClass_of_methodNamed BB.named
  have hlocks := BB.notSynchronized
  have hS : va_S A s.heap s.heap [] := va_S.rf
  have hl := lv_entry ([.ref (ad 0), .int x]) (n := 2) (Nat.le_of_ble_eq_true rfl)
  rw [lg_entry_eq]
  generalize (lg_sl ([.ref (ad 0), .int x]) ++ List.replicate (2 - (lg_sl ([.ref (ad 0), .int x])).length) Slot.unset).toArray = ls at hl ⊢
  have hl : lv_has ls 2 [(0, .ref (ad 0)), (1, .int x)] := hl
  refine lv_aload_n hx hb dX3_holds_0 rfl (lv_at hl 0 rfl) ?_
  refine lv_iload_n hx hb dX3_holds_1 rfl (lv_at hl 1 rfl) ?_
  refine vx_calll (vx_runV (As := [.int x]) (rest := []) ⟨hx, hb, hml, hown, hts⟩ (c_X3_lacking l hst D cs A z0 sa ad g L B n b y1 y2 N1 N2 nd gv hn hb5 hN1 hN2 x) (cwV 1 hts gX3_holds_X3_lacking rfl rfl rfl (by decide +kernel) ⟨Nat.le_of_ble_eq_true rfl, Nat.le_of_ble_eq_true rfl⟩) ⟨pC_fb, wb_recv hK hW (r := 0) (lvC_0 (by decide)) (ci := 4) rfl rfl, fun U hU hV => ⟨rfl, hE.at (fun _ h => h) hS hV hU, by rw [hU]; exact hW⟩⟩ rfl rfl hl.1 rfl (lv_room (Nat.le_of_ble_eq_true rfl)) dX3_holds_2 ⟨Nat.le_of_ble_eq_true rfl, Nat.le_of_ble_eq_true rfl⟩) hS (fun _ _ h => h) (fun _ h => h) (fun _ _ h => h) (fun E9 ce9 q9 u9 t9 H9 locs9 ht9 hvm9 hpx9 hbx9 hz9 hk9 hS9 hc9 hv9 hl9 => ?_) (fun r_9 u t7 H locs ht hvm hw hB hz1 hk1 hS => ?_)
  · exact vx_out (fun x h => (htab x h).elim) hlocks hc9 hv9 hl9 (fun t8 ht8 hvm8 => ⟨(), trivial, ⟨hbx9.1, by rw [ht8, ← ht9]; exact hbx9.2⟩, hS9.F ht8⟩) hS9.2.2 (Nat.le_of_ble_eq_true rfl) (Nat.le_of_ble_eq_true rfl)
  obtain ⟨hk, rfl⟩ := hw
  refine lv_lconst (v := 0) hx hb dX3_holds_5 (by decide) ?_
  refine W.lcmp hx hb dX3_holds_6 ?_
  refine lv_if_ne (tgt := 14) hx hb dX3_holds_7 (by decide) (fun c_2 => ?_) (fun c_2 => ?_)
  · -- lg_cmp ((cMost (fsN nd g B b) (gvS gv g L n) x (mPool L 1 n) 9).toInt64) 0 ne 0 : True
    rw [lg0_eq] at c_2
    refine lv_iconst (v := 0) hx hb dX3_holds_14 (by decide) ?_
    exact vx_ret (W.zret (ty := .boolean) (v := 0) hx hb hr (by decide) (fun t9 ht9 hW9 => ⟨⟨_, 0, rfl, ⟨hk, rfl, Or.inr ⟨rfl, c_2⟩⟩, (by dsimp only; rw [ht9, ← ht]; exact hB)⟩, hS.F ht9⟩) hS.2.2 dX3_holds_15)
  · -- lg_cmp ((cMost (fsN nd g B b) (gvS gv g L n) x (mPool L 1 n) 9).toInt64) 0 ne 0 : False
    rw [lg0_eq] at c_2
    refine lv_iconst (v := 1) hx hb dX3_holds_10 (by decide) ?_
    refine lv_goto (tgt := 15) hx hb dX3_holds_11 (by decide) ?_
    exact vx_ret (W.zret (ty := .boolean) (v := 1) hx hb hr (by decide) (fun t9 ht9 hW9 => ⟨⟨_, 1, rfl, ⟨hk, rfl, Or.inl ⟨rfl, c_2⟩⟩, (by dsimp only; rw [ht9, ← ht]; exact hB)⟩, hS.F ht9⟩) hS.2.2 dX3_holds_15)

set_option maxHeartbeats 4000000 in
set_option maxRecDepth 100000 in
theorem c_X3_leastToAddByAll (l : Launch) (D : va_G) (cs : Nat → ClassId) (A : Nat → Prop) (z0 : Nat) (sa : Nat → Nat) (ad : Nat → Nat) (g : Nat → Int32) (L B : Nat → Nat → Int32) (n b : Nat) (y1 y2 : Int32) (N1 N2 : Nat) (nd : Nat → Int32) (gv : Nat → Nat → Int32) (hn : n ≤ 12) (hb5 : b ≤ 5) (hN1 : n ≤ N1 ∧ N1 < 1000) (hN2 : b ≤ N2 ∧ N2 < 1000) : Met l yX3_leastToAddByAll wsX3_leastToAddByAll ({ frames := 8, cells := 0, slots := 0, locals := 176 } : Room) (va_Pc [.ref (ad 0)] (pC D cs A z0 sa (lvC n b) ad (ctC cs ad z0 g L B n b y1 y2 N1 N2 nd gv))) (va_Qi (fun (r9 : Int32) (_ : Unit) => r9 = cFound (fsN nd g B b) (gvS gv g L n) L n (2 ^ n)) (fun _ t9 => RC D cs A z0 (ad 0) g L B n b t9.heap) A) 0 0 A := by
  refine Met.ofW (cc := cX3_leastToAddByAll) (maxL := 5) (ret := (some .int)) (by decide) rfl ?_
  intro p e s m args below meth c s₁ BB hml hv
  obtain ⟨rfl, hv⟩ := hv
  obtain ⟨hE, hW⟩ := hv
  have hK := hE.1
  have hx := BB.exec
  have hb := BB.bytes
  have hr := BB.returns
  have hts := atoms_spec (ws := wsX3_leastToAddByAll) BB.pre
  have hown : s.vm.findClass RX3 = some m.cls := findClass_of_methodNamed BB.named
  have hlocks := BB.notSynchronized
  have hS : va_S A s.heap s.heap [] := va_S.rf
  have hl := lv_entry ([.ref (ad 0)]) (n := 5) (Nat.le_of_ble_eq_true rfl)
  rw [lg_entry_eq]
  generalize (lg_sl ([.ref (ad 0)]) ++ List.replicate (5 - (lg_sl ([.ref (ad 0)])).length) Slot.unset).toArray = ls at hl ⊢
  have hl : lv_has ls 5 [(0, .ref (ad 0))] := hl
  have hf10 := hts (.fieldLink RX3 10 "Coverpool" "loans" "Ljava/util/ArrayList;") (by decide +kernel)
  have hf22 := hts (.fieldLink RX3 22 "Coverpool" "sheet" "LCoverpool$Sheet;") (by decide +kernel)
  have hinX3 : ∀ w ∈ u_ws RX3 TX3 8, w ∈ wsX3_leastToAddByAll := by decide +kernel
  have h2n : 2 ^ n ≤ 4096 := Nat.le_trans (Nat.pow_le_pow_right (by decide) hn) (by decide)
  refine lv_aload_n hx hb dX3_leastToAddByAll_0 rfl (lv_at hl 0 rfl) ?_
  refine va_callv (va_runV (As := []) (rest := []) ⟨hx, hb, hml, hown, hts⟩ (c_X3_fillSheet l D cs A z0 sa ad g L B n b y1 y2 N1 N2 nd gv hn hb5 hN1 hN2 ) (cwV 0 hts gX3_leastToAddByAll_X3_fillSheet rfl rfl rfl (by decide +kernel) ⟨Nat.le_of_ble_eq_true rfl, Nat.le_of_ble_eq_true rfl⟩) ⟨pC_fb, wb_recv hK hW (r := 0) (lvC_0 (by decide)) (ci := 4) rfl rfl, fun U hU hV => ⟨rfl, hE.at (fun _ h => h) hS hV hU, by rw [hU]; exact hW⟩⟩ rfl rfl hl.1 rfl (lv_room (Nat.le_of_ble_eq_true rfl)) dX3_leastToAddByAll_1 ⟨Nat.zero_le _, Nat.zero_le _⟩) hS (fun _ _ h => h) (fun _ h => h) (fun u t9 H locs ht hvm hw hB hz1 hk1 hS => ?_)
  have hW : wP D A (lvC n b) ad (ctC cs ad z0 g L B n b y1 y2 N1 N2 (fsN nd g B b) (gvS gv g L n)) H := by rw [← ht]; exact hB
  refine lv_aload_n hx hb dX3_leastToAddByAll_4 rfl (lv_at hl 0 rfl) ?_
  refine lv_iconst (v := 1) hx hb dX3_leastToAddByAll_5 (by decide) ?_
  refine va_calli (va_runV (As := [.int 1]) (rest := []) ⟨hx, hb, hml, hown, hts⟩ (c_X3_loansThatAre l D cs A z0 sa ad g L B n b y1 y2 N1 N2 (fsN nd g B b) (gvS gv g L n) hn hb5 hN1 hN2 1) (cwV 1 hts gX3_leastToAddByAll_X3_loansThatAre rfl rfl rfl (by decide +kernel) ⟨Nat.le_of_ble_eq_true rfl, Nat.le_of_ble_eq_true rfl⟩) ⟨pC_fb, wb_recv hK hW (r := 0) (lvC_0 (by decide)) (ci := 4) rfl rfl, fun U hU hV => ⟨rfl, hE.at (fun _ h => h) hS hV hU, by rw [hU]; exact hW⟩⟩ rfl rfl hl.1 rfl (lv_room (Nat.le_of_ble_eq_true rfl)) dX3_leastToAddByAll_6 ⟨Nat.zero_le _, Nat.zero_le _⟩) hS (fun _ _ h => h.elim) (fun _ h => h.elim) (fun r_2 u t9 H locs ht hvm hw _ hz1 hk1 hS => ?_)
  have hW := hW.kept hk1
  subst hw
  refine lv_istore_n (lv' := [(1, .int (mPool L 1 n)), (0, .ref (ad 0))]) hx hb dX3_leastToAddByAll_9 rfl hl (by decide) rfl (fun ls hl => ?_)
  refine lv_aload_n hx hb dX3_leastToAddByAll_10 rfl (lv_at hl 1 rfl) ?_
  refine lv_iconst (v := 0) hx hb dX3_leastToAddByAll_11 (by decide) ?_
  refine va_calli (va_runV (As := [.int 0]) (rest := []) ⟨hx, hb, hml, hown, hts⟩ (c_X3_loansThatAre l D cs A z0 sa ad g L B n b y1 y2 N1 N2 (fsN nd g B b) (gvS gv g L n) hn hb5 hN1 hN2 0) (cwV 1 hts gX3_leastToAddByAll_X3_loansThatAre rfl rfl rfl (by decide +kernel) ⟨Nat.le_of_ble_eq_true rfl, Nat.le_of_ble_eq_true rfl⟩) ⟨pC_fb, wb_recv hK hW (r := 0) (lvC_0 (by decide)) (ci := 4) rfl rfl, fun U hU hV => ⟨rfl, hE.at (fun _ h => h) hS hV hU, by rw [hU]; exact hW⟩⟩ rfl rfl hl.1 rfl (lv_room (Nat.le_of_ble_eq_true rfl)) dX3_leastToAddByAll_12 ⟨Nat.zero_le _, Nat.zero_le _⟩) hS (fun _ _ h => h.elim) (fun _ h => h.elim) (fun r_3 u t9 H locs ht hvm hw _ hz1 hk1 hS => ?_)
  have hW := hW.kept hk1
  subst hw
  refine lv_istore_n (lv' := [(2, .int (mPool L 0 n)), (1, .int (mPool L 1 n)), (0, .ref (ad 0))]) hx hb dX3_leastToAddByAll_15 rfl hl (by decide) rfl (fun ls hl => ?_)
  refine lv_iconst (v := (-1)) hx hb dX3_leastToAddByAll_16 (by decide) ?_
  refine lv_istore_n (lv' := [(3, .int (-1)), (2, .int (mPool L 0 n)), (1, .int (mPool L 1 n)), (0, .ref (ad 0))]) hx hb dX3_leastToAddByAll_17 rfl hl (by decide) rfl (fun ls hl => ?_)
  refine lv_iconst (v := 0) hx hb dX3_leastToAddByAll_18 (by decide) ?_
  refine lv_istore (lv' := [(4, .int 0), (3, .int (-1)), (2, .int (mPool L 0 n)), (1, .int (mPool L 1 n)), (0, .ref (ad 0))]) hx hb dX3_leastToAddByAll_19 hl (by decide) rfl (fun ls hl => ?_)
  have loop_4 : ∀ (k4 j4 : Nat), j4 + k4 = 2 ^ n → ∀ (a4_0 : Int32), a4_0 = cFound (fsN nd g B b) (gvS gv g L n) L n j4 → ∀ (H : Heap) (locs : List Loc), wP D A (lvC n b) ad (ctC cs ad z0 g L B n b y1 y2 N1 N2 (fsN nd g B b) (gvS gv g L n)) H → va_S A s.heap H locs → ∀ (ls : Array Slot), lv_has ls 5 [(4, .int (nI j4)), (3, .int a4_0), (2, .int (mPool L 0 n)), (1, .int (mPool L 1 n)), (0, .ref (ad 0))] → W p l e ({ frames := 8, cells := 0, slots := 0, locals := 176 } : Room) s m (([.ref (ad 0)] : List Value).toArray) below meth c H locs 0 0 (MQ below (va_Qi (fun (r9 : Int32) (_ : Unit) => r9 = cFound (fsN nd g B b) (gvS gv g L n) L n (2 ^ n)) (fun _ t9 => RC D cs A z0 (ad 0) g L B n b t9.heap) A) (([.ref (ad 0)] : List Value).toArray) s 0 0 A) (F0 m 21 ls []) := by
    intro k4
    induction k4 with
    | zero =>
      intro j4 hj_4 a4_0 ea4_0 H locs hW hS ls hl
      subst ea4_0
      obtain rfl : 2 ^ n = j4 := by omega
      refine lv_iload hx hb dX3_leastToAddByAll_21 (lv_at hl 0 rfl) ?_
      refine lv_iconst (v := 1) hx hb dX3_leastToAddByAll_23 (by decide) ?_
      refine lv_aload_n hx hb dX3_leastToAddByAll_24 rfl (lv_at hl 4 rfl) ?_
      refine wb_get hx hb hts hinX3 hown hK hW 0 (lvC_0 (by decide)) rfl rfl 0 (by decide) hf10 (fun _ h9 => h9) (v := .ref (ad 1)) rfl dX3_leastToAddByAll_25 ?_
      refine va_calli (va_runV (As := []) (rest := [.int 1, .int (nI (2 ^ n))]) ⟨hx, hb, hml, hown, hts⟩ (c_Jx4a65c_size_8abf51 l D cs A z0 sa ad g L B n b y1 y2 N1 N2 (fsN nd g B b) (gvS gv g L n) hn hb5 hN1 hN2 ) (cwV 0 hts gX3_leastToAddByAll_Jx4a65c_size_8abf5 rfl rfl rfl (by decide +kernel) ⟨Nat.le_of_ble_eq_true rfl, Nat.le_of_ble_eq_true rfl⟩) ⟨pC_fb, wb_recv hK hW (r := 1) (lvC_0 (by decide)) (ci := 0) rfl rfl, fun U hU hV => ⟨rfl, hE.at (fun _ h => h) hS hV hU, by rw [hU]; exact hW⟩⟩ rfl rfl hl.1 rfl (lv_room (Nat.le_of_ble_eq_true rfl)) dX3_leastToAddByAll_28 ⟨Nat.zero_le _, Nat.zero_le _⟩) hS (fun _ _ h => h.elim) (fun _ h => h.elim) (fun r_5 u t9 H locs ht hvm hw _ hz1 hk1 hS => ?_)
      have hW := hW.kept hk1
      subst hw
      refine lv_ishl hx hb dX3_leastToAddByAll_31 ?_
      rw [shl_one hn]
      refine lv_icmp_ge (tgt := 76) hx hb dX3_leastToAddByAll_32 (by decide) (fun c_6 => ?_) (fun c_6 => ?_)
      · -- nI (2 ^ n) ge nI (2 ^ n) : True
        refine lv_iload_n hx hb dX3_leastToAddByAll_76 rfl (lv_at hl 1 rfl) ?_
        exact W.iret (v := (cFound (fsN nd g B b) (gvS gv g L n) L n (2 ^ n))) hx hb hr (fun t9 ht9 hW9 => ⟨⟨_, (), rfl, (by rfl), (by dsimp only; rw [ht9]; exact ⟨ad, y1, y2, N1, N2, (fsN nd g B b), (gvS gv g L n), rfl, hN1, hN2, hW⟩)⟩, hS.F ht9⟩) hS.2.2 dX3_leastToAddByAll_77
      · -- nI (2 ^ n) ge nI (2 ^ n) : False
        exact absurd (by first | exact Int32.le_refl _ | decide) c_6
    | succ k4 ih_4 =>
      intro j4 hj_4 a4_0 ea4_0 H locs hW hS ls hl
      subst ea4_0
      refine lv_iload hx hb dX3_leastToAddByAll_21 (lv_at hl 0 rfl) ?_
      refine lv_iconst (v := 1) hx hb dX3_leastToAddByAll_23 (by decide) ?_
      refine lv_aload_n hx hb dX3_leastToAddByAll_24 rfl (lv_at hl 4 rfl) ?_
      refine wb_get hx hb hts hinX3 hown hK hW 0 (lvC_0 (by decide)) rfl rfl 0 (by decide) hf10 (fun _ h9 => h9) (v := .ref (ad 1)) rfl dX3_leastToAddByAll_25 ?_
      refine va_calli (va_runV (As := []) (rest := [.int 1, .int (nI j4)]) ⟨hx, hb, hml, hown, hts⟩ (c_Jx4a65c_size_8abf51 l D cs A z0 sa ad g L B n b y1 y2 N1 N2 (fsN nd g B b) (gvS gv g L n) hn hb5 hN1 hN2 ) (cwV 0 hts gX3_leastToAddByAll_Jx4a65c_size_8abf5 rfl rfl rfl (by decide +kernel) ⟨Nat.le_of_ble_eq_true rfl, Nat.le_of_ble_eq_true rfl⟩) ⟨pC_fb, wb_recv hK hW (r := 1) (lvC_0 (by decide)) (ci := 0) rfl rfl, fun U hU hV => ⟨rfl, hE.at (fun _ h => h) hS hV hU, by rw [hU]; exact hW⟩⟩ rfl rfl hl.1 rfl (lv_room (Nat.le_of_ble_eq_true rfl)) dX3_leastToAddByAll_28 ⟨Nat.zero_le _, Nat.zero_le _⟩) hS (fun _ _ h => h.elim) (fun _ h => h.elim) (fun r_7 u t9 H locs ht hvm hw _ hz1 hk1 hS => ?_)
      have hW := hW.kept hk1
      subst hw
      refine lv_ishl hx hb dX3_leastToAddByAll_31 ?_
      rw [shl_one hn]
      refine lv_icmp_ge (tgt := 76) hx hb dX3_leastToAddByAll_32 (by decide) (fun c_8 => ?_) (fun c_8 => ?_)
      · -- nI j4 ge nI (2 ^ n) : True
        exact absurd c_8 (nI_ge (by omega) (by omega))
      · -- nI j4 ge nI (2 ^ n) : False
        refine lv_iload hx hb dX3_leastToAddByAll_35 (lv_at hl 0 rfl) ?_
        refine lv_iload_n hx hb dX3_leastToAddByAll_37 rfl (lv_at hl 2 rfl) ?_
        refine lv_iconst (v := (-1)) hx hb dX3_leastToAddByAll_38 (by decide) ?_
        refine lv_ixor hx hb dX3_leastToAddByAll_39 ?_
        refine lv_iand hx hb dX3_leastToAddByAll_40 ?_
        refine lv_if_ne (tgt := 70) hx hb dX3_leastToAddByAll_41 (by decide) (fun c_9 => ?_) (fun c_9 => ?_)
        · -- (nI j4) &&& ((mPool L 0 n) ^^^ (-1)) ne 0 : True
          refine lv_iinc (v := nI (j4 + 1)) (lv' := [(4, .int (nI (j4 + 1))), (3, .int (cFound (fsN nd g B b) (gvS gv g L n) L n j4)), (2, .int (mPool L 0 n)), (1, .int (mPool L 1 n)), (0, .ref (ad 0))]) hx hb dX3_leastToAddByAll_70 hl (k := 0) rfl (nI_1 _) (by decide) rfl (fun ls hl => ?_)
          refine lv_goto (tgt := 21) hx hb dX3_leastToAddByAll_73 (by decide) ?_
          exact ih_4 (j4 + 1) (by omega) _ (by first | (simp only [cFound, c_8, c_9, reduceIte]; done) | simp [cFound, c_8, c_9])  _ _ hW hS ls (lv_sub hl [0, 1, 2, 3, 4] rfl)
        · -- (nI j4) &&& ((mPool L 0 n) ^^^ (-1)) ne 0 : False
          refine lv_iload hx hb dX3_leastToAddByAll_44 (lv_at hl 0 rfl) ?_
          refine lv_iload_n hx hb dX3_leastToAddByAll_46 rfl (lv_at hl 1 rfl) ?_
          refine va_calli (va_runS (As := [.int (nI j4), .int (cFound (fsN nd g B b) (gvS gv g L n) L n j4)]) (rest := []) ⟨hx, hb, hml, hown, hts⟩ (c_X3_isLess l (nI j4) (cFound (fsN nd g B b) (gvS gv g L n) L n j4)) (va_cwS 2 hts gX3_leastToAddByAll_X3_isLess rfl rfl rfl (by decide +kernel) ⟨Nat.le_of_ble_eq_true rfl, Nat.le_of_ble_eq_true rfl⟩) ⟨pT_fb, fun U hU hV => ⟨rfl, trivial⟩⟩ rfl rfl hl.1 rfl (lv_room (Nat.le_of_ble_eq_true rfl)) dX3_leastToAddByAll_47 ⟨Nat.zero_le _, Nat.zero_le _⟩) hS (fun _ _ h => h.elim) (fun _ h => h.elim) (fun r_10 u t9 H locs ht hvm hw _ hz1 hk1 hS => ?_)
          have hW := hW.kept hk1
          rcases hw with ⟨rfl, hp_10⟩ | ⟨rfl, hp_10⟩
          ·
            refine lv_if_eq (tgt := 70) hx hb dX3_leastToAddByAll_50 (by decide) (fun c_11 => ?_) (fun c_11 => ?_)
            · -- 1 eq 0 : True
              exact absurd c_11 (by decide)
            · -- 1 eq 0 : False
              refine lv_aload_n hx hb dX3_leastToAddByAll_53 rfl (lv_at hl 4 rfl) ?_
              refine wb_get hx hb hts hinX3 hown hK hW 0 (lvC_0 (by decide)) rfl rfl 2 (by decide) hf22 (fun _ h9 => h9) (v := .ref (ad 3)) rfl dX3_leastToAddByAll_54 ?_
              refine lv_iload_n hx hb dX3_leastToAddByAll_57 rfl (lv_at hl 3 rfl) ?_
              refine lv_iload hx hb dX3_leastToAddByAll_58 (lv_at hl 0 rfl) ?_
              refine lv_ior hx hb dX3_leastToAddByAll_60 ?_
              refine va_calli (va_runV (As := [.int ((mPool L 1 n) ||| (nI j4))]) (rest := []) ⟨hx, hb, hml, hown, hts⟩ (c_X2_allHold l D cs A z0 sa ad g L B n b y1 y2 N1 N2 (fsN nd g B b) (gvS gv g L n) hn hb5 hN1 hN2 ((mPool L 1 n) ||| (nI j4))) (cwV 1 hts gX3_leastToAddByAll_X2_allHold rfl rfl rfl (by decide +kernel) ⟨Nat.le_of_ble_eq_true rfl, Nat.le_of_ble_eq_true rfl⟩) ⟨pC_fb, wb_recv hK hW (r := 3) (lvC_0 (by decide)) (ci := 3) rfl rfl, fun U hU hV => ⟨rfl, hE.at (fun _ h => h) hS hV hU, by rw [hU]; exact hW⟩⟩ rfl rfl hl.1 rfl (lv_room (Nat.le_of_ble_eq_true rfl)) dX3_leastToAddByAll_61 ⟨Nat.zero_le _, Nat.zero_le _⟩) hS (fun _ _ h => h.elim) (fun _ h => h.elim) (fun r_12 u t9 H locs ht hvm hw _ hz1 hk1 hS => ?_)
              have hW := hW.kept hk1
              rcases hw with ⟨rfl, hp_12⟩ | ⟨rfl, hp_12⟩
              ·
                refine lv_if_eq (tgt := 70) hx hb dX3_leastToAddByAll_64 (by decide) (fun c_13 => ?_) (fun c_13 => ?_)
                · -- 1 eq 0 : True
                  exact absurd c_13 (by decide)
                · -- 1 eq 0 : False
                  refine lv_iload hx hb dX3_leastToAddByAll_67 (lv_at hl 0 rfl) ?_
                  refine lv_istore_n (lv' := [(3, .int (nI j4)), (4, .int (nI j4)), (2, .int (mPool L 0 n)), (1, .int (mPool L 1 n)), (0, .ref (ad 0))]) hx hb dX3_leastToAddByAll_69 rfl hl (by decide) rfl (fun ls hl => ?_)
                  refine lv_iinc (v := nI (j4 + 1)) (lv' := [(4, .int (nI (j4 + 1))), (3, .int (nI j4)), (2, .int (mPool L 0 n)), (1, .int (mPool L 1 n)), (0, .ref (ad 0))]) hx hb dX3_leastToAddByAll_70 hl (k := 1) rfl (nI_1 _) (by decide) rfl (fun ls hl => ?_)
                  refine lv_goto (tgt := 21) hx hb dX3_leastToAddByAll_73 (by decide) ?_
                  exact ih_4 (j4 + 1) (by omega) _ (by first | (simp only [cFound, c_8, c_9, (eq_true hp_10), c_11, (eq_true hp_12), c_13, reduceIte]; done) | simp [cFound, c_8, c_9, (eq_true hp_10), c_11, (eq_true hp_12), c_13])  _ _ hW hS ls (lv_sub hl [0, 1, 2, 3, 4] rfl)
              ·
                refine lv_if_eq (tgt := 70) hx hb dX3_leastToAddByAll_64 (by decide) (fun c_14 => ?_) (fun c_14 => ?_)
                · -- 0 eq 0 : True
                  refine lv_iinc (v := nI (j4 + 1)) (lv' := [(4, .int (nI (j4 + 1))), (3, .int (cFound (fsN nd g B b) (gvS gv g L n) L n j4)), (2, .int (mPool L 0 n)), (1, .int (mPool L 1 n)), (0, .ref (ad 0))]) hx hb dX3_leastToAddByAll_70 hl (k := 0) rfl (nI_1 _) (by decide) rfl (fun ls hl => ?_)
                  refine lv_goto (tgt := 21) hx hb dX3_leastToAddByAll_73 (by decide) ?_
                  exact ih_4 (j4 + 1) (by omega) _ (by first | (simp only [cFound, c_8, c_9, (eq_true hp_10), c_11, (eq_false hp_12), c_14, reduceIte]; done) | simp [cFound, c_8, c_9, (eq_true hp_10), c_11, (eq_false hp_12), c_14])  _ _ hW hS ls (lv_sub hl [0, 1, 2, 3, 4] rfl)
                · -- 0 eq 0 : False
                  exact absurd c_14 (by decide)
          ·
            refine lv_if_eq (tgt := 70) hx hb dX3_leastToAddByAll_50 (by decide) (fun c_15 => ?_) (fun c_15 => ?_)
            · -- 0 eq 0 : True
              refine lv_iinc (v := nI (j4 + 1)) (lv' := [(4, .int (nI (j4 + 1))), (3, .int (cFound (fsN nd g B b) (gvS gv g L n) L n j4)), (2, .int (mPool L 0 n)), (1, .int (mPool L 1 n)), (0, .ref (ad 0))]) hx hb dX3_leastToAddByAll_70 hl (k := 0) rfl (nI_1 _) (by decide) rfl (fun ls hl => ?_)
              refine lv_goto (tgt := 21) hx hb dX3_leastToAddByAll_73 (by decide) ?_
              exact ih_4 (j4 + 1) (by omega) _ (by first | (simp only [cFound, c_8, c_9, (eq_false hp_10), c_15, reduceIte]; done) | simp [cFound, c_8, c_9, (eq_false hp_10), c_15])  _ _ hW hS ls (lv_sub hl [0, 1, 2, 3, 4] rfl)
            · -- 0 eq 0 : False
              exact absurd c_15 (by decide)
  exact loop_4 (2 ^ n) 0 (by omega) _ rfl  _ _ hW hS ls (lv_sub hl [0, 1, 2, 3, 4] rfl)

set_option maxHeartbeats 4000000 in
set_option maxRecDepth 100000 in
theorem c_X3_leastWith_step (l : Launch) (D : va_G) (cs : Nat → ClassId) (A : Nat → Prop) (z0 : Nat) (sa : Nat → Nat) (ad : Nat → Nat) (g : Nat → Int32) (L B : Nat → Nat → Int32) (n b : Nat) (y1 y2 : Int32) (N1 N2 : Nat) (nd : Nat → Int32) (gv : Nat → Nat → Int32) (hn : n ≤ 12) (hb5 : b ≤ 5) (hN1 : n ≤ N1 ∧ N1 < 1000) (hN2 : b ≤ N2 ∧ N2 < 1000) (pool o : Int32) (d next : Nat) (hnx : next ≤ 12) (ch best : Int32) (ihd : ∀ (nx : Nat) (ch9 be9 : Int32), next < nx → nx ≤ 12 → Met l yX3_leastWith wsX3_leastWith ({ frames := 4 + d, cells := 0, slots := 0, locals := 100 + 60 * d } : Room) (va_Pc [.ref (ad 3), .int pool, .int o, .int (nI nx), .int ch9, .int be9] (pC D cs A z0 sa (lvC n b) ad (ctC cs ad z0 g L B n b y1 y2 N1 N2 nd gv))) (va_Qi (fun (r9 : Int32) (_ : Unit) => r9 = cLW nd gv pool o d nx ch9 be9) (fun _ _ => True) (fun _ => False)) 0 0 (fun _ => False)) : Met l yX3_leastWith wsX3_leastWith ({ frames := 4 + (d + 1), cells := 0, slots := 0, locals := 100 + 60 * (d + 1) } : Room) (va_Pc [.ref (ad 3), .int pool, .int o, .int (nI next), .int ch, .int best] (pC D cs A z0 sa (lvC n b) ad (ctC cs ad z0 g L B n b y1 y2 N1 N2 nd gv))) (va_Qi (fun (r9 : Int32) (_ : Unit) => r9 = cLW nd gv pool o (d + 1) next ch best) (fun _ _ => True) (fun _ => False)) 0 0 (fun _ => False) := by
  refine Met.ofW (cc := cX3_leastWith) (maxL := 8) (ret := (some .int)) (by decide) rfl ?_
  intro p e s m args below meth c s₁ BB hml hv
  obtain ⟨rfl, hv⟩ := hv
  obtain ⟨hE, hW⟩ := hv
  have hK := hE.1
  have hx := BB.exec
  have hb := BB.bytes
  have hr := BB.returns
  have hts := atoms_spec (ws := wsX3_leastWith) BB.pre
  have hown : s.vm.findClass RX3 = some m.cls := findClass_of_methodNamed BB.named
  have hlocks := BB.notSynchronized
  have hS : va_S (fun _ => False) s.heap s.heap [] := va_S.rf
  have hl := lv_entry ([.ref (ad 3), .int pool, .int o, .int (nI next), .int ch, .int best]) (n := 8) (Nat.le_of_ble_eq_true rfl)
  rw [lg_entry_eq]
  generalize (lg_sl ([.ref (ad 3), .int pool, .int o, .int (nI next), .int ch, .int best]) ++ List.replicate (8 - (lg_sl ([.ref (ad 3), .int pool, .int o, .int (nI next), .int ch, .int best])).length) Slot.unset).toArray = ls at hl ⊢
  have hl : lv_has ls 8 [(0, .ref (ad 3)), (1, .int pool), (2, .int o), (3, .int (nI next)), (4, .int ch), (5, .int best)] := hl
  refine lv_iload hx hb dX3_leastWith_0 (lv_at hl 4 rfl) ?_
  refine lv_iload hx hb dX3_leastWith_2 (lv_at hl 5 rfl) ?_
  refine va_calli (va_runS (As := [.int ch, .int best]) (rest := []) ⟨hx, hb, hml, hown, hts⟩ (c_X3_isLess l ch best) (va_cwS 2 hts gX3_leastWith_X3_isLess rfl rfl rfl (by decide +kernel) ⟨(show 2 + 1 ≤ 4 + (d + 1) by omega), (show 8 + (3 + 11) + 44 ≤ 100 + 60 * (d + 1) by omega)⟩) ⟨pT_fb, fun U hU hV => ⟨rfl, trivial⟩⟩ rfl rfl hl.1 rfl (lv_room (Nat.le_of_ble_eq_true rfl)) dX3_leastWith_4 ⟨Nat.zero_le _, Nat.zero_le _⟩) hS (fun _ _ h => h.elim) (fun _ h => h.elim) (fun r_1 u t9 H locs ht hvm hw _ hz1 hk1 hS => ?_)
  have hW := hW.kept hk1
  rcases hw with ⟨rfl, hp_1⟩ | ⟨rfl, hp_1⟩
  ·
    refine lv_if_ne (tgt := 13) hx hb dX3_leastWith_7 (by decide) (fun c_2 => ?_) (fun c_2 => ?_)
    · -- 1 ne 0 : True
      refine lv_aload_n hx hb dX3_leastWith_13 rfl (lv_at hl 0 rfl) ?_
      refine lv_iload_n hx hb dX3_leastWith_14 rfl (lv_at hl 1 rfl) ?_
      refine lv_iload hx hb dX3_leastWith_15 (lv_at hl 4 rfl) ?_
      refine lv_ior hx hb dX3_leastWith_17 ?_
      refine va_calli (va_runV (As := [.int (pool ||| ch)]) (rest := []) ⟨hx, hb, hml, hown, hts⟩ (c_X2_allHold l D cs A z0 sa ad g L B n b y1 y2 N1 N2 nd gv hn hb5 hN1 hN2 (pool ||| ch)) (cwV 1 hts gX3_leastWith_X2_allHold rfl rfl rfl (by decide +kernel) ⟨(show 2 + 1 ≤ 4 + (d + 1) by omega), (show 8 + (3 + 11) + 48 ≤ 100 + 60 * (d + 1) by omega)⟩) ⟨pC_fb, wb_recv hK hW (r := 3) (lvC_0 (by decide)) (ci := 3) rfl rfl, fun U hU hV => ⟨rfl, hE.at (fun _ h => h.elim) hS hV hU, by rw [hU]; exact hW⟩⟩ rfl rfl hl.1 rfl (lv_room (Nat.le_of_ble_eq_true rfl)) dX3_leastWith_18 ⟨Nat.zero_le _, Nat.zero_le _⟩) hS (fun _ _ h => h.elim) (fun _ h => h.elim) (fun r_3 u t9 H locs ht hvm hw _ hz1 hk1 hS => ?_)
      have hW := hW.kept hk1
      rcases hw with ⟨rfl, hp_3⟩ | ⟨rfl, hp_3⟩
      ·
        refine lv_if_eq (tgt := 27) hx hb dX3_leastWith_21 (by decide) (fun c_4 => ?_) (fun c_4 => ?_)
        · -- 1 eq 0 : True
          exact absurd c_4 (by decide)
        · -- 1 eq 0 : False
          refine lv_iload hx hb dX3_leastWith_24 (lv_at hl 4 rfl) ?_
          exact W.iret (v := ch) hx hb hr (fun t9 ht9 hW9 => ⟨⟨_, (), rfl, (by simp [cLW, (eq_true hp_1), c_2, (eq_true hp_3), c_4]), trivial⟩, hS.F ht9⟩) hS.2.2 dX3_leastWith_26
      ·
        refine lv_if_eq (tgt := 27) hx hb dX3_leastWith_21 (by decide) (fun c_5 => ?_) (fun c_5 => ?_)
        · -- 0 eq 0 : True
          refine lv_iload hx hb dX3_leastWith_27 (lv_at hl 5 rfl) ?_
          refine lv_istore (lv' := [(6, .int best), (0, .ref (ad 3)), (1, .int pool), (2, .int o), (3, .int (nI next)), (4, .int ch), (5, .int best)]) hx hb dX3_leastWith_29 hl (by decide) rfl (fun ls hl => ?_)
          refine lv_iload_n hx hb dX3_leastWith_31 rfl (lv_at hl 4 rfl) ?_
          refine lv_istore (lv' := [(7, .int (nI next)), (6, .int best), (0, .ref (ad 3)), (1, .int pool), (2, .int o), (3, .int (nI next)), (4, .int ch), (5, .int best)]) hx hb dX3_leastWith_32 hl (by decide) rfl (fun ls hl => ?_)
          have loop_6 : ∀ (k6 j6 : Nat), j6 + k6 = (12 - next) → ∀ (a6_0 : Int32), a6_0 = (cLWl (cLW nd gv pool o d) o next ch j6 best) → ∀ (H : Heap) (locs : List Loc), wP D A (lvC n b) ad (ctC cs ad z0 g L B n b y1 y2 N1 N2 nd gv) H → va_S (fun _ => False) s.heap H locs → ∀ (ls : Array Slot), lv_has ls 8 [(7, .int (nI (next + j6))), (6, .int a6_0), (0, .ref (ad 3)), (1, .int pool), (2, .int o), (3, .int (nI next)), (4, .int ch), (5, .int best)] → W p l e ({ frames := 4 + (d + 1), cells := 0, slots := 0, locals := 100 + 60 * (d + 1) } : Room) s m (([.ref (ad 3), .int pool, .int o, .int (nI next), .int ch, .int best] : List Value).toArray) below meth c H locs 0 0 (MQ below (va_Qi (fun (r9 : Int32) (_ : Unit) => r9 = cLW nd gv pool o (d + 1) next ch best) (fun _ _ => True) (fun _ => False)) (([.ref (ad 3), .int pool, .int o, .int (nI next), .int ch, .int best] : List Value).toArray) s 0 0 (fun _ => False)) (F0 m 34 ls []) := by
            intro k6
            induction k6 with
            | zero =>
              intro j6 hj_6 a6_0 ea6_0 H locs hW hS ls hl
              subst ea6_0
              obtain rfl : (12 - next) = j6 := by omega
              refine lv_iload hx hb dX3_leastWith_34 (lv_at hl 0 rfl) ?_
              refine lv_bipush (v := 12) hx hb dX3_leastWith_36 (by decide) ?_
              refine lv_icmp_ge (tgt := 77) hx hb dX3_leastWith_38 (by decide) (fun c_7 => ?_) (fun c_7 => ?_)
              · -- nI (next + (12 - next)) ge 12 : True
                refine lv_iload hx hb dX3_leastWith_77 (lv_at hl 1 rfl) ?_
                exact W.iret (v := (cLWl (cLW nd gv pool o d) o next ch (12 - next) best)) hx hb hr (fun t9 ht9 hW9 => ⟨⟨_, (), rfl, (by simp [cLW, (eq_true hp_1), c_2, (eq_false hp_3), c_5, c_7]), trivial⟩, hS.F ht9⟩) hS.2.2 dX3_leastWith_79
              · -- nI (next + (12 - next)) ge 12 : False
                exact absurd (by rw [show next + (12 - next) = 12 by omega]; exact Int32.le_refl _) c_7
            | succ k6 ih_6 =>
              intro j6 hj_6 a6_0 ea6_0 H locs hW hS ls hl
              subst ea6_0
              refine lv_iload hx hb dX3_leastWith_34 (lv_at hl 0 rfl) ?_
              refine lv_bipush (v := 12) hx hb dX3_leastWith_36 (by decide) ?_
              refine lv_icmp_ge (tgt := 77) hx hb dX3_leastWith_38 (by decide) (fun c_8 => ?_) (fun c_8 => ?_)
              · -- nI (next + j6) ge 12 : True
                exact absurd (show nI 12 ≤ _ from c_8) (nI_ge (by omega) (by omega))
              · -- nI (next + j6) ge 12 : False
                refine lv_iload_n hx hb dX3_leastWith_41 rfl (lv_at hl 4 rfl) ?_
                refine lv_iconst (v := 1) hx hb dX3_leastWith_42 (by decide) ?_
                refine lv_iload hx hb dX3_leastWith_43 (lv_at hl 0 rfl) ?_
                refine lv_ishl hx hb dX3_leastWith_45 ?_
                refine lv_iand hx hb dX3_leastWith_46 ?_
                refine lv_if_eq (tgt := 71) hx hb dX3_leastWith_47 (by decide) (fun c_9 => ?_) (fun c_9 => ?_)
                · -- o &&& ((1 : Int32) <<< ((nI (next + j6)) &&& 31)) eq 0 : True
                  refine lv_iinc (v := nI ((next + j6) + 1)) (lv' := [(7, .int (nI ((next + j6) + 1))), (6, .int (cLWl (cLW nd gv pool o d) o next ch j6 best)), (0, .ref (ad 3)), (1, .int pool), (2, .int o), (3, .int (nI next)), (4, .int ch), (5, .int best)]) hx hb dX3_leastWith_71 hl (k := 0) rfl (nI_1 _) (by decide) rfl (fun ls hl => ?_)
                  refine lv_goto (tgt := 34) hx hb dX3_leastWith_74 (by decide) ?_
                  exact ih_6 (j6 + 1) (by omega) _ (by first | (simp only [cLWl, (eq_true hp_1), c_2, (eq_false hp_3), c_5, c_8, c_9, reduceIte]; done) | simp [cLWl, (eq_true hp_1), c_2, (eq_false hp_3), c_5, c_8, c_9])  _ _ hW hS ls (lv_sub hl [0, 1, 2, 3, 4, 5, 6, 7] rfl)
                · -- o &&& ((1 : Int32) <<< ((nI (next + j6)) &&& 31)) eq 0 : False
                  refine lv_aload_n hx hb dX3_leastWith_50 rfl (lv_at hl 2 rfl) ?_
                  refine lv_iload_n hx hb dX3_leastWith_51 rfl (lv_at hl 3 rfl) ?_
                  refine lv_iload_n hx hb dX3_leastWith_52 rfl (lv_at hl 4 rfl) ?_
                  refine lv_iload hx hb dX3_leastWith_53 (lv_at hl 0 rfl) ?_
                  refine lv_iconst (v := 1) hx hb dX3_leastWith_55 (by decide) ?_
                  refine lv_iadd hx hb dX3_leastWith_56 ?_
                  rw [nI_1]
                  refine lv_iload hx hb dX3_leastWith_57 (lv_at hl 6 rfl) ?_
                  refine lv_iconst (v := 1) hx hb dX3_leastWith_59 (by decide) ?_
                  refine lv_iload hx hb dX3_leastWith_60 (lv_at hl 0 rfl) ?_
                  refine lv_ishl hx hb dX3_leastWith_62 ?_
                  refine lv_ior hx hb dX3_leastWith_63 ?_
                  refine lv_iload hx hb dX3_leastWith_64 (lv_at hl 1 rfl) ?_
                  refine va_calli (va_runS (As := [.ref (ad 3), .int pool, .int o, .int (nI ((next + j6) + 1)), .int (ch ||| ((1 : Int32) <<< ((nI (next + j6)) &&& 31))), .int (cLWl (cLW nd gv pool o d) o next ch j6 best)]) (rest := []) ⟨hx, hb, hml, hown, hts⟩ (ihd ((next + j6) + 1) (ch ||| ((1 : Int32) <<< ((nI (next + j6)) &&& 31))) (cLWl (cLW nd gv pool o d) o next ch j6 best) (by omega) (by omega)) (va_cwS 6 hts gX3_leastWith_X3_leastWith rfl rfl rfl (by decide +kernel) ⟨(show 4 + d + 1 ≤ 4 + (d + 1) by omega), (show 8 + (8 + 11) + (100 + 60 * d) ≤ 100 + 60 * (d + 1) by omega)⟩) ⟨pC_fb, fun U hU hV => ⟨rfl, hE.at (fun _ h => h.elim) hS hV hU, by rw [hU]; exact hW⟩⟩ rfl rfl hl.1 rfl (lv_room (Nat.le_of_ble_eq_true rfl)) dX3_leastWith_66 ⟨Nat.zero_le _, Nat.zero_le _⟩) hS (fun _ _ h => h.elim) (fun _ h => h.elim) (fun r_10 u t9 H locs ht hvm hw _ hz1 hk1 hS => ?_)
                  have hW := hW.kept hk1
                  subst hw
                  refine lv_istore (lv' := [(6, .int (cLW nd gv pool o d ((next + j6) + 1) (ch ||| ((1 : Int32) <<< ((nI (next + j6)) &&& 31))) (cLWl (cLW nd gv pool o d) o next ch j6 best))), (7, .int (nI (next + j6))), (0, .ref (ad 3)), (1, .int pool), (2, .int o), (3, .int (nI next)), (4, .int ch), (5, .int best)]) hx hb dX3_leastWith_69 hl (by decide) rfl (fun ls hl => ?_)
                  refine lv_iinc (v := nI ((next + j6) + 1)) (lv' := [(7, .int (nI ((next + j6) + 1))), (6, .int (cLW nd gv pool o d ((next + j6) + 1) (ch ||| ((1 : Int32) <<< ((nI (next + j6)) &&& 31))) (cLWl (cLW nd gv pool o d) o next ch j6 best))), (0, .ref (ad 3)), (1, .int pool), (2, .int o), (3, .int (nI next)), (4, .int ch), (5, .int best)]) hx hb dX3_leastWith_71 hl (k := 1) rfl (nI_1 _) (by decide) rfl (fun ls hl => ?_)
                  refine lv_goto (tgt := 34) hx hb dX3_leastWith_74 (by decide) ?_
                  exact ih_6 (j6 + 1) (by omega) _ (by first | (simp only [cLWl, (eq_true hp_1), c_2, (eq_false hp_3), c_5, c_8, c_9, reduceIte]; done) | simp [cLWl, (eq_true hp_1), c_2, (eq_false hp_3), c_5, c_8, c_9])  _ _ hW hS ls (lv_sub hl [0, 1, 2, 3, 4, 5, 6, 7] rfl)
          exact loop_6 ((12 - next)) 0 (by omega) _ rfl  _ _ hW hS ls (lv_sub hl [0, 1, 2, 3, 4, 5, 6, 7] rfl)
        · -- 0 eq 0 : False
          exact absurd c_5 (by decide)
    · -- 1 ne 0 : False
      exact absurd c_2 (by decide)
  ·
    refine lv_if_ne (tgt := 13) hx hb dX3_leastWith_7 (by decide) (fun c_11 => ?_) (fun c_11 => ?_)
    · -- 0 ne 0 : True
      exact absurd c_11 (by decide)
    · -- 0 ne 0 : False
      refine lv_iload hx hb dX3_leastWith_10 (lv_at hl 5 rfl) ?_
      exact W.iret (v := best) hx hb hr (fun t9 ht9 hW9 => ⟨⟨_, (), rfl, (by simp [cLW, (eq_false hp_1), c_11]), trivial⟩, hS.F ht9⟩) hS.2.2 dX3_leastWith_12

theorem c_X3_leastWith_all (l : Launch) (D : va_G) (cs : Nat → ClassId) (A : Nat → Prop) (z0 : Nat) (sa : Nat → Nat) (ad : Nat → Nat) (g : Nat → Int32) (L B : Nat → Nat → Int32) (n b : Nat) (y1 y2 : Int32) (N1 N2 : Nat) (nd : Nat → Int32) (gv : Nat → Nat → Int32) (hn : n ≤ 12) (hb5 : b ≤ 5) (hN1 : n ≤ N1 ∧ N1 < 1000) (hN2 : b ≤ N2 ∧ N2 < 1000) (pool o : Int32) : ∀ (d next : Nat), 12 - next < d → next ≤ 12 → ∀ (ch best : Int32), Met l yX3_leastWith wsX3_leastWith ({ frames := 4 + d, cells := 0, slots := 0, locals := 100 + 60 * d } : Room) (va_Pc [.ref (ad 3), .int pool, .int o, .int (nI next), .int ch, .int best] (pC D cs A z0 sa (lvC n b) ad (ctC cs ad z0 g L B n b y1 y2 N1 N2 nd gv))) (va_Qi (fun (r9 : Int32) (_ : Unit) => r9 = cLW nd gv pool o d next ch best) (fun _ _ => True) (fun _ => False)) 0 0 (fun _ => False) := by
  intro d
  induction d with
  | zero => intro next h; omega
  | succ d ih =>
    intro next h hnx ch best
    exact c_X3_leastWith_step l D cs A z0 sa ad g L B n b y1 y2 N1 N2 nd gv hn hb5 hN1 hN2 pool o d next hnx ch best (fun nx ch9 be9 h1 h2 => ih nx (by omega) h2 ch9 be9)

set_option maxHeartbeats 4000000 in
set_option maxRecDepth 100000 in
theorem c_X3_leastToAdd (l : Launch) (D : va_G) (cs : Nat → ClassId) (A : Nat → Prop) (z0 : Nat) (sa : Nat → Nat) (ad : Nat → Nat) (g : Nat → Int32) (L B : Nat → Nat → Int32) (n b : Nat) (y1 y2 : Int32) (N1 N2 : Nat) (nd : Nat → Int32) (gv : Nat → Nat → Int32) (hn : n ≤ 12) (hb5 : b ≤ 5) (hN1 : n ≤ N1 ∧ N1 < 1000) (hN2 : b ≤ N2 ∧ N2 < 1000) : Met l yX3_leastToAdd wsX3_leastToAdd ({ frames := 18, cells := 0, slots := 0, locals := 907 } : Room) (va_Pc [.ref (ad 0)] (pC D cs A z0 sa (lvC n b) ad (ctC cs ad z0 g L B n b y1 y2 N1 N2 nd gv))) (va_Qi (fun (r9 : Int32) (_ : Unit) => r9 = cLW (fsN nd g B b) (gvS gv g L n) (mPool L 1 n) (mPool L 0 n) 13 0 0 (-1)) (fun _ t9 => RC D cs A z0 (ad 0) g L B n b t9.heap) A) 0 0 A := by
  refine Met.ofW (cc := cX3_leastToAdd) (maxL := 1) (ret := (some .int)) (by decide) rfl ?_
  intro p e s m args below meth c s₁ BB hml hv
  obtain ⟨rfl, hv⟩ := hv
  obtain ⟨hE, hW⟩ := hv
  have hK := hE.1
  have hx := BB.exec
  have hb := BB.bytes
  have hr := BB.returns
  have hts := atoms_spec (ws := wsX3_leastToAdd) BB.pre
  have hown : s.vm.findClass RX3 = some m.cls := findClass_of_methodNamed BB.named
  have hlocks := BB.notSynchronized
  have hS : va_S A s.heap s.heap [] := va_S.rf
  have hl := lv_entry ([.ref (ad 0)]) (n := 1) (Nat.le_of_ble_eq_true rfl)
  rw [lg_entry_eq]
  generalize (lg_sl ([.ref (ad 0)]) ++ List.replicate (1 - (lg_sl ([.ref (ad 0)])).length) Slot.unset).toArray = ls at hl ⊢
  have hl : lv_has ls 1 [(0, .ref (ad 0))] := hl
  have hf22 := hts (.fieldLink RX3 22 "Coverpool" "sheet" "LCoverpool$Sheet;") (by decide +kernel)
  have hinX3 : ∀ w ∈ u_ws RX3 TX3 8, w ∈ wsX3_leastToAdd := by decide +kernel
  refine lv_aload_n hx hb dX3_leastToAdd_0 rfl (lv_at hl 0 rfl) ?_
  refine va_callv (va_runV (As := []) (rest := []) ⟨hx, hb, hml, hown, hts⟩ (c_X3_fillSheet l D cs A z0 sa ad g L B n b y1 y2 N1 N2 nd gv hn hb5 hN1 hN2 ) (cwV 0 hts gX3_leastToAdd_X3_fillSheet rfl rfl rfl (by decide +kernel) ⟨Nat.le_of_ble_eq_true rfl, Nat.le_of_ble_eq_true rfl⟩) ⟨pC_fb, wb_recv hK hW (r := 0) (lvC_0 (by decide)) (ci := 4) rfl rfl, fun U hU hV => ⟨rfl, hE.at (fun _ h => h) hS hV hU, by rw [hU]; exact hW⟩⟩ rfl rfl hl.1 rfl (lv_room (Nat.le_of_ble_eq_true rfl)) dX3_leastToAdd_1 ⟨Nat.zero_le _, Nat.zero_le _⟩) hS (fun _ _ h => h) (fun _ h => h) (fun u t9 H locs ht hvm hw hB hz1 hk1 hS => ?_)
  have hW : wP D A (lvC n b) ad (ctC cs ad z0 g L B n b y1 y2 N1 N2 (fsN nd g B b) (gvS gv g L n)) H := by rw [← ht]; exact hB
  refine lv_aload_n hx hb dX3_leastToAdd_4 rfl (lv_at hl 0 rfl) ?_
  refine wb_get hx hb hts hinX3 hown hK hW 0 (lvC_0 (by decide)) rfl rfl 2 (by decide) hf22 (fun _ h9 => h9) (v := .ref (ad 3)) rfl dX3_leastToAdd_5 ?_
  refine lv_aload_n hx hb dX3_leastToAdd_8 rfl (lv_at hl 0 rfl) ?_
  refine lv_iconst (v := 1) hx hb dX3_leastToAdd_9 (by decide) ?_
  refine va_calli (va_runV (As := [.int 1]) (rest := [.ref (ad 3)]) ⟨hx, hb, hml, hown, hts⟩ (c_X3_loansThatAre l D cs A z0 sa ad g L B n b y1 y2 N1 N2 (fsN nd g B b) (gvS gv g L n) hn hb5 hN1 hN2 1) (cwV 1 hts gX3_leastToAdd_X3_loansThatAre rfl rfl rfl (by decide +kernel) ⟨Nat.le_of_ble_eq_true rfl, Nat.le_of_ble_eq_true rfl⟩) ⟨pC_fb, wb_recv hK hW (r := 0) (lvC_0 (by decide)) (ci := 4) rfl rfl, fun U hU hV => ⟨rfl, hE.at (fun _ h => h) hS hV hU, by rw [hU]; exact hW⟩⟩ rfl rfl hl.1 rfl (lv_room (Nat.le_of_ble_eq_true rfl)) dX3_leastToAdd_10 ⟨Nat.zero_le _, Nat.zero_le _⟩) hS (fun _ _ h => h.elim) (fun _ h => h.elim) (fun r_2 u t9 H locs ht hvm hw _ hz1 hk1 hS => ?_)
  have hW := hW.kept hk1
  subst hw
  refine lv_aload_n hx hb dX3_leastToAdd_13 rfl (lv_at hl 0 rfl) ?_
  refine lv_iconst (v := 0) hx hb dX3_leastToAdd_14 (by decide) ?_
  refine va_calli (va_runV (As := [.int 0]) (rest := [.int (mPool L 1 n), .ref (ad 3)]) ⟨hx, hb, hml, hown, hts⟩ (c_X3_loansThatAre l D cs A z0 sa ad g L B n b y1 y2 N1 N2 (fsN nd g B b) (gvS gv g L n) hn hb5 hN1 hN2 0) (cwV 1 hts gX3_leastToAdd_X3_loansThatAre rfl rfl rfl (by decide +kernel) ⟨Nat.le_of_ble_eq_true rfl, Nat.le_of_ble_eq_true rfl⟩) ⟨pC_fb, wb_recv hK hW (r := 0) (lvC_0 (by decide)) (ci := 4) rfl rfl, fun U hU hV => ⟨rfl, hE.at (fun _ h => h) hS hV hU, by rw [hU]; exact hW⟩⟩ rfl rfl hl.1 rfl (lv_room (Nat.le_of_ble_eq_true rfl)) dX3_leastToAdd_15 ⟨Nat.zero_le _, Nat.zero_le _⟩) hS (fun _ _ h => h.elim) (fun _ h => h.elim) (fun r_3 u t9 H locs ht hvm hw _ hz1 hk1 hS => ?_)
  have hW := hW.kept hk1
  subst hw
  refine lv_iconst (v := 0) hx hb dX3_leastToAdd_18 (by decide) ?_
  refine lv_iconst (v := 0) hx hb dX3_leastToAdd_19 (by decide) ?_
  refine lv_iconst (v := (-1)) hx hb dX3_leastToAdd_20 (by decide) ?_
  refine va_calli (va_runS (As := [.ref (ad 3), .int (mPool L 1 n), .int (mPool L 0 n), .int (nI 0), .int 0, .int (-1)]) (rest := []) ⟨hx, hb, hml, hown, hts⟩ (c_X3_leastWith_all l D cs A z0 sa ad g L B n b y1 y2 N1 N2 (fsN nd g B b) (gvS gv g L n) hn hb5 hN1 hN2 (mPool L 1 n) (mPool L 0 n) 13 0 (by decide) (by decide) 0 (-1)) (va_cwS 6 hts gX3_leastToAdd_X3_leastWith rfl rfl rfl (by decide +kernel) ⟨Nat.le_of_ble_eq_true rfl, Nat.le_of_ble_eq_true rfl⟩) ⟨pC_fb, fun U hU hV => ⟨rfl, hE.at (fun _ h => h) hS hV hU, by rw [hU]; exact hW⟩⟩ rfl rfl hl.1 rfl (lv_room (Nat.le_of_ble_eq_true rfl)) dX3_leastToAdd_21 ⟨Nat.zero_le _, Nat.zero_le _⟩) hS (fun _ _ h => h.elim) (fun _ h => h.elim) (fun r_4 u t9 H locs ht hvm hw _ hz1 hk1 hS => ?_)
  have hW := hW.kept hk1
  subst hw
  exact W.iret (v := cLW (fsN nd g B b) (gvS gv g L n) (mPool L 1 n) (mPool L 0 n) 13 0 0 (-1)) hx hb hr (fun t9 ht9 hW9 => ⟨⟨_, (), rfl, (by rfl), (by dsimp only; rw [ht9]; exact ⟨ad, y1, y2, N1, N2, (fsN nd g B b), (gvS gv g L n), rfl, hN1, hN2, hW⟩)⟩, hS.F ht9⟩) hS.2.2 dX3_leastToAdd_24
