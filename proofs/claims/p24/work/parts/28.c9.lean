set_option maxHeartbeats 4000000 in
set_option maxRecDepth 100000 in
theorem c_X3_addLoan (l : Launch) (hst : l.stackTraces = false) (D : va_G) (cs : Nat → ClassId) (A : Nat → Prop) (z0 : Nat) (sa : Nat → Nat) (ad : Nat → Nat) (g : Nat → Int32) (L B : Nat → Nat → Int32) (n b : Nat) (y1 y2 : Int32) (N1 N2 : Nat) (nd : Nat → Int32) (gv : Nat → Nat → Int32) (hn : n ≤ 12) (hb5 : b ≤ 5) (hN1 : n ≤ N1 ∧ N1 < 1000) (hN2 : b ≤ N2 ∧ N2 < 1000) (x : Int32) (y : Int32) (z : Int32) (w : Int32) (hz : L 4 n = 0 ∧ L 5 n = 0) : vx_Met l yX3_addLoan wsX3_addLoan ({ frames := 12, cells := 2, slots := 30, locals := 400 } : Room) (va_Pc [.ref (ad 0), .int x, .int y, .int z, .int w] (pC D cs A z0 sa (lvC n b) ad (ctC cs ad z0 g L B n b y1 y2 N1 N2 nd gv))) (va_Qi (fun (r9 : Int32) (_ : Unit) => kAddLoan g n x y z w = 0 ∧ r9 = nI n) (fun _ t9 => RC D cs A z0 (ad 0) g (addL L n x y z w) B (n + 1) b t9.heap) A) (vx_X (fun (_ : Unit) => True) (fun E9 _ t9 => ((kAddLoan g n x y z w = 1 ∧ E9 = xA) ∨ (kAddLoan g n x y z w = 2 ∧ E9 = xS)) ∧ wP D A (lvC n b) ad (ctC cs ad z0 g L B n b y1 y2 N1 N2 nd gv) t9.heap) A) 2 30 A := by
  refine vx_ofW (cc := cX3_addLoan) (maxL := 5) (ret := (some .int)) (by decide) rfl ?_
  intro p e s m args below meth c s₁ BB hml htab hv
  obtain ⟨rfl, hv⟩ := hv
  obtain ⟨hE, hW⟩ := hv
  have hK := hE.1
  have hx := BB.exec
  have hb := BB.bytes
  have hr := BB.returns
  have hts := atoms_spec (ws := wsX3_addLoan) BB.pre
  have hown : s.vm.findClass RX3 = some m.cls := findClass_of_methodNamed BB.named
  have hlocks := BB.notSynchronized
  have hS : va_S A s.heap s.heap [] := va_S.rf
  have hl := lv_entry ([.ref (ad 0), .int x, .int y, .int z, .int w]) (n := 5) (Nat.le_of_ble_eq_true rfl)
  rw [lg_entry_eq]
  generalize (lg_sl ([.ref (ad 0), .int x, .int y, .int z, .int w]) ++ List.replicate (5 - (lg_sl ([.ref (ad 0), .int x, .int y, .int z, .int w])).length) Slot.unset).toArray = ls at hl ⊢
  have hl : lv_has ls 5 [(0, .ref (ad 0)), (1, .int x), (2, .int y), (3, .int z), (4, .int w)] := hl
  have hf10 := hts (.fieldLink RX3 10 "Coverpool" "loans" "Ljava/util/ArrayList;") (by decide +kernel)
  have hinX3 : ∀ w ∈ u_ws RX3 TX3 8, w ∈ wsX3_addLoan := by decide +kernel
  refine lv_iload_n hx hb dX3_addLoan_0 rfl (lv_at hl 1 rfl) ?_
  refine lv_iconst (v := 1) hx hb dX3_addLoan_1 (by decide) ?_
  refine lv_sipush (v := 10000) hx hb dX3_addLoan_2 (by decide) ?_
  by_cases hp_1 : wi x 1 10000
  ·
    refine va_callv (va_runS (As := [.int x, .int 1, .int 10000]) (rest := []) ⟨hx, hb, hml, hown, hts⟩ (c_X3_requireWithinok l x 1 10000 hp_1) (va_cwS 3 hts gX3_addLoan_X3_requireWithin rfl rfl rfl (by decide +kernel) ⟨Nat.le_of_ble_eq_true rfl, Nat.le_of_ble_eq_true rfl⟩) ⟨pT_fb, fun U hU hV => ⟨rfl, trivial⟩⟩ rfl rfl hl.1 rfl (lv_room (Nat.le_of_ble_eq_true rfl)) dX3_addLoan_5 ⟨Nat.zero_le _, Nat.zero_le _⟩) hS (fun _ _ h => h.elim) (fun _ h => h.elim) (fun u t9 H locs ht hvm hw _ hz1 hk1 hS => ?_)
    have hW := hW.kept hk1
    refine lv_iload_n hx hb dX3_addLoan_8 rfl (lv_at hl 2 rfl) ?_
    refine lv_iconst (v := 0) hx hb dX3_addLoan_9 (by decide) ?_
    refine lv_sipush (v := 20000) hx hb dX3_addLoan_10 (by decide) ?_
    by_cases hp_2 : wi y 0 20000
    ·
      refine va_callv (va_runS (As := [.int y, .int 0, .int 20000]) (rest := []) ⟨hx, hb, hml, hown, hts⟩ (c_X3_requireWithinok l y 0 20000 hp_2) (va_cwS 3 hts gX3_addLoan_X3_requireWithin rfl rfl rfl (by decide +kernel) ⟨Nat.le_of_ble_eq_true rfl, Nat.le_of_ble_eq_true rfl⟩) ⟨pT_fb, fun U hU hV => ⟨rfl, trivial⟩⟩ rfl rfl hl.1 rfl (lv_room (Nat.le_of_ble_eq_true rfl)) dX3_addLoan_13 ⟨Nat.zero_le _, Nat.zero_le _⟩) hS (fun _ _ h => h.elim) (fun _ h => h.elim) (fun u t9 H locs ht hvm hw _ hz1 hk1 hS => ?_)
      have hW := hW.kept hk1
      refine lv_iload_n hx hb dX3_addLoan_16 rfl (lv_at hl 3 rfl) ?_
      refine lv_iconst (v := 1) hx hb dX3_addLoan_17 (by decide) ?_
      refine lv_iconst (v := 5) hx hb dX3_addLoan_18 (by decide) ?_
      by_cases hp_3 : wi z 1 5
      ·
        refine va_callv (va_runS (As := [.int z, .int 1, .int 5]) (rest := []) ⟨hx, hb, hml, hown, hts⟩ (c_X3_requireWithinok l z 1 5 hp_3) (va_cwS 3 hts gX3_addLoan_X3_requireWithin rfl rfl rfl (by decide +kernel) ⟨Nat.le_of_ble_eq_true rfl, Nat.le_of_ble_eq_true rfl⟩) ⟨pT_fb, fun U hU hV => ⟨rfl, trivial⟩⟩ rfl rfl hl.1 rfl (lv_room (Nat.le_of_ble_eq_true rfl)) dX3_addLoan_19 ⟨Nat.zero_le _, Nat.zero_le _⟩) hS (fun _ _ h => h.elim) (fun _ h => h.elim) (fun u t9 H locs ht hvm hw _ hz1 hk1 hS => ?_)
        have hW := hW.kept hk1
        refine lv_aload_n hx hb dX3_addLoan_22 rfl (lv_at hl 0 rfl) ?_
        refine lv_iload hx hb dX3_addLoan_23 (lv_at hl 4 rfl) ?_
        by_cases hp_4 : dueOk g w
        ·
          refine va_callv (va_runV (As := [.int w]) (rest := []) ⟨hx, hb, hml, hown, hts⟩ (c_X3_requireDueAheadok l D cs A z0 sa ad g L B n b y1 y2 N1 N2 nd gv hn hb5 hN1 hN2 w hp_4) (cwV 1 hts gX3_addLoan_X3_requireDueAhead rfl rfl rfl (by decide +kernel) ⟨Nat.le_of_ble_eq_true rfl, Nat.le_of_ble_eq_true rfl⟩) ⟨pC_fb, wb_recv hK hW (r := 0) (lvC_0 (by decide)) (ci := 4) rfl rfl, fun U hU hV => ⟨rfl, hE.at (fun _ h => h) hS hV hU, by rw [hU]; exact hW⟩⟩ rfl rfl hl.1 rfl (lv_room (Nat.le_of_ble_eq_true rfl)) dX3_addLoan_25 ⟨Nat.zero_le _, Nat.zero_le _⟩) hS (fun _ _ h => h.elim) (fun _ h => h.elim) (fun u t9 H locs ht hvm hw _ hz1 hk1 hS => ?_)
          have hW := hW.kept hk1
          refine lv_aload_n hx hb dX3_addLoan_28 rfl (lv_at hl 0 rfl) ?_
          refine wb_get hx hb hts hinX3 hown hK hW 0 (lvC_0 (by decide)) rfl rfl 0 (by decide) hf10 (fun _ h9 => h9) (v := .ref (ad 1)) rfl dX3_addLoan_29 ?_
          refine va_calli (va_runV (As := []) (rest := []) ⟨hx, hb, hml, hown, hts⟩ (c_Jx4a65c_size_8abf51 l D cs A z0 sa ad g L B n b y1 y2 N1 N2 nd gv hn hb5 hN1 hN2 ) (cwV 0 hts gX3_addLoan_Jx4a65c_size_8abf5 rfl rfl rfl (by decide +kernel) ⟨Nat.le_of_ble_eq_true rfl, Nat.le_of_ble_eq_true rfl⟩) ⟨pC_fb, wb_recv hK hW (r := 1) (lvC_0 (by decide)) (ci := 0) rfl rfl, fun U hU hV => ⟨rfl, hE.at (fun _ h => h) hS hV hU, by rw [hU]; exact hW⟩⟩ rfl rfl hl.1 rfl (lv_room (Nat.le_of_ble_eq_true rfl)) dX3_addLoan_32 ⟨Nat.zero_le _, Nat.zero_le _⟩) hS (fun _ _ h => h.elim) (fun _ h => h.elim) (fun r_5 u t9 H locs ht hvm hw _ hz1 hk1 hS => ?_)
          have hW := hW.kept hk1
          subst hw
          refine lv_bipush (v := 12) hx hb dX3_addLoan_35 (by decide) ?_
          refine lv_icmp_lt (tgt := 50) hx hb dX3_addLoan_37 (by decide) (fun c_6 => ?_) (fun c_6 => ?_)
          · -- nI n lt 12 : True
            refine lv_aload_n hx hb dX3_addLoan_50 rfl (lv_at hl 0 rfl) ?_
            refine wb_get hx hb hts hinX3 hown hK hW 0 (lvC_0 (by decide)) rfl rfl 0 (by decide) hf10 (fun _ h9 => h9) (v := .ref (ad 1)) rfl dX3_addLoan_51 ?_
            have hlt : n < 12 := nI_ltI (by omega) (by omega) |>.mp (show nI n < nI 12 from c_6)
            refine wb_new (ci := 2) (fs := [.int 0, .int 0, .int 0, .int 0, .int 0, .int 0]) hx hb hts (T := TX1) (N := 6) (C := RX1) (by decide +kernel) tyX1 tyX1_ok hown (hts (.classLink RX3 61 RX1) (by decide +kernel)) (hts (.instantiable RX1 6) (by decide +kernel)) (hts (.initialized RX1) (by decide +kernel)) hK hW hS hE.2.1 (20 + n) (by unfold lvC; omega) (by omega) rfl (fun j hj => by rcases (show j = 0 ∨ j = 1 ∨ j = 2 ∨ j = 3 ∨ j = 4 ∨ j = 5 by omega) with rfl | rfl | rfl | rfl | rfl | rfl <;> rfl) (Nat.le_of_ble_eq_true rfl) (Nat.le_of_ble_eq_true rfl) dX3_addLoan_54 (fun q1 H hW hS => ?_)
            have hW := new1 x y z w hlt hb5 hW
            have hz0 : va_up ad (20 + n) q1 0 = ad 0 := va_up_ne _ _ (by omega)
            have hz1 : ad 1 = va_up ad (20 + n) q1 1 := (va_up_ne _ _ (by omega)).symm
            have hz2 : q1 = va_up ad (20 + n) q1 (20 + n) := (va_up_self _ _ _).symm
            generalize va_up ad (20 + n) q1 = ad9 at hW hz0 hz1 hz2
            rw [hz1]
            rw [hz2]
            refine lv_dup hx hb dX3_addLoan_57 rfl ?_
            refine lv_iload_n hx hb dX3_addLoan_58 rfl (lv_at hl 1 rfl) ?_
            refine lv_iload_n hx hb dX3_addLoan_59 rfl (lv_at hl 2 rfl) ?_
            refine lv_iload_n hx hb dX3_addLoan_60 rfl (lv_at hl 3 rfl) ?_
            refine lv_iload hx hb dX3_addLoan_61 (lv_at hl 4 rfl) ?_
            refine va_callv (va_runI (As := [.int x, .int y, .int z, .int w]) (rest := [.ref (ad9 (20 + n)), .ref (ad9 1)]) ⟨hx, hb, hml, hown, hts⟩ (c_X1_init l D cs A z0 sa (lvA n b (20 + n)) ad9 (va_up (ctC cs ad9 z0 g (addL L n x y z w) B n b y1 y2 N1 N2 nd gv) (20 + n) (.inr (2, [.int 0, .int 0, .int 0, .int 0, .int 0, .int 0]))) (20 + n) x y z w (Or.inr rfl) (va_up_self _ _ _)) (cwI 4 hts gX3_addLoan_X1_init rfl rfl rfl (hts (.initialized RX1) (by decide +kernel)) (hts (.methodLink RX3 63 yX1_init) (by decide +kernel)) (hts (.instanceMethod yX1_init) (by decide +kernel)) rfl (by decide +kernel) ⟨Nat.le_of_ble_eq_true rfl, Nat.le_of_ble_eq_true rfl⟩) ⟨pC_fb, fun U hU hV => ⟨rfl, hE.at (fun _ h => h) hS hV hU, by rw [hU]; exact hW⟩⟩ rfl rfl hl.1 rfl (lv_room (Nat.le_of_ble_eq_true rfl)) dX3_addLoan_63 ⟨Nat.le_of_ble_eq_true rfl, Nat.le_of_ble_eq_true rfl⟩) hS (fun _ _ h => h) (fun _ h => h) (fun u8 t9 H locs ht hvm hw hB hz1 hk1 hS => ?_)
            rw [ht] at hB
            have hW := init1 hlt hz hB
            refine va_calli (va_runV (As := [.ref (ad9 (20 + n))]) (rest := []) ⟨hx, hb, hml, hown, hts⟩ (c_Jx4a65c_add_9ea2d l D cs A z0 sa (lvA n b (20 + n)) ad9 (ctC cs ad9 z0 g (addL L n x y z w) B n b y1 y2 N1 N2 nd gv) 1 n (if n = 0 then z0 else ad9 6) 6 N1 2 y1 (rowF ad9 20 n) (RX1, TX1, 6) (Or.inl (lvC_0 (by decide))) rfl (Lst1 hN1) (by unfold lvA lvC; omega) (by omega) rfl (Lel1 hlt) (by decide) (20 + n) _ (Or.inr rfl) (ctC_ln (by omega)) (by omega) (PO1 D cs A z0 ad9 g (addL L n x y z w) B n b (y1 + 1) y2 N2 nd gv) (fin1 hlt hb5) (inp1 hlt hb5 hN1.2)) (cwV 1 hts gX3_addLoan_Jx4a65c_add_9ea2d rfl rfl rfl (by decide +kernel) ⟨Nat.le_of_ble_eq_true rfl, Nat.le_of_ble_eq_true rfl⟩) ⟨pC_fb, wb_recv hK hW (r := 1) (Or.inl (lvC_0 (by decide))) (ci := 0) rfl rfl, fun U hU hV => ⟨rfl, hE.at (fun _ h => h) hS hV hU, by rw [hU]; exact hW⟩⟩ rfl rfl hl.1 rfl (lv_room (Nat.le_of_ble_eq_true rfl)) dX3_addLoan_66 ⟨Nat.le_of_ble_eq_true rfl, Nat.le_of_ble_eq_true rfl⟩) hS (fun _ _ h => h) (fun _ h => h) (fun r_9 u t9 H locs ht hvm hw hB hz1 hk1 hS => ?_)
            obtain ⟨ad, N1, hN1, e0, hW⟩ := hB
            rw [hz0] at e0
            rw [ht] at hW
            rw [← e0] at hl
            have hn : n + 1 ≤ 12 := by omega
            subst hw
            refine lv_pop hx hb dX3_addLoan_69 rfl ?_
            refine lv_aload_n hx hb dX3_addLoan_70 rfl (lv_at hl 0 rfl) ?_
            refine wb_get hx hb hts hinX3 hown hK hW 0 (lvC_0 (by decide)) rfl rfl 0 (by decide) hf10 (fun _ h9 => h9) (v := .ref (ad 1)) rfl dX3_addLoan_71 ?_
            refine va_calli (va_runV (As := []) (rest := []) ⟨hx, hb, hml, hown, hts⟩ (c_Jx4a65c_size_8abf51 l D cs A z0 sa ad g (addL L n x y z w) B (n + 1) b (y1 + 1) y2 N1 N2 nd gv hn hb5 hN1 hN2 ) (cwV 0 hts gX3_addLoan_Jx4a65c_size_8abf5 rfl rfl rfl (by decide +kernel) ⟨Nat.le_of_ble_eq_true rfl, Nat.le_of_ble_eq_true rfl⟩) ⟨pC_fb, wb_recv hK hW (r := 1) (lvC_0 (by decide)) (ci := 0) rfl rfl, fun U hU hV => ⟨rfl, hE.at (fun _ h => h) hS hV hU, by rw [hU]; exact hW⟩⟩ rfl rfl hl.1 rfl (lv_room (Nat.le_of_ble_eq_true rfl)) dX3_addLoan_74 ⟨Nat.le_of_ble_eq_true rfl, Nat.le_of_ble_eq_true rfl⟩) hS (fun _ _ h => h.elim) (fun _ h => h.elim) (fun r_7 u t9 H locs ht hvm hw _ hz1 hk1 hS => ?_)
            have hW := hW.kept hk1
            subst hw
            refine lv_iconst (v := 1) hx hb dX3_addLoan_77 (by decide) ?_
            refine lv_isub hx hb dX3_addLoan_78 ?_
            rw [nI_pred]
            refine W.widen (k := 2) (n := 30) (Nat.le_of_ble_eq_true rfl) (Nat.le_of_ble_eq_true rfl) ?_
            exact vx_ret (W.iret (v := nI n) hx hb hr (fun t9 ht9 hW9 => ⟨⟨_, (), rfl, ⟨kAddLoan_0 hp_1 hp_2 hp_3 hp_4 c_6, rfl⟩, by dsimp only; rw [ht9]; exact ⟨ad, (y1 + 1), y2, N1, N2, nd, gv, e0, hN1, hN2, hW⟩⟩, hS.F ht9⟩) hS.2.2 dX3_addLoan_79)
          · -- nI n lt 12 : False
            exact vx_throwS (sa := sa 56) hx hb hst hown (by decide) (by decide) (hts (.classLink RX3 54 "java/lang/IllegalStateException") (by decide +kernel)) (hts (.initialized "java/lang/IllegalStateException") (by decide +kernel)) (hE.2.2.2.2.2.2.1 (56, "there are 12 loans") (by decide)) (vx_hat (fun w h => hts w (by first | exact List.mem_cons_of_mem _ (List.mem_append_right _ h) | exact List.mem_cons_of_mem _ (List.mem_append_left _ (List.mem_append_right _ h)) | exact List.mem_cons_of_mem _ (List.mem_append_left _ (List.mem_append_left _ (List.mem_append_right _ h))))) x3s_ok (cbad_use hE.2.2.2.2.2.2.2.1)) x3s_g hE.2.2.2.2.1 hE.2.2.2.2.2.1 hS (hl.1.trans hml.symm) dX3_addLoan_40 dX3_addLoan_43 dX3_addLoan_44 dX3_addLoan_46 dX3_addLoan_49 (fun x h => (htab x h).elim) (Nat.le_of_ble_eq_true rfl) (Nat.le_of_ble_eq_true rfl) (Nat.le_of_ble_eq_true rfl) (Nat.le_of_ble_eq_true rfl) hlocks (fun t8 hvm8 hz8 hk8 => ⟨(), trivial, ⟨Or.inr (⟨kAddLoan_2 hp_1 hp_2 hp_3 hp_4 c_6, rfl⟩), hW.kept (fun q hq _ => hk8 q hq)⟩, xFA hS hz8 hk8⟩) hS.2.2 (Nat.le_of_ble_eq_true rfl) (Nat.le_of_ble_eq_true rfl)
        ·
          refine vx_callv (vx_runV (As := [.int w]) (rest := []) ⟨hx, hb, hml, hown, hts⟩ (c_X3_requireDueAheadbad l hst D cs A z0 sa ad g L B n b y1 y2 N1 N2 nd gv hn hb5 hN1 hN2 w hp_4) (cwV 1 hts gX3_addLoan_X3_requireDueAhead rfl rfl rfl (by decide +kernel) ⟨Nat.le_of_ble_eq_true rfl, Nat.le_of_ble_eq_true rfl⟩) ⟨pC_fb, wb_recv hK hW (r := 0) (lvC_0 (by decide)) (ci := 4) rfl rfl, fun U hU hV => ⟨rfl, hE.at (fun _ h => h) hS hV hU, by rw [hU]; exact hW⟩⟩ rfl rfl hl.1 rfl (lv_room (Nat.le_of_ble_eq_true rfl)) dX3_addLoan_25 ⟨Nat.le_of_ble_eq_true rfl, Nat.le_of_ble_eq_true rfl⟩) hS (fun _ _ h => h.elim) (fun _ h => h.elim) (fun _ _ h => h.elim) (fun E9 ce9 q9 u9 t9 H9 locs9 ht9 hvm9 hpx9 hbx9 hz9 hk9 hS9 hc9 hv9 hl9 => ?_) (fun u t9 H locs ht hvm hw hB hz1 hk1 hS => hw.elim)
          exact vx_out (fun x h => (htab x h).elim) hlocks hc9 hv9 hl9 (fun t8 ht8 hvm8 => ⟨(), trivial, ⟨by subst hbx9; exact Or.inl ⟨kAddLoan_1 (fun h9 => hp_4 h9.2.2.2), rfl⟩, by rw [ht8]; exact hW.kept hk9⟩, hS9.F ht8⟩) hS9.2.2 (Nat.le_of_ble_eq_true rfl) (Nat.le_of_ble_eq_true rfl)
      ·
        refine vx_callv (vx_runS (As := [.int z, .int 1, .int 5]) (rest := []) ⟨hx, hb, hml, hown, hts⟩ (c_X3_requireWithinbad l hst D cs A z0 sa z 1 5 hp_3) (va_cwS 3 hts gX3_addLoan_X3_requireWithin rfl rfl rfl (by decide +kernel) ⟨Nat.le_of_ble_eq_true rfl, Nat.le_of_ble_eq_true rfl⟩) ⟨pE_fb, fun U hU hV => ⟨rfl, hE.at (fun _ h => h) hS hV hU⟩⟩ rfl rfl hl.1 rfl (lv_room (Nat.le_of_ble_eq_true rfl)) dX3_addLoan_19 ⟨Nat.le_of_ble_eq_true rfl, Nat.le_of_ble_eq_true rfl⟩) hS (fun _ _ h => h.elim) (fun _ h => h.elim) (fun _ _ h => h.elim) (fun E9 ce9 q9 u9 t9 H9 locs9 ht9 hvm9 hpx9 hbx9 hz9 hk9 hS9 hc9 hv9 hl9 => ?_) (fun u t9 H locs ht hvm hw hB hz1 hk1 hS => hw.elim)
        exact vx_out (fun x h => (htab x h).elim) hlocks hc9 hv9 hl9 (fun t8 ht8 hvm8 => ⟨(), trivial, ⟨by subst hbx9; exact Or.inl ⟨kAddLoan_1 (fun h9 => hp_3 h9.2.2.1), rfl⟩, by rw [ht8]; exact hW.kept hk9⟩, hS9.F ht8⟩) hS9.2.2 (Nat.le_of_ble_eq_true rfl) (Nat.le_of_ble_eq_true rfl)
    ·
      refine vx_callv (vx_runS (As := [.int y, .int 0, .int 20000]) (rest := []) ⟨hx, hb, hml, hown, hts⟩ (c_X3_requireWithinbad l hst D cs A z0 sa y 0 20000 hp_2) (va_cwS 3 hts gX3_addLoan_X3_requireWithin rfl rfl rfl (by decide +kernel) ⟨Nat.le_of_ble_eq_true rfl, Nat.le_of_ble_eq_true rfl⟩) ⟨pE_fb, fun U hU hV => ⟨rfl, hE.at (fun _ h => h) hS hV hU⟩⟩ rfl rfl hl.1 rfl (lv_room (Nat.le_of_ble_eq_true rfl)) dX3_addLoan_13 ⟨Nat.le_of_ble_eq_true rfl, Nat.le_of_ble_eq_true rfl⟩) hS (fun _ _ h => h.elim) (fun _ h => h.elim) (fun _ _ h => h.elim) (fun E9 ce9 q9 u9 t9 H9 locs9 ht9 hvm9 hpx9 hbx9 hz9 hk9 hS9 hc9 hv9 hl9 => ?_) (fun u t9 H locs ht hvm hw hB hz1 hk1 hS => hw.elim)
      exact vx_out (fun x h => (htab x h).elim) hlocks hc9 hv9 hl9 (fun t8 ht8 hvm8 => ⟨(), trivial, ⟨by subst hbx9; exact Or.inl ⟨kAddLoan_1 (fun h9 => hp_2 h9.2.1), rfl⟩, by rw [ht8]; exact hW.kept hk9⟩, hS9.F ht8⟩) hS9.2.2 (Nat.le_of_ble_eq_true rfl) (Nat.le_of_ble_eq_true rfl)
  ·
    refine vx_callv (vx_runS (As := [.int x, .int 1, .int 10000]) (rest := []) ⟨hx, hb, hml, hown, hts⟩ (c_X3_requireWithinbad l hst D cs A z0 sa x 1 10000 hp_1) (va_cwS 3 hts gX3_addLoan_X3_requireWithin rfl rfl rfl (by decide +kernel) ⟨Nat.le_of_ble_eq_true rfl, Nat.le_of_ble_eq_true rfl⟩) ⟨pE_fb, fun U hU hV => ⟨rfl, hE.at (fun _ h => h) hS hV hU⟩⟩ rfl rfl hl.1 rfl (lv_room (Nat.le_of_ble_eq_true rfl)) dX3_addLoan_5 ⟨Nat.le_of_ble_eq_true rfl, Nat.le_of_ble_eq_true rfl⟩) hS (fun _ _ h => h.elim) (fun _ h => h.elim) (fun _ _ h => h.elim) (fun E9 ce9 q9 u9 t9 H9 locs9 ht9 hvm9 hpx9 hbx9 hz9 hk9 hS9 hc9 hv9 hl9 => ?_) (fun u t9 H locs ht hvm hw hB hz1 hk1 hS => hw.elim)
    exact vx_out (fun x h => (htab x h).elim) hlocks hc9 hv9 hl9 (fun t8 ht8 hvm8 => ⟨(), trivial, ⟨by subst hbx9; exact Or.inl ⟨kAddLoan_1 (fun h9 => hp_1 h9.1), rfl⟩, by rw [ht8]; exact hW.kept hk9⟩, hS9.F ht8⟩) hS9.2.2 (Nat.le_of_ble_eq_true rfl) (Nat.le_of_ble_eq_true rfl)

set_option maxHeartbeats 4000000 in
set_option maxRecDepth 100000 in
theorem c_X3_addBond (l : Launch) (hst : l.stackTraces = false) (D : va_G) (cs : Nat → ClassId) (A : Nat → Prop) (z0 : Nat) (sa : Nat → Nat) (ad : Nat → Nat) (g : Nat → Int32) (L B : Nat → Nat → Int32) (n b : Nat) (y1 y2 : Int32) (N1 N2 : Nat) (nd : Nat → Int32) (gv : Nat → Nat → Int32) (hn : n ≤ 12) (hb5 : b ≤ 5) (hN1 : n ≤ N1 ∧ N1 < 1000) (hN2 : b ≤ N2 ∧ N2 < 1000) (x : Int32) (y : Int32) (hz : B 2 b = 0 ∧ B 3 b = 0) : vx_Met l yX3_addBond wsX3_addBond ({ frames := 12, cells := 2, slots := 30, locals := 400 } : Room) (va_Pc [.ref (ad 0), .int x, .int y] (pC D cs A z0 sa (lvC n b) ad (ctC cs ad z0 g L B n b y1 y2 N1 N2 nd gv))) (va_Qi (fun (r9 : Int32) (_ : Unit) => kAddBond g b x y = 0 ∧ r9 = nI b) (fun _ t9 => RC D cs A z0 (ad 0) (upd g 1 (g 1 + x)) L (addB B b x y) n (b + 1) t9.heap) A) (vx_X (fun (_ : Unit) => True) (fun E9 _ t9 => ((kAddBond g b x y = 1 ∧ E9 = xA) ∨ (kAddBond g b x y = 2 ∧ E9 = xS)) ∧ wP D A (lvC n b) ad (ctC cs ad z0 g L B n b y1 y2 N1 N2 nd gv) t9.heap) A) 2 30 A := by
  refine vx_ofW (cc := cX3_addBond) (maxL := 3) (ret := (some .int)) (by decide) rfl ?_
  intro p e s m args below meth c s₁ BB hml htab hv
  obtain ⟨rfl, hv⟩ := hv
  obtain ⟨hE, hW⟩ := hv
  have hK := hE.1
  have hx := BB.exec
  have hb := BB.bytes
  have hr := BB.returns
  have hts := atoms_spec (ws := wsX3_addBond) BB.pre
  have hown : s.vm.findClass RX3 = some m.cls := findClass_of_methodNamed BB.named
  have hlocks := BB.notSynchronized
  have hS : va_S A s.heap s.heap [] := va_S.rf
  have hl := lv_entry ([.ref (ad 0), .int x, .int y]) (n := 3) (Nat.le_of_ble_eq_true rfl)
  rw [lg_entry_eq]
  generalize (lg_sl ([.ref (ad 0), .int x, .int y]) ++ List.replicate (3 - (lg_sl ([.ref (ad 0), .int x, .int y])).length) Slot.unset).toArray = ls at hl ⊢
  have hl : lv_has ls 3 [(0, .ref (ad 0)), (1, .int x), (2, .int y)] := hl
  have hf16 := hts (.fieldLink RX3 16 "Coverpool" "bonds" "Ljava/util/ArrayList;") (by decide +kernel)
  have hf30 := hts (.fieldLink RX3 30 "Coverpool" "cash" "I") (by decide +kernel)
  have hinX3 : ∀ w ∈ u_ws RX3 TX3 8, w ∈ wsX3_addBond := by decide +kernel
  refine lv_iload_n hx hb dX3_addBond_0 rfl (lv_at hl 1 rfl) ?_
  refine lv_iconst (v := 1) hx hb dX3_addBond_1 (by decide) ?_
  refine lv_ldc (v := 50000) hx hb hown (hts (.constant RX3 108 (50000)) (by decide +kernel)) dX3_addBond_2 ?_
  by_cases hp_1 : wi x 1 50000
  ·
    refine va_callv (va_runS (As := [.int x, .int 1, .int 50000]) (rest := []) ⟨hx, hb, hml, hown, hts⟩ (c_X3_requireWithinok l x 1 50000 hp_1) (va_cwS 3 hts gX3_addBond_X3_requireWithin rfl rfl rfl (by decide +kernel) ⟨Nat.le_of_ble_eq_true rfl, Nat.le_of_ble_eq_true rfl⟩) ⟨pT_fb, fun U hU hV => ⟨rfl, trivial⟩⟩ rfl rfl hl.1 rfl (lv_room (Nat.le_of_ble_eq_true rfl)) dX3_addBond_4 ⟨Nat.zero_le _, Nat.zero_le _⟩) hS (fun _ _ h => h.elim) (fun _ h => h.elim) (fun u t9 H locs ht hvm hw _ hz1 hk1 hS => ?_)
    have hW := hW.kept hk1
    refine lv_aload_n hx hb dX3_addBond_7 rfl (lv_at hl 0 rfl) ?_
    refine lv_iload_n hx hb dX3_addBond_8 rfl (lv_at hl 2 rfl) ?_
    by_cases hp_2 : dueOk g y
    ·
      refine va_callv (va_runV (As := [.int y]) (rest := []) ⟨hx, hb, hml, hown, hts⟩ (c_X3_requireDueAheadok l D cs A z0 sa ad g L B n b y1 y2 N1 N2 nd gv hn hb5 hN1 hN2 y hp_2) (cwV 1 hts gX3_addBond_X3_requireDueAhead rfl rfl rfl (by decide +kernel) ⟨Nat.le_of_ble_eq_true rfl, Nat.le_of_ble_eq_true rfl⟩) ⟨pC_fb, wb_recv hK hW (r := 0) (lvC_0 (by decide)) (ci := 4) rfl rfl, fun U hU hV => ⟨rfl, hE.at (fun _ h => h) hS hV hU, by rw [hU]; exact hW⟩⟩ rfl rfl hl.1 rfl (lv_room (Nat.le_of_ble_eq_true rfl)) dX3_addBond_9 ⟨Nat.zero_le _, Nat.zero_le _⟩) hS (fun _ _ h => h.elim) (fun _ h => h.elim) (fun u t9 H locs ht hvm hw _ hz1 hk1 hS => ?_)
      have hW := hW.kept hk1
      refine lv_aload_n hx hb dX3_addBond_12 rfl (lv_at hl 0 rfl) ?_
      refine wb_get hx hb hts hinX3 hown hK hW 0 (lvC_0 (by decide)) rfl rfl 1 (by decide) hf16 (fun _ h9 => h9) (v := .ref (ad 2)) rfl dX3_addBond_13 ?_
      refine va_calli (va_runV (As := []) (rest := []) ⟨hx, hb, hml, hown, hts⟩ (c_Jx4a65c_size_8abf52 l D cs A z0 sa ad g L B n b y1 y2 N1 N2 nd gv hn hb5 hN1 hN2 ) (cwV 0 hts gX3_addBond_Jx4a65c_size_8abf5 rfl rfl rfl (by decide +kernel) ⟨Nat.le_of_ble_eq_true rfl, Nat.le_of_ble_eq_true rfl⟩) ⟨pC_fb, wb_recv hK hW (r := 2) (lvC_0 (by decide)) (ci := 0) rfl rfl, fun U hU hV => ⟨rfl, hE.at (fun _ h => h) hS hV hU, by rw [hU]; exact hW⟩⟩ rfl rfl hl.1 rfl (lv_room (Nat.le_of_ble_eq_true rfl)) dX3_addBond_16 ⟨Nat.zero_le _, Nat.zero_le _⟩) hS (fun _ _ h => h.elim) (fun _ h => h.elim) (fun r_3 u t9 H locs ht hvm hw _ hz1 hk1 hS => ?_)
      have hW := hW.kept hk1
      subst hw
      refine lv_iconst (v := 5) hx hb dX3_addBond_19 (by decide) ?_
      refine lv_icmp_lt (tgt := 33) hx hb dX3_addBond_20 (by decide) (fun c_4 => ?_) (fun c_4 => ?_)
      · -- nI b lt 5 : True
        refine lv_aload_n hx hb dX3_addBond_33 rfl (lv_at hl 0 rfl) ?_
        refine wb_get hx hb hts hinX3 hown hK hW 0 (lvC_0 (by decide)) rfl rfl 1 (by decide) hf16 (fun _ h9 => h9) (v := .ref (ad 2)) rfl dX3_addBond_34 ?_
        have hlt : b < 5 := nI_ltI (by omega) (by omega) |>.mp (show nI b < nI 5 from c_4)
        refine wb_new (ci := 1) (fs := [.int 0, .int 0, .int 0, .int 0]) hx hb hts (T := TX0) (N := 4) (C := RX0) (by decide +kernel) tyX0 tyX0_ok hown (hts (.classLink RX3 111 RX0) (by decide +kernel)) (hts (.instantiable RX0 4) (by decide +kernel)) (hts (.initialized RX0) (by decide +kernel)) hK hW hS hE.2.1 (32 + b) (by unfold lvC; omega) (by omega) rfl (fun j hj => by rcases (show j = 0 ∨ j = 1 ∨ j = 2 ∨ j = 3 by omega) with rfl | rfl | rfl | rfl <;> rfl) (Nat.le_of_ble_eq_true rfl) (Nat.le_of_ble_eq_true rfl) dX3_addBond_37 (fun q1 H hW hS => ?_)
        have hW := new2 x y hn hlt hW
        have hz0 : va_up ad (32 + b) q1 0 = ad 0 := va_up_ne _ _ (by omega)
        have hz1 : ad 2 = va_up ad (32 + b) q1 2 := (va_up_ne _ _ (by omega)).symm
        have hz2 : q1 = va_up ad (32 + b) q1 (32 + b) := (va_up_self _ _ _).symm
        generalize va_up ad (32 + b) q1 = ad9 at hW hz0 hz1 hz2
        rw [hz1]
        rw [hz2]
        refine lv_dup hx hb dX3_addBond_40 rfl ?_
        refine lv_iload_n hx hb dX3_addBond_41 rfl (lv_at hl 1 rfl) ?_
        refine lv_iload_n hx hb dX3_addBond_42 rfl (lv_at hl 2 rfl) ?_
        refine va_callv (va_runI (As := [.int x, .int y]) (rest := [.ref (ad9 (32 + b)), .ref (ad9 2)]) ⟨hx, hb, hml, hown, hts⟩ (c_X0_init l D cs A z0 sa (lvA n b (32 + b)) ad9 (va_up (ctC cs ad9 z0 g L (addB B b x y) n b y1 y2 N1 N2 nd gv) (32 + b) (.inr (1, [.int 0, .int 0, .int 0, .int 0]))) (32 + b) x y (Or.inr rfl) (va_up_self _ _ _)) (cwI 2 hts gX3_addBond_X0_init rfl rfl rfl (hts (.initialized RX0) (by decide +kernel)) (hts (.methodLink RX3 113 yX0_init) (by decide +kernel)) (hts (.instanceMethod yX0_init) (by decide +kernel)) rfl (by decide +kernel) ⟨Nat.le_of_ble_eq_true rfl, Nat.le_of_ble_eq_true rfl⟩) ⟨pC_fb, fun U hU hV => ⟨rfl, hE.at (fun _ h => h) hS hV hU, by rw [hU]; exact hW⟩⟩ rfl rfl hl.1 rfl (lv_room (Nat.le_of_ble_eq_true rfl)) dX3_addBond_43 ⟨Nat.le_of_ble_eq_true rfl, Nat.le_of_ble_eq_true rfl⟩) hS (fun _ _ h => h) (fun _ h => h) (fun u8 t9 H locs ht hvm hw hB hz1 hk1 hS => ?_)
        rw [ht] at hB
        have hW := init2 hz hB
        refine va_calli (va_runV (As := [.ref (ad9 (32 + b))]) (rest := []) ⟨hx, hb, hml, hown, hts⟩ (c_Jx4a65c_add_9ea2d l D cs A z0 sa (lvA n b (32 + b)) ad9 (ctC cs ad9 z0 g L (addB B b x y) n b y1 y2 N1 N2 nd gv) 2 b (if b = 0 then z0 else ad9 7) 7 N2 1 y2 (rowF ad9 32 b) (RX0, TX0, 4) (Or.inl (lvC_0 (by decide))) rfl (Lst2 hN2) (by unfold lvA lvC; omega) (by omega) rfl (Lel2) (by decide) (32 + b) _ (Or.inr rfl) ctC_bd (by omega) (PO2 D cs A z0 ad9 g L (addB B b x y) n b y1 (y2 + 1) N1 nd gv) (fin2 hn hlt) (inp2 hn hlt hN2.2)) (cwV 1 hts gX3_addBond_Jx4a65c_add_9ea2d rfl rfl rfl (by decide +kernel) ⟨Nat.le_of_ble_eq_true rfl, Nat.le_of_ble_eq_true rfl⟩) ⟨pC_fb, wb_recv hK hW (r := 2) (Or.inl (lvC_0 (by decide))) (ci := 0) rfl rfl, fun U hU hV => ⟨rfl, hE.at (fun _ h => h) hS hV hU, by rw [hU]; exact hW⟩⟩ rfl rfl hl.1 rfl (lv_room (Nat.le_of_ble_eq_true rfl)) dX3_addBond_46 ⟨Nat.le_of_ble_eq_true rfl, Nat.le_of_ble_eq_true rfl⟩) hS (fun _ _ h => h) (fun _ h => h) (fun r_9 u t9 H locs ht hvm hw hB hz1 hk1 hS => ?_)
        obtain ⟨ad, N2, hN2, e0, hW⟩ := hB
        rw [hz0] at e0
        rw [ht] at hW
        rw [← e0] at hl
        have hb5 : b + 1 ≤ 5 := by omega
        subst hw
        refine lv_pop hx hb dX3_addBond_49 rfl ?_
        refine lv_aload_n hx hb dX3_addBond_50 rfl (lv_at hl 0 rfl) ?_
        refine lv_dup hx hb dX3_addBond_51 rfl ?_
        refine wb_get hx hb hts hinX3 hown hK hW 0 (lvC_0 (by decide)) rfl rfl 4 (by decide) hf30 (fun _ h9 => h9) (v := .int (g 1)) rfl dX3_addBond_52 ?_
        refine lv_iload_n hx hb dX3_addBond_55 rfl (lv_at hl 1 rfl) ?_
        refine lv_iadd hx hb dX3_addBond_56 ?_
        refine wb_put (v := .int ((g 1) + x)) (ty := .int) hx hb hts hinX3 tyX3 tyX3_ok nmX3 hown hK hW hS 0 (lvC_0 (by decide)) rfl rfl 4 (by decide) hf30 (fun _ h9 => h9) rfl (by decide +kernel) rfl rfl (Nat.le_of_ble_eq_true rfl) dX3_addBond_57 (fun H locs hW hS => ?_)
        obtain ⟨g6, hg6⟩ : ∃ z9, z9 = upd g 1 ((g 1) + x) := ⟨_, rfl⟩
        have hW : wP D A (lvC n (b + 1)) ad (ctC cs ad z0 g6 L (addB B b x y) n (b + 1) y1 (y2 + 1) N1 N2 nd gv) H := by subst hg6; exact hW.up rfl (fun r _ hr => ctC_g hr)
        refine lv_aload_n hx hb dX3_addBond_60 rfl (lv_at hl 0 rfl) ?_
        refine wb_get hx hb hts hinX3 hown hK hW 0 (lvC_0 (by decide)) rfl rfl 1 (by decide) hf16 (fun _ h9 => h9) (v := .ref (ad 2)) rfl dX3_addBond_61 ?_
        refine va_calli (va_runV (As := []) (rest := []) ⟨hx, hb, hml, hown, hts⟩ (c_Jx4a65c_size_8abf52 l D cs A z0 sa ad g6 L (addB B b x y) n (b + 1) y1 (y2 + 1) N1 N2 nd gv hn hb5 hN1 hN2 ) (cwV 0 hts gX3_addBond_Jx4a65c_size_8abf5 rfl rfl rfl (by decide +kernel) ⟨Nat.le_of_ble_eq_true rfl, Nat.le_of_ble_eq_true rfl⟩) ⟨pC_fb, wb_recv hK hW (r := 2) (lvC_0 (by decide)) (ci := 0) rfl rfl, fun U hU hV => ⟨rfl, hE.at (fun _ h => h) hS hV hU, by rw [hU]; exact hW⟩⟩ rfl rfl hl.1 rfl (lv_room (Nat.le_of_ble_eq_true rfl)) dX3_addBond_64 ⟨Nat.le_of_ble_eq_true rfl, Nat.le_of_ble_eq_true rfl⟩) hS (fun _ _ h => h.elim) (fun _ h => h.elim) (fun r_7 u t9 H locs ht hvm hw _ hz1 hk1 hS => ?_)
        have hW := hW.kept hk1
        subst hw
        refine lv_iconst (v := 1) hx hb dX3_addBond_67 (by decide) ?_
        refine lv_isub hx hb dX3_addBond_68 ?_
        rw [nI_pred]
        refine W.widen (k := 2) (n := 30) (Nat.le_of_ble_eq_true rfl) (Nat.le_of_ble_eq_true rfl) ?_
        exact vx_ret (W.iret (v := nI b) hx hb hr (fun t9 ht9 hW9 => ⟨⟨_, (), rfl, ⟨kAddBond_0 hp_1 hp_2 c_4, rfl⟩, by dsimp only; rw [ht9]; subst hg6; exact ⟨ad, y1, (y2 + 1), N1, N2, nd, gv, e0, hN1, hN2, hW⟩⟩, hS.F ht9⟩) hS.2.2 dX3_addBond_69)
      · -- nI b lt 5 : False
        exact vx_throwS (sa := sa 109) hx hb hst hown (by decide) (by decide) (hts (.classLink RX3 54 "java/lang/IllegalStateException") (by decide +kernel)) (hts (.initialized "java/lang/IllegalStateException") (by decide +kernel)) (hE.2.2.2.2.2.2.1 (109, "there are 5 bonds") (by decide)) (vx_hat (fun w h => hts w (by first | exact List.mem_cons_of_mem _ (List.mem_append_right _ h) | exact List.mem_cons_of_mem _ (List.mem_append_left _ (List.mem_append_right _ h)) | exact List.mem_cons_of_mem _ (List.mem_append_left _ (List.mem_append_left _ (List.mem_append_right _ h))))) x3s_ok (cbad_use hE.2.2.2.2.2.2.2.1)) x3s_g hE.2.2.2.2.1 hE.2.2.2.2.2.1 hS (hl.1.trans hml.symm) dX3_addBond_23 dX3_addBond_26 dX3_addBond_27 dX3_addBond_29 dX3_addBond_32 (fun x h => (htab x h).elim) (Nat.le_of_ble_eq_true rfl) (Nat.le_of_ble_eq_true rfl) (Nat.le_of_ble_eq_true rfl) (Nat.le_of_ble_eq_true rfl) hlocks (fun t8 hvm8 hz8 hk8 => ⟨(), trivial, ⟨Or.inr (⟨kAddBond_2 hp_1 hp_2 c_4, rfl⟩), hW.kept (fun q hq _ => hk8 q hq)⟩, xFA hS hz8 hk8⟩) hS.2.2 (Nat.le_of_ble_eq_true rfl) (Nat.le_of_ble_eq_true rfl)
    ·
      refine vx_callv (vx_runV (As := [.int y]) (rest := []) ⟨hx, hb, hml, hown, hts⟩ (c_X3_requireDueAheadbad l hst D cs A z0 sa ad g L B n b y1 y2 N1 N2 nd gv hn hb5 hN1 hN2 y hp_2) (cwV 1 hts gX3_addBond_X3_requireDueAhead rfl rfl rfl (by decide +kernel) ⟨Nat.le_of_ble_eq_true rfl, Nat.le_of_ble_eq_true rfl⟩) ⟨pC_fb, wb_recv hK hW (r := 0) (lvC_0 (by decide)) (ci := 4) rfl rfl, fun U hU hV => ⟨rfl, hE.at (fun _ h => h) hS hV hU, by rw [hU]; exact hW⟩⟩ rfl rfl hl.1 rfl (lv_room (Nat.le_of_ble_eq_true rfl)) dX3_addBond_9 ⟨Nat.le_of_ble_eq_true rfl, Nat.le_of_ble_eq_true rfl⟩) hS (fun _ _ h => h.elim) (fun _ h => h.elim) (fun _ _ h => h.elim) (fun E9 ce9 q9 u9 t9 H9 locs9 ht9 hvm9 hpx9 hbx9 hz9 hk9 hS9 hc9 hv9 hl9 => ?_) (fun u t9 H locs ht hvm hw hB hz1 hk1 hS => hw.elim)
      exact vx_out (fun x h => (htab x h).elim) hlocks hc9 hv9 hl9 (fun t8 ht8 hvm8 => ⟨(), trivial, ⟨by subst hbx9; exact Or.inl ⟨kAddBond_1 (fun h9 => hp_2 h9.2), rfl⟩, by rw [ht8]; exact hW.kept hk9⟩, hS9.F ht8⟩) hS9.2.2 (Nat.le_of_ble_eq_true rfl) (Nat.le_of_ble_eq_true rfl)
  ·
    refine vx_callv (vx_runS (As := [.int x, .int 1, .int 50000]) (rest := []) ⟨hx, hb, hml, hown, hts⟩ (c_X3_requireWithinbad l hst D cs A z0 sa x 1 50000 hp_1) (va_cwS 3 hts gX3_addBond_X3_requireWithin rfl rfl rfl (by decide +kernel) ⟨Nat.le_of_ble_eq_true rfl, Nat.le_of_ble_eq_true rfl⟩) ⟨pE_fb, fun U hU hV => ⟨rfl, hE.at (fun _ h => h) hS hV hU⟩⟩ rfl rfl hl.1 rfl (lv_room (Nat.le_of_ble_eq_true rfl)) dX3_addBond_4 ⟨Nat.le_of_ble_eq_true rfl, Nat.le_of_ble_eq_true rfl⟩) hS (fun _ _ h => h.elim) (fun _ h => h.elim) (fun _ _ h => h.elim) (fun E9 ce9 q9 u9 t9 H9 locs9 ht9 hvm9 hpx9 hbx9 hz9 hk9 hS9 hc9 hv9 hl9 => ?_) (fun u t9 H locs ht hvm hw hB hz1 hk1 hS => hw.elim)
    exact vx_out (fun x h => (htab x h).elim) hlocks hc9 hv9 hl9 (fun t8 ht8 hvm8 => ⟨(), trivial, ⟨by subst hbx9; exact Or.inl ⟨kAddBond_1 (fun h9 => hp_1 h9.1), rfl⟩, by rw [ht8]; exact hW.kept hk9⟩, hS9.F ht8⟩) hS9.2.2 (Nat.le_of_ble_eq_true rfl) (Nat.le_of_ble_eq_true rfl)
