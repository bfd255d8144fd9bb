set_option maxHeartbeats 4000000 in
set_option maxRecDepth 100000 in
theorem c_Jx4a65c_grow_92f84 (l : Launch) (D : va_G) (cs : Nat → ClassId) (A : Nat → Prop) (z0 : Nat) (sa : Nat → Nat) (lv : Nat → Prop) (ad : Nat → Nat) (ct : Nat → va_E) (rl n a0 rr N1 ci : Nat) (y : Int32) (f : Nat → Option Nat) (q : vw_C) (hrl : lv rl) (hcl : ct rl = .inr (0, [.int y, .ref a0, .int (nI n)])) (hL : Lst cs z0 lv ad ct n a0 rr N1 f) (h38 : ¬ lv 38) (hn : n < 12) (hq : vwCl[ci]? = some q) (hel : Lel lv ad ct ci n f) (hqb : Cond.castable q.1 "java/lang/Object" ∈ cbad) (hfull : n = 0 ∨ N1 = n) : Met l yJx4a65c_grow_92f84 wsJx4a65c_grow_92f84 ({ frames := 6, cells := 1, slots := 20, locals := 160 } : Room) (va_Pc [.ref (ad rl), .int (nI (n + 1))] (pC D cs A z0 sa lv ad ct)) (va_Qr (fun (M : Nat) => n + 1 ≤ M ∧ M ≤ 20) (fun M a9 t9 => wP D A (fun z => lv z ∨ z = 38) (va_up ad 38 a9) (va_up (va_up ct 38 (.inl (cs 2, M, rfs (cut9 n f)))) rl (.inr (0, [.int y, .ref a9, .int (nI n)]))) t9.heap) A) 1 20 A := by
  refine Met.ofW (cc := cJx4a65c_grow_92f84) (maxL := 4) (ret := (some (.array (.object "java/lang/Object")))) (by decide) rfl ?_
  intro p e s m args below meth c s₁ BB hml hv
  obtain ⟨rfl, hv⟩ := hv
  obtain ⟨hE, hW⟩ := hv
  have hK := hE.1
  have hx := BB.exec
  have hb := BB.bytes
  have hr := BB.returns
  have hts := atoms_spec (ws := wsJx4a65c_grow_92f84) BB.pre
  have hown : s.vm.findClass RJx4a65c = some m.cls := findClass_of_methodNamed BB.named
  have hlocks := BB.notSynchronized
  have hS : va_S A s.heap s.heap [] := va_S.rf
  have hl := lv_entry ([.ref (ad rl), .int (nI (n + 1))]) (n := 4) (Nat.le_of_ble_eq_true rfl)
  rw [lg_entry_eq]
  generalize (lg_sl ([.ref (ad rl), .int (nI (n + 1))]) ++ List.replicate (4 - (lg_sl ([.ref (ad rl), .int (nI (n + 1))])).length) Slot.unset).toArray = ls at hl ⊢
  have hl : lv_has ls 4 [(0, .ref (ad rl)), (1, .int (nI (n + 1)))] := hl
  have hf9 := hts (.fieldLink RJx4a65c 9 "java/util/ArrayList" "elementData" "[Ljava/lang/Object;") (by decide +kernel)
  have hinJx4a65c : ∀ w ∈ u_ws RJx4a65c TJx4a65c 3, w ∈ wsJx4a65c_grow_92f84 := by decide +kernel
  rcases hL with ⟨h0, ha⟩ | ⟨h0, hrr, ha, hcr, hN, hN9⟩
  ·
    subst h0
    subst ha
    refine lv_aload_n hx hb dJx4a65c_grow_92f84_0 rfl (lv_at hl 0 rfl) ?_
    refine wb_getE hx hb hts hinJx4a65c hown hK hW rl rfl hrl hcl rfl 1 (by decide) hf9 (fun _ h9 => h9) (v := .ref a0) rfl dJx4a65c_grow_92f84_1 ?_
    refine va_tlen (v := 0) hx hb hE.2.2.2.1 hS rfl dJx4a65c_grow_92f84_4 ?_
    refine lv_istore_n (lv' := [(2, .int 0), (0, .ref (ad rl)), (1, .int (nI (0 + 1)))]) hx hb dJx4a65c_grow_92f84_5 rfl hl (by decide) rfl (fun ls hl => ?_)
    refine lv_iload_n hx hb dJx4a65c_grow_92f84_6 rfl (lv_at hl 0 rfl) ?_
    refine lv_if_gt (tgt := 20) hx hb dJx4a65c_grow_92f84_7 (by decide) (fun c_1 => ?_) (fun c_1 => ?_)
    · -- 0 gt 0 : True
      exact absurd c_1 (by decide)
    · -- 0 gt 0 : False
      refine lv_aload_n hx hb dJx4a65c_grow_92f84_10 rfl (lv_at hl 1 rfl) ?_
      refine wb_getE hx hb hts hinJx4a65c hown hK hW rl rfl hrl hcl rfl 1 (by decide) hf9 (fun _ h9 => h9) (v := .ref a0) rfl dJx4a65c_grow_92f84_11 ?_
      refine va_gets hx hb hE.2.2.1 hS hown (hts (.fieldLink RJx4a65c 39 zC zN zD) (by decide +kernel)) (fun _ h9 => h9) dJx4a65c_grow_92f84_14 ?_
      refine lv_acmp_eq (rx := some a0) (ry := some a0) (tgt := 45) hx hb dJx4a65c_grow_92f84_17 (by decide) (fun _ => ?_) (fun hno => absurd rfl hno)
      refine lv_aload_n hx hb dJx4a65c_grow_92f84_45 rfl (lv_at hl 1 rfl) ?_
      refine lv_bipush (v := 10) hx hb dJx4a65c_grow_92f84_46 (by decide) ?_
      refine lv_iload_n hx hb dJx4a65c_grow_92f84_48 rfl (lv_at hl 2 rfl) ?_
      refine va_mmax (x := 10) (y := nI (0 + 1)) hx hb (by rw [hml]; exact hl.1.symm) hown (hts (.methodLink RJx4a65c 79 Lib.Math.max.name) (by decide +kernel)) (hts (.static Lib.Math.max.name) (by decide +kernel)) (hts (.initialized "java/lang/Math") (by decide +kernel)) (hts (.code Lib.Math.max.name Lib.Math.max.code 2 (some .int)) (by decide +kernel)) (Nat.le_of_ble_eq_true rfl) (Nat.le_of_ble_eq_true rfl) (Nat.zero_le _) (Nat.zero_le _) dJx4a65c_grow_92f84_49 ?_
      rw [if_neg (by decide)]
      refine wb_newq (C := "java/lang/Object") (N' := 10) hx hb hown (hts (.classLink RJx4a65c 7 "java/lang/Object") (by decide +kernel)) hE.2.2.2.2.2.2.2.2.1 hK hW hS hE.2.1 38 h38 (by decide) 2 rfl (by decide) rfl (by decide) (by decide) (show 0 + 10 ≤ 20 by decide) dJx4a65c_grow_92f84_52 (fun q1 H hW hS => ?_)
      have hne9 : rl ≠ 38 := fun h => h38 (h ▸ hrl)
      refine lv_dup_x1 hx hb dJx4a65c_grow_92f84_55 rfl rfl ?_
      refine wb_putE (fs := [.int y, .ref a0, .int (nI 0)]) (v := .ref q1) (ty := (.array (.object "java/lang/Object"))) hx hb hts hinJx4a65c tyJx4a65c tyJx4a65c_ok nmJx4a65c hown hK hW hS rl (va_up_ne _ _ hne9).symm (Or.inl hrl) (by rw [va_up_ne _ _ hne9]; exact hcl) rfl 1 (by decide) hf9 (fun _ h9 => h9) rfl (by decide +kernel) rfl rfl (Nat.le_of_ble_eq_true rfl) dJx4a65c_grow_92f84_56 (fun H locs hW hS => ?_)
      refine W.widen (k := 1) (n := 20) (Nat.le_of_ble_eq_true rfl) (Nat.le_of_ble_eq_true rfl) ?_
      exact W.aret (v := .ref q1) hx hb hr (Or.inr ⟨_, rfl⟩) (Or.inr ⟨_, rfl⟩) (fun t9 ht9 hW9 => ⟨⟨10, q1, rfl, by omega, by dsimp only; rw [ht9]; exact hW⟩, hS.F ht9⟩) hS.2.2 dJx4a65c_grow_92f84_59
  ·
    obtain rfl : N1 = n := by omega
    subst ha
    refine lv_aload_n hx hb dJx4a65c_grow_92f84_0 rfl (lv_at hl 0 rfl) ?_
    refine wb_getE hx hb hts hinJx4a65c hown hK hW rl rfl hrl hcl rfl 1 (by decide) hf9 (fun _ h9 => h9) (v := .ref (ad rr)) rfl dJx4a65c_grow_92f84_1 ?_
    refine wb_alenE hx hb hK hW rr hrr 2 rfl hcr rfl dJx4a65c_grow_92f84_4 ?_
    refine lv_istore_n (lv' := [(2, .int (nI N1)), (0, .ref (ad rl)), (1, .int (nI (N1 + 1)))]) hx hb dJx4a65c_grow_92f84_5 rfl hl (by decide) rfl (fun ls hl => ?_)
    refine lv_iload_n hx hb dJx4a65c_grow_92f84_6 rfl (lv_at hl 0 rfl) ?_
    refine lv_if_gt (tgt := 20) hx hb dJx4a65c_grow_92f84_7 (by decide) (fun c_2 => ?_) (fun c_2 => ?_)
    · -- nI N1 gt 0 : True
      refine lv_iload_n hx hb dJx4a65c_grow_92f84_20 rfl (lv_at hl 0 rfl) ?_
      refine lv_iload_n hx hb dJx4a65c_grow_92f84_21 rfl (lv_at hl 2 rfl) ?_
      refine lv_iload_n hx hb dJx4a65c_grow_92f84_22 rfl (lv_at hl 0 rfl) ?_
      refine lv_isub hx hb dJx4a65c_grow_92f84_23 ?_
      rw [nI_sub1]
      refine lv_iload_n hx hb dJx4a65c_grow_92f84_24 rfl (lv_at hl 0 rfl) ?_
      refine lv_iconst (v := 1) hx hb dJx4a65c_grow_92f84_25 (by decide) ?_
      refine lv_ishr hx hb dJx4a65c_grow_92f84_26 ?_
      rw [nI_shr1 _ (by omega)]
      refine va_calli (va_runS (As := [.int (nI N1), .int (nI 1), .int (nI (N1 / 2))]) (rest := []) ⟨hx, hb, hml, hown, hts⟩ (c_J8_newLength_cabcc l N1 1 (N1 / 2) (by omega) ⟨by omega, by omega⟩ (by omega)) (va_cwS 3 hts gJx4a65c_grow_92f84_J8_newLength_cabcc rfl rfl rfl (by decide +kernel) ⟨Nat.le_of_ble_eq_true rfl, Nat.le_of_ble_eq_true rfl⟩) ⟨pT_fb, fun U hU hV => ⟨rfl, trivial⟩⟩ rfl rfl hl.1 rfl (lv_room (Nat.le_of_ble_eq_true rfl)) dJx4a65c_grow_92f84_27 ⟨Nat.zero_le _, Nat.zero_le _⟩) hS (fun _ _ h => h.elim) (fun _ h => h.elim) (fun r_3 u t9 H locs ht hvm hw _ hz1 hk1 hS => ?_)
      have hW := hW.kept hk1
      subst hw
      obtain ⟨M, hM⟩ : ∃ M, M = N1 + max 1 (N1 / 2) := ⟨_, rfl⟩
      rw [← hM]
      refine lv_istore_n (lv' := [(3, .int (nI M)), (2, .int (nI N1)), (0, .ref (ad rl)), (1, .int (nI (N1 + 1)))]) hx hb dJx4a65c_grow_92f84_30 rfl hl (by decide) rfl (fun ls hl => ?_)
      refine lv_aload_n hx hb dJx4a65c_grow_92f84_31 rfl (lv_at hl 2 rfl) ?_
      refine lv_aload_n hx hb dJx4a65c_grow_92f84_32 rfl (lv_at hl 2 rfl) ?_
      refine wb_getE hx hb hts hinJx4a65c hown hK hW rl rfl hrl hcl rfl 1 (by decide) hf9 (fun _ h9 => h9) (v := .ref (ad rr)) rfl dJx4a65c_grow_92f84_33 ?_
      refine lv_iload_n hx hb dJx4a65c_grow_92f84_36 rfl (lv_at hl 0 rfl) ?_
      have hMb : N1 + 1 ≤ M ∧ M ≤ 20 := by omega
      refine va_callr (va_runS (As := [.ref (ad rr), .int (nI M)]) (rest := [.ref (ad rl)]) ⟨hx, hb, hml, hown, hts⟩ (c_J7_copyOf_1904c l D cs A z0 sa lv ad ct rr N1 M ci f q hrr hcr h38 ⟨by omega, hMb.2⟩ hq hel hqb) (va_cwS 2 hts gJx4a65c_grow_92f84_J7_copyOf_1904c rfl rfl rfl (by decide +kernel) ⟨Nat.le_of_ble_eq_true rfl, Nat.le_of_ble_eq_true rfl⟩) ⟨pC_fb, fun U hU hV => ⟨rfl, hE.at (fun _ h => h) hS hV hU, by rw [hU]; exact hW⟩⟩ rfl rfl hl.1 rfl (lv_room (Nat.le_of_ble_eq_true rfl)) dJx4a65c_grow_92f84_37 ⟨Nat.le_of_ble_eq_true rfl, Nat.le_of_ble_eq_true rfl⟩) hS (fun _ _ h => h) (fun _ h => h) (fun u q1 t9 H locs ht hvm hw hB hz1 hk1 hS => ?_)
      have hW : wP D A (fun z => lv z ∨ z = 38) (va_up ad 38 q1) (va_up ct 38 (.inl (cs 2, M, rfs (cut9 N1 f)))) H := by rw [← ht]; exact hB
      have hne9 : rl ≠ 38 := fun h => h38 (h ▸ hrl)
      refine lv_dup_x1 hx hb dJx4a65c_grow_92f84_40 rfl rfl ?_
      refine wb_putE (fs := [.int y, .ref (ad rr), .int (nI N1)]) (v := .ref q1) (ty := (.array (.object "java/lang/Object"))) hx hb hts hinJx4a65c tyJx4a65c tyJx4a65c_ok nmJx4a65c hown hK hW hS rl (va_up_ne _ _ hne9).symm (Or.inl hrl) (by rw [va_up_ne _ _ hne9]; exact hcl) rfl 1 (by decide) hf9 (fun _ h9 => h9) rfl (by decide +kernel) rfl rfl (Nat.le_of_ble_eq_true rfl) dJx4a65c_grow_92f84_41 (fun H locs hW hS => ?_)
      refine W.widen (k := 1) (n := 20) (Nat.le_of_ble_eq_true rfl) (Nat.le_of_ble_eq_true rfl) ?_
      exact W.aret (v := .ref q1) hx hb hr (Or.inr ⟨_, rfl⟩) (Or.inr ⟨_, rfl⟩) (fun t9 ht9 hW9 => ⟨⟨M, q1, rfl, by omega, by dsimp only; rw [ht9]; exact hW⟩, hS.F ht9⟩) hS.2.2 dJx4a65c_grow_92f84_44
    · -- nI N1 gt 0 : False
      exact absurd (show 0 < nI N1 from nI_lt (a := 0) h0 (by omega)) c_2

set_option maxHeartbeats 4000000 in
set_option maxRecDepth 100000 in
theorem c_Jx4a65c_grow_d5877 (l : Launch) (D : va_G) (cs : Nat → ClassId) (A : Nat → Prop) (z0 : Nat) (sa : Nat → Nat) (lv : Nat → Prop) (ad : Nat → Nat) (ct : Nat → va_E) (rl n a0 rr N1 ci : Nat) (y : Int32) (f : Nat → Option Nat) (q : vw_C) (hrl : lv rl) (hcl : ct rl = .inr (0, [.int y, .ref a0, .int (nI n)])) (hL : Lst cs z0 lv ad ct n a0 rr N1 f) (h38 : ¬ lv 38) (hn : n < 12) (hq : vwCl[ci]? = some q) (hel : Lel lv ad ct ci n f) (hqb : Cond.castable q.1 "java/lang/Object" ∈ cbad) (hfull : n = 0 ∨ N1 = n) : Met l yJx4a65c_grow_d5877 wsJx4a65c_grow_d5877 ({ frames := 7, cells := 1, slots := 20, locals := 200 } : Room) (va_Pc [.ref (ad rl)] (pC D cs A z0 sa lv ad ct)) (va_Qr (fun (M : Nat) => n + 1 ≤ M ∧ M ≤ 20) (fun M a9 t9 => wP D A (fun z => lv z ∨ z = 38) (va_up ad 38 a9) (va_up (va_up ct 38 (.inl (cs 2, M, rfs (cut9 n f)))) rl (.inr (0, [.int y, .ref a9, .int (nI n)]))) t9.heap) A) 1 20 A := by
  refine Met.ofW (cc := cJx4a65c_grow_d5877) (maxL := 1) (ret := (some (.array (.object "java/lang/Object")))) (by decide) rfl ?_
  intro p e s m args below meth c s₁ BB hml hv
  obtain ⟨rfl, hv⟩ := hv
  obtain ⟨hE, hW⟩ := hv
  have hK := hE.1
  have hx := BB.exec
  have hb := BB.bytes
  have hr := BB.returns
  have hts := atoms_spec (ws := wsJx4a65c_grow_d5877) BB.pre
  have hown : s.vm.findClass RJx4a65c = some m.cls := findClass_of_methodNamed BB.named
  have hlocks := BB.notSynchronized
  have hS : va_S A s.heap s.heap [] := va_S.rf
  have hl := lv_entry ([.ref (ad rl)]) (n := 1) (Nat.le_of_ble_eq_true rfl)
  rw [lg_entry_eq]
  generalize (lg_sl ([.ref (ad rl)]) ++ List.replicate (1 - (lg_sl ([.ref (ad rl)])).length) Slot.unset).toArray = ls at hl ⊢
  have hl : lv_has ls 1 [(0, .ref (ad rl))] := hl
  have hf48 := hts (.fieldLink RJx4a65c 48 "java/util/ArrayList" "size" "I") (by decide +kernel)
  have hinJx4a65c : ∀ w ∈ u_ws RJx4a65c TJx4a65c 3, w ∈ wsJx4a65c_grow_d5877 := by decide +kernel
  refine lv_aload_n hx hb dJx4a65c_grow_d5877_0 rfl (lv_at hl 0 rfl) ?_
  refine lv_aload_n hx hb dJx4a65c_grow_d5877_1 rfl (lv_at hl 0 rfl) ?_
  refine wb_getE hx hb hts hinJx4a65c hown hK hW rl rfl hrl hcl rfl 2 (by decide) hf48 (fun _ h9 => h9) (v := .int (nI n)) rfl dJx4a65c_grow_d5877_2 ?_
  refine lv_iconst (v := 1) hx hb dJx4a65c_grow_d5877_5 (by decide) ?_
  refine lv_iadd hx hb dJx4a65c_grow_d5877_6 ?_
  rw [nI_1]
  refine va_callr (va_runV (As := [.int (nI (n + 1))]) (rest := []) ⟨hx, hb, hml, hown, hts⟩ (c_Jx4a65c_grow_92f84 l D cs A z0 sa lv ad ct rl n a0 rr N1 ci y f q hrl hcl hL h38 hn hq hel hqb hfull) (cwV 1 hts gJx4a65c_grow_d5877_Jx4a65c_grow_92f84 rfl rfl rfl (by decide +kernel) ⟨Nat.le_of_ble_eq_true rfl, Nat.le_of_ble_eq_true rfl⟩) ⟨pC_fb, wb_recv hK hW (r := rl) hrl (ci := 0) rfl hcl, fun U hU hV => ⟨rfl, hE.at (fun _ h => h) hS hV hU, by rw [hU]; exact hW⟩⟩ rfl rfl hl.1 rfl (lv_room (Nat.le_of_ble_eq_true rfl)) dJx4a65c_grow_d5877_7 ⟨Nat.le_of_ble_eq_true rfl, Nat.le_of_ble_eq_true rfl⟩) hS (fun _ _ h => h) (fun _ h => h) (fun M q1 t9 H locs ht hvm hw hB hz1 hk1 hS => ?_)
  refine W.widen (k := 1) (n := 20) (Nat.le_of_ble_eq_true rfl) (Nat.le_of_ble_eq_true rfl) ?_
  exact W.aret (v := .ref q1) hx hb hr (Or.inr ⟨_, rfl⟩) (Or.inr ⟨_, rfl⟩) (fun t8 ht8 hW8 => ⟨⟨M, q1, rfl, hw, by dsimp only; rw [ht8, ← ht]; exact hB⟩, hS.F ht8⟩) hS.2.2 dJx4a65c_grow_d5877_10

set_option maxHeartbeats 4000000 in
set_option maxRecDepth 100000 in
theorem c_Jx4a65c_add_72be8 (l : Launch) (D : va_G) (cs : Nat → ClassId) (A : Nat → Prop) (z0 : Nat) (sa : Nat → Nat) (lv : Nat → Prop) (ad : Nat → Nat) (ct : Nat → va_E) (rl n a0 rr N1 ci : Nat) (y : Int32) (f : Nat → Option Nat) (q : vw_C) (hrl : lv rl) (hcl : ct rl = .inr (0, [.int y, .ref a0, .int (nI n)])) (hL : Lst cs z0 lv ad ct n a0 rr N1 f) (h38 : ¬ lv 38) (hn : n < 12) (hq : vwCl[ci]? = some q) (hel : Lel lv ad ct ci n f) (hqb : Cond.castable q.1 "java/lang/Object" ∈ cbad) (re : Nat) (vs : List Value) (hre : lv re) (hce : ct re = .inr (ci, vs)) (hrer : re ≠ rl) (PO : Heap → Prop) (hfin : ∀ (q1 M : Nat) (H : Heap), n + 1 ≤ M → M ≤ 20 → wP D A (fun z => lv z ∨ z = 38) (va_up ad 38 q1) (va_up (va_up ct 38 (.inl (cs 2, M, rfs (va_up (cut9 n f) n (some (ad re)))))) rl (.inr (0, [.int y, .ref q1, .int (nI (n + 1))]))) H → PO H) (hinp : ∀ (H : Heap), 0 < n → n < N1 → wP D A lv ad (va_up (va_up ct rr (.inl (cs 2, N1, rfs (va_up f n (some (ad re)))))) rl (.inr (0, [.int y, .ref a0, .int (nI (n + 1))]))) H → PO H) : Met l yJx4a65c_add_72be8 wsJx4a65c_add_72be8 ({ frames := 8, cells := 1, slots := 20, locals := 240 } : Room) (va_Pc [.ref (ad rl), .ref (ad re), .ref a0, .int (nI n)] (pC D cs A z0 sa lv ad ct)) (va_Qv (fun (_ : Unit) => True) (fun _ t9 => PO t9.heap) A) 1 20 A := by
  refine Met.ofW (cc := cJx4a65c_add_72be8) (maxL := 4) (ret := none) (by decide) rfl ?_
  intro p e s m args below meth c s₁ BB hml hv
  obtain ⟨rfl, hv⟩ := hv
  obtain ⟨hE, hW⟩ := hv
  have hK := hE.1
  have hx := BB.exec
  have hb := BB.bytes
  have hr := BB.returns
  have hts := atoms_spec (ws := wsJx4a65c_add_72be8) BB.pre
  have hown : s.vm.findClass RJx4a65c = some m.cls := findClass_of_methodNamed BB.named
  have hlocks := BB.notSynchronized
  have hS : va_S A s.heap s.heap [] := va_S.rf
  have hl := lv_entry ([.ref (ad rl), .ref (ad re), .ref a0, .int (nI n)]) (n := 4) (Nat.le_of_ble_eq_true rfl)
  rw [lg_entry_eq]
  generalize (lg_sl ([.ref (ad rl), .ref (ad re), .ref a0, .int (nI n)]) ++ List.replicate (4 - (lg_sl ([.ref (ad rl), .ref (ad re), .ref a0, .int (nI n)])).length) Slot.unset).toArray = ls at hl ⊢
  have hl : lv_has ls 4 [(0, .ref (ad rl)), (1, .ref (ad re)), (2, .ref a0), (3, .int (nI n))] := hl
  have hf48 := hts (.fieldLink RJx4a65c 48 "java/util/ArrayList" "size" "I") (by decide +kernel)
  have hinJx4a65c : ∀ w ∈ u_ws RJx4a65c TJx4a65c 3, w ∈ wsJx4a65c_add_72be8 := by decide +kernel
  have hne9 : rl ≠ 38 := fun h => h38 (h ▸ hrl)
  have hne8 : re ≠ 38 := fun h => h38 (h ▸ hre)
  rcases (show (n = 0 ∧ a0 = z0) ∨ (0 < n ∧ lv rr ∧ a0 = ad rr ∧ ct rr = .inl (cs 2, N1, rfs f) ∧ n ≤ N1 ∧ N1 < 1000) from hL) with ⟨h0, ha⟩ | ⟨h0, hrr, ha, hcr, hN, hN9⟩
  ·
    refine lv_iload_n hx hb dJx4a65c_add_72be8_0 rfl (lv_at hl 3 rfl) ?_
    refine lv_aload_n hx hb dJx4a65c_add_72be8_1 rfl (lv_at hl 2 rfl) ?_
    subst ha
    refine va_tlen (v := 0) hx hb hE.2.2.2.1 hS rfl dJx4a65c_add_72be8_2 ?_
    refine lv_icmp_ne (tgt := 11) hx hb dJx4a65c_add_72be8_3 (by decide) (fun hno => absurd (by rw [h0]; rfl) hno) (fun _ => ?_)
    refine lv_aload_n hx hb dJx4a65c_add_72be8_6 rfl (lv_at hl 0 rfl) ?_
    refine va_callr (va_runV (As := []) (rest := []) ⟨hx, hb, hml, hown, hts⟩ (c_Jx4a65c_grow_d5877 l D cs A a0 sa lv ad ct rl n a0 rr N1 ci y f q hrl hcl hL h38 hn hq hel hqb (Or.inl h0)) (cwV 0 hts gJx4a65c_add_72be8_Jx4a65c_grow_d5877 rfl rfl rfl (by decide +kernel) ⟨Nat.le_of_ble_eq_true rfl, Nat.le_of_ble_eq_true rfl⟩) ⟨pC_fb, wb_recv hK hW (r := rl) hrl (ci := 0) rfl hcl, fun U hU hV => ⟨rfl, hE.at (fun _ h => h) hS hV hU, by rw [hU]; exact hW⟩⟩ rfl rfl hl.1 rfl (lv_room (Nat.le_of_ble_eq_true rfl)) dJx4a65c_add_72be8_7 ⟨Nat.le_of_ble_eq_true rfl, Nat.le_of_ble_eq_true rfl⟩) hS (fun _ _ h => h) (fun _ h => h) (fun M q1 t9 H locs ht hvm hw hB hz1 hk1 hS => ?_)
    have hW : wP D A (fun z => lv z ∨ z = 38) (va_up ad 38 q1) (va_up (va_up ct 38 (.inl (cs 2, M, rfs (cut9 n f)))) rl (.inr (0, [.int y, .ref q1, .int (nI n)]))) H := by rw [← ht]; exact hB
    refine lv_astore_n (lv' := [(2, .ref q1), (0, .ref (ad rl)), (1, .ref (ad re)), (3, .int (nI n))]) hx hb dJx4a65c_add_72be8_10 rfl hl (by decide) rfl (fun ls hl => ?_)
    refine lv_aload_n hx hb dJx4a65c_add_72be8_11 rfl (lv_at hl 0 rfl) ?_
    refine lv_iload_n hx hb dJx4a65c_add_72be8_12 rfl (lv_at hl 3 rfl) ?_
    refine lv_aload_n hx hb dJx4a65c_add_72be8_13 rfl (lv_at hl 2 rfl) ?_
    refine wb_aastE (q := q) (ci := ci) (vs := vs) hx hb hK hW hS 38 re (va_up_self _ _ _).symm (va_up_ne _ _ hne8).symm (Or.inr rfl) (Or.inl hre) 2 (by rw [va_up_ne _ _ hne9.symm, va_up_self]) rfl (hE.2.2.2.2.2.2.2.1 _ hqb) (by rw [va_up_ne _ _ hrer, va_up_ne _ _ hne8]; exact hce) hq n rfl (by omega) (by omega) dJx4a65c_add_72be8_14 (fun H locs hW hS => ?_)
    refine lv_aload_n hx hb dJx4a65c_add_72be8_15 rfl (lv_at hl 1 rfl) ?_
    refine lv_iload_n hx hb dJx4a65c_add_72be8_16 rfl (lv_at hl 3 rfl) ?_
    refine lv_iconst (v := 1) hx hb dJx4a65c_add_72be8_17 (by decide) ?_
    refine lv_iadd hx hb dJx4a65c_add_72be8_18 ?_
    rw [nI_1]
    refine wb_putE (fs := [.int y, .ref q1, .int (nI n)]) (v := .int (nI (n + 1))) (ty := .int) hx hb hts hinJx4a65c tyJx4a65c tyJx4a65c_ok nmJx4a65c hown hK hW hS rl (va_up_ne _ _ hne9).symm (Or.inl hrl) (by rw [va_up_ne _ _ hne9, va_up_self]) rfl 2 (by decide) hf48 (fun _ h9 => h9) rfl (by decide +kernel) rfl rfl (Nat.le_of_ble_eq_true rfl) dJx4a65c_add_72be8_19 (fun H locs hW hS => ?_)
    have hPO : PO H := hfin q1 M H hw.1 hw.2 (by rw [up_sw _ hne9, up_up, up_up] at hW; exact hW)
    refine W.widen (k := 1) (n := 20) (Nat.le_of_ble_eq_true rfl) (Nat.le_of_ble_eq_true rfl) ?_
    exact W.vret hx hb hr (fun t8 ht8 hW8 => ⟨⟨(), rfl, trivial, by dsimp only; rw [ht8]; exact hPO⟩, hS.F ht8⟩) hS.2.2 dJx4a65c_add_72be8_22
  ·
    refine lv_iload_n hx hb dJx4a65c_add_72be8_0 rfl (lv_at hl 3 rfl) ?_
    refine lv_aload_n hx hb dJx4a65c_add_72be8_1 rfl (lv_at hl 2 rfl) ?_
    refine wb_alenE hx hb hK hW rr hrr 2 ha hcr rfl dJx4a65c_add_72be8_2 ?_
    have hrlr : rr ≠ rl := fun h => by rw [h, hcl] at hcr; cases hcr
    refine lv_icmp_ne (tgt := 11) hx hb dJx4a65c_add_72be8_3 (by decide) (fun hno => ?_) (fun hyes => ?_)
    ·
      have hlt : n < N1 := by rcases Nat.lt_or_ge n N1 with h | h; exact h; exact absurd (by rw [show N1 = n by omega]) hno
      refine lv_aload_n hx hb dJx4a65c_add_72be8_11 rfl (lv_at hl 2 rfl) ?_
      refine lv_iload_n hx hb dJx4a65c_add_72be8_12 rfl (lv_at hl 3 rfl) ?_
      refine lv_aload_n hx hb dJx4a65c_add_72be8_13 rfl (lv_at hl 1 rfl) ?_
      refine wb_aastE (q := q) (ci := ci) (vs := vs) hx hb hK hW hS rr re ha rfl hrr hre 2 hcr rfl (hE.2.2.2.2.2.2.2.1 _ hqb) hce hq n rfl hlt hN9 dJx4a65c_add_72be8_14 (fun H locs hW hS => ?_)
      refine lv_aload_n hx hb dJx4a65c_add_72be8_15 rfl (lv_at hl 0 rfl) ?_
      refine lv_iload_n hx hb dJx4a65c_add_72be8_16 rfl (lv_at hl 3 rfl) ?_
      refine lv_iconst (v := 1) hx hb dJx4a65c_add_72be8_17 (by decide) ?_
      refine lv_iadd hx hb dJx4a65c_add_72be8_18 ?_
      rw [nI_1]
      refine wb_putE (fs := [.int y, .ref a0, .int (nI n)]) (v := .int (nI (n + 1))) (ty := .int) hx hb hts hinJx4a65c tyJx4a65c tyJx4a65c_ok nmJx4a65c hown hK hW hS rl rfl hrl (by rw [va_up_ne _ _ hrlr.symm]; exact hcl) rfl 2 (by decide) hf48 (fun _ h9 => h9) rfl (by decide +kernel) rfl rfl (Nat.le_of_ble_eq_true rfl) dJx4a65c_add_72be8_19 (fun H locs hW hS => ?_)
      have hPO : PO H := hinp H h0 hlt hW
      refine W.widen (k := 1) (n := 20) (Nat.le_of_ble_eq_true rfl) (Nat.le_of_ble_eq_true rfl) ?_
      exact W.vret hx hb hr (fun t8 ht8 hW8 => ⟨⟨(), rfl, trivial, by dsimp only; rw [ht8]; exact hPO⟩, hS.F ht8⟩) hS.2.2 dJx4a65c_add_72be8_22
    ·
      have heq : N1 = n := (nI_inj (by omega) (by omega) hyes).symm
      refine lv_aload_n hx hb dJx4a65c_add_72be8_6 rfl (lv_at hl 0 rfl) ?_
      refine va_callr (va_runV (As := []) (rest := []) ⟨hx, hb, hml, hown, hts⟩ (c_Jx4a65c_grow_d5877 l D cs A z0 sa lv ad ct rl n a0 rr N1 ci y f q hrl hcl hL h38 hn hq hel hqb (Or.inr heq)) (cwV 0 hts gJx4a65c_add_72be8_Jx4a65c_grow_d5877 rfl rfl rfl (by decide +kernel) ⟨Nat.le_of_ble_eq_true rfl, Nat.le_of_ble_eq_true rfl⟩) ⟨pC_fb, wb_recv hK hW (r := rl) hrl (ci := 0) rfl hcl, fun U hU hV => ⟨rfl, hE.at (fun _ h => h) hS hV hU, by rw [hU]; exact hW⟩⟩ rfl rfl hl.1 rfl (lv_room (Nat.le_of_ble_eq_true rfl)) dJx4a65c_add_72be8_7 ⟨Nat.le_of_ble_eq_true rfl, Nat.le_of_ble_eq_true rfl⟩) hS (fun _ _ h => h) (fun _ h => h) (fun M q1 t9 H locs ht hvm hw hB hz1 hk1 hS => ?_)
      have hW : wP D A (fun z => lv z ∨ z = 38) (va_up ad 38 q1) (va_up (va_up ct 38 (.inl (cs 2, M, rfs (cut9 n f)))) rl (.inr (0, [.int y, .ref q1, .int (nI n)]))) H := by rw [← ht]; exact hB
      refine lv_astore_n (lv' := [(2, .ref q1), (0, .ref (ad rl)), (1, .ref (ad re)), (3, .int (nI n))]) hx hb dJx4a65c_add_72be8_10 rfl hl (by decide) rfl (fun ls hl => ?_)
      refine lv_aload_n hx hb dJx4a65c_add_72be8_11 rfl (lv_at hl 0 rfl) ?_
      refine lv_iload_n hx hb dJx4a65c_add_72be8_12 rfl (lv_at hl 3 rfl) ?_
      refine lv_aload_n hx hb dJx4a65c_add_72be8_13 rfl (lv_at hl 2 rfl) ?_
      refine wb_aastE (q := q) (ci := ci) (vs := vs) hx hb hK hW hS 38 re (va_up_self _ _ _).symm (va_up_ne _ _ hne8).symm (Or.inr rfl) (Or.inl hre) 2 (by rw [va_up_ne _ _ hne9.symm, va_up_self]) rfl (hE.2.2.2.2.2.2.2.1 _ hqb) (by rw [va_up_ne _ _ hrer, va_up_ne _ _ hne8]; exact hce) hq n rfl (by omega) (by omega) dJx4a65c_add_72be8_14 (fun H locs hW hS => ?_)
      refine lv_aload_n hx hb dJx4a65c_add_72be8_15 rfl (lv_at hl 1 rfl) ?_
      refine lv_iload_n hx hb dJx4a65c_add_72be8_16 rfl (lv_at hl 3 rfl) ?_
      refine lv_iconst (v := 1) hx hb dJx4a65c_add_72be8_17 (by decide) ?_
      refine lv_iadd hx hb dJx4a65c_add_72be8_18 ?_
      rw [nI_1]
      refine wb_putE (fs := [.int y, .ref q1, .int (nI n)]) (v := .int (nI (n + 1))) (ty := .int) hx hb hts hinJx4a65c tyJx4a65c tyJx4a65c_ok nmJx4a65c hown hK hW hS rl (va_up_ne _ _ hne9).symm (Or.inl hrl) (by rw [va_up_ne _ _ hne9, va_up_self]) rfl 2 (by decide) hf48 (fun _ h9 => h9) rfl (by decide +kernel) rfl rfl (Nat.le_of_ble_eq_true rfl) dJx4a65c_add_72be8_19 (fun H locs hW hS => ?_)
      have hPO : PO H := hfin q1 M H hw.1 hw.2 (by rw [up_sw _ hne9, up_up, up_up] at hW; exact hW)
      refine W.widen (k := 1) (n := 20) (Nat.le_of_ble_eq_true rfl) (Nat.le_of_ble_eq_true rfl) ?_
      exact W.vret hx hb hr (fun t8 ht8 hW8 => ⟨⟨(), rfl, trivial, by dsimp only; rw [ht8]; exact hPO⟩, hS.F ht8⟩) hS.2.2 dJx4a65c_add_72be8_22

set_option maxHeartbeats 4000000 in
set_option maxRecDepth 100000 in
theorem c_Jx4a65c_add_9ea2d (l : Launch) (D : va_G) (cs : Nat → ClassId) (A : Nat → Prop) (z0 : Nat) (sa : Nat → Nat) (lv : Nat → Prop) (ad : Nat → Nat) (ct : Nat → va_E) (rl n a0 rr N1 ci : Nat) (y : Int32) (f : Nat → Option Nat) (q : vw_C) (hrl : lv rl) (hcl : ct rl = .inr (0, [.int y, .ref a0, .int (nI n)])) (hL : Lst cs z0 lv ad ct n a0 rr N1 f) (h38 : ¬ lv 38) (hn : n < 12) (hq : vwCl[ci]? = some q) (hel : Lel lv ad ct ci n f) (hqb : Cond.castable q.1 "java/lang/Object" ∈ cbad) (re : Nat) (vs : List Value) (hre : lv re) (hce : ct re = .inr (ci, vs)) (hrer : re ≠ rl) (PO : Heap → Prop) (hfin : ∀ (q1 M : Nat) (H : Heap), n + 1 ≤ M → M ≤ 20 → wP D A (fun z => lv z ∨ z = 38) (va_up ad 38 q1) (va_up (va_up ct 38 (.inl (cs 2, M, rfs (va_up (cut9 n f) n (some (ad re)))))) rl (.inr (0, [.int (y + 1), .ref q1, .int (nI (n + 1))]))) H → PO H) (hinp : ∀ (H : Heap), 0 < n → n < N1 → wP D A lv ad (va_up (va_up ct rr (.inl (cs 2, N1, rfs (va_up f n (some (ad re)))))) rl (.inr (0, [.int (y + 1), .ref a0, .int (nI (n + 1))]))) H → PO H) : Met l yJx4a65c_add_9ea2d wsJx4a65c_add_9ea2d ({ frames := 9, cells := 1, slots := 20, locals := 280 } : Room) (va_Pc [.ref (ad rl), .ref (ad re)] (pC D cs A z0 sa lv ad ct)) (va_Qi (fun (r9 : Int32) (_ : Unit) => r9 = 1) (fun _ t9 => PO t9.heap) A) 1 20 A := by
  refine Met.ofW (cc := cJx4a65c_add_9ea2d) (maxL := 2) (ret := (some .boolean)) (by decide) rfl ?_
  intro p e s m args below meth c s₁ BB hml hv
  obtain ⟨rfl, hv⟩ := hv
  obtain ⟨hE, hW⟩ := hv
  have hK := hE.1
  have hx := BB.exec
  have hb := BB.bytes
  have hr := BB.returns
  have hts := atoms_spec (ws := wsJx4a65c_add_9ea2d) BB.pre
  have hown : s.vm.findClass RJx4a65c = some m.cls := findClass_of_methodNamed BB.named
  have hlocks := BB.notSynchronized
  have hS : va_S A s.heap s.heap [] := va_S.rf
  have hl := lv_entry ([.ref (ad rl), .ref (ad re)]) (n := 2) (Nat.le_of_ble_eq_true rfl)
  rw [lg_entry_eq]
  generalize (lg_sl ([.ref (ad rl), .ref (ad re)]) ++ List.replicate (2 - (lg_sl ([.ref (ad rl), .ref (ad re)])).length) Slot.unset).toArray = ls at hl ⊢
  have hl : lv_has ls 2 [(0, .ref (ad rl)), (1, .ref (ad re))] := hl
  have hf9 := hts (.fieldLink RJx4a65c 9 "java/util/ArrayList" "elementData" "[Ljava/lang/Object;") (by decide +kernel)
  have hf48 := hts (.fieldLink RJx4a65c 48 "java/util/ArrayList" "size" "I") (by decide +kernel)
  have hf63 := hts (.fieldLink RJx4a65c 63 "java/util/ArrayList" "modCount" "I") (by decide +kernel)
  have hinJx4a65c : ∀ w ∈ u_ws RJx4a65c TJx4a65c 3, w ∈ wsJx4a65c_add_9ea2d := by decide +kernel
  refine lv_aload_n hx hb dJx4a65c_add_9ea2d_0 rfl (lv_at hl 0 rfl) ?_
  refine lv_dup hx hb dJx4a65c_add_9ea2d_1 rfl ?_
  refine wb_getE hx hb hts hinJx4a65c hown hK hW rl rfl hrl hcl rfl 0 (by decide) hf63 (fun x h => u_same (hts (.sameField "java/util/ArrayList" "java/util/AbstractList" "modCount" "I") (by decide +kernel)) x h) (v := .int y) rfl dJx4a65c_add_9ea2d_2 ?_
  refine lv_iconst (v := 1) hx hb dJx4a65c_add_9ea2d_5 (by decide) ?_
  refine lv_iadd hx hb dJx4a65c_add_9ea2d_6 ?_
  refine wb_putE (fs := [.int y, .ref a0, .int (nI n)]) (v := .int (y + 1)) (ty := .int) hx hb hts hinJx4a65c tyJx4a65c tyJx4a65c_ok nmJx4a65c hown hK hW hS rl rfl hrl hcl rfl 0 (by decide) hf63 (fun x h => u_same (hts (.sameField "java/util/ArrayList" "java/util/AbstractList" "modCount" "I") (by decide +kernel)) x h) rfl (by decide +kernel) rfl rfl (Nat.le_of_ble_eq_true rfl) dJx4a65c_add_9ea2d_7 (fun H locs hW hS => ?_)
  have hcl2 : va_up ct rl (.inr (0, [.int (y + 1), .ref a0, .int (nI n)])) rl = .inr (0, [.int (y + 1), .ref a0, .int (nI n)]) := va_up_self _ _ _
  refine lv_aload_n hx hb dJx4a65c_add_9ea2d_10 rfl (lv_at hl 0 rfl) ?_
  refine lv_aload_n hx hb dJx4a65c_add_9ea2d_11 rfl (lv_at hl 1 rfl) ?_
  refine lv_aload_n hx hb dJx4a65c_add_9ea2d_12 rfl (lv_at hl 0 rfl) ?_
  refine wb_getE hx hb hts hinJx4a65c hown hK hW rl rfl hrl hcl2 rfl 1 (by decide) hf9 (fun _ h9 => h9) (v := .ref a0) rfl dJx4a65c_add_9ea2d_13 ?_
  refine lv_aload_n hx hb dJx4a65c_add_9ea2d_16 rfl (lv_at hl 0 rfl) ?_
  refine wb_getE hx hb hts hinJx4a65c hown hK hW rl rfl hrl hcl2 rfl 2 (by decide) hf48 (fun _ h9 => h9) (v := .int (nI n)) rfl dJx4a65c_add_9ea2d_17 ?_
  have hL2 : Lst cs z0 lv ad (va_up ct rl (.inr (0, [.int (y + 1), .ref a0, .int (nI n)]))) n a0 rr N1 f := by
    rcases hL with h | ⟨h0, hrr, ha, hcr, hN, hN9⟩
    · exact Or.inl h
    · exact Or.inr ⟨h0, hrr, ha, by rw [va_up_ne _ _ (fun h => by rw [h, hcl] at hcr; cases hcr)]; exact hcr, hN, hN9⟩
  have hel2 : Lel lv ad (va_up ct rl (.inr (0, [.int (y + 1), .ref a0, .int (nI n)]))) ci n f := fun i hi y9 hy => by
    obtain ⟨z, vs9, z1, z2, z3⟩ := hel i hi y9 hy
    by_cases hz : z = rl
    · subst hz; rw [hcl] at z3; cases z3; exact ⟨z, _, z1, z2, hcl2⟩
    · exact ⟨z, vs9, z1, z2, by rw [va_up_ne _ _ hz]; exact z3⟩
  have hne9 : rl ≠ 38 := fun h => h38 (h ▸ hrl)
  refine va_callv (va_runV (As := [.ref (ad re), .ref a0, .int (nI n)]) (rest := []) ⟨hx, hb, hml, hown, hts⟩ (c_Jx4a65c_add_72be8 l D cs A z0 sa lv ad (va_up ct rl (.inr (0, [.int (y + 1), .ref a0, .int (nI n)]))) rl n a0 rr N1 ci (y + 1) f q hrl hcl2 hL2 h38 hn hq hel2 hqb re vs hre (by rw [va_up_ne _ _ hrer]; exact hce) hrer PO (fun q1 M H h1 h2 hW => hfin q1 M H h1 h2 (by rw [up_sw _ hne9, up_up] at hW; exact hW)) (fun H h1 h2 hW => hinp H h1 h2 (by have hrlr : rr ≠ rl := (fun h => by rcases hL with ⟨h9, -⟩ | ⟨-, -, -, hcr, -⟩; omega; rw [h, hcl] at hcr; cases hcr); rw [up_sw _ hrlr.symm, up_up] at hW; exact hW))) (cwV 3 hts gJx4a65c_add_9ea2d_Jx4a65c_add_72be8 rfl rfl rfl (by decide +kernel) ⟨Nat.le_of_ble_eq_true rfl, Nat.le_of_ble_eq_true rfl⟩) ⟨pC_fb, wb_recv hK hW (r := rl) hrl (ci := 0) rfl hcl2, fun U hU hV => ⟨rfl, hE.at (fun _ h => h) hS hV hU, by rw [hU]; exact hW⟩⟩ rfl rfl hl.1 rfl (lv_room (Nat.le_of_ble_eq_true rfl)) dJx4a65c_add_9ea2d_20 ⟨Nat.le_of_ble_eq_true rfl, Nat.le_of_ble_eq_true rfl⟩) hS (fun _ _ h => h) (fun _ h => h) (fun u t9 H locs ht hvm hw hB hz1 hk1 hS => ?_)
  refine lv_iconst (v := 1) hx hb dJx4a65c_add_9ea2d_23 (by decide) ?_
  refine W.widen (k := 1) (n := 20) (Nat.le_of_ble_eq_true rfl) (Nat.le_of_ble_eq_true rfl) ?_
  exact W.zret (ty := .boolean) (v := 1) hx hb hr (by decide) (fun t8 ht8 hW8 => ⟨⟨_, (), rfl, rfl, by dsimp only; rw [ht8, ← ht]; exact hB⟩, hS.F ht8⟩) hS.2.2 dJx4a65c_add_9ea2d_24
