set_option maxHeartbeats 4000000 in
set_option maxRecDepth 100000 in
theorem c_J8_newLength_cabcc (l : Launch) (a k h : Nat) (ha : a < 100) (hk : 0 < k ∧ k < 100) (hh : h < 100) : Met l yJ8_newLength_cabcc wsJ8_newLength_cabcc ({ frames := 1, cells := 0, slots := 0, locals := 24 } : Room) (va_Pc [.int (nI a), .int (nI k), .int (nI h)] (fun _ => True)) (va_Qi (fun (r9 : Int32) (_ : Unit) => r9 = nI (a + max k h)) (fun _ _ => True) (fun _ => False)) 0 0 (fun _ => False) := by
  refine Met.ofW (cc := cJ8_newLength_cabcc) (maxL := 4) (ret := (some .int)) (by decide) rfl ?_
  intro p e s m args below meth c s₁ BB hml hv
  obtain ⟨rfl, hv⟩ := hv
  have hx := BB.exec
  have hb := BB.bytes
  have hr := BB.returns
  have hts := atoms_spec (ws := wsJ8_newLength_cabcc) BB.pre
  have hown : s.vm.findClass RJ8 = some m.cls := findClass_of_methodNamed BB.named
  have hlocks := BB.notSynchronized
  have hS : va_S (fun _ => False) s.heap s.heap [] := va_S.rf
  have hl := lv_entry ([.int (nI a), .int (nI k), .int (nI h)]) (n := 4) (Nat.le_of_ble_eq_true rfl)
  rw [lg_entry_eq]
  generalize (lg_sl ([.int (nI a), .int (nI k), .int (nI h)]) ++ List.replicate (4 - (lg_sl ([.int (nI a), .int (nI k), .int (nI h)])).length) Slot.unset).toArray = ls at hl ⊢
  have hl : lv_has ls 4 [(0, .int (nI a)), (1, .int (nI k)), (2, .int (nI h))] := hl
  refine lv_iload_n hx hb dJ8_newLength_cabcc_0 rfl (lv_at hl 0 rfl) ?_
  refine lv_iload_n hx hb dJ8_newLength_cabcc_1 rfl (lv_at hl 1 rfl) ?_
  refine lv_iload_n hx hb dJ8_newLength_cabcc_2 rfl (lv_at hl 2 rfl) ?_
  refine va_mmax (x := nI k) (y := nI h) hx hb (by rw [hml]; exact hl.1.symm) hown (hts (.methodLink RJ8 194 Lib.Math.max.name) (by decide +kernel)) (hts (.static Lib.Math.max.name) (by decide +kernel)) (hts (.initialized "java/lang/Math") (by decide +kernel)) (hts (.code Lib.Math.max.name Lib.Math.max.code 2 (some .int)) (by decide +kernel)) (Nat.le_of_ble_eq_true rfl) (Nat.le_of_ble_eq_true rfl) (Nat.zero_le _) (Nat.zero_le _) dJ8_newLength_cabcc_3 ?_
  rw [mx_nI (by omega) (by omega)]
  refine lv_iadd hx hb dJ8_newLength_cabcc_6 ?_
  rw [nI_add]
  refine lv_istore_n (lv' := [(3, .int (nI (a + max k h))), (0, .int (nI a)), (1, .int (nI k)), (2, .int (nI h))]) hx hb dJ8_newLength_cabcc_7 rfl hl (by decide) rfl (fun ls hl => ?_)
  refine lv_iconst (v := 0) hx hb dJ8_newLength_cabcc_8 (by decide) ?_
  refine lv_iload_n hx hb dJ8_newLength_cabcc_9 rfl (lv_at hl 0 rfl) ?_
  refine lv_icmp_ge (tgt := 21) hx hb dJ8_newLength_cabcc_10 (by decide) (fun c_1 => ?_) (fun c_1 => ?_)
  · -- 0 ge nI (a + max k h) : True
    exact absurd c_1 (nI_nle (by omega) (by omega))
  · -- 0 ge nI (a + max k h) : False
    refine lv_iload_n hx hb dJ8_newLength_cabcc_13 rfl (lv_at hl 0 rfl) ?_
    refine lv_ldc (v := 2147483639) hx hb hown (hts (.constant RJ8 200 (2147483639)) (by decide +kernel)) dJ8_newLength_cabcc_14 ?_
    refine lv_icmp_gt (tgt := 21) hx hb dJ8_newLength_cabcc_16 (by decide) (fun c_2 => ?_) (fun c_2 => ?_)
    · -- nI (a + max k h) gt 2147483639 : True
      exact absurd (show nI 2147483639 < _ from c_2) (nI_nlt (by omega) (by omega))
    · -- nI (a + max k h) gt 2147483639 : False
      refine lv_iload_n hx hb dJ8_newLength_cabcc_19 rfl (lv_at hl 0 rfl) ?_
      exact W.iret (v := nI (a + max k h)) hx hb hr (fun t9 ht9 hW9 => ⟨⟨_, (), rfl, (by rfl), trivial⟩, hS.F ht9⟩) hS.2.2 dJ8_newLength_cabcc_20

set_option maxHeartbeats 4000000 in
set_option maxRecDepth 100000 in
theorem c_J7_copyOf_6403c (l : Launch) (D : va_G) (cs : Nat → ClassId) (A : Nat → Prop) (z0 : Nat) (sa : Nat → Nat) (lv : Nat → Prop) (ad : Nat → Nat) (ct : Nat → va_E) (r N M ci : Nat) (f : Nat → Option Nat) (q : vw_C) (hrl : lv r) (hc : ct r = .inl (cs 2, N, rfs f)) (h38 : ¬ lv 38) (hM : N ≤ M ∧ M ≤ 20) (hq : vwCl[ci]? = some q) (hel : ∀ i : Nat, i < N → ∀ y : Nat, f i = some y → ∃ (z : Nat) (vs : List Value), lv z ∧ ad z = y ∧ ct z = .inr (ci, vs)) (hqb : Cond.castable q.1 "java/lang/Object" ∈ cbad) (mi : Nat) : Met l yJ7_copyOf_6403c wsJ7_copyOf_6403c ({ frames := 2, cells := 1, slots := 20, locals := 60 } : Room) (va_Pc [.ref (ad r), .int (nI M), .ref mi] (pCm D cs A z0 sa lv ad ct mi)) (va_Qr (fun (_ : Unit) => True) (fun _ a9 t9 => wP D A (fun z => lv z ∨ z = 38) (va_up ad 38 a9) (va_up ct 38 (.inl (cs 2, M, rfs (fun j => if j < N then f j else none)))) t9.heap) A) 1 20 A := by
  refine Met.ofW (cc := cJ7_copyOf_6403c) (maxL := 4) (ret := (some (.array (.object "java/lang/Object")))) (by decide) rfl ?_
  intro p e s m args below meth c s₁ BB hml hv
  obtain ⟨rfl, hv⟩ := hv
  obtain ⟨⟨hE, hW⟩, hmi⟩ := hv
  have hK := hE.1
  have hx := BB.exec
  have hb := BB.bytes
  have hr := BB.returns
  have hts := atoms_spec (ws := wsJ7_copyOf_6403c) BB.pre
  have hown : s.vm.findClass RJ7 = some m.cls := findClass_of_methodNamed BB.named
  have hlocks := BB.notSynchronized
  have hS : va_S A s.heap s.heap [] := va_S.rf
  have hl := lv_entry ([.ref (ad r), .int (nI M), .ref mi]) (n := 4) (Nat.le_of_ble_eq_true rfl)
  rw [lg_entry_eq]
  generalize (lg_sl ([.ref (ad r), .int (nI M), .ref mi]) ++ List.replicate (4 - (lg_sl ([.ref (ad r), .int (nI M), .ref mi])).length) Slot.unset).toArray = ls at hl ⊢
  have hl : lv_has ls 4 [(0, .ref (ad r)), (1, .int (nI M)), (2, .ref mi)] := hl
  refine lv_aload_n hx hb dJ7_copyOf_6403c_0 rfl (lv_at hl 2 rfl) ?_
  obtain ⟨mi2, hmi2⟩ := hE.2.2.2.2.2.2.2.2.2.1
  refine va_ldcM (mi := mi) hx hb hown (hts (.classLink RJ7 110 "[Ljava/lang/Object;") (by decide +kernel)) hmi dJ7_copyOf_6403c_1 ?_
  refine lv_acmp_ne (rx := some mi) (ry := some mi) (tgt := 13) hx hb dJ7_copyOf_6403c_3 (by decide) (fun hno => absurd rfl hno) (fun _ => ?_)
  refine lv_iload_n hx hb dJ7_copyOf_6403c_6 rfl (lv_at hl 1 rfl) ?_
  refine wb_newq (C := "java/lang/Object") (N' := M) hx hb hown (hts (.classLink RJ7 2 "java/lang/Object") (by decide +kernel)) hE.2.2.2.2.2.2.2.2.1 hK hW hS hE.2.1 38 h38 (by decide) 2 rfl (nI_pos (by omega)) (nI_clamp (by omega)) (by omega) (by decide) (show 0 + M ≤ 20 by omega) dJ7_copyOf_6403c_7 (fun q1 H hW hS => ?_)
  have hne9 : r ≠ 38 := fun h => h38 (h ▸ hrl)
  have e9 : ad r = va_up ad 38 q1 r := (va_up_ne _ _ hne9).symm
  refine lv_goto (tgt := 24) hx hb dJ7_copyOf_6403c_10 (by decide) ?_
  refine lv_astore_n (lv' := [(3, .ref q1), (0, .ref (ad r)), (1, .int (nI M)), (2, .ref mi)]) hx hb dJ7_copyOf_6403c_24 rfl hl (by decide) rfl (fun ls hl => ?_)
  refine lv_aload_n hx hb dJ7_copyOf_6403c_25 rfl (lv_at hl 1 rfl) ?_
  refine lv_iconst (v := 0) hx hb dJ7_copyOf_6403c_26 (by decide) ?_
  refine lv_aload_n hx hb dJ7_copyOf_6403c_27 rfl (lv_at hl 0 rfl) ?_
  refine lv_iconst (v := 0) hx hb dJ7_copyOf_6403c_28 (by decide) ?_
  refine lv_aload_n hx hb dJ7_copyOf_6403c_29 rfl (lv_at hl 1 rfl) ?_
  refine wb_alenE hx hb hK hW r (Or.inl hrl) 2 e9 (by rw [va_up_ne _ _ hne9]; exact hc) rfl dJ7_copyOf_6403c_30 ?_
  refine lv_iload_n hx hb dJ7_copyOf_6403c_31 rfl (lv_at hl 2 rfl) ?_
  refine va_mmin (x := nI N) (y := nI M) hx hb (by rw [hml]; exact hl.1.symm) hown (hts (.methodLink RJ7 304 Lib.Math.min.name) (by decide +kernel)) (hts (.static Lib.Math.min.name) (by decide +kernel)) (hts (.initialized "java/lang/Math") (by decide +kernel)) (hts (.code Lib.Math.min.name Lib.Math.min.code 2 (some .int)) (by decide +kernel)) (Nat.le_of_ble_eq_true rfl) (Nat.le_of_ble_eq_true rfl) (Nat.le_refl 1) (show 0 + M ≤ 20 by omega) dJ7_copyOf_6403c_32 ?_
  rw [if_neg (nI_nlt (by omega) (by omega))]
  refine wb_copy (f := f) (g := fun _ => none) (q := q) (ci := ci) hx hb (by rw [hml]; exact hl.1.symm) hown (hts (.methodLink RJ7 150 arraycopyName) (by decide +kernel)) (hts (.native arraycopyName) (by decide +kernel)) (hts (.static arraycopyName) (by decide +kernel)) (hts (.initialized "java/lang/System") (by decide +kernel)) hK hW hS r 38 2 (Or.inl hrl) (Or.inr rfl) e9 (va_up_self _ _ _).symm (by rw [va_up_ne _ _ hne9]; exact hc) (va_up_self _ _ _) rfl (by omega) hM.1 hq (fun i hi y hy => ?_) (hE.2.2.2.2.2.2.2.1 _ hqb) (Nat.le_of_ble_eq_true rfl) (Nat.le_of_ble_eq_true rfl) dJ7_copyOf_6403c_35 (fun H locs hW hS => ?_)
  · obtain ⟨z, vs, z1, z2, z3⟩ := hel i hi y hy
    have hz : z ≠ 38 := fun h => h38 (h ▸ z1)
    exact ⟨z, vs, Or.inl z1, by rw [va_up_ne _ _ hz]; exact z2, by rw [va_up_ne _ _ hz]; exact z3⟩
  have hW : wP D A (fun z => lv z ∨ z = 38) (va_up ad 38 q1) (va_up ct 38 (.inl (cs 2, M, rfs (fun j => if j < N then f j else none)))) H := hW.to (fun z hz => ⟨hz, rfl, by
    by_cases h9 : z = 38
    · subst h9; rw [va_up_self, va_up_self, cpy_0]
    · rw [va_up_ne _ _ h9, va_up_ne _ _ h9, va_up_ne _ _ h9]⟩)
  refine lv_aload_n hx hb dJ7_copyOf_6403c_38 rfl (lv_at hl 0 rfl) ?_
  refine W.widen (k := 1) (n := 20) (Nat.le_refl 1) (by omega) ?_
  exact W.aret (v := .ref q1) hx hb hr (Or.inr ⟨_, rfl⟩) (Or.inr ⟨_, rfl⟩) (fun t9 ht9 hW9 => ⟨⟨(), q1, rfl, trivial, by dsimp only; rw [ht9]; exact hW⟩, hS.F ht9⟩) hS.2.2 dJ7_copyOf_6403c_39

set_option maxHeartbeats 4000000 in
set_option maxRecDepth 100000 in
theorem c_J7_copyOf_1904c (l : Launch) (D : va_G) (cs : Nat → ClassId) (A : Nat → Prop) (z0 : Nat) (sa : Nat → Nat) (lv : Nat → Prop) (ad : Nat → Nat) (ct : Nat → va_E) (r N M ci : Nat) (f : Nat → Option Nat) (q : vw_C) (hrl : lv r) (hc : ct r = .inl (cs 2, N, rfs f)) (h38 : ¬ lv 38) (hM : N ≤ M ∧ M ≤ 20) (hq : vwCl[ci]? = some q) (hel : ∀ i : Nat, i < N → ∀ y : Nat, f i = some y → ∃ (z : Nat) (vs : List Value), lv z ∧ ad z = y ∧ ct z = .inr (ci, vs)) (hqb : Cond.castable q.1 "java/lang/Object" ∈ cbad) : Met l yJ7_copyOf_1904c wsJ7_copyOf_1904c ({ frames := 4, cells := 1, slots := 20, locals := 98 } : Room) (va_Pc [.ref (ad r), .int (nI M)] (pC D cs A z0 sa lv ad ct)) (va_Qr (fun (_ : Unit) => True) (fun _ a9 t9 => wP D A (fun z => lv z ∨ z = 38) (va_up ad 38 a9) (va_up ct 38 (.inl (cs 2, M, rfs (fun j => if j < N then f j else none)))) t9.heap) A) 1 20 A := by
  refine Met.ofW (cc := cJ7_copyOf_1904c) (maxL := 2) (ret := (some (.array (.object "java/lang/Object")))) (by decide) rfl ?_
  intro p e s m args below meth c s₁ BB hml hv
  obtain ⟨rfl, hv⟩ := hv
  obtain ⟨hE, hW⟩ := hv
  have hK := hE.1
  have hx := BB.exec
  have hb := BB.bytes
  have hr := BB.returns
  have hts := atoms_spec (ws := wsJ7_copyOf_1904c) BB.pre
  have hown : s.vm.findClass RJ7 = some m.cls := findClass_of_methodNamed BB.named
  have hlocks := BB.notSynchronized
  have hS : va_S A s.heap s.heap [] := va_S.rf
  have hl := lv_entry ([.ref (ad r), .int (nI M)]) (n := 2) (Nat.le_of_ble_eq_true rfl)
  rw [lg_entry_eq]
  generalize (lg_sl ([.ref (ad r), .int (nI M)]) ++ List.replicate (2 - (lg_sl ([.ref (ad r), .int (nI M)])).length) Slot.unset).toArray = ls at hl ⊢
  have hl : lv_has ls 2 [(0, .ref (ad r)), (1, .int (nI M))] := hl
  refine lv_aload_n hx hb dJ7_copyOf_1904c_0 rfl (lv_at hl 0 rfl) ?_
  refine lv_iload_n hx hb dJ7_copyOf_1904c_1 rfl (lv_at hl 1 rfl) ?_
  refine lv_aload_n hx hb dJ7_copyOf_1904c_2 rfl (lv_at hl 0 rfl) ?_
  obtain ⟨mi, hmi⟩ := hE.2.2.2.2.2.2.2.2.2.1
  have hcell : s.heap[ad r]? = some (vp_cell (cs 2) (N, rfs f)) := by have := hW.hat hrl; rw [hc] at this; exact this
  refine va_getC (C := "[Ljava/lang/Object;") (mi := mi) hx hb (by rw [hml]; exact hl.1.symm) hown (hts (.methodLink RJ7 86 ⟨"java/lang/Object", "getClass", "()Ljava/lang/Class;"⟩) (by decide +kernel)) (va_Dc.use hE.2.2.2.2.2.2.2.2.2.2.1) (hts (.selects "[Ljava/lang/Object;" ⟨"java/lang/Object", "getClass", "()Ljava/lang/Class;"⟩ ⟨"java/lang/Object", "getClass", "()Ljava/lang/Class;"⟩) (by decide +kernel)) (hts (.instanceMethod ⟨"java/lang/Object", "getClass", "()Ljava/lang/Class;"⟩) (by decide +kernel)) (hts (.native ⟨"java/lang/Object", "getClass", "()Ljava/lang/Class;"⟩) (by decide +kernel)) hmi ⟨_, hcell, rfl, va_nmO (hK.2 2 _ rfl).2 rfl⟩ (Nat.le_of_ble_eq_true rfl) (Nat.le_of_ble_eq_true rfl) dJ7_copyOf_1904c_3 ?_
  refine va_callr (va_runS (As := [.ref (ad r), .int (nI M), .ref mi]) (rest := []) ⟨hx, hb, hml, hown, hts⟩ (c_J7_copyOf_6403c l D cs A z0 sa lv ad ct r N M ci f q hrl hc h38 hM hq hel hqb mi) (va_cwS 3 hts gJ7_copyOf_1904c_J7_copyOf_6403c rfl rfl rfl (by decide +kernel) ⟨Nat.le_of_ble_eq_true rfl, Nat.le_of_ble_eq_true rfl⟩) ⟨pCm_fb, fun U hU hV => ⟨rfl, ⟨hE.at (fun _ h => h) hS hV hU, by rw [hU]; exact hW⟩, hmi.moved hV.alike⟩⟩ rfl rfl hl.1 rfl (lv_room (Nat.le_of_ble_eq_true rfl)) dJ7_copyOf_1904c_6 ⟨Nat.le_of_ble_eq_true rfl, Nat.le_of_ble_eq_true rfl⟩) hS (fun _ _ h => h) (fun _ h => h) (fun u q1 t9 H locs ht hvm hw hB hz1 hk1 hS => ?_)
  exact W.aret (v := .ref q1) hx hb hr (Or.inr ⟨_, rfl⟩) (Or.inr ⟨_, rfl⟩) (fun t8 ht8 hW8 => ⟨⟨(), q1, rfl, trivial, by dsimp only; rw [ht8, ← ht]; exact hB⟩, hS.F ht8⟩) hS.2.2 dJ7_copyOf_1904c_9
