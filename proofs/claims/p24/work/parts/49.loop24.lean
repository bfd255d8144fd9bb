/-! ===== the law's loops: numbers, and the two worlds alone ===== -/
def LH (D : va_G) (cs : Nat → ClassId) (s : State) (AL : Nat → Prop) (adL : Nat → Nat) (z0 o sz1 : Nat) (fa fd fs g : Nat → Int32) (L B : Nat → Nat → Int32) (n b : Nat) (H : Heap) (locs : List Loc) : Prop :=
  RC D cs (AC s.heap.size AL) z0 o g L B n b H ∧ wP D AL lvL3 adL (ctL cs fa fd fs) H ∧ sz1 ≤ H.size ∧ va_S (fun q => s.heap.size ≤ q) s.heap H locs
theorem spL_y {L : Nat → Nat → Int32} {j : Nat} (h : L 5 j = 2) : spL L (j + 1) = spL L j + L 0 j := by rw [spL, if_pos h]
theorem spL_n {L : Nat → Nat → Int32} {j : Nat} (h : ¬ L 5 j = 2) : spL L (j + 1) = spL L j := by rw [spL, if_neg h]; grind
theorem spB_y {B : Nat → Nat → Int32} {j : Nat} (h : B 2 j = 2) : spB B (j + 1) = spB B j + B 0 j := by rw [spB, if_pos h]
theorem spB_n {B : Nat → Nat → Int32} {j : Nat} (h : ¬ B 2 j = 2) : spB B (j + 1) = spB B j := by rw [spB, if_neg h]; grind
theorem mOwed_y {B : Nat → Nat → Int32} {j : Nat} (h : B 2 j = 0) : mOwed B (j + 1) = mOwed B j + B 0 j := by rw [mOwed, if_pos h]
theorem mOwed_n {B : Nat → Nat → Int32} {j : Nat} (h : ¬ B 2 j = 0) : mOwed B (j + 1) = mOwed B j := by rw [mOwed, if_neg h]; grind
theorem fe_lo {fe : Nat → Int32} {B : Nat → Nat → Int32} {j : Nat} (h : ∀ i, i < j → fe i = B 1 i) : ∀ i, i < j + 1 → upd fe j (B 1 j) i = B 1 i := fun i hi => by
  by_cases e : i = j
  · subst e; rw [upd_at]
  · rw [upd_ne e]; exact h i (by omega)
theorem fe_ge {fe : Nat → Int32} {B : Nat → Nat → Int32} {j b : Nat} (h : ∀ i, j ≤ i → i < b → fe i ≤ B 1 i) : ∀ i, j + 1 ≤ i → i < b → upd fe j (B 1 j) i ≤ B 1 i := fun i hi hb => by
  rw [upd_ne (show i ≠ j by omega)]
  exact h i (by omega) hb
theorem mBes_y {g : Nat → Int32} {B : Nat → Nat → Int32} {b : Nat} (h : g 1 ≤ mOwed B b * 15 / 100) : mBeside g B b = g 1 := if_pos h
theorem mBes_n {g : Nat → Int32} {B : Nat → Nat → Int32} {b : Nat} (h : ¬ g 1 ≤ mOwed B b * 15 / 100) : mBeside g B b = mOwed B b * 15 / 100 := if_neg h
theorem kIn_t {j : Nat} (h : j < 3) : kIn 0 2 (nI j) = 0 := if_pos (wi_n (lo := 0) (hi := 2) ⟨Nat.zero_le _, by omega⟩ (by decide))
theorem lgn {x : Int64} (h : 0 ≤ x.toInt) : ¬ lg_cmp x 0 < 0 := by
  have h0 : (0 : Int64).toInt = 0 := rfl
  unfold lg_cmp
  simp only [gt_iff_lt, Int64.lt_iff_toInt_lt, ← Int64.toInt_inj, h0]
  repeat' split
  all_goals first | (simp; done) | decide | omega
theorem lack_nn {g : Nat → Int32} {L B : Nat → Nat → Int32} {n b : Nat} (h : Bd g L B n b) (set : Int32) {j : Nat} (hj : j < 3) : 0 ≤ (mLack g L B n b (nI j) set).toInt := by
  rw [mLack_int h set hj]
  exact mxL_nn g L B n b set hj
set_option maxHeartbeats 4000000 in
set_option maxRecDepth 100000 in
theorem c_X3_cash (l : Launch) (D : va_G) (cs : Nat → ClassId) (A : Nat → Prop) (z0 : Nat) (sa : Nat → Nat) (ad : Nat → Nat) (g : Nat → Int32) (L B : Nat → Nat → Int32) (n b : Nat) (y1 y2 : Int32) (N1 N2 : Nat) (nd : Nat → Int32) (gv : Nat → Nat → Int32) (hn : n ≤ 12) (hb5 : b ≤ 5) (hN1 : n ≤ N1 ∧ N1 < 1000) (hN2 : b ≤ N2 ∧ N2 < 1000)  : Met l yX3_cash wsX3_cash ({ frames := 1, cells := 0, slots := 0, locals := 24 } : Room) (va_Pc [.ref (ad 0)] (pC D cs A z0 sa (lvC n b) ad (ctC cs ad z0 g L B n b y1 y2 N1 N2 nd gv))) (va_Qi (fun (r9 : Int32) (_ : Unit) => r9 = g 1) (fun _ _ => True) (fun _ => False)) 0 0 (fun _ => False) := by
  refine Met.ofW (cc := cX3_cash) (maxL := 1) (ret := (some .int)) (by decide) rfl ?_
  intro p e s m args below meth c s₁ BB hml hv
  obtain ⟨rfl, hv⟩ := hv
  obtain ⟨hE, hW⟩ := hv
  have hK := hE.1
  have hx := BB.exec
  have hb := BB.bytes
  have hr := BB.returns
  have hts := atoms_spec (ws := wsX3_cash) BB.pre
  have hown : s.vm.findClass RX3 = some m.cls := findClass_of_methodNamed BB.named
  have hlocks := BB.notSynchronized
  have hS : va_S (fun _ => False) s.heap s.heap [] := va_S.rf
  have hl := lv_entry ([.ref (ad 0)]) (n := 1) (Nat.le_of_ble_eq_true rfl)
  rw [lg_entry_eq]
  generalize (lg_sl ([.ref (ad 0)]) ++ List.replicate (1 - (lg_sl ([.ref (ad 0)])).length) Slot.unset).toArray = ls at hl ⊢
  have hl : lv_has ls 1 [(0, .ref (ad 0))] := hl
  have hf30 := hts (.fieldLink RX3 30 "Coverpool" "cash" "I") (by decide +kernel)
  have hinX3 : ∀ w ∈ u_ws RX3 TX3 8, w ∈ wsX3_cash := by decide +kernel
  refine lv_aload_n hx hb dX3_cash_0 rfl (lv_at hl 0 rfl) ?_
  refine wb_get hx hb hts hinX3 hown hK hW 0 (lvC_0 (by decide)) rfl rfl 4 (by decide) hf30 (fun _ h9 => h9) (v := .int (g 1)) rfl dX3_cash_1 ?_
  exact W.iret (v := g 1) hx hb hr (fun t9 ht9 hW9 => ⟨⟨_, (), rfl, (by rfl), trivial⟩, hS.F ht9⟩) hS.2.2 dX3_cash_4
