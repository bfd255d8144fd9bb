/-! ===== pure: small numbers of the law of p24 ===== -/
theorem nI_dv {a c : Nat} {k : Int32} (hk : k = nI c) (ha : a < 2147483648) (hc : 0 < c) (hc2 : c < 2147483648) : nI a / k = nI (a / c) := by
  subst hk
  have h1 : a / c < 2147483648 := Nat.lt_of_le_of_lt (Nat.div_le_self a c) ha
  have e := i32d (a := nI a) (d := nI c) (by rw [nI_toInt ha]; omega) (by rw [nI_toInt hc2]; omega)
  rw [nI_toInt ha, nI_toInt hc2] at e
  apply Int32.toInt_inj.mp
  rw [e, nI_toInt h1]
  exact (Int.natCast_ediv a c).symm
theorem nI_mul (a c : Nat) : nI a * nI c = nI (a * c) := (Int32.ofNat_mul a c).symm
theorem nI_md {a c : Nat} {k : Int32} (hk : k = nI c) (ha : a < 2147483648) (hc : 0 < c) (hc2 : c < 2147483648) : nI a - nI a / k * k = nI (a % c) := by
  rw [nI_dv hk ha hc hc2]
  subst hk
  rw [nI_mul]
  have h1 : a / c * c + a % c = a := by rw [Nat.mul_comm]; exact Nat.div_add_mod a c
  have h2 : nI a = nI (a % c) + nI (a / c * c) := by rw [nI_add, Nat.add_comm, h1]
  rw [h2, Int32.add_sub_cancel]
/-- what the law knows beside the two worlds -/
def BI (g : Nat → Int32) (B : Nat → Nat → Int32) (b : Nat) : Prop := ∀ j, j < b → (B 2 j = 0 → g 0 < B 1 j) ∧ (¬ B 2 j = 0 → B 1 j ≤ g 0)
def LV (fa fd fs g : Nat → Int32) (L B : Nat → Nat → Int32) (n b k9 : Nat) : Prop :=
  Iv g L B n b ∧ (g 0).toInt ≤ 24 * (k9 : Int) ∧ (∀ j, j < n → fa j = L 0 j) ∧ (∀ j, j < b → fs j = B 0 j) ∧ (∀ j, j < b → fd j = B 1 j) ∧ (∀ j, j < n → 0 ≤ (L 4 j).toInt) ∧ BI g B b
theorem LV.k {fa fd fs g : Nat → Int32} {L B : Nat → Nat → Int32} {n b k9 : Nat} (h : LV fa fd fs g L B n b k9) : LV fa fd fs g L B n b (k9 + 1) := by
  obtain ⟨h1, h2, h3⟩ := h
  exact ⟨h1, by omega, h3⟩
def mOk (g : Nat → Int32) (L B : Nat → Nat → Int32) (n b : Nat) : Int32 := if mSafe g L B n b (mPool L 1 n) then 1 else 0
theorem mOk_1 {g : Nat → Int32} {L B : Nat → Nat → Int32} {n b : Nat} (h : mSafe g L B n b (mPool L 1 n)) : mOk g L B n b = 1 := if_pos h
theorem mOk_0 {g : Nat → Int32} {L B : Nat → Nat → Int32} {n b : Nat} (h : ¬ mSafe g L B n b (mPool L 1 n)) : mOk g L B n b = 0 := if_neg h
theorem kIx_nI {n j : Nat} (hj : j < n) (hn : n < 1000) : kIx n (nI j) = 0 := if_pos (isIx_nI hj hn)
theorem kSt_nI {L : Nat → Nat → Int32} {n j : Nat} {k : Int32} (hj : j < n) (hn : n < 1000) (h : L 5 j = k) : kSt L n k (nI j) = 0 := by
  unfold kSt
  rw [if_pos (isIx_nI hj hn), ixN_nI (by omega), if_pos h]
theorem kSt_nI2 {L : Nat → Nat → Int32} {n j : Nat} {k : Int32} (hj : j < n) (hn : n < 1000) (h : ¬ L 5 j = k) : kSt L n k (nI j) = 2 := by
  unfold kSt
  rw [if_pos (isIx_nI hj hn), ixN_nI (by omega), if_neg h]
theorem Bd.c5 {g : Nat → Int32} {L L' B : Nat → Nat → Int32} {n b : Nat} (h : Bd g L B n b) (hk : ∀ k, ¬ k = 5 → ∀ i, L' k i = L k i) : Bd g L' B n b := by
  obtain ⟨h1, h2, h3, h4, h5, h6, h7, h8⟩ := h
  refine ⟨h1, h2, h3, h4, h5, h6, fun i hi => ?_, h8⟩
  rw [hk 0 (by decide), hk 1 (by decide), hk 3 (by decide)]
  exact h7 i hi
theorem and_max (x : Int32) : ∃ j, j < 2147483648 ∧ x &&& 2147483647 = nI j := by
  refine ⟨(x &&& 2147483647).toBitVec.toNat, ?_, ?_⟩
  · rw [Int32.toBitVec_and, BitVec.toNat_and]
    exact Nat.lt_of_le_of_lt Nat.and_le_right (by decide)
  · apply Int32.toBitVec_inj.mp
    show _ = BitVec.ofNat 32 _
    simp
def pX (b9 L9 : Nat) (xs : Nat → Int32) (U : State) : Prop := va_X b9 L9 xs U U.heap ∧ b9 < U.heap.size
theorem pX_fb {b9 L9 : Nat} {xs : Nat → Int32} {av : List Value} : FrameBlind (va_Pc av (pX b9 L9 xs)) := fun a U g mk q => by
  obtain ⟨q0, q1, q2⟩ := q
  exact ⟨q0, q1.moved (u := U) (U := U.calling g mk a) (Vm.Alike.refl U.vm), q2⟩
