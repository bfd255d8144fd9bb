/-! ===== pure: the least set ===== -/
def pcN (a : Nat) : Nat → Nat
  | 0 => 0
  | j + 1 => pcN a j + (if a.testBit j = true then 1 else 0)
theorem pcN_le (a : Nat) : ∀ k, pcN a k ≤ k
  | 0 => Nat.le_refl _
  | k + 1 => by have := pcN_le a k; unfold pcN; split <;> omega
theorem pcN_mono {a s : Nat} (h : ∀ i, a.testBit i = true → s.testBit i = true) : ∀ k, pcN a k ≤ pcN s k
  | 0 => Nat.le_refl _
  | k + 1 => by
    have ih := pcN_mono h k
    unfold pcN
    by_cases q : a.testBit k = true
    · rw [if_pos q, if_pos (h k q)]; omega
    · rw [if_neg q]; split <;> omega
theorem sub_le {a s : Nat} (h : ∀ i, a.testBit i = true → s.testBit i = true) : a ≤ s := by
  have e : a &&& s = a := Nat.eq_of_testBit_eq (fun i => by
    rw [Nat.testBit_and]
    by_cases q : a.testBit i = true
    · rw [q, h i q]; rfl
    · rw [Bool.not_eq_true] at q; rw [q]; rfl)
  rw [← e]
  exact Nat.and_le_right
theorem cBits_all : ∀ x, x < 64 → ∀ y, y < 64 → cBits (nI (64 * x + y)) = nI (pcN (64 * x + y) 12) := by decide +kernel
theorem cBits_pc {a : Nat} (h : a < 4096) : cBits (nI a) = nI (pcN a 12) := by
  have := cBits_all (a / 64) (by omega) (a % 64) (by omega)
  rw [show 64 * (a / 64) + a % 64 = a by omega] at this
  exact this
theorem and_one (y : Int32) : y &&& 1 = if hB y 0 = true then 1 else 0 := by
  refine hB_ext (fun i hi => ?_)
  rw [hB_and, hB_1 i hi]
  by_cases q : hB y 0 = true
  · rw [if_pos q, hB_1 i hi]
    by_cases e : i = 0
    · subst e; rw [q]; rfl
    · simp [e]
  · rw [if_neg q, hB_0]
    by_cases e : i = 0
    · subst e; rw [Bool.not_eq_true] at q; rw [q]; rfl
    · simp [e]
theorem mSize_pc (a : Nat) : ∀ k, k ≤ 12 → mSize (nI a) k = nI (pcN a k)
  | 0, _ => by rw [mSize]; rfl
  | k + 1, h => by
    rw [mSize, mSize_pc a k (by omega), and_one, hB_shr _ (by omega), hB_nI _ _ (by omega)]
    show _ = nI (pcN a k + (if a.testBit k = true then 1 else 0))
    rw [← nI_add]
    split <;> rfl
def enc : Option Nat → Int32
  | none => -1
  | some a => nI a
def lt2 (a c : Nat) : Prop := pcN a 12 < pcN c 12 ∨ (pcN a 12 = pcN c 12 ∧ a < c)
def ltO (a : Nat) : Option Nat → Prop
  | none => True
  | some c => lt2 a c
theorem nI_nm1 {c : Nat} (h : c < 4096) : ¬ nI c = -1 := fun q => by
  have h1 := nI_toInt (n := c) (by omega)
  rw [q, show (-1 : Int32).toInt = -1 from rfl] at h1
  omega
theorem cLess_ltO {a : Nat} (ha : a < 4096) {bo : Option Nat} (hb : ∀ c, bo = some c → c < 4096) : cLess (nI a) (enc bo) ↔ ltO a bo := by
  cases bo with
  | none => exact ⟨fun _ => trivial, fun _ => Or.inl rfl⟩
  | some c =>
    have hc := hb c rfl
    have p1 := pcN_le a 12
    have p2 := pcN_le c 12
    show (nI c = -1 ∨ cBits (nI a) - cBits (nI c) < 0 ∨ (cBits (nI a) - cBits (nI c) = 0 ∧ ¬ nI c ≤ nI a)) ↔ lt2 a c
    have e1 : (cBits (nI a) - cBits (nI c) < 0) ↔ pcN a 12 < pcN c 12 := by
      rw [cBits_pc ha, cBits_pc hc, ltI, pk_sub_toInt (by omega) (by omega), t0]; omega
    have e2 : (cBits (nI a) - cBits (nI c) = 0) ↔ pcN a 12 = pcN c 12 := by
      rw [cBits_pc ha, cBits_pc hc, ← Int32.toInt_inj, pk_sub_toInt (by omega) (by omega), t0]; omega
    have e3 : (¬ nI c ≤ nI a) ↔ a < c := by rw [nI_leI (by omega) (by omega)]; omega
    rw [e1, e2, e3]
    unfold lt2
    exact ⟨fun q => q.resolve_left (nI_nm1 hc), Or.inr⟩
theorem ltO_trans {s c : Nat} {o : Option Nat} (h1 : lt2 s c) (h2 : ltO c o) : ltO s o := by
  cases o with
  | none => trivial
  | some x => unfold ltO lt2 at *; omega
theorem lt2_sub {a s : Nat} (h : ∀ i, a.testBit i = true → s.testBit i = true) : ¬ lt2 s a := by
  have h1 := pcN_mono h 12
  have h2 := sub_le h
  unfold lt2
  omega
theorem ltO_sub {a s : Nat} (h : ∀ i, a.testBit i = true → s.testBit i = true) {o : Option Nat} (q : ltO s o) : ltO a o := by
  have h1 := pcN_mono h 12
  have h2 := sub_le h
  cases o with
  | none => trivial
  | some x => unfold ltO lt2 at *; omega
theorem least_ex {p : Nat → Prop} : ∀ k, p k → ∃ i, p i ∧ ∀ j, j < i → ¬ p j := by
  intro k
  induction k using Nat.strongRecOn with
  | ind k ih =>
    intro hk
    by_cases q : ∃ j, j < k ∧ p j
    · obtain ⟨j, h1, h2⟩ := q
      exact ih j h1 h2
    · exact ⟨k, hk, fun j h1 h2 => q ⟨j, h1, h2⟩⟩
theorem tb_lt {s i n : Nat} (h : s < 2 ^ n) (q : s.testBit i = true) : i < n := by
  rcases Nat.lt_or_ge i n with h1 | h1
  · exact h1
  · rw [Nat.testBit_lt_two_pow (Nat.lt_of_lt_of_le h (Nat.pow_le_pow_right (by decide) h1))] at q
    cases q
def InF (o : Int32) (a next s : Nat) : Prop := s < 2 ^ 12 ∧ (∀ i, a.testBit i = true → s.testBit i = true) ∧ ∀ i, s.testBit i = true → a.testBit i = true ∨ (next ≤ i ∧ hB o i = true)
/-- what a search answers -/
def Sp (o : Int32) (P : Nat → Prop) (a next : Nat) (bo ro : Option Nat) : Prop := (∀ c, ro = some c → c < 4096) ∧ (ro = bo ∨ ∃ s, ro = some s ∧ InF o a next s ∧ P s ∧ ltO s bo)
theorem or_bit (a i j : Nat) : (a ||| 2 ^ i).testBit j = (a.testBit j || decide (i = j)) := by rw [Nat.testBit_or, Nat.testBit_two_pow]
theorem InF_up {o : Int32} {a next s i : Nat} (h1 : next ≤ i) (ho : hB o i = true) (h : InF o (a ||| 2 ^ i) (i + 1) s) : InF o a next s := by
  refine ⟨h.1, fun j q => h.2.1 j (by rw [or_bit, q]; rfl), fun j q => ?_⟩
  rcases h.2.2 j q with q1 | q1
  · rw [or_bit] at q1
    by_cases e : i = j
    · subst e; exact Or.inr ⟨h1, ho⟩
    · simp [e] at q1; exact Or.inl q1
  · exact Or.inr ⟨by omega, q1.2⟩
theorem cLWl_spec (P : Nat → Prop) (o : Int32) (f : Nat → Int32 → Int32 → Int32) {next a : Nat} (ha : a < 2 ^ next) {bo : Option Nat} (hbo : ∀ c, bo = some c → c < 4096)
    (hf : ∀ (nx a9 : Nat) (b9 : Option Nat), next < nx → nx ≤ 12 → a9 < 2 ^ nx → (∀ c, b9 = some c → c < 4096) → ∃ ro, f nx (nI a9) (enc b9) = enc ro ∧ Sp o P a9 nx b9 ro ∧ ∀ s, InF o a9 nx s → P s → ¬ ltO s ro) :
    ∀ k, next + k ≤ 12 → ∃ ro, cLWl f o next (nI a) k (enc bo) = enc ro ∧ Sp o P a next bo ro ∧ ∀ i, next ≤ i → i < next + k → hB o i = true → ∀ s, InF o (a ||| 2 ^ i) (i + 1) s → P s → ¬ ltO s ro
  | 0, _ => ⟨bo, rfl, ⟨hbo, Or.inl rfl⟩, fun i h1 h2 => by omega⟩
  | k + 1, hk => by
    obtain ⟨ro, e, ⟨s1, s2⟩, s3⟩ := cLWl_spec P o f ha hbo hf k (by omega)
    unfold cLWl
    by_cases q : hB o (next + k) = true
    · rw [if_neg (fun z => by rw [(hB_c o (show next + k < 12 by omega)).mp z] at q; cases q), e, shl_one (show next + k ≤ 12 by omega), nI_or]
      have hlt : a ||| 2 ^ (next + k) < 2 ^ (next + k + 1) := Nat.or_lt_two_pow (Nat.lt_of_lt_of_le ha (Nat.pow_le_pow_right (by decide) (by omega))) (Nat.pow_lt_pow_right (by decide) (by omega))
      obtain ⟨r2, e2, ⟨u1, u2⟩, u3⟩ := hf (next + k + 1) (a ||| 2 ^ (next + k)) ro (by omega) (by omega) hlt s1
      refine ⟨r2, e2, ⟨u1, ?_⟩, fun i h1 h2 h3 s hs hP => ?_⟩
      · rcases u2 with rfl | ⟨s, rfl, v1, v2, v3⟩
        · exact s2
        · refine Or.inr ⟨s, rfl, InF_up (by omega) q v1, v2, ?_⟩
          rcases s2 with rfl | ⟨s', rfl, w1, w2, w3⟩
          · exact v3
          · exact ltO_trans v3 w3
      · by_cases e9 : i = next + k
        · subst e9; exact u3 s hs hP
        · have h9 := s3 i h1 (by omega) h3 s hs hP
          rcases u2 with rfl | ⟨s', rfl, v1, v2, v3⟩
          · exact h9
          · exact fun z => h9 (ltO_trans z v3)
    · rw [if_pos ((hB_c o (show next + k < 12 by omega)).mpr (by simpa using q))]
      refine ⟨ro, e, ⟨s1, s2⟩, fun i h1 h2 h3 => ?_⟩
      by_cases e9 : i = next + k
      · subst e9; exact absurd h3 q
      · exact s3 i h1 (by omega) h3
theorem cLW_spec (nd : Nat → Int32) (gv : Nat → Nat → Int32) (pool o : Int32) : ∀ (d next a : Nat) (bo : Option Nat), 12 - next < d → next ≤ 12 → a < 2 ^ next → (∀ c, bo = some c → c < 4096) →
    ∃ ro, cLW nd gv pool o d next (nI a) (enc bo) = enc ro ∧ Sp o (fun s => cAll nd gv (pool ||| nI s)) a next bo ro ∧ ∀ s, InF o a next s → cAll nd gv (pool ||| nI s) → ¬ ltO s ro
  | 0, next, a, bo, h, _, _, _ => absurd h (Nat.not_lt_zero _)
  | d + 1, next, a, bo, h, hn, ha, hbo => by
    have ha2 : a < 2 ^ 12 := Nat.lt_of_lt_of_le ha (Nat.pow_le_pow_right (by decide) hn)
    rw [cLW]
    by_cases hl : cLess (nI a) (enc bo)
    · rw [if_pos hl]
      have hl2 := (cLess_ltO (by omega) hbo).mp hl
      by_cases hs : cAll nd gv (pool ||| nI a)
      · rw [if_pos hs]
        refine ⟨some a, rfl, ⟨fun c e => by cases e; omega, Or.inr ⟨a, rfl, ⟨ha2, fun _ q => q, fun _ q => Or.inl q⟩, hs, hl2⟩⟩, fun s h1 h2 => lt2_sub h1.2.1⟩
      · rw [if_neg hs]
        obtain ⟨ro, e, s1, s3⟩ := cLWl_spec (fun s => cAll nd gv (pool ||| nI s)) o (cLW nd gv pool o d) ha hbo (fun nx a9 b9 h1 h2 h3 h4 => cLW_spec nd gv pool o d nx a9 b9 (by omega) h2 h3 h4) (12 - next) (by omega)
        refine ⟨ro, e, s1, fun s h1 h2 => ?_⟩
        have hne : ∃ i, s.testBit i = true ∧ ¬ a.testBit i = true := by
          by_cases q : ∃ i, s.testBit i = true ∧ ¬ a.testBit i = true
          · exact q
          · exfalso
            have : s = a := Nat.eq_of_testBit_eq (fun i => by
              by_cases q1 : a.testBit i = true
              · rw [q1, h1.2.1 i q1]
              · by_cases q2 : s.testBit i = true
                · exact absurd ⟨i, q2, q1⟩ q
                · rw [Bool.not_eq_true] at q1 q2; rw [q1, q2])
            rw [this] at h2
            exact hs h2
        obtain ⟨i0, hi0⟩ := hne
        obtain ⟨i, ⟨hi1, hi2⟩, hi3⟩ := least_ex (p := fun i => s.testBit i = true ∧ ¬ a.testBit i = true) i0 hi0
        rcases h1.2.2 i hi1 with q | ⟨q1, q2⟩
        · exact absurd q hi2
        · have hi12 := tb_lt h1.1 hi1
          refine s3 i q1 (by omega) q2 s ⟨h1.1, fun j z => ?_, fun j z => ?_⟩ h2
          · rw [or_bit] at z
            by_cases e9 : i = j
            · subst e9; exact hi1
            · simp [e9] at z; exact h1.2.1 j z
          · rw [or_bit]
            by_cases z2 : a.testBit j = true
            · exact Or.inl (by rw [z2]; rfl)
            · by_cases e9 : i = j
              · exact Or.inl (by simp [e9])
              · have hij : ¬ j < i := fun w => hi3 j w ⟨z, z2⟩
                rcases h1.2.2 j z with w | w
                · exact absurd w z2
                · exact Or.inr ⟨by omega, w.2⟩
    · rw [if_neg hl]
      refine ⟨bo, rfl, ⟨hbo, Or.inl rfl⟩, fun s h1 h2 h3 => hl ((cLess_ltO (by omega) hbo).mpr (ltO_sub h1.2.1 h3))⟩
section SRC
variable {g : Nat → Int32} {L B : Nat → Nat → Int32} {n b : Nat}
abbrev sub9 (L : Nat → Nat → Int32) (n s : Nat) : Prop := nI s &&& (mPool L 0 n ^^^ (-1)) = 0
theorem mFound_spec (g : Nat → Int32) (L B : Nat → Nat → Int32) (n b : Nat) : ∀ k, k ≤ 4096 → ∃ ro, mFound g L B n b k = enc ro ∧ (ro = none ∨ ∃ s, ro = some s ∧ s < k ∧ sub9 L n s ∧ mSafe g L B n b (mPool L 1 n ||| nI s)) ∧ ∀ s, s < k → sub9 L n s → mSafe g L B n b (mPool L 1 n ||| nI s) → ¬ ltO s ro
  | 0, _ => ⟨none, rfl, Or.inl rfl, fun s h => absurd h (Nat.not_lt_zero _)⟩
  | k + 1, hk => by
    obtain ⟨ro, e, s1, s2⟩ := mFound_spec g L B n b k (by omega)
    unfold mFound
    rw [e]
    have keep : (¬ (sub9 L n k ∧ mSafe g L B n b (mPool L 1 n ||| nI k)) ∨ ¬ ltO k ro) → ∃ r2, enc ro = enc r2 ∧ (r2 = none ∨ ∃ s, r2 = some s ∧ s < k + 1 ∧ sub9 L n s ∧ mSafe g L B n b (mPool L 1 n ||| nI s)) ∧ ∀ s, s < k + 1 → sub9 L n s → mSafe g L B n b (mPool L 1 n ||| nI s) → ¬ ltO s r2 := fun q => by
      refine ⟨ro, rfl, ?_, fun s h1 h2 h3 => ?_⟩
      · rcases s1 with h | ⟨s, h1, h2, h3⟩
        · exact Or.inl h
        · exact Or.inr ⟨s, h1, by omega, h3⟩
      · by_cases e9 : s = k
        · subst e9
          rcases q with q | q
          · exact absurd ⟨h2, h3⟩ q
          · exact q
        · exact s2 s (by omega) h2 h3
    by_cases q : sub9 L n k
    · rw [if_pos q]
      have take : mSafe g L B n b (mPool L 1 n ||| nI k) → (∀ c, ro = some c → pcN k 12 < pcN c 12) → ∃ r2, nI k = enc r2 ∧ (r2 = none ∨ ∃ s, r2 = some s ∧ s < k + 1 ∧ sub9 L n s ∧ mSafe g L B n b (mPool L 1 n ||| nI s)) ∧ ∀ s, s < k + 1 → sub9 L n s → mSafe g L B n b (mPool L 1 n ||| nI s) → ¬ ltO s r2 := fun hs hc => by
        refine ⟨some k, rfl, Or.inr ⟨k, rfl, by omega, q, hs⟩, fun s h1 h2 h3 h4 => ?_⟩
        by_cases e9 : s = k
        · subst e9; unfold ltO lt2 at h4; omega
        · have h5 := s2 s (by omega) h2 h3
          cases ro with
          | none => exact h5 trivial
          | some c =>
            have := hc c rfl
            unfold ltO lt2 at h4 h5
            omega
      cases ro with
      | none =>
        rw [if_pos (show enc none < 0 by decide)]
        split
        · next hs => exact take hs (fun c e9 => by cases e9)
        · next hs => exact keep (Or.inl (fun z => hs z.2))
      | some c =>
        obtain ⟨-, hck⟩ : True ∧ c < k := by
          rcases s1 with h | ⟨s, h1, h2, -⟩
          · cases h
          · cases h1; exact ⟨trivial, h2⟩
        rw [if_neg (show ¬ enc (some c) < 0 from nI_pos (by omega))]
        show ∃ ro, (if mSize (nI c) 12 ≤ mSize (nI k) 12 then nI c else _) = enc ro ∧ _
        have p1 := pcN_le c 12
        have p2 := pcN_le k 12
        rw [mSize_pc c 12 (Nat.le_refl _), mSize_pc k 12 (Nat.le_refl _)]
        by_cases q2 : nI (pcN c 12) ≤ nI (pcN k 12)
        · rw [if_pos q2]
          rw [nI_leI (by omega) (by omega)] at q2
          exact keep (Or.inr (by unfold ltO lt2; omega))
        · rw [if_neg q2]
          rw [nI_leI (by omega) (by omega)] at q2
          split
          · next hs => exact take hs (fun c9 e9 => by cases e9; omega)
          · next hs => exact keep (Or.inl (fun z => hs z.2))
    · rw [if_neg q]
      exact keep (Or.inl (fun z => q z.1))
theorem cFound_eq (h : Bd g L B n b) (nd : Nat → Int32) (gv : Nat → Nat → Int32) : ∀ k, k ≤ 2 ^ n → cFound (fsN nd g B b) (gvS gv g L n) L n k = mFound g L B n b k
  | 0, _ => rfl
  | k + 1, hk => by
    have n12 := h.1
    have h4 : 2 ^ n ≤ 4096 := Nat.le_trans (Nat.pow_le_pow_right (by decide) n12) (by decide)
    have ih := cFound_eq h nd gv k (by omega)
    obtain ⟨ro, e, s1, -⟩ := mFound_spec g L B n b k (by omega)
    have hro : ∀ c, ro = some c → c < 4096 := fun c hc => by
      rcases s1 with q | ⟨s, h1, h2, -⟩
      · rw [q] at hc; cases hc
      · rw [h1] at hc; cases hc; omega
    have hsafe := cAll_eq h nd gv (okS_or (okS_pool L 1 n12) (show k < 2 ^ n by omega))
    unfold cFound mFound
    rw [ih, e]
    by_cases q : nI k &&& (mPool L 0 n ^^^ (-1)) = 0
    · rw [if_pos q, if_pos q]
      cases ro with
      | none =>
        rw [if_pos ((cLess_ltO (by omega) hro).mpr trivial), if_pos (show enc none < 0 by decide)]
        by_cases z : mSafe g L B n b (mPool L 1 n ||| nI k)
        · rw [if_pos z, if_pos (hsafe.mpr z)]
        · rw [if_neg z, if_neg (fun w => z (hsafe.mp w))]
      | some c =>
        obtain ⟨-, hck⟩ : True ∧ c < k := by
          rcases s1 with h | ⟨s, h1, h2, -⟩
          · cases h
          · cases h1; exact ⟨trivial, h2⟩
        have p1 := pcN_le c 12
        have p2 := pcN_le k 12
        have hcl := cLess_ltO (a := k) (by omega) hro
        rw [if_neg (show ¬ enc (some c) < 0 from nI_pos (by omega))]
        have em : (mSize (enc (some c)) 12 ≤ mSize (nI k) 12) = (pcN c 12 ≤ pcN k 12) := by
          show (mSize (nI c) 12 ≤ mSize (nI k) 12) = _
          rw [mSize_pc c 12 (Nat.le_refl _), mSize_pc k 12 (Nat.le_refl _), nI_leI (by omega) (by omega)]
        by_cases q2 : pcN c 12 ≤ pcN k 12
        · rw [if_neg (fun z => by have := hcl.mp z; unfold ltO lt2 at this; omega), if_pos (show mSize (enc (some c)) 12 ≤ mSize (nI k) 12 by rw [em]; exact q2)]
        · rw [if_pos (hcl.mpr (by unfold ltO lt2; omega)), if_neg (show ¬ mSize (enc (some c)) 12 ≤ mSize (nI k) 12 by rw [em]; exact q2)]
          by_cases z : mSafe g L B n b (mPool L 1 n ||| nI k)
          · rw [if_pos z, if_pos (hsafe.mpr z)]
          · rw [if_neg z, if_neg (fun w => z (hsafe.mp w))]
    · rw [if_neg q, if_neg q]
theorem sub9_iff {L : Nat → Nat → Int32} {n s : Nat} (hs : s < 2 ^ 12) : sub9 L n s ↔ ∀ i, s.testBit i = true → hB (mPool L 0 n) i = true := by
  constructor
  · intro h i hi
    have h12 := tb_lt hs hi
    have h1 : hB (nI s &&& (mPool L 0 n ^^^ (-1))) i = false := by rw [h]; exact hB_0 i
    rw [hB_and, hB_xor, hB_m1 i (by omega), hB_nI _ _ (by omega), hi] at h1
    simpa using h1
  · intro h
    refine hB_ext (fun i hi => ?_)
    rw [hB_and, hB_xor, hB_m1 i hi, hB_nI _ _ hi, hB_0]
    by_cases q : s.testBit i = true
    · rw [h i q, q]; rfl
    · rw [Bool.not_eq_true] at q; rw [q]; rfl
theorem InF0_iff {L : Nat → Nat → Int32} {n s : Nat} (hn : n ≤ 12) : InF (mPool L 0 n) 0 0 s ↔ s < 2 ^ n ∧ sub9 L n s := by
  constructor
  · rintro ⟨h1, -, h3⟩
    have h4 : ∀ i, s.testBit i = true → hB (mPool L 0 n) i = true := fun i hi => by
      rcases h3 i hi with q | q
      · rw [Nat.zero_testBit] at q; cases q
      · exact q.2
    refine ⟨Nat.lt_pow_two_of_testBit s (fun i hi => ?_), (sub9_iff h1).mpr h4⟩
    by_cases q : s.testBit i = true
    · have := h4 i q
      rw [hB_pool L 0 n hn i] at this
      simp [show ¬ i < n by omega] at this
    · rw [Bool.not_eq_true] at q; exact q
  · rintro ⟨h1, h2⟩
    have h3 : s < 2 ^ 12 := Nat.lt_of_lt_of_le h1 (Nat.pow_le_pow_right (by decide) hn)
    exact ⟨h3, fun i q => (by rw [Nat.zero_testBit] at q; cases q), fun i q => Or.inr ⟨Nat.zero_le _, (sub9_iff h3).mp h2 i q⟩⟩
theorem cLW_eq (h : Bd g L B n b) (nd : Nat → Int32) (gv : Nat → Nat → Int32) : cLW (fsN nd g B b) (gvS gv g L n) (mPool L 1 n) (mPool L 0 n) 13 0 0 (-1) = mFound g L B n b (2 ^ n) := by
  have n12 := h.1
  have h4 : 2 ^ n ≤ 4096 := Nat.le_trans (Nat.pow_le_pow_right (by decide) n12) (by decide)
  obtain ⟨r1, e1, ⟨-, a1⟩, a2⟩ := cLW_spec (fsN nd g B b) (gvS gv g L n) (mPool L 1 n) (mPool L 0 n) 13 0 0 none (by decide) (by decide) (by decide) (fun c q => by cases q)
  obtain ⟨r2, e2, b1, b2⟩ := mFound_spec g L B n b (2 ^ n) h4
  have e1 : cLW (fsN nd g B b) (gvS gv g L n) (mPool L 1 n) (mPool L 0 n) 13 0 0 (-1) = enc r1 := e1
  have hsafe : ∀ s, s < 2 ^ n → (cAll (fsN nd g B b) (gvS gv g L n) (mPool L 1 n ||| nI s) ↔ mSafe g L B n b (mPool L 1 n ||| nI s)) := fun s hs => cAll_eq h nd gv (okS_or (okS_pool L 1 n12) hs)
  rw [e1, e2]
  congr 1
  have c1 : ∀ s, r1 = some s → ¬ ltO s r2 := fun s hs => by
    rcases a1 with q | ⟨s', q, v1, v2, -⟩
    · rw [q] at hs; cases hs
    · rw [q] at hs; cases hs
      obtain ⟨w1, w2⟩ := (InF0_iff n12).mp v1
      exact b2 s w1 w2 ((hsafe s w1).mp v2)
  have c2 : ∀ s, r2 = some s → ¬ ltO s r1 := fun s hs => by
    rcases b1 with q | ⟨s', q, v1, v2, v3⟩
    · rw [q] at hs; cases hs
    · rw [q] at hs; cases hs
      exact a2 s ((InF0_iff n12).mpr ⟨v1, v2⟩) ((hsafe s v1).mpr v3)
  cases r1 with
  | none =>
    cases r2 with
    | none => rfl
    | some s => exact absurd trivial (c2 s rfl)
  | some s =>
    cases r2 with
    | none => exact absurd trivial (c1 s rfl)
    | some s' =>
      have d1 := c1 s rfl
      have d2 := c2 s' rfl
      unfold ltO lt2 at d1 d2
      rw [show s = s' by omega]
end SRC
