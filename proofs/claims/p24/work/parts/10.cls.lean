/-! ===== the class's world: roles 0 the pool, 1 its list of loans, 2 of bonds, 3 the sheet, 4 needs, 5 gives, 6 7 the lists' rows, 8.. the sheet's rows, 20.. loans, 32.. bonds ===== -/
abbrev lvC (n b : Nat) : Nat → Prop := fun r => r < 6 ∨ (r = 6 ∧ 0 < n) ∨ (r = 7 ∧ 0 < b) ∨ (8 ≤ r ∧ r < 20) ∨ (20 ≤ r ∧ r < 20 + n) ∨ (32 ≤ r ∧ r < 32 + b)
def ctC (cs : Nat → ClassId) (ad : Nat → Nat) (z0 : Nat) (g : Nat → Int32) (L B : Nat → Nat → Int32) (n b : Nat) (y1 y2 : Int32) (N1 N2 : Nat) (nd : Nat → Int32) (gv : Nat → Nat → Int32) : Nat → va_E := fun r =>
  if r = 0 then .inr (4, [.ref (ad 1), .ref (ad 2), .ref (ad 3), .int (g 0), .int (g 1), .int (g 2), .int (g 3), .int (g 4)])
  else if r = 1 then .inr (0, [.int y1, .ref (if n = 0 then z0 else ad 6), .int (nI n)])
  else if r = 2 then .inr (0, [.int y2, .ref (if b = 0 then z0 else ad 7), .int (nI b)])
  else if r = 3 then .inr (3, [.ref (ad 4), .ref (ad 5)])
  else if r = 4 then .inl (cs 0, 9, .inl nd)
  else if r = 5 then .inl (cs 3, 12, .inr (.inr (.inr (.inr (fun j => if j < 12 then some (ad (8 + j)) else none)))))
  else if r = 6 then .inl (cs 2, N1, .inr (.inr (.inr (.inr (fun j => if j < n then some (ad (20 + j)) else none)))))
  else if r = 7 then .inl (cs 2, N2, .inr (.inr (.inr (.inr (fun j => if j < b then some (ad (32 + j)) else none)))))
  else if r < 20 then .inl (cs 0, 9, .inl (gv (r - 8)))
  else if r < 32 then .inr (2, [.int (L 0 (r - 20)), .int (L 2 (r - 20)), .int (L 3 (r - 20)), .int (L 1 (r - 20)), .int (L 4 (r - 20)), .int (L 5 (r - 20))])
  else .inr (1, [.int (B 0 (r - 32)), .int (B 1 (r - 32)), .int (B 2 (r - 32)), .int (B 3 (r - 32))])
section CTC
variable {cs : Nat → ClassId} {ad : Nat → Nat} {z0 : Nat} {g g' : Nat → Int32} {L L' B B' : Nat → Nat → Int32} {n b : Nat} {y1 y2 y1' y2' : Int32} {N1 N2 : Nat} {nd nd' : Nat → Int32} {gv gv' : Nat → Nat → Int32} {r i j : Nat}
theorem ctC_ln (hi : i < 12) : ctC cs ad z0 g L B n b y1 y2 N1 N2 nd gv (20 + i) = .inr (2, [.int (L 0 i), .int (L 2 i), .int (L 3 i), .int (L 1 i), .int (L 4 i), .int (L 5 i)]) := by
  unfold ctC
  rw [if_neg (by omega), if_neg (by omega), if_neg (by omega), if_neg (by omega), if_neg (by omega), if_neg (by omega), if_neg (by omega), if_neg (by omega), if_neg (by omega), if_pos (by omega), Nat.add_sub_cancel_left]
theorem ctC_bd : ctC cs ad z0 g L B n b y1 y2 N1 N2 nd gv (32 + i) = .inr (1, [.int (B 0 i), .int (B 1 i), .int (B 2 i), .int (B 3 i)]) := by
  unfold ctC
  rw [if_neg (by omega), if_neg (by omega), if_neg (by omega), if_neg (by omega), if_neg (by omega), if_neg (by omega), if_neg (by omega), if_neg (by omega), if_neg (by omega), if_neg (by omega), Nat.add_sub_cancel_left]
theorem ctC_rw (hj : j < 12) : ctC cs ad z0 g L B n b y1 y2 N1 N2 nd gv (8 + j) = .inl (cs 0, 9, .inl (gv j)) := by
  unfold ctC
  rw [if_neg (by omega), if_neg (by omega), if_neg (by omega), if_neg (by omega), if_neg (by omega), if_neg (by omega), if_neg (by omega), if_neg (by omega), if_pos (by omega), Nat.add_sub_cancel_left]
theorem ctC_g (h : r ≠ 0) : ctC cs ad z0 g L B n b y1 y2 N1 N2 nd gv r = ctC cs ad z0 g' L B n b y1 y2 N1 N2 nd gv r := by
  unfold ctC
  rw [if_neg h, if_neg h]
theorem ctC_nd (h : r ≠ 4) : ctC cs ad z0 g L B n b y1 y2 N1 N2 nd gv r = ctC cs ad z0 g L B n b y1 y2 N1 N2 nd' gv r := by
  unfold ctC
  simp only [if_neg h]
theorem ctC_gv (h : ∀ j, r = 8 + j → gv j = gv' j) : ctC cs ad z0 g L B n b y1 y2 N1 N2 nd gv r = ctC cs ad z0 g L B n b y1 y2 N1 N2 nd gv' r := by
  unfold ctC
  by_cases h8 : 8 ≤ r
  · rw [h (r - 8) (by omega)]
  · have : ¬ r = 8 ∧ r < 8 := by omega
    have h9 : r = 0 ∨ r = 1 ∨ r = 2 ∨ r = 3 ∨ r = 4 ∨ r = 5 ∨ r = 6 ∨ r = 7 := by omega
    rcases h9 with rfl | rfl | rfl | rfl | rfl | rfl | rfl | rfl <;> rfl
theorem ctC_L (h : ∀ i k, r = 20 + i → i < 12 → L k i = L' k i) : ctC cs ad z0 g L B n b y1 y2 N1 N2 nd gv r = ctC cs ad z0 g L' B n b y1 y2 N1 N2 nd gv r := by
  by_cases h8 : 20 ≤ r ∧ r < 32
  · obtain ⟨i, rfl⟩ : ∃ i, r = 20 + i := ⟨r - 20, by omega⟩
    rw [ctC_ln (by omega), ctC_ln (by omega), h i 0 rfl (by omega), h i 1 rfl (by omega), h i 2 rfl (by omega), h i 3 rfl (by omega), h i 4 rfl (by omega), h i 5 rfl (by omega)]
  · unfold ctC
    by_cases h9 : r < 20
    · simp only [if_pos h9]
    · have h10 : ¬ r < 32 := by omega
      simp only [if_neg h10]
theorem ctC_B (h : ∀ i k, r = 32 + i → B k i = B' k i) : ctC cs ad z0 g L B n b y1 y2 N1 N2 nd gv r = ctC cs ad z0 g L B' n b y1 y2 N1 N2 nd gv r := by
  by_cases h8 : 32 ≤ r
  · obtain ⟨i, rfl⟩ : ∃ i, r = 32 + i := ⟨r - 32, by omega⟩
    rw [ctC_bd, ctC_bd, h i 0 rfl, h i 1 rfl, h i 2 rfl, h i 3 rfl]
  · unfold ctC
    have h10 : r < 32 := by omega
    simp only [if_pos h10]
theorem lvC_0 (h : r < 6) : lvC n b r := Or.inl h
theorem lvC_ln (h : i < n) : lvC n b (20 + i) := by unfold lvC; omega
theorem lvC_bd (h : i < b) : lvC n b (32 + i) := by unfold lvC; omega
theorem lvC_rw (h : j < 12) : lvC n b (8 + j) := by unfold lvC; omega
end CTC
theorem wP.up {D : va_G} {A lv : Nat → Prop} {ad : Nat → Nat} {ct ct' : Nat → va_E} {H : Heap} {r0 : Nat} {e : va_E} (h : wP D A lv ad (va_up ct r0 e) H) (h0 : ct' r0 = e) (hne : ∀ r, lv r → r ≠ r0 → ct' r = ct r) : wP D A lv ad ct' H :=
  h.to (fun r hr => ⟨hr, rfl, by
    by_cases q : r = r0
    · subst q; rw [va_up_self, h0]
    · rw [va_up_ne _ _ q]; exact hne r hr q⟩)
/-! what the class's methods need of the launch -/
def cstrs : List (Nat × String) := [(56, "there are 12 loans"), (100, "the loan is paid"), (109, "there are 5 bonds"), (117, "there is less cash"), (162, "out of range"), (165, "due is out of range"), (167, "the loan is in another state"), (171, "no such loan"), (174, "no such bond")]
def cbad : List Cond := [.castable "java/lang/IllegalArgumentException" "java/lang/IllegalArgumentException", .castable "java/lang/IllegalStateException" "java/lang/IllegalStateException", .castable "java/lang/IndexOutOfBoundsException" "java/lang/IndexOutOfBoundsException", .castable "Coverpool$Loan" "java/lang/Object", .castable "Coverpool$Bond" "java/lang/Object", .declares (Bundle.initS "java/lang/RuntimeException"), .declares (Bundle.initS "java/lang/Exception"), .declares (Bundle.initS Bundle.tN)]
abbrev zC : String := "java/util/ArrayList"
abbrev zN : String := "DEFAULTCAPACITY_EMPTY_ELEMENTDATA"
abbrev zD : String := "[Ljava/lang/Object;"
def Ev (D : va_G) (cs : Nat → ClassId) (A : Nat → Prop) (z0 : Nat) (sa : Nat → Nat) (U : State) : Prop :=
  va_K D vwCl (vT cs) U ∧ (∀ q, U.heap.size ≤ q → A q) ∧ va_Z zC zN zD (.ref z0) A U U.heap ∧ va_T (.object "java/lang/Object") z0 0 (fun _ => .null) A U U.heap ∧ vx_Zq Bundle.tN "UNASSIGNED_STACK" Bundle.steD A U U.heap ∧ vx_Zq Bundle.tN "SUPPRESSED_SENTINEL" Bundle.listD A U U.heap ∧ (∀ q ∈ cstrs, vk_R RX3 q.1 q.2 (sa q.1) U) ∧ (∀ w ∈ cbad, va_Nw w U) ∧ va_AO "java/lang/Object" U ∧ (∃ mi, va_Mi "[Ljava/lang/Object;" mi U) ∧ va_Dc U ∧ va_AOA .int U
theorem va_AOA.moved {ty : FieldType} {u U : State} (hvm : u.vm.Alike U.vm) (h : va_AOA ty u) : va_AOA ty U := by
  unfold va_AOA Cond.before Cond.holds at h
  simp only [Cond.value, beq_iff_eq] at h
  cases hc : u.vm.findClass (FieldType.array ty).toString with
  | none => simp [hc] at h
  | some comp =>
    simp only [hc, Option.bind_some, Option.bind_eq_some_iff, Option.map_eq_some_iff] at h
    obtain ⟨c, hi, k, hk, hb⟩ := h
    obtain ⟨k', hk', he⟩ := hvm.2.2 _ _ hk
    have hi' : (U.vm.classes.findIdx? fun (x : Class) => match x.kind with | .array component _ => component == comp | _ => false) = some c := by
      refine Eq.trans (va_idx_bare U.vm comp).symm ?_
      first | rw [hvm.bare_eq] | rw [← hvm.bare_eq]
      exact (va_idx_bare u.vm comp).trans hi
    have f1 : U.vm.findClass (FieldType.array ty).toString = some comp := by rw [hvm.findClass]; exact hc
    have f3 : ∀ nm : String, U.vm.findClass nm = u.vm.findClass nm := fun nm => by rw [hvm.findClass]
    have hkind : k'.kind = k.kind := by rw [he]
    unfold va_AOA Cond.before Cond.holds
    simp only [Cond.value, beq_iff_eq]
    rw [f1, Option.bind_some, Option.bind_eq_some_iff]
    refine ⟨c, hi', ?_⟩
    rw [Option.map_eq_some_iff]
    refine ⟨k', hk', ?_⟩
    rw [hkind]
    simp only [f3]
    exact hb
theorem cbad_warm {s U : State} (hW : s.WarmedH U.vm) (h : ∀ w ∈ cbad, va_Nw w s) : ∀ w ∈ cbad, va_Nw w U := by
  intro w hw
  have h1 := h w hw
  simp only [cbad, List.mem_cons, List.not_mem_nil, or_false] at hw
  rcases hw with rfl | rfl | rfl | rfl | rfl | rfl | rfl | rfl <;> first | exact va_Nw.warmC hW h1 | exact va_Nw.warmD hW h1
theorem Ev.at {D : va_G} {cs : Nat → ClassId} {A A' : Nat → Prop} {z0 : Nat} {sa : Nat → Nat} {s U : State} {H : Heap} {locs : List Loc} (h : Ev D cs A z0 sa s) (hAA : ∀ q, A' q → A q) (hS : va_S A' s.heap H locs) (hW : s.WarmedH U.vm) (hU : U.heap = H) : Ev D cs A z0 sa U := by
  obtain ⟨h1, h2, h3, h4, h5, h6, h7, h8, h9, ⟨mi, h10⟩, h11, h12⟩ := h
  have hk : ∀ a : Nat, a < s.heap.size → ¬ A a → H[a]? = s.heap[a]? := fun a ha hn => hS.2.1 a ha (fun q => hn (hAA a q))
  subst hU
  exact ⟨h1.moved hW.alike, fun q hq => h2 q (Nat.le_trans hS.1 hq), va_Z.moved hW.alike (h3.kept hk), va_T.moved hW.alike (h4.kept hk), vx_Zq.moved hW.alike (h5.kept hk), vx_Zq.moved hW.alike (h6.kept hk), fun q hq => (h7 q hq).warm hW, cbad_warm hW h8, h9.moved hW.alike, ⟨mi, h10.moved hW.alike⟩, h11.moved hW.alike, h12.moved hW.alike⟩
theorem Ev.fb {D : va_G} {cs : Nat → ClassId} {A : Nat → Prop} {z0 : Nat} {sa : Nat → Nat} {U : State} {g : JFrame} {mk : MethodId} {a : Array Value} (h : Ev D cs A z0 sa U) : Ev D cs A z0 sa (U.calling g mk a) :=
  Ev.at (A' := fun _ => False) (s := U) (U := U.calling g mk a) h (fun _ q => q.elim) va_S.rf (State.WarmedH.refl U) rfl
def pC (D : va_G) (cs : Nat → ClassId) (A : Nat → Prop) (z0 : Nat) (sa : Nat → Nat) (lv : Nat → Prop) (ad : Nat → Nat) (ct : Nat → va_E) (U : State) : Prop := Ev D cs A z0 sa U ∧ wP D A lv ad ct U.heap
theorem pC_fb {D : va_G} {cs : Nat → ClassId} {A : Nat → Prop} {z0 : Nat} {sa : Nat → Nat} {lv : Nat → Prop} {ad : Nat → Nat} {ct : Nat → va_E} {av : List Value} : FrameBlind (va_Pc av (pC D cs A z0 sa lv ad ct)) := fun _ _ _ _ q => ⟨q.1, q.2.1.fb, q.2.2⟩
theorem pE_fb {D : va_G} {cs : Nat → ClassId} {A : Nat → Prop} {z0 : Nat} {sa : Nat → Nat} {av : List Value} : FrameBlind (va_Pc av (Ev D cs A z0 sa)) := fun _ _ _ _ q => ⟨q.1, q.2.fb⟩
theorem x3a_ok : ∀ w ∈ (vx_atS RX3 164 "java/lang/IllegalArgumentException" ["java/lang/RuntimeException", "java/lang/Exception"]).filter (fun w => !goodWord w), w ∈ cbad := by decide +kernel
theorem x3s_ok : ∀ w ∈ (vx_atS RX3 58 "java/lang/IllegalStateException" ["java/lang/RuntimeException", "java/lang/Exception"]).filter (fun w => !goodWord w), w ∈ cbad := by decide +kernel
theorem x3i_ok : ∀ w ∈ (vx_atS RX3 173 "java/lang/IndexOutOfBoundsException" ["java/lang/RuntimeException", "java/lang/Exception"]).filter (fun w => !goodWord w), w ∈ cbad := by decide +kernel
