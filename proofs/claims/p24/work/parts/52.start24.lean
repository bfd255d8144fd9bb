/-! ===== the law's entry ===== -/
theorem wP.reA {D : va_G} {A A' lv : Nat → Prop} {ad : Nat → Nat} {ct : Nat → va_E} {H : Heap} (h : wP D A lv ad ct H) (hA : ∀ q, A q → q < H.size → A' q) : wP D A' lv ad ct H :=
  ⟨h.1, h.2.1, fun r hr => ⟨hA _ (h.2.2 r hr).1 (h.hat hr).lt, (h.2.2 r hr).2⟩⟩
theorem RC.reA {D : va_G} {cs : Nat → ClassId} {A A' : Nat → Prop} {z0 o : Nat} {g : Nat → Int32} {L B : Nat → Nat → Int32} {n b : Nat} {H : Heap} (h : RC D cs A z0 o g L B n b H) (hA : ∀ q, A q → q < H.size → A' q) : RC D cs A' z0 o g L B n b H := by
  obtain ⟨ad, y1, y2, N1, N2, nd, gv, h1, h2, h3, h4⟩ := h
  exact ⟨ad, y1, y2, N1, N2, nd, gv, h1, h2, h3, h4.reA hA⟩
theorem arr_prim {args : Array Value} {s : State} {ty : FieldType} (h : (Cond.arrayClass ty).before args s = true) (hno : ∀ C, ty ≠ .object C) : ∃ cA : ClassId, ArrOfT s cA ty ∧ va_RA s cA ty := by
  obtain ⟨c, k, comp, h1, h2, h3⟩ := Cond.arrayClass_spec h
  refine ⟨c, fun N z => ⟨(fun k h => by cases h), k, h2, comp, h3⟩, ?_⟩
  cases ty with
  | object C => exact absurd rfl (hno C)
  | _ => exact h1
theorem arr_obj {args : Array Value} {s : State} {C : String} (h : (Cond.arrayOver (.object C)).before args s = true) : ∃ cA : ClassId, ArrOfT s cA (.object C) ∧ va_RA s cA (.object C) := by
  obtain ⟨comp, c, k, h1, h2, h3, h4, h5⟩ := Cond.arrayOver_spec h
  exact ⟨c, fun N z => ⟨(fun k h => by cases h), k, h3, comp, h4⟩, k, comp, h3, h4, h1, h5⟩
theorem arr_arr {args : Array Value} {s : State} {t : FieldType} (h : (Cond.arrayOver (.array t)).before args s = true) : ∃ cA : ClassId, ArrOfT s cA (.array t) ∧ va_RA s cA (.array t) := by
  obtain ⟨comp, c, k, h1, h2, h3, h4⟩ := Cond.arrayOver_specA h
  exact ⟨c, fun N z => ⟨(fun k h => by cases h), k, h2, comp, h3⟩, h4⟩
theorem str_of {args : Array Value} {s : State} {k : Nat} {tx : String} (h1 : (Cond.stringRef RX3 k tx).before args s = true) (h2 : (Cond.exactly (.string RX3 k) "java/lang/String").before args s = true) : ∃ a, vk_R RX3 k tx a s := by
  obtain ⟨a, c, cell, k9, h3, -⟩ := Cond.exactly_spec h2
  exact ⟨a, vk_R.of (A := args) h1 h3⟩
set_option maxRecDepth 100000 in
set_option maxHeartbeats 4000000 in
theorem law_env {p : Program} {s : State} {m : MethodId} {meth : Method} {c : Code} {b9 L9 : Nat} {xs : Nat → Int32} (C0 : lw_At p s m meth c b9 L9 xs) : ∃ (D : va_G) (cs : Nat → ClassId) (z0 : Nat) (sa : Nat → Nat), Ev D cs (fun q => s.heap.size ≤ q) z0 sa s ∧ (va_Nc xS xA s ∧ va_Nc xS xI s ∧ va_Nc xA xI s) ∧ va_Nw (.methodLinkNest RX3 21 yX2_init "Coverpool") s := by
  obtain ⟨hx, hb0, hr, hml, hown0, hts, hX, hbl, hlocks, hgv⟩ := C0
  have hs := flat_of_before _ hgv
  have hA : ∀ a : Nat, a < s.heap.size → ¬ (fun q : Nat => s.heap.size ≤ q) a := fun a h => Nat.not_le.mpr h
  obtain ⟨c0, i0, k0⟩ := u_known (C := RJx4a65c) (T := TJx4a65c) (N := 3) (n := 3) hts inJx4a65c (hts (.instantiable RJx4a65c 3) (by decide +kernel))
  obtain ⟨c1, i1, k1⟩ := u_known (C := RX0) (T := TX0) (N := 4) (n := 4) hts inX0 (hts (.instantiable RX0 4) (by decide +kernel))
  obtain ⟨c2, i2, k2⟩ := u_known (C := RX1) (T := TX1) (N := 6) (n := 6) hts inX1 (hts (.instantiable RX1 6) (by decide +kernel))
  obtain ⟨c3, i3, k3⟩ := u_known (C := RX2) (T := TX2) (N := 2) (n := 2) hts inX2 (hts (.instantiable RX2 2) (by decide +kernel))
  obtain ⟨c4, i4, k4⟩ := u_known (C := RX3) (T := TX3) (N := 8) (n := 8) hts inX3 (hts (.instantiable RX3 8) (by decide +kernel))
  obtain ⟨a0, r0⟩ := arr_prim (ty := .int) (hts (.arrayClass .int) (by decide +kernel)) (fun _ h => by cases h)
  obtain ⟨a2, r2⟩ := arr_obj (hts (.arrayOver (.object "java/lang/Object")) (by decide +kernel))
  obtain ⟨a3, r3⟩ := arr_arr (hts (.arrayOver (.array .int)) (by decide +kernel))
  obtain ⟨z9, -, -, -, hz9, -⟩ := Cond.exactly_spec (hs (.exactly (.static zC zN zD) "[Ljava/lang/Object;") (by decide +kernel))
  have hlen : (Term.length (.static zC zN zD)).eval #[Value.ref b9] s none [] s = some (.int (Int32.ofNat 0)) := by
    obtain ⟨y, h1, h2⟩ := Cond.eq_one (hs (.eq (.length (.static zC zN zD)) (.int 0)) (by decide +kernel))
    rw [h1]; rw [← h2]; rfl
  obtain ⟨z0, hz0, hT⟩ := va_Tof (tm := .static zC zN zD) (ty := .object "java/lang/Object") (N := 0) (f := fun _ => .null) (A := fun q => s.heap.size ≤ q) (by decide) (hs (.arrayOf (.static zC zN zD) (.object "java/lang/Object")) (by decide +kernel)) hlen (fun j h => absurd h (Nat.not_lt_zero _)) hA
  obtain ⟨s56, hs56⟩ := str_of (k := 56) (tx := "there are 12 loans") (hts (.stringRef RX3 56 "there are 12 loans") (by decide +kernel)) (hs (.exactly (.string RX3 56) "java/lang/String") (by decide +kernel))
  obtain ⟨s100, hs100⟩ := str_of (k := 100) (tx := "the loan is paid") (hts (.stringRef RX3 100 "the loan is paid") (by decide +kernel)) (hs (.exactly (.string RX3 100) "java/lang/String") (by decide +kernel))
  obtain ⟨s109, hs109⟩ := str_of (k := 109) (tx := "there are 5 bonds") (hts (.stringRef RX3 109 "there are 5 bonds") (by decide +kernel)) (hs (.exactly (.string RX3 109) "java/lang/String") (by decide +kernel))
  obtain ⟨s117, hs117⟩ := str_of (k := 117) (tx := "there is less cash") (hts (.stringRef RX3 117 "there is less cash") (by decide +kernel)) (hs (.exactly (.string RX3 117) "java/lang/String") (by decide +kernel))
  obtain ⟨s162, hs162⟩ := str_of (k := 162) (tx := "out of range") (hts (.stringRef RX3 162 "out of range") (by decide +kernel)) (hs (.exactly (.string RX3 162) "java/lang/String") (by decide +kernel))
  obtain ⟨s165, hs165⟩ := str_of (k := 165) (tx := "due is out of range") (hts (.stringRef RX3 165 "due is out of range") (by decide +kernel)) (hs (.exactly (.string RX3 165) "java/lang/String") (by decide +kernel))
  obtain ⟨s167, hs167⟩ := str_of (k := 167) (tx := "the loan is in another state") (hts (.stringRef RX3 167 "the loan is in another state") (by decide +kernel)) (hs (.exactly (.string RX3 167) "java/lang/String") (by decide +kernel))
  obtain ⟨s171, hs171⟩ := str_of (k := 171) (tx := "no such loan") (hts (.stringRef RX3 171 "no such loan") (by decide +kernel)) (hs (.exactly (.string RX3 171) "java/lang/String") (by decide +kernel))
  obtain ⟨s174, hs174⟩ := str_of (k := 174) (tx := "no such bond") (hts (.stringRef RX3 174 "no such bond") (by decide +kernel)) (hs (.exactly (.string RX3 174) "java/lang/String") (by decide +kernel))
  have hcb : ∀ w ∈ cbad, w ∈ lw_tbl := by decide +kernel
  have hcb2 : ∀ w ∈ cbad, w.onTables = true := by decide +kernel
  refine ⟨(fun k => if k = 0 then c0 else if k = 1 then c1 else if k = 2 then c2 else if k = 3 then c3 else c4, fun k => if k = 0 then i0 else if k = 1 then i1 else if k = 2 then i2 else if k = 3 then i3 else i4), fun k => if k = 0 then a0 else if k = 2 then a2 else a3, z0, fun k => if k = 56 then s56 else if k = 100 then s100 else if k = 109 then s109 else if k = 117 then s117 else if k = 162 then s162 else if k = 165 then s165 else if k = 167 then s167 else if k = 171 then s171 else s174,
    ⟨⟨fun k q hq => ?_, fun k q hq => ?_⟩, fun _ h => h, va_Zof (hts (.laysStatic zC zN zD) (by decide +kernel)) (hts (.initialized zC) (by decide +kernel)) hz0 hA, hT,
      vx_Zqof (hts (.laysStatic Bundle.tN "UNASSIGNED_STACK" Bundle.steD) (by decide +kernel)) (hts (.initialized Bundle.tN) (by decide +kernel)) (hs (.isRef (.static Bundle.tN "UNASSIGNED_STACK" Bundle.steD)) (by decide +kernel)) hA,
      vx_Zqof (hts (.laysStatic Bundle.tN "SUPPRESSED_SENTINEL" Bundle.listD) (by decide +kernel)) (hts (.initialized Bundle.tN) (by decide +kernel)) (hs (.isRef (.static Bundle.tN "SUPPRESSED_SENTINEL" Bundle.listD)) (by decide +kernel)) hA,
      fun q hq => ?_, fun w hw => va_Nw.of (hcb2 w hw) (hts w (hcb w hw)), va_AO.of (hts (.arrayOver (.object "java/lang/Object")) (by decide +kernel)), va_Mi.of (hs (.isRef (.mirror "[Ljava/lang/Object;")) (by decide +kernel)), va_Dc.of (hts (.declares ⟨"java/lang/Object", "getClass", "()Ljava/lang/Class;"⟩) (by decide +kernel)), va_AOA.of (hts (.arrayOver (.array .int)) (by decide +kernel))⟩,
    ⟨va_Nc.of (hs (.not (.castable xS xA)) (by decide +kernel)), va_Nc.of (hs (.not (.castable xS xI)) (by decide +kernel)), va_Nc.of (hs (.not (.castable xA xI)) (by decide +kernel))⟩, va_Nw.of rfl (hts (.methodLinkNest RX3 21 yX2_init "Coverpool") (by decide +kernel))⟩
  · match k, hq with
    | 0, hq => cases hq; exact k0
    | 1, hq => cases hq; exact k1
    | 2, hq => cases hq; exact k2
    | 3, hq => cases hq; exact k3
    | 4, hq => cases hq; exact k4
    | k + 5, hq => simp at hq
  · match k, hq with
    | 0, hq => cases hq; exact r0
    | 1, hq => cases hq; exact r0
    | 2, hq => cases hq; exact r2
    | 3, hq => cases hq; exact r3
    | 4, hq => cases hq; exact r0
    | k + 5, hq => simp at hq
  · simp only [cstrs, List.mem_cons, List.not_mem_nil, or_false] at hq
    rcases hq with rfl | rfl | rfl | rfl | rfl | rfl | rfl | rfl | rfl
    · exact hs56
    · exact hs100
    · exact hs109
    · exact hs117
    · exact hs162
    · exact hs165
    · exact hs167
    · exact hs171
    · exact hs174
