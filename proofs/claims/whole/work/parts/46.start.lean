/-! ===== the law's loop ===== -/
theorem and31 (x : Int32) : ∃ j, j < 32 ∧ x &&& 31 = nI j := by
  refine ⟨(x &&& 31).toBitVec.toNat, ?_, ?_⟩
  · rw [Int32.toBitVec_and, BitVec.toNat_and]
    exact Nat.lt_of_le_of_lt Nat.and_le_right (by decide)
  · apply Int32.toBitVec_inj.mp
    show _ = BitVec.ofNat 32 _
    simp
set_option maxHeartbeats 4000000 in
set_option maxRecDepth 100000 in
theorem law_loop {p : Program} {l : Launch} {e : Env} {s : State} {m : MethodId} {below : List Frame} {meth : Method} {c : Code} {b9 L9 : Nat} {xs : Nat → Int32} {D : va_G} {cs : Nat → ClassId} {z0 : Nat} {sa : Nat → Nat} {AM : Nat → Prop} {adM : Nat → Nat} {o oo sz1 : Nat} (hst : l.stackTraces = false) (hL9 : L9 ≤ 2560) (C0 : lw_At p s m meth c b9 L9 xs) (hE0 : Ev D cs (fun q => s.heap.size ≤ q) z0 sa s) (hnc : va_Nc xS xA s ∧ va_Nc xS xI s ∧ va_Nc xA xI s) (hAM : ∀ q, AM q → s.heap.size ≤ q ∧ q < sz1) (hoo : s.heap.size ≤ oo ∧ oo < sz1 ∧ ¬ AM oo) :
    ∀ (f9 k9 : Nat), k9 ≤ 512 → 513 ≤ k9 + f9 → ∀ (H : Heap) (locs : List Loc) (ls : Array Slot) (g : Nat → Int32) (L B : Nat → Nat → Int32) (n b : Nat), LI D cs s AM adM z0 o oo sz1 b9 g L B n b k9 (5 * k9) H locs ls → W p l e room_1 s m #[Value.ref b9] below meth c H locs (30 + 2 * k9) (300 + 30 * k9) (lw_Z below #[Value.ref b9] s) (F0 m 23 ls [])
  | 0, k9, h1, h2 => by omega
  | f9 + 1, k9, h1, h2 => by
    intro H locs ls g L B n b hI
    have ih := law_loop (e := e) (below := below) (adM := adM) (o := o) hst hL9 C0 hE0 hnc hAM hoo f9 (k9 + 1)
    have hI0 := hI
    have C9 := C0
    obtain ⟨hR, hM, hO, hIv, hm9, hsz, hS, hl⟩ := hI
    obtain ⟨hx, hb0, hr, hml, hown0, hts0, hX, hbl, hlocks, hgv⟩ := C0
    have hb : c.code = cL_law := hb0
    have hbA : ¬ (fun q : Nat => s.heap.size ≤ q) b9 := Nat.not_le.mpr hbl
    refine lv_iload hx hb dL_law_23 (lv_at hl 4 rfl) ?_
    refine lv_aload_n hx hb dL_law_25 rfl (lv_at hl 0 rfl) ?_
    refine va_slen hx hb hX hbl hbA hS dL_law_26 ?_
    refine lv_iconst (v := 5) hx hb dL_law_27 (by decide) ?_
    refine lv_isub hx hb dL_law_28 ?_
    have e9 : (Int32.ofNat L9 - 5 : Int32).toInt = (L9 : Int) - 5 := pk_sub_toInt (a := L9) (b := 5) (by omega) (by decide)
    have e8 : (nI (5 * k9)).toInt = ((5 * k9 : Nat) : Int) := nI_toInt (by omega)
    refine lv_icmp_gt (tgt := 1211) hx hb dL_law_29 (by decide) (fun c_1 => ?_) (fun c_1 => ?_)
    · refine lv_iconst (v := 1) hx hb dL_law_1211 (by decide) ?_
      refine va_forget (fun q hq => hS.2.2 q hq) ?_
      refine W.widen (k := 601024) (n := 7293034) (by omega) (by omega) ?_
      exact lw_ret hx hb0 hr hlocks dL_law_1212
    · have hk9 : 5 * k9 + 5 ≤ L9 := by
        have c_2 : ¬ (Int32.ofNat L9 - 5 : Int32) < nI (5 * k9) := c_1
        rw [ltI, e9, e8] at c_2
        omega
      refine lv_aload_n hx hb dL_law_32 rfl (lv_at hl 0 rfl) ?_
      refine lv_iload hx hb dL_law_33 (lv_at hl 4 rfl) ?_
      refine va_sld hx hb hX hbl hbA hS (vp_in_nI (by omega) (by omega)) dL_law_35 ?_
      rw [nI_clamp (by omega)]
      refine lv_bipush (v := 31) hx hb dL_law_36 (by decide) ?_
      refine lv_iand hx hb dL_law_38 ?_
      obtain ⟨j, hj, ej⟩ := and31 (xs (5 * k9))
      rw [ej]
      have KK : ∀ (H1 : Heap) (locs1 : List Loc) (ls1 : Array Slot) (g : Nat → Int32) (L B : Nat → Nat → Int32) (n b : Nat), LI D cs s AM adM z0 o oo sz1 b9 g L B n b (k9 + 1) (5 * k9) H1 locs1 ls1 → W p l e room_1 s m #[Value.ref b9] below meth c H1 locs1 (30 + 2 * (k9 + 1)) (300 + 30 * (k9 + 1)) (lw_Z below #[Value.ref b9] s) (F0 m 1205 ls1 []) := fun H1 locs1 ls1 g L B n b hJ => by
        obtain ⟨j1, j2, j3, j4, j5, j6, j7, j8⟩ := hJ
        refine lv_iinc (v := nI (5 * (k9 + 1))) (lv' := [(4, .int (nI (5 * (k9 + 1)))), (0, .ref b9), (1, .ref o), (2, .ref (adM 0)), (3, .ref oo)]) hx hb dL_law_1205 j8 (k := 4) rfl (show nI (5 * k9) + 5 = nI (5 * (k9 + 1)) from nI_add _ 5) (by decide) rfl (fun ls hl => ?_)
        refine lv_goto (tgt := 23) hx hb dL_law_1208 (by decide) ?_
        exact ih (by omega) (by omega) H1 locs1 ls g L B n b ⟨j1, j2, j3, j4, j5, j6, j7, lv_sub hl [1, 2, 3, 4, 0] rfl⟩
      rcases (show j = 0 ∨ j = 1 ∨ j = 2 ∨ j = 3 ∨ j = 4 ∨ j = 5 ∨ j = 6 ∨ j = 7 ∨ j = 8 ∨ j = 9 ∨ j = 10 ∨ j = 11 ∨ j = 12 ∨ j = 13 ∨ j = 14 ∨ j = 15 ∨ j = 16 ∨ j = 17 ∨ j = 18 ∨ j = 19 ∨ j = 20 ∨ 20 < j by omega) with rfl | rfl | rfl | rfl | rfl | rfl | rfl | rfl | rfl | rfl | rfl | rfl | rfl | rfl | rfl | rfl | rfl | rfl | rfl | rfl | rfl | hj2
      · refine lv_tableIn (off := 97) (tgt := 136) hx hb dL_law_39 (by decide) (by decide) (by decide) (by decide) ?_
        exact law_addLoan hst hL9 C9 hE0 hnc hAM hoo hk9 hI0 KK
      · refine lv_tableIn (off := 189) (tgt := 228) hx hb dL_law_39 (by decide) (by decide) (by decide) (by decide) ?_
        exact law_enter hst hL9 C9 hE0 hnc hAM hoo hk9 hI0 KK
      · refine lv_tableIn (off := 245) (tgt := 284) hx hb dL_law_39 (by decide) (by decide) (by decide) (by decide) ?_
        exact law_leave hst hL9 C9 hE0 hnc hAM hoo hk9 hI0 KK
      · refine lv_tableIn (off := 308) (tgt := 347) hx hb dL_law_39 (by decide) (by decide) (by decide) (by decide) ?_
        exact law_swap hst hL9 C9 hE0 hnc hAM hoo hk9 hI0 KK
      · refine lv_tableIn (off := 383) (tgt := 422) hx hb dL_law_39 (by decide) (by decide) (by decide) (by decide) ?_
        exact law_setArrears hst hL9 C9 hE0 hnc hAM hoo hk9 hI0 KK
      · refine lv_tableIn (off := 451) (tgt := 490) hx hb dL_law_39 (by decide) (by decide) (by decide) (by decide) ?_
        exact law_setWorth hst hL9 C9 hE0 hnc hAM hoo hk9 hI0 KK
      · refine lv_tableIn (off := 519) (tgt := 558) hx hb dL_law_39 (by decide) (by decide) (by decide) (by decide) ?_
        exact law_stateOf hst hL9 C9 hE0 hnc hAM hoo hk9 hI0 KK
      · refine lv_tableIn (off := 575) (tgt := 614) hx hb dL_law_39 (by decide) (by decide) (by decide) (by decide) ?_
        exact law_counts hst hL9 C9 hE0 hnc hAM hoo hk9 hI0 KK
      · refine lv_tableIn (off := 631) (tgt := 670) hx hb dL_law_39 (by decide) (by decide) (by decide) (by decide) ?_
        exact law_addBond hst hL9 C9 hE0 hnc hAM hoo hk9 hI0 KK
      · refine lv_tableIn (off := 699) (tgt := 738) hx hb dL_law_39 (by decide) (by decide) (by decide) (by decide) ?_
        exact law_takeCash hst hL9 C9 hE0 hnc hAM hoo hk9 hI0 KK
      · refine lv_tableIn (off := 755) (tgt := 794) hx hb dL_law_39 (by decide) (by decide) (by decide) (by decide) ?_
        exact law_setRules hst hL9 C9 hE0 hnc hAM hoo hk9 hI0 KK
      · refine lv_tableIn (off := 815) (tgt := 854) hx hb dL_law_39 (by decide) (by decide) (by decide) (by decide) ?_
        exact law_bondState hst hL9 C9 hE0 hnc hAM hoo hk9 hI0 KK
      · refine lv_tableIn (off := 871) (tgt := 910) hx hb dL_law_39 (by decide) (by decide) (by decide) (by decide) ?_
        exact law_dueOf hst hL9 C9 hE0 hnc hAM hoo hk9 hI0 KK
      · refine lv_tableIn (off := 927) (tgt := 966) hx hb dL_law_39 (by decide) (by decide) (by decide) (by decide) ?_
        exact law_cash hst hL9 C9 hE0 hnc hAM hoo hk9 hI0 KK
      · refine lv_tableIn (off := 940) (tgt := 979) hx hb dL_law_39 (by decide) (by decide) (by decide) (by decide) ?_
        exact law_debt hst hL9 C9 hE0 hnc hAM hoo hk9 hI0 KK
      · refine lv_tableIn (off := 953) (tgt := 992) hx hb dL_law_39 (by decide) (by decide) (by decide) (by decide) ?_
        exact law_substitutes hst hL9 C9 hE0 hnc hAM hoo hk9 hI0 KK
      · refine lv_tableIn (off := 966) (tgt := 1005) hx hb dL_law_39 (by decide) (by decide) (by decide) (by decide) ?_
        exact law_pass hst hL9 C9 hE0 hnc hAM hoo hk9 hI0 KK
      · refine lv_tableIn (off := 1022) (tgt := 1061) hx hb dL_law_39 (by decide) (by decide) (by decide) (by decide) ?_
        exact law_holds hst hL9 C9 hE0 hnc hAM hoo hk9 hI0 KK
      · refine lv_tableIn (off := 1085) (tgt := 1124) hx hb dL_law_39 (by decide) (by decide) (by decide) (by decide) ?_
        exact law_lacking hst hL9 C9 hE0 hnc hAM hoo hk9 hI0 KK
      · refine lv_tableIn (off := 1140) (tgt := 1179) hx hb dL_law_39 (by decide) (by decide) (by decide) (by decide) ?_
        exact law_leastToAdd hst hL9 C9 hE0 hnc hAM hoo hk9 hI0 KK
      · refine lv_tableIn (off := 1153) (tgt := 1192) hx hb dL_law_39 (by decide) (by decide) (by decide) (by decide) ?_
        exact law_leastToAddByAll hst hL9 C9 hE0 hnc hAM hoo hk9 hI0 KK
      · refine lv_tableOut (tgt := 1205) hx hb dL_law_39 (Or.inr (by rw [nI_toInt (by omega)]; omega)) (by decide) ?_
        refine W.widen (k := 30 + 2 * (k9 + 1)) (n := 300 + 30 * (k9 + 1)) (by omega) (by omega) ?_
        exact KK H locs ls g L B n b ⟨hR, hM, hO, hIv, by omega, hsz, hS, hl⟩
/-! ===== the law's entry ===== -/
theorem wP.reA {D : va_G} {A A' lv : Nat → Prop} {ad : Nat → Nat} {ct : Nat → va_E} {H : Heap} (h : wP D A lv ad ct H) (hA : ∀ q, A q → q < H.size → A' q) : wP D A' lv ad ct H :=
  ⟨h.1, h.2.1, fun r hr => ⟨hA _ (h.2.2 r hr).1 (h.hat hr).lt, (h.2.2 r hr).2⟩⟩
theorem RC.reA {D : va_G} {cs : Nat → ClassId} {A A' : Nat → Prop} {z0 o : Nat} {g : Nat → Int32} {L B : Nat → Nat → Int32} {n b : Nat} {H : Heap} (h : RC D cs A z0 o g L B n b H) (hA : ∀ q, A q → q < H.size → A' q) : RC D cs A' z0 o g L B n b H := by
  obtain ⟨ad, y1, y2, N1, N2, nd, gv, h1, h2, h3, h4⟩ := h
  exact ⟨ad, y1, y2, N1, N2, nd, gv, h1, h2, h3, h4.reA hA⟩
theorem arr_prim {args : Array Value} {s : State} {ty : FieldType} (h : (Cond.arrayClass ty).before args s = true) (hno : ∀ C, ty ≠ .object C) : ∃ cA : ClassId, ArrOfT s cA ty ∧ va_RA s cA ty := by
  obtain ⟨c, k, comp, h1, h2, h3⟩ := Cond.arrayClass_spec h
  refine ⟨c, fun N z => ⟨(fun k h => by cases h), k, h2, comp, h3⟩, ?_⟩
  cases ty with
  | object C => exact absurd rfl (hno C)
  | _ => exact h1
theorem arr_obj {args : Array Value} {s : State} {C : String} (h : (Cond.arrayOver (.object C)).before args s = true) : ∃ cA : ClassId, ArrOfT s cA (.object C) ∧ va_RA s cA (.object C) := by
  obtain ⟨comp, c, k, h1, h2, h3, h4, h5⟩ := Cond.arrayOver_spec h
  exact ⟨c, fun N z => ⟨(fun k h => by cases h), k, h3, comp, h4⟩, k, comp, h3, h4, h1, h5⟩
theorem arr_arr {args : Array Value} {s : State} {t : FieldType} (h : (Cond.arrayOver (.array t)).before args s = true) : ∃ cA : ClassId, ArrOfT s cA (.array t) ∧ va_RA s cA (.array t) := by
  obtain ⟨comp, c, k, h1, h2, h3, h4⟩ := Cond.arrayOver_specA h
  exact ⟨c, fun N z => ⟨(fun k h => by cases h), k, h2, comp, h3⟩, h4⟩
theorem str_of {args : Array Value} {s : State} {k : Nat} {tx : String} (h1 : (Cond.stringRef RX3 k tx).before args s = true) (h2 : (Cond.exactly (.string RX3 k) "java/lang/String").before args s = true) : ∃ a, vk_R RX3 k tx a s := by
  obtain ⟨a, c, cell, k9, h3, -⟩ := Cond.exactly_spec h2
  exact ⟨a, vk_R.of (A := args) h1 h3⟩
set_option maxRecDepth 100000 in
set_option maxHeartbeats 4000000 in
theorem law_env {p : Program} {s : State} {m : MethodId} {meth : Method} {c : Code} {b9 L9 : Nat} {xs : Nat → Int32} (C0 : lw_At p s m meth c b9 L9 xs) : ∃ (D : va_G) (cs : Nat → ClassId) (z0 : Nat) (sa : Nat → Nat), Ev D cs (fun q => s.heap.size ≤ q) z0 sa s ∧ (va_Nc xS xA s ∧ va_Nc xS xI s ∧ va_Nc xA xI s) ∧ va_Nw (.methodLinkNest RX3 21 yX2_init "Coverpool") s := by
  obtain ⟨hx, hb0, hr, hml, hown0, hts, hX, hbl, hlocks, hgv⟩ := C0
  have hs := flat_of_before _ hgv
  have hA : ∀ a : Nat, a < s.heap.size → ¬ (fun q : Nat => s.heap.size ≤ q) a := fun a h => Nat.not_le.mpr h
  obtain ⟨c0, i0, k0⟩ := u_known (C := RJx4a65c) (T := TJx4a65c) (N := 3) (n := 3) hts inJx4a65c (hts (.instantiable RJx4a65c 3) (by decide +kernel))
  obtain ⟨c1, i1, k1⟩ := u_known (C := RX0) (T := TX0) (N := 4) (n := 4) hts inX0 (hts (.instantiable RX0 4) (by decide +kernel))
  obtain ⟨c2, i2, k2⟩ := u_known (C := RX1) (T := TX1) (N := 6) (n := 6) hts inX1 (hts (.instantiable RX1 6) (by decide +kernel))
  obtain ⟨c3, i3, k3⟩ := u_known (C := RX2) (T := TX2) (N := 2) (n := 2) hts inX2 (hts (.instantiable RX2 2) (by decide +kernel))
  obtain ⟨c4, i4, k4⟩ := u_known (C := RX3) (T := TX3) (N := 8) (n := 8) hts inX3 (hts (.instantiable RX3 8) (by decide +kernel))
  obtain ⟨c5, i5, k5⟩ := u_known (C := RX4) (T := TX4) (N := 18) (n := 18) hts inX4 (hts (.instantiable RX4 18) (by decide +kernel))
  obtain ⟨a0, r0⟩ := arr_prim (ty := .int) (hts (.arrayClass .int) (by decide +kernel)) (fun _ h => by cases h)
  obtain ⟨a1, r1⟩ := arr_prim (ty := .boolean) (hts (.arrayClass .boolean) (by decide +kernel)) (fun _ h => by cases h)
  obtain ⟨a2, r2⟩ := arr_obj (hts (.arrayOver (.object "java/lang/Object")) (by decide +kernel))
  obtain ⟨a3, r3⟩ := arr_arr (hts (.arrayOver (.array .int)) (by decide +kernel))
  obtain ⟨a4, r4⟩ := arr_prim (ty := .long) (hts (.arrayClass .long) (by decide +kernel)) (fun _ h => by cases h)
  obtain ⟨z9, -, -, -, hz9, -⟩ := Cond.exactly_spec (hs (.exactly (.static zC zN zD) "[Ljava/lang/Object;") (by decide +kernel))
  have hlen : (Term.length (.static zC zN zD)).eval #[Value.ref b9] s none [] s = some (.int (Int32.ofNat 0)) := by
    obtain ⟨y, h1, h2⟩ := Cond.eq_one (hs (.eq (.length (.static zC zN zD)) (.int 0)) (by decide +kernel))
    rw [h1]; rw [← h2]; rfl
  obtain ⟨z0, hz0, hT⟩ := va_Tof (tm := .static zC zN zD) (ty := .object "java/lang/Object") (N := 0) (f := fun _ => .null) (A := fun q => s.heap.size ≤ q) (by decide) (hs (.arrayOf (.static zC zN zD) (.object "java/lang/Object")) (by decide +kernel)) hlen (fun j h => absurd h (Nat.not_lt_zero _)) hA
  obtain ⟨s56, hs56⟩ := str_of (k := 56) (tx := "there are 12 loans") (hts (.stringRef RX3 56 "there are 12 loans") (by decide +kernel)) (hs (.exactly (.string RX3 56) "java/lang/String") (by decide +kernel))
  obtain ⟨s100, hs100⟩ := str_of (k := 100) (tx := "the loan is paid") (hts (.stringRef RX3 100 "the loan is paid") (by decide +kernel)) (hs (.exactly (.string RX3 100) "java/lang/String") (by decide +kernel))
  obtain ⟨s109, hs109⟩ := str_of (k := 109) (tx := "there are 5 bonds") (hts (.stringRef RX3 109 "there are 5 bonds") (by decide +kernel)) (hs (.exactly (.string RX3 109) "java/lang/String") (by decide +kernel))
  obtain ⟨s117, hs117⟩ := str_of (k := 117) (tx := "there is less cash") (hts (.stringRef RX3 117 "there is less cash") (by decide +kernel)) (hs (.exactly (.string RX3 117) "java/lang/String") (by decide +kernel))
  obtain ⟨s162, hs162⟩ := str_of (k := 162) (tx := "out of range") (hts (.stringRef RX3 162 "out of range") (by decide +kernel)) (hs (.exactly (.string RX3 162) "java/lang/String") (by decide +kernel))
  obtain ⟨s165, hs165⟩ := str_of (k := 165) (tx := "due is out of range") (hts (.stringRef RX3 165 "due is out of range") (by decide +kernel)) (hs (.exactly (.string RX3 165) "java/lang/String") (by decide +kernel))
  obtain ⟨s167, hs167⟩ := str_of (k := 167) (tx := "the loan is in another state") (hts (.stringRef RX3 167 "the loan is in another state") (by decide +kernel)) (hs (.exactly (.string RX3 167) "java/lang/String") (by decide +kernel))
  obtain ⟨s171, hs171⟩ := str_of (k := 171) (tx := "no such loan") (hts (.stringRef RX3 171 "no such loan") (by decide +kernel)) (hs (.exactly (.string RX3 171) "java/lang/String") (by decide +kernel))
  obtain ⟨s174, hs174⟩ := str_of (k := 174) (tx := "no such bond") (hts (.stringRef RX3 174 "no such bond") (by decide +kernel)) (hs (.exactly (.string RX3 174) "java/lang/String") (by decide +kernel))
  have hcb : ∀ w ∈ cbad, w ∈ lw_tbl := by decide +kernel
  have hcb2 : ∀ w ∈ cbad, w.onTables = true := by decide +kernel
  refine ⟨(fun k => if k = 0 then c0 else if k = 1 then c1 else if k = 2 then c2 else if k = 3 then c3 else if k = 4 then c4 else c5, fun k => if k = 0 then i0 else if k = 1 then i1 else if k = 2 then i2 else if k = 3 then i3 else if k = 4 then i4 else i5), fun k => if k = 0 then a0 else if k = 1 then a1 else if k = 2 then a2 else if k = 3 then a3 else a4, z0, fun k => if k = 56 then s56 else if k = 100 then s100 else if k = 109 then s109 else if k = 117 then s117 else if k = 162 then s162 else if k = 165 then s165 else if k = 167 then s167 else if k = 171 then s171 else s174,
    ⟨⟨fun k q hq => ?_, fun k q hq => ?_⟩, fun _ h => h, va_Zof (hts (.laysStatic zC zN zD) (by decide +kernel)) (hts (.initialized zC) (by decide +kernel)) hz0 hA, hT,
      vx_Zqof (hts (.laysStatic Bundle.tN "UNASSIGNED_STACK" Bundle.steD) (by decide +kernel)) (hts (.initialized Bundle.tN) (by decide +kernel)) (hs (.isRef (.static Bundle.tN "UNASSIGNED_STACK" Bundle.steD)) (by decide +kernel)) hA,
      vx_Zqof (hts (.laysStatic Bundle.tN "SUPPRESSED_SENTINEL" Bundle.listD) (by decide +kernel)) (hts (.initialized Bundle.tN) (by decide +kernel)) (hs (.isRef (.static Bundle.tN "SUPPRESSED_SENTINEL" Bundle.listD)) (by decide +kernel)) hA,
      fun q hq => ?_, fun w hw => va_Nw.of (hcb2 w hw) (hts w (hcb w hw)), va_AO.of (hts (.arrayOver (.object "java/lang/Object")) (by decide +kernel)), va_Mi.of (hs (.isRef (.mirror "[Ljava/lang/Object;")) (by decide +kernel)), va_Dc.of (hts (.declares ⟨"java/lang/Object", "getClass", "()Ljava/lang/Class;"⟩) (by decide +kernel)), va_AOA.of (hts (.arrayOver (.array .int)) (by decide +kernel))⟩,
    ⟨va_Nc.of (hs (.not (.castable xS xA)) (by decide +kernel)), va_Nc.of (hs (.not (.castable xS xI)) (by decide +kernel)), va_Nc.of (hs (.not (.castable xA xI)) (by decide +kernel))⟩, va_Nw.of rfl (hts (.methodLinkNest RX3 21 yX2_init "Coverpool") (by decide +kernel))⟩
  · match k, hq with
    | 0, hq => cases hq; exact k0
    | 1, hq => cases hq; exact k1
    | 2, hq => cases hq; exact k2
    | 3, hq => cases hq; exact k3
    | 4, hq => cases hq; exact k4
    | 5, hq => cases hq; exact k5
    | k + 6, hq => simp at hq
  · match k, hq with
    | 0, hq => cases hq; exact r0
    | 1, hq => cases hq; exact r1
    | 2, hq => cases hq; exact r2
    | 3, hq => cases hq; exact r3
    | 4, hq => cases hq; exact r4
    | k + 5, hq => simp at hq
  · simp only [cstrs, List.mem_cons, List.not_mem_nil, or_false] at hq
    rcases hq with rfl | rfl | rfl | rfl | rfl | rfl | rfl | rfl | rfl
    · exact hs56
    · exact hs100
    · exact hs109
    · exact hs117
    · exact hs162
    · exact hs165
    · exact hs167
    · exact hs171
    · exact hs174
