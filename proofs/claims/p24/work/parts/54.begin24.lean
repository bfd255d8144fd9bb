set_option maxHeartbeats 4000000 in
set_option maxRecDepth 100000 in
theorem law_begin {p : Program} {l : Launch} {e : Env} {s : State} {m : MethodId} {below : List Frame} {meth : Method} {c : Code} {b9 L9 : Nat} {xs : Nat → Int32} {D : va_G} {cs : Nat → ClassId} {z0 : Nat} {sa : Nat → Nat} {AL : Nat → Prop} {adL : Nat → Nat} {o sz1 : Nat} (hst : l.stackTraces = false) (C0 : lw_At p s m meth c b9 L9 xs) (hE0 : Ev D cs (fun q => s.heap.size ≤ q) z0 sa s) (hnc : va_Nc xS xA s ∧ va_Nc xS xI s ∧ va_Nc xA xI s) (hAL : ∀ q, AL q → s.heap.size ≤ q ∧ q < sz1) (hL9 : L9 ≤ 260) {fa fd fs : Nat → Int32} {H : Heap} {locs : List Loc} {ls : Array Slot} (hI : LI D cs s AL adL z0 o sz1 fa fd fs g0 (fun _ _ => 0) (fun _ _ => 0) 0 0 0 H locs) (hl : lv_has ls 20 [(0, .ref b9), (1, .ref o), (2, .ref (adL 0)), (3, .ref (adL 1)), (4, .ref (adL 2))]) : W p l e room_1 s m #[Value.ref b9] below meth c H locs (25) (200) (lw_Z below #[Value.ref b9] s) (F0 m 22 ls []) := by
  have C9 := C0
  obtain ⟨hR, hA, hsz, hS, hLV⟩ := hI
  obtain ⟨hx, hb0, hr, hml, hown0, hts0, hX, hbl, hlocks, hgv⟩ := C0
  have hb : c.code = cL_law := hb0
  have hown : s.vm.findClass RL = some m.cls := hown0
  have hts : ∀ w ∈ wsL_law, w.before #[Value.ref b9] s = true := fun w h => hts0 w (wsL_law_in w h)
  have hK := hE0.1
  have hIv := hLV.1
  have hbd := hIv.bd
  have hn := hIv.1
  have hb5 := hIv.2.1
  refine lv_iconst (v := 0) hx hb dL_law_22 (by decide) ?_
  refine lv_istore (lv' := [(5, .int 0), (0, .ref b9), (1, .ref o), (2, .ref (adL 0)), (3, .ref (adL 1)), (4, .ref (adL 2))]) hx hb dL_law_23 hl (by decide) rfl (fun ls hl => ?_)
  refine lv_iconst (v := 0) hx hb dL_law_25 (by decide) ?_
  refine lv_istore (lv' := [(6, .int 0), (5, .int 0), (0, .ref b9), (1, .ref o), (2, .ref (adL 0)), (3, .ref (adL 1)), (4, .ref (adL 2))]) hx hb dL_law_26 hl (by decide) rfl (fun ls hl => ?_)
  refine lv_iconst (v := 0) hx hb dL_law_28 (by decide) ?_
  refine lv_istore (lv' := [(7, .int 0), (6, .int 0), (5, .int 0), (0, .ref b9), (1, .ref o), (2, .ref (adL 0)), (3, .ref (adL 1)), (4, .ref (adL 2))]) hx hb dL_law_29 hl (by decide) rfl (fun ls hl => ?_)
  refine lv_iconst (v := 0) hx hb dL_law_31 (by decide) ?_
  refine lv_istore (lv' := [(8, .int 0), (7, .int 0), (6, .int 0), (5, .int 0), (0, .ref b9), (1, .ref o), (2, .ref (adL 0)), (3, .ref (adL 1)), (4, .ref (adL 2))]) hx hb dL_law_32 hl (by decide) rfl (fun ls hl => ?_)
  refine lv_aload_n hx hb dL_law_34 rfl (lv_at hl 5 rfl) ?_
  refine va_calli (va_runS (As := [.ref o]) (rest := []) ⟨hx, hb, hml, hown, hts⟩ (c_L_allHold l hst D cs (AC s.heap.size AL) z0 sa o g0 (fun _ _ => 0) (fun _ _ => 0) 0 0 (by decide) (by decide) hbd) (va_cwS 1 hts gL_law_L_allHold rfl rfl rfl (by decide +kernel) ⟨Nat.le_of_ble_eq_true rfl, Nat.le_of_ble_eq_true rfl⟩) ⟨pR_fb, fun U hU hV => ⟨rfl, hE0.law hS hsz hAL hV hU, by rw [hU]; exact hR, hnc.1.moved hV.alike, hnc.2.1.moved hV.alike, hnc.2.2.moved hV.alike⟩⟩ rfl rfl hl.1 rfl (lv_room (Nat.le_of_ble_eq_true rfl)) dL_law_35 ⟨by show _ ≤ (664879 : Nat); omega, by show _ ≤ (7106988 : Nat); omega⟩) hS (fun q _ h => h.1) (fun q h => h.1) (fun r_1 u t9 H locs ht hvm hw hB hz1 hk1 hS => ?_)
  rw [ht] at hB
  have hR := hB
  have hsz := Nat.le_trans hsz hz1
  have hA := hA.keptA (A1 := (AC s.heap.size AL)) (fun q hq z => z.2 hq) hk1
  obtain rfl : r_1 = 1 := hw.trans (mOk_1 safe0)
  refine lv_if_eq (tgt := 52) hx hb dL_law_38 (by decide) (fun c_2 => ?_) (fun c_2 => ?_)
  · -- 1 eq 0 : True
    exact absurd c_2 (by decide)
  · -- 1 eq 0 : False
    refine lv_aload_n hx hb dL_law_41 rfl (lv_at hl 5 rfl) ?_
    obtain ⟨ad, y1, y2, N1, N2, nd, gv, ho, hN1, hN2, hW⟩ := id hR
    have hcc := c_X3_leastToAdd l D cs (AC s.heap.size AL) z0 sa ad g0 (fun _ _ => 0) (fun _ _ => 0) 0 0 y1 y2 N1 N2 nd gv (by decide) (by decide) hN1 hN2
    rw [ho] at hcc
    refine va_calli (va_runV (As := []) (rest := []) ⟨hx, hb, hml, hown, hts⟩ hcc (cwV 0 hts gL_law_X3_leastToAdd rfl rfl rfl (by decide +kernel) ⟨Nat.le_of_ble_eq_true rfl, Nat.le_of_ble_eq_true rfl⟩) ⟨pC_fb, (by rw [← ho]; exact wb_recv hK hW (r := 0) (lvC_0 (by decide)) (ci := 4) rfl rfl), fun U hU hV => ⟨rfl, hE0.law hS hsz hAL hV hU, by rw [hU]; exact hW⟩⟩ rfl rfl hl.1 rfl (lv_room (Nat.le_of_ble_eq_true rfl)) dL_law_42 ⟨by show _ ≤ (664879 : Nat); omega, by show _ ≤ (7106988 : Nat); omega⟩) hS (fun q _ h => h.1) (fun q h => h.1) (fun r_3 u t9 H locs ht hvm hw hB hz1 hk1 hS => ?_)
    rw [ht] at hB
    have hR := hB
    have hsz := Nat.le_trans hsz hz1
    have hA := hA.keptA (A1 := (AC s.heap.size AL)) (fun q hq z => z.2 hq) hk1
    obtain rfl : r_3 = mFound g0 (fun _ _ => 0) (fun _ _ => 0) 0 0 (2 ^ 0) := hw.trans (cLW_eq hbd nd gv)
    rw [show (mFound g0 (fun _ _ => 0) (fun _ _ => 0) 0 0 (2 ^ 0) : Int32) = 0 from (mFound_0 (by decide)).mpr safe0]
    refine lv_if_ne (tgt := 52) hx hb dL_law_45 (by decide) (fun c_4 => ?_) (fun c_4 => ?_)
    · -- 0 ne 0 : True
      exact absurd c_4 (by decide)
    · -- 0 ne 0 : False
      refine lv_iconst (v := 1) hx hb dL_law_48 (by decide) ?_
      refine lv_goto (tgt := 53) hx hb dL_law_49 (by decide) ?_
      refine lv_istore (lv' := [(9, .int 1), (8, .int 0), (7, .int 0), (6, .int 0), (5, .int 0), (0, .ref b9), (1, .ref o), (2, .ref (adL 0)), (3, .ref (adL 1)), (4, .ref (adL 2))]) hx hb dL_law_53 hl (by decide) rfl (fun ls hl => ?_)
      refine lv_iconst (v := 0) hx hb dL_law_55 (by decide) ?_
      refine lv_istore (lv' := [(10, .int 0), (9, .int 1), (8, .int 0), (7, .int 0), (6, .int 0), (5, .int 0), (0, .ref b9), (1, .ref o), (2, .ref (adL 0)), (3, .ref (adL 1)), (4, .ref (adL 2))]) hx hb dL_law_56 hl (by decide) rfl (fun ls hl => ?_)
      refine W.widen (k := 30 + 2000 * 0) (n := 300 + 20000 * 0) (by omega) (by omega) ?_
      exact law_loop hst C9 hE0 hnc hAL hL9 51 0 (by decide) (by decide) H locs ls _ _ _ g0 _ _ 0 0 ⟨hR, hA, hsz, hS, hLV⟩ (lv_sub hl [6, 7, 8, 9, 10, 5, 4, 3, 2, 1, 0] rfl)
