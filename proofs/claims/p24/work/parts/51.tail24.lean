set_option maxHeartbeats 4000000 in
set_option maxRecDepth 100000 in
theorem pass_l1 {p : Program} {l : Launch} {e : Env} {s : State} {m : MethodId} {below : List Frame} {meth : Method} {c : Code} {b9 L9 : Nat} {xs : Nat → Int32} {D : va_G} {cs : Nat → ClassId} {z0 : Nat} {sa : Nat → Nat} {AL : Nat → Prop} {adL : Nat → Nat} {o sz1 : Nat} (hst : l.stackTraces = false) (C0 : lw_At p s m meth c b9 L9 xs) (hE0 : Ev D cs (fun q => s.heap.size ≤ q) z0 sa s) (hnc : va_Nc xS xA s ∧ va_Nc xS xI s ∧ va_Nc xA xI s) (hAL : ∀ q, AL q → s.heap.size ≤ q ∧ q < sz1) {fa fd fs g : Nat → Int32} {L B : Nat → Nat → Int32} {n b k9 : Nat} (hk9 : k9 < 50) (hn : n ≤ 12) (hb5 : b ≤ 5) {m7 m8 X : Int32} {z : Nat} (hfa : ∀ j, j < n → fa j = L 0 j) (EX : ∀ (H : Heap) (locs : List Loc) (ls : Array Slot), LH D cs s AL adL z0 o sz1 fa fd fs g L B n b H locs → lv_has ls 20 [(0, .ref b9), (1, .ref o), (2, .ref (adL 0)), (3, .ref (adL 1)), (4, .ref (adL 2)), (5, .int (nI n)), (6, .int (nI b)), (9, .int 1), (10, .int (nI k9)), (7, .int m7), (8, .int m8), (12, .int (nI z)), (15, .int (X - spL L n)), (16, .int (nI n))] → W p l e room_1 s m #[Value.ref b9] below meth c H locs (30 + 2000 * k9 + 10 * n) (300 + 20000 * k9 + 100 * n) (lw_Z below #[Value.ref b9] s) (F0 m 1011 ls [])) : ∀ (k j : Nat), j + k = n → ∀ (H : Heap) (locs : List Loc) (ls : Array Slot), LH D cs s AL adL z0 o sz1 fa fd fs g L B n b H locs → lv_has ls 20 [(0, .ref b9), (1, .ref o), (2, .ref (adL 0)), (3, .ref (adL 1)), (4, .ref (adL 2)), (5, .int (nI n)), (6, .int (nI b)), (9, .int 1), (10, .int (nI k9)), (7, .int m7), (8, .int m8), (12, .int (nI z)), (15, .int (X - spL L j)), (16, .int (nI j))] → W p l e room_1 s m #[Value.ref b9] below meth c H locs (30 + 2000 * k9 + 10 * j) (300 + 20000 * k9 + 100 * j) (lw_Z below #[Value.ref b9] s) (F0 m 975 ls []) := by
  intro k
  induction k with
  | zero =>
    intro j hj H locs ls hH hl
    obtain rfl : n = j := by omega
    obtain ⟨hR, hA, hsz, hS⟩ := hH
    obtain ⟨hx, hb0, hr, hml, hown0, hts0, hX, hbl, hlocks, hgv⟩ := C0
    have hb : c.code = cL_law := hb0
    have hown : s.vm.findClass RL = some m.cls := hown0
    have hts : ∀ w ∈ wsL_law, w.before #[Value.ref b9] s = true := fun w h => hts0 w (wsL_law_in w h)
    have hK := hE0.1
    refine lv_iload hx hb dL_law_975 (lv_at hl 13 rfl) ?_
    refine lv_iload hx hb dL_law_977 (lv_at hl 5 rfl) ?_
    refine lv_icmp_ge (tgt := 1011) hx hb dL_law_979 (by decide) (fun c_1 => ?_) (fun c_1 => ?_)
    · -- nI n ge nI n : True
      exact EX H locs ls ⟨hR, hA, hsz, hS⟩ (lv_sub hl [0, 1, 2, 3, 4, 5, 6, 7, 8, 9, 10, 11, 12, 13] rfl)
    · -- nI n ge nI n : False
      exact absurd (Int32.le_refl (nI n)) c_1
  | succ k ih =>
    intro j hj H locs ls hH hl
    have hj9 : j < n := by omega
    obtain ⟨hR, hA, hsz, hS⟩ := hH
    obtain ⟨hx, hb0, hr, hml, hown0, hts0, hX, hbl, hlocks, hgv⟩ := C0
    have hb : c.code = cL_law := hb0
    have hown : s.vm.findClass RL = some m.cls := hown0
    have hts : ∀ w ∈ wsL_law, w.before #[Value.ref b9] s = true := fun w h => hts0 w (wsL_law_in w h)
    have hK := hE0.1
    refine lv_iload hx hb dL_law_975 (lv_at hl 13 rfl) ?_
    refine lv_iload hx hb dL_law_977 (lv_at hl 5 rfl) ?_
    refine lv_icmp_ge (tgt := 1011) hx hb dL_law_979 (by decide) (fun c_2 => ?_) (fun c_2 => ?_)
    · -- nI j ge nI n : True
      exact absurd c_2 (nI_ge hj9 (by omega))
    · -- nI j ge nI n : False
      refine lv_iload hx hb dL_law_982 (lv_at hl 12 rfl) ?_
      refine lv_aload_n hx hb dL_law_984 rfl (lv_at hl 1 rfl) ?_
      refine lv_iload hx hb dL_law_985 (lv_at hl 13 rfl) ?_
      refine vx_calli (vx_runSX (hh := [(0, 5, 6, 23)]) (As := [.ref o, .int (nI j)]) (rest := [.int (X - spL L j)]) ⟨hx, hb, hml, hown, hts⟩ (c_L_state_0 l hst D cs (AC s.heap.size AL) z0 sa o g L B n b hn hb5 (nI j) (kIx_nI hj9 (by omega))) (vx_cwSW 2 hts gL_law_L_state rfl rfl rfl (by decide +kernel) ⟨Nat.le_of_ble_eq_true rfl, Nat.le_of_ble_eq_true rfl⟩) ⟨pR_fb, fun U hU hV => ⟨rfl, hE0.law hS hsz hAL hV hU, by rw [hU]; exact hR, hnc.1.moved hV.alike, hnc.2.1.moved hV.alike, hnc.2.2.moved hV.alike⟩⟩ rfl rfl hl.1 rfl (lv_room (Nat.le_of_ble_eq_true rfl)) dL_law_987 ⟨by show _ ≤ (664879 : Nat); omega, by show _ ≤ (7106988 : Nat); omega⟩) hS (fun q _ h => h.1) (fun q h => h.1) (fun _ _ h => h.elim) (fun E9 ce9 q9 u9 t9 H9 locs9 ht9 hvm9 hpx9 hbx9 hz9 hk9 hS9 hc9 hv9 hl9 => hpx9.elim) (fun r_3 u t9 H locs ht hvm hw hB hz1 hk1 hS => ?_)
      rw [ht] at hB
      simp only [ixN_nI (show j < 1000 by omega)] at hw hB
      have hR : RC D cs (AC s.heap.size AL) z0 o g L B n b H := hB
      have hsz := Nat.le_trans hsz hz1
      have hA := hA.keptA (A1 := (AC s.heap.size AL)) (fun q hq z => z.2 hq) hk1
      obtain rfl : r_3 = L 5 (j) := hw
      by_cases h2 : L 5 j = 2
      ·
        refine lv_iconst (v := 2) hx hb dL_law_990 (by decide) ?_
        refine lv_icmp_ne (tgt := 1001) hx hb dL_law_991 (by decide) (fun c_4 => ?_) (fun c_4 => ?_)
        · -- L 5 (j) ne 2 : True
          exact absurd (h2) c_4
        · -- L 5 (j) ne 2 : False
          refine lv_aload_n hx hb dL_law_994 rfl (lv_at hl 2 rfl) ?_
          refine lv_iload hx hb dL_law_995 (lv_at hl 13 rfl) ?_
          refine wb_iald hx hb hK hA 0 (by decide) 0 rfl rfl j rfl (by omega) (by decide) dL_law_997 ?_
          rw [show (fa j : Int32) = L 0 j from hfa j hj9]
          refine lv_goto (tgt := 1002) hx hb dL_law_998 (by decide) ?_
          refine lv_isub hx hb dL_law_1002 ?_
          rw [show ((X - spL L j) - (L 0 j) : Int32) = X - spL L (j + 1) from by rw [spL_y h2]; grind]
          refine lv_istore (lv' := [(15, .int (X - spL L (j + 1))), (0, .ref b9), (1, .ref o), (2, .ref (adL 0)), (3, .ref (adL 1)), (4, .ref (adL 2)), (5, .int (nI n)), (6, .int (nI b)), (9, .int 1), (10, .int (nI k9)), (7, .int m7), (8, .int m8), (12, .int (nI z)), (16, .int (nI j))]) hx hb dL_law_1003 hl (by decide) rfl (fun ls hl => ?_)
          refine lv_iinc (v := nI (j + 1)) (lv' := [(16, .int (nI (j + 1))), (15, .int (X - spL L (j + 1))), (0, .ref b9), (1, .ref o), (2, .ref (adL 0)), (3, .ref (adL 1)), (4, .ref (adL 2)), (5, .int (nI n)), (6, .int (nI b)), (9, .int 1), (10, .int (nI k9)), (7, .int m7), (8, .int m8), (12, .int (nI z))]) hx hb dL_law_1005 hl (k := 13) rfl (nI_1 _) (by decide) rfl (fun ls hl => ?_)
          refine lv_goto (tgt := 975) hx hb dL_law_1008 (by decide) ?_
          refine W.widen (k := 30 + 2000 * k9 + 10 * (j + 1)) (n := 300 + 20000 * k9 + 100 * (j + 1)) (by omega) (by omega) ?_
          exact ih (j + 1) (by omega) H locs ls ⟨hR, hA, hsz, hS⟩ (lv_sub hl [2, 3, 4, 5, 6, 7, 8, 9, 10, 11, 12, 13, 1, 0] rfl)
      ·
        refine lv_iconst (v := 2) hx hb dL_law_990 (by decide) ?_
        refine lv_icmp_ne (tgt := 1001) hx hb dL_law_991 (by decide) (fun c_5 => ?_) (fun c_5 => ?_)
        · -- L 5 (j) ne 2 : True
          refine lv_iconst (v := 0) hx hb dL_law_1001 (by decide) ?_
          refine lv_isub hx hb dL_law_1002 ?_
          rw [show ((X - spL L j) - 0 : Int32) = X - spL L (j + 1) from by rw [spL_n h2]; grind]
          refine lv_istore (lv' := [(15, .int (X - spL L (j + 1))), (0, .ref b9), (1, .ref o), (2, .ref (adL 0)), (3, .ref (adL 1)), (4, .ref (adL 2)), (5, .int (nI n)), (6, .int (nI b)), (9, .int 1), (10, .int (nI k9)), (7, .int m7), (8, .int m8), (12, .int (nI z)), (16, .int (nI j))]) hx hb dL_law_1003 hl (by decide) rfl (fun ls hl => ?_)
          refine lv_iinc (v := nI (j + 1)) (lv' := [(16, .int (nI (j + 1))), (15, .int (X - spL L (j + 1))), (0, .ref b9), (1, .ref o), (2, .ref (adL 0)), (3, .ref (adL 1)), (4, .ref (adL 2)), (5, .int (nI n)), (6, .int (nI b)), (9, .int 1), (10, .int (nI k9)), (7, .int m7), (8, .int m8), (12, .int (nI z))]) hx hb dL_law_1005 hl (k := 13) rfl (nI_1 _) (by decide) rfl (fun ls hl => ?_)
          refine lv_goto (tgt := 975) hx hb dL_law_1008 (by decide) ?_
          refine W.widen (k := 30 + 2000 * k9 + 10 * (j + 1)) (n := 300 + 20000 * k9 + 100 * (j + 1)) (by omega) (by omega) ?_
          exact ih (j + 1) (by omega) H locs ls ⟨hR, hA, hsz, hS⟩ (lv_sub hl [2, 3, 4, 5, 6, 7, 8, 9, 10, 11, 12, 13, 1, 0] rfl)
        · -- L 5 (j) ne 2 : False
          exact absurd c_5 (h2)

set_option maxHeartbeats 4000000 in
set_option maxRecDepth 100000 in
theorem pass_l3 {p : Program} {l : Launch} {e : Env} {s : State} {m : MethodId} {below : List Frame} {meth : Method} {c : Code} {b9 L9 : Nat} {xs : Nat → Int32} {D : va_G} {cs : Nat → ClassId} {z0 : Nat} {sa : Nat → Nat} {AL : Nat → Prop} {adL : Nat → Nat} {o sz1 : Nat} (hst : l.stackTraces = false) (C0 : lw_At p s m meth c b9 L9 xs) (hE0 : Ev D cs (fun q => s.heap.size ≤ q) z0 sa s) (hnc : va_Nc xS xA s ∧ va_Nc xS xI s ∧ va_Nc xA xI s) (hAL : ∀ q, AL q → s.heap.size ≤ q ∧ q < sz1) {fa fd fs g : Nat → Int32} {L B : Nat → Nat → Int32} {n b k9 : Nat} (hk9 : k9 < 50) (hn : n ≤ 12) (hb5 : b ≤ 5) {m7 m8 X : Int32} {z : Nat} (hfa : ∀ j, j < n → fa j = L 0 j) (EX : ∀ (H : Heap) (locs : List Loc) (ls : Array Slot), LH D cs s AL adL z0 o sz1 fa fd fs g L B n b H locs → lv_has ls 20 [(0, .ref b9), (1, .ref o), (2, .ref (adL 0)), (3, .ref (adL 1)), (4, .ref (adL 2)), (5, .int (nI n)), (6, .int (nI b)), (9, .int 1), (10, .int (nI k9)), (7, .int m7), (8, .int m8), (12, .int (nI z)), (15, .int (X + spL L n)), (16, .int (nI n))] → W p l e room_1 s m #[Value.ref b9] below meth c H locs (300 + 2000 * k9 + 10 * n) (4000 + 20000 * k9 + 100 * n) (lw_Z below #[Value.ref b9] s) (F0 m 1103 ls [])) : ∀ (k j : Nat), j + k = n → ∀ (H : Heap) (locs : List Loc) (ls : Array Slot), LH D cs s AL adL z0 o sz1 fa fd fs g L B n b H locs → lv_has ls 20 [(0, .ref b9), (1, .ref o), (2, .ref (adL 0)), (3, .ref (adL 1)), (4, .ref (adL 2)), (5, .int (nI n)), (6, .int (nI b)), (9, .int 1), (10, .int (nI k9)), (7, .int m7), (8, .int m8), (12, .int (nI z)), (15, .int (X + spL L j)), (16, .int (nI j))] → W p l e room_1 s m #[Value.ref b9] below meth c H locs (300 + 2000 * k9 + 10 * j) (4000 + 20000 * k9 + 100 * j) (lw_Z below #[Value.ref b9] s) (F0 m 1067 ls []) := by
  intro k
  induction k with
  | zero =>
    intro j hj H locs ls hH hl
    obtain rfl : n = j := by omega
    obtain ⟨hR, hA, hsz, hS⟩ := hH
    obtain ⟨hx, hb0, hr, hml, hown0, hts0, hX, hbl, hlocks, hgv⟩ := C0
    have hb : c.code = cL_law := hb0
    have hown : s.vm.findClass RL = some m.cls := hown0
    have hts : ∀ w ∈ wsL_law, w.before #[Value.ref b9] s = true := fun w h => hts0 w (wsL_law_in w h)
    have hK := hE0.1
    refine lv_iload hx hb dL_law_1067 (lv_at hl 13 rfl) ?_
    refine lv_iload hx hb dL_law_1069 (lv_at hl 5 rfl) ?_
    refine lv_icmp_ge (tgt := 1103) hx hb dL_law_1071 (by decide) (fun c_1 => ?_) (fun c_1 => ?_)
    · -- nI n ge nI n : True
      exact EX H locs ls ⟨hR, hA, hsz, hS⟩ (lv_sub hl [0, 1, 2, 3, 4, 5, 6, 7, 8, 9, 10, 11, 12, 13] rfl)
    · -- nI n ge nI n : False
      exact absurd (Int32.le_refl (nI n)) c_1
  | succ k ih =>
    intro j hj H locs ls hH hl
    have hj9 : j < n := by omega
    obtain ⟨hR, hA, hsz, hS⟩ := hH
    obtain ⟨hx, hb0, hr, hml, hown0, hts0, hX, hbl, hlocks, hgv⟩ := C0
    have hb : c.code = cL_law := hb0
    have hown : s.vm.findClass RL = some m.cls := hown0
    have hts : ∀ w ∈ wsL_law, w.before #[Value.ref b9] s = true := fun w h => hts0 w (wsL_law_in w h)
    have hK := hE0.1
    refine lv_iload hx hb dL_law_1067 (lv_at hl 13 rfl) ?_
    refine lv_iload hx hb dL_law_1069 (lv_at hl 5 rfl) ?_
    refine lv_icmp_ge (tgt := 1103) hx hb dL_law_1071 (by decide) (fun c_2 => ?_) (fun c_2 => ?_)
    · -- nI j ge nI n : True
      exact absurd c_2 (nI_ge hj9 (by omega))
    · -- nI j ge nI n : False
      refine lv_iload hx hb dL_law_1074 (lv_at hl 12 rfl) ?_
      refine lv_aload_n hx hb dL_law_1076 rfl (lv_at hl 1 rfl) ?_
      refine lv_iload hx hb dL_law_1077 (lv_at hl 13 rfl) ?_
      refine vx_calli (vx_runSX (hh := [(0, 5, 6, 23)]) (As := [.ref o, .int (nI j)]) (rest := [.int (X + spL L j)]) ⟨hx, hb, hml, hown, hts⟩ (c_L_state_0 l hst D cs (AC s.heap.size AL) z0 sa o g L B n b hn hb5 (nI j) (kIx_nI hj9 (by omega))) (vx_cwSW 2 hts gL_law_L_state rfl rfl rfl (by decide +kernel) ⟨Nat.le_of_ble_eq_true rfl, Nat.le_of_ble_eq_true rfl⟩) ⟨pR_fb, fun U hU hV => ⟨rfl, hE0.law hS hsz hAL hV hU, by rw [hU]; exact hR, hnc.1.moved hV.alike, hnc.2.1.moved hV.alike, hnc.2.2.moved hV.alike⟩⟩ rfl rfl hl.1 rfl (lv_room (Nat.le_of_ble_eq_true rfl)) dL_law_1079 ⟨by show _ ≤ (664879 : Nat); omega, by show _ ≤ (7106988 : Nat); omega⟩) hS (fun q _ h => h.1) (fun q h => h.1) (fun _ _ h => h.elim) (fun E9 ce9 q9 u9 t9 H9 locs9 ht9 hvm9 hpx9 hbx9 hz9 hk9 hS9 hc9 hv9 hl9 => hpx9.elim) (fun r_3 u t9 H locs ht hvm hw hB hz1 hk1 hS => ?_)
      rw [ht] at hB
      simp only [ixN_nI (show j < 1000 by omega)] at hw hB
      have hR : RC D cs (AC s.heap.size AL) z0 o g L B n b H := hB
      have hsz := Nat.le_trans hsz hz1
      have hA := hA.keptA (A1 := (AC s.heap.size AL)) (fun q hq z => z.2 hq) hk1
      obtain rfl : r_3 = L 5 (j) := hw
      by_cases h2 : L 5 j = 2
      ·
        refine lv_iconst (v := 2) hx hb dL_law_1082 (by decide) ?_
        refine lv_icmp_ne (tgt := 1093) hx hb dL_law_1083 (by decide) (fun c_4 => ?_) (fun c_4 => ?_)
        · -- L 5 (j) ne 2 : True
          exact absurd (h2) c_4
        · -- L 5 (j) ne 2 : False
          refine lv_aload_n hx hb dL_law_1086 rfl (lv_at hl 2 rfl) ?_
          refine lv_iload hx hb dL_law_1087 (lv_at hl 13 rfl) ?_
          refine wb_iald hx hb hK hA 0 (by decide) 0 rfl rfl j rfl (by omega) (by decide) dL_law_1089 ?_
          rw [show (fa j : Int32) = L 0 j from hfa j hj9]
          refine lv_goto (tgt := 1094) hx hb dL_law_1090 (by decide) ?_
          refine lv_iadd hx hb dL_law_1094 ?_
          rw [show ((X + spL L j) + (L 0 j) : Int32) = X + spL L (j + 1) from by rw [spL_y h2]; grind]
          refine lv_istore (lv' := [(15, .int (X + spL L (j + 1))), (0, .ref b9), (1, .ref o), (2, .ref (adL 0)), (3, .ref (adL 1)), (4, .ref (adL 2)), (5, .int (nI n)), (6, .int (nI b)), (9, .int 1), (10, .int (nI k9)), (7, .int m7), (8, .int m8), (12, .int (nI z)), (16, .int (nI j))]) hx hb dL_law_1095 hl (by decide) rfl (fun ls hl => ?_)
          refine lv_iinc (v := nI (j + 1)) (lv' := [(16, .int (nI (j + 1))), (15, .int (X + spL L (j + 1))), (0, .ref b9), (1, .ref o), (2, .ref (adL 0)), (3, .ref (adL 1)), (4, .ref (adL 2)), (5, .int (nI n)), (6, .int (nI b)), (9, .int 1), (10, .int (nI k9)), (7, .int m7), (8, .int m8), (12, .int (nI z))]) hx hb dL_law_1097 hl (k := 13) rfl (nI_1 _) (by decide) rfl (fun ls hl => ?_)
          refine lv_goto (tgt := 1067) hx hb dL_law_1100 (by decide) ?_
          refine W.widen (k := 300 + 2000 * k9 + 10 * (j + 1)) (n := 4000 + 20000 * k9 + 100 * (j + 1)) (by omega) (by omega) ?_
          exact ih (j + 1) (by omega) H locs ls ⟨hR, hA, hsz, hS⟩ (lv_sub hl [2, 3, 4, 5, 6, 7, 8, 9, 10, 11, 12, 13, 1, 0] rfl)
      ·
        refine lv_iconst (v := 2) hx hb dL_law_1082 (by decide) ?_
        refine lv_icmp_ne (tgt := 1093) hx hb dL_law_1083 (by decide) (fun c_5 => ?_) (fun c_5 => ?_)
        · -- L 5 (j) ne 2 : True
          refine lv_iconst (v := 0) hx hb dL_law_1093 (by decide) ?_
          refine lv_iadd hx hb dL_law_1094 ?_
          rw [show ((X + spL L j) + 0 : Int32) = X + spL L (j + 1) from by rw [spL_n h2]; grind]
          refine lv_istore (lv' := [(15, .int (X + spL L (j + 1))), (0, .ref b9), (1, .ref o), (2, .ref (adL 0)), (3, .ref (adL 1)), (4, .ref (adL 2)), (5, .int (nI n)), (6, .int (nI b)), (9, .int 1), (10, .int (nI k9)), (7, .int m7), (8, .int m8), (12, .int (nI z)), (16, .int (nI j))]) hx hb dL_law_1095 hl (by decide) rfl (fun ls hl => ?_)
          refine lv_iinc (v := nI (j + 1)) (lv' := [(16, .int (nI (j + 1))), (15, .int (X + spL L (j + 1))), (0, .ref b9), (1, .ref o), (2, .ref (adL 0)), (3, .ref (adL 1)), (4, .ref (adL 2)), (5, .int (nI n)), (6, .int (nI b)), (9, .int 1), (10, .int (nI k9)), (7, .int m7), (8, .int m8), (12, .int (nI z))]) hx hb dL_law_1097 hl (k := 13) rfl (nI_1 _) (by decide) rfl (fun ls hl => ?_)
          refine lv_goto (tgt := 1067) hx hb dL_law_1100 (by decide) ?_
          refine W.widen (k := 300 + 2000 * k9 + 10 * (j + 1)) (n := 4000 + 20000 * k9 + 100 * (j + 1)) (by omega) (by omega) ?_
          exact ih (j + 1) (by omega) H locs ls ⟨hR, hA, hsz, hS⟩ (lv_sub hl [2, 3, 4, 5, 6, 7, 8, 9, 10, 11, 12, 13, 1, 0] rfl)
        · -- L 5 (j) ne 2 : False
          exact absurd c_5 (h2)

set_option maxHeartbeats 4000000 in
set_option maxRecDepth 100000 in
theorem pass_l2 {p : Program} {l : Launch} {e : Env} {s : State} {m : MethodId} {below : List Frame} {meth : Method} {c : Code} {b9 L9 : Nat} {xs : Nat → Int32} {D : va_G} {cs : Nat → ClassId} {z0 : Nat} {sa : Nat → Nat} {AL : Nat → Prop} {adL : Nat → Nat} {o sz1 : Nat} (hst : l.stackTraces = false) (C0 : lw_At p s m meth c b9 L9 xs) (hE0 : Ev D cs (fun q => s.heap.size ≤ q) z0 sa s) (hnc : va_Nc xS xA s ∧ va_Nc xS xI s ∧ va_Nc xA xI s) (hAL : ∀ q, AL q → s.heap.size ≤ q ∧ q < sz1) {fa fd fs g : Nat → Int32} {L B : Nat → Nat → Int32} {n b k9 : Nat} (hk9 : k9 < 50) (hn : n ≤ 12) (hb5 : b ≤ 5) {m7 m8 X : Int32} {z : Nat} (hfs : ∀ j, j < b → fs j = B 0 j) (EX : ∀ (H : Heap) (locs : List Loc) (ls : Array Slot), LH D cs s AL adL z0 o sz1 fa fd fs g L B n b H locs → lv_has ls 20 [(0, .ref b9), (1, .ref o), (2, .ref (adL 0)), (3, .ref (adL 1)), (4, .ref (adL 2)), (5, .int (nI n)), (6, .int (nI b)), (9, .int 1), (10, .int (nI k9)), (7, .int m7), (8, .int m8), (12, .int (nI z)), (15, .int (X + spB B b)), (16, .int (nI b))] → W p l e room_1 s m #[Value.ref b9] below meth c H locs (200 + 2000 * k9 + 10 * b) (2000 + 20000 * k9 + 100 * b) (lw_Z below #[Value.ref b9] s) (F0 m 1051 ls [])) : ∀ (k j : Nat), j + k = b → ∀ (H : Heap) (locs : List Loc) (ls : Array Slot), LH D cs s AL adL z0 o sz1 fa fd fs g L B n b H locs → lv_has ls 20 [(0, .ref b9), (1, .ref o), (2, .ref (adL 0)), (3, .ref (adL 1)), (4, .ref (adL 2)), (5, .int (nI n)), (6, .int (nI b)), (9, .int 1), (10, .int (nI k9)), (7, .int m7), (8, .int m8), (12, .int (nI z)), (15, .int (X + spB B j)), (16, .int (nI j))] → W p l e room_1 s m #[Value.ref b9] below meth c H locs (200 + 2000 * k9 + 10 * j) (2000 + 20000 * k9 + 100 * j) (lw_Z below #[Value.ref b9] s) (F0 m 1014 ls []) := by
  intro k
  induction k with
  | zero =>
    intro j hj H locs ls hH hl
    obtain rfl : b = j := by omega
    obtain ⟨hR, hA, hsz, hS⟩ := hH
    obtain ⟨hx, hb0, hr, hml, hown0, hts0, hX, hbl, hlocks, hgv⟩ := C0
    have hb : c.code = cL_law := hb0
    have hown : s.vm.findClass RL = some m.cls := hown0
    have hts : ∀ w ∈ wsL_law, w.before #[Value.ref b9] s = true := fun w h => hts0 w (wsL_law_in w h)
    have hK := hE0.1
    refine lv_iload hx hb dL_law_1014 (lv_at hl 13 rfl) ?_
    refine lv_iload hx hb dL_law_1016 (lv_at hl 6 rfl) ?_
    refine lv_icmp_ge (tgt := 1051) hx hb dL_law_1018 (by decide) (fun c_1 => ?_) (fun c_1 => ?_)
    · -- nI b ge nI b : True
      exact EX H locs ls ⟨hR, hA, hsz, hS⟩ (lv_sub hl [0, 1, 2, 3, 4, 5, 6, 7, 8, 9, 10, 11, 12, 13] rfl)
    · -- nI b ge nI b : False
      exact absurd (Int32.le_refl (nI b)) c_1
  | succ k ih =>
    intro j hj H locs ls hH hl
    have hj9 : j < b := by omega
    obtain ⟨hR, hA, hsz, hS⟩ := hH
    obtain ⟨hx, hb0, hr, hml, hown0, hts0, hX, hbl, hlocks, hgv⟩ := C0
    have hb : c.code = cL_law := hb0
    have hown : s.vm.findClass RL = some m.cls := hown0
    have hts : ∀ w ∈ wsL_law, w.before #[Value.ref b9] s = true := fun w h => hts0 w (wsL_law_in w h)
    have hK := hE0.1
    refine lv_iload hx hb dL_law_1014 (lv_at hl 13 rfl) ?_
    refine lv_iload hx hb dL_law_1016 (lv_at hl 6 rfl) ?_
    refine lv_icmp_ge (tgt := 1051) hx hb dL_law_1018 (by decide) (fun c_2 => ?_) (fun c_2 => ?_)
    · -- nI j ge nI b : True
      exact absurd c_2 (nI_ge hj9 (by omega))
    · -- nI j ge nI b : False
      refine lv_iload hx hb dL_law_1021 (lv_at hl 12 rfl) ?_
      refine lv_aload_n hx hb dL_law_1023 rfl (lv_at hl 1 rfl) ?_
      refine lv_iload hx hb dL_law_1024 (lv_at hl 13 rfl) ?_
      refine vx_calli (vx_runSX (hh := [(0, 5, 6, 23)]) (As := [.ref o, .int (nI j)]) (rest := [.int (X + spB B j)]) ⟨hx, hb, hml, hown, hts⟩ (c_L_bond_0 l hst D cs (AC s.heap.size AL) z0 sa o g L B n b hn hb5 (nI j) (kIx_nI hj9 (by omega))) (vx_cwSW 2 hts gL_law_L_bond rfl rfl rfl (by decide +kernel) ⟨Nat.le_of_ble_eq_true rfl, Nat.le_of_ble_eq_true rfl⟩) ⟨pR_fb, fun U hU hV => ⟨rfl, hE0.law hS hsz hAL hV hU, by rw [hU]; exact hR, hnc.1.moved hV.alike, hnc.2.1.moved hV.alike, hnc.2.2.moved hV.alike⟩⟩ rfl rfl hl.1 rfl (lv_room (Nat.le_of_ble_eq_true rfl)) dL_law_1026 ⟨by show _ ≤ (664879 : Nat); omega, by show _ ≤ (7106988 : Nat); omega⟩) hS (fun q _ h => h.1) (fun q h => h.1) (fun _ _ h => h.elim) (fun E9 ce9 q9 u9 t9 H9 locs9 ht9 hvm9 hpx9 hbx9 hz9 hk9 hS9 hc9 hv9 hl9 => hpx9.elim) (fun r_3 u t9 H locs ht hvm hw hB hz1 hk1 hS => ?_)
      rw [ht] at hB
      simp only [ixN_nI (show j < 1000 by omega)] at hw hB
      have hR : RC D cs (AC s.heap.size AL) z0 o g L B n b H := hB
      have hsz := Nat.le_trans hsz hz1
      have hA := hA.keptA (A1 := (AC s.heap.size AL)) (fun q hq z => z.2 hq) hk1
      obtain rfl : r_3 = B 2 (j) := hw
      by_cases h2 : B 2 j = 2
      ·
        refine lv_iconst (v := 2) hx hb dL_law_1029 (by decide) ?_
        refine lv_icmp_ne (tgt := 1041) hx hb dL_law_1030 (by decide) (fun c_4 => ?_) (fun c_4 => ?_)
        · -- B 2 (j) ne 2 : True
          exact absurd (h2) c_4
        · -- B 2 (j) ne 2 : False
          refine lv_aload hx hb dL_law_1033 (lv_at hl 4 rfl) ?_
          refine lv_iload hx hb dL_law_1035 (lv_at hl 13 rfl) ?_
          refine wb_iald hx hb hK hA 2 (by decide) 0 rfl rfl j rfl (by omega) (by decide) dL_law_1037 ?_
          rw [show (fs j : Int32) = B 0 j from hfs j hj9]
          refine lv_goto (tgt := 1042) hx hb dL_law_1038 (by decide) ?_
          refine lv_iadd hx hb dL_law_1042 ?_
          rw [show ((X + spB B j) + (B 0 j) : Int32) = X + spB B (j + 1) from by rw [spB_y h2]; grind]
          refine lv_istore (lv' := [(15, .int (X + spB B (j + 1))), (0, .ref b9), (1, .ref o), (2, .ref (adL 0)), (3, .ref (adL 1)), (4, .ref (adL 2)), (5, .int (nI n)), (6, .int (nI b)), (9, .int 1), (10, .int (nI k9)), (7, .int m7), (8, .int m8), (12, .int (nI z)), (16, .int (nI j))]) hx hb dL_law_1043 hl (by decide) rfl (fun ls hl => ?_)
          refine lv_iinc (v := nI (j + 1)) (lv' := [(16, .int (nI (j + 1))), (15, .int (X + spB B (j + 1))), (0, .ref b9), (1, .ref o), (2, .ref (adL 0)), (3, .ref (adL 1)), (4, .ref (adL 2)), (5, .int (nI n)), (6, .int (nI b)), (9, .int 1), (10, .int (nI k9)), (7, .int m7), (8, .int m8), (12, .int (nI z))]) hx hb dL_law_1045 hl (k := 13) rfl (nI_1 _) (by decide) rfl (fun ls hl => ?_)
          refine lv_goto (tgt := 1014) hx hb dL_law_1048 (by decide) ?_
          refine W.widen (k := 200 + 2000 * k9 + 10 * (j + 1)) (n := 2000 + 20000 * k9 + 100 * (j + 1)) (by omega) (by omega) ?_
          exact ih (j + 1) (by omega) H locs ls ⟨hR, hA, hsz, hS⟩ (lv_sub hl [2, 3, 4, 5, 6, 7, 8, 9, 10, 11, 12, 13, 1, 0] rfl)
      ·
        refine lv_iconst (v := 2) hx hb dL_law_1029 (by decide) ?_
        refine lv_icmp_ne (tgt := 1041) hx hb dL_law_1030 (by decide) (fun c_5 => ?_) (fun c_5 => ?_)
        · -- B 2 (j) ne 2 : True
          refine lv_iconst (v := 0) hx hb dL_law_1041 (by decide) ?_
          refine lv_iadd hx hb dL_law_1042 ?_
          rw [show ((X + spB B j) + 0 : Int32) = X + spB B (j + 1) from by rw [spB_n h2]; grind]
          refine lv_istore (lv' := [(15, .int (X + spB B (j + 1))), (0, .ref b9), (1, .ref o), (2, .ref (adL 0)), (3, .ref (adL 1)), (4, .ref (adL 2)), (5, .int (nI n)), (6, .int (nI b)), (9, .int 1), (10, .int (nI k9)), (7, .int m7), (8, .int m8), (12, .int (nI z)), (16, .int (nI j))]) hx hb dL_law_1043 hl (by decide) rfl (fun ls hl => ?_)
          refine lv_iinc (v := nI (j + 1)) (lv' := [(16, .int (nI (j + 1))), (15, .int (X + spB B (j + 1))), (0, .ref b9), (1, .ref o), (2, .ref (adL 0)), (3, .ref (adL 1)), (4, .ref (adL 2)), (5, .int (nI n)), (6, .int (nI b)), (9, .int 1), (10, .int (nI k9)), (7, .int m7), (8, .int m8), (12, .int (nI z))]) hx hb dL_law_1045 hl (k := 13) rfl (nI_1 _) (by decide) rfl (fun ls hl => ?_)
          refine lv_goto (tgt := 1014) hx hb dL_law_1048 (by decide) ?_
          refine W.widen (k := 200 + 2000 * k9 + 10 * (j + 1)) (n := 2000 + 20000 * k9 + 100 * (j + 1)) (by omega) (by omega) ?_
          exact ih (j + 1) (by omega) H locs ls ⟨hR, hA, hsz, hS⟩ (lv_sub hl [2, 3, 4, 5, 6, 7, 8, 9, 10, 11, 12, 13, 1, 0] rfl)
        · -- B 2 (j) ne 2 : False
          exact absurd c_5 (h2)

set_option maxHeartbeats 4000000 in
set_option maxRecDepth 100000 in
theorem pass_l4 {p : Program} {l : Launch} {e : Env} {s : State} {m : MethodId} {below : List Frame} {meth : Method} {c : Code} {b9 L9 : Nat} {xs : Nat → Int32} {D : va_G} {cs : Nat → ClassId} {z0 : Nat} {sa : Nat → Nat} {AL : Nat → Prop} {adL : Nat → Nat} {o sz1 : Nat} (hst : l.stackTraces = false) (C0 : lw_At p s m meth c b9 L9 xs) (hE0 : Ev D cs (fun q => s.heap.size ≤ q) z0 sa s) (hnc : va_Nc xS xA s ∧ va_Nc xS xI s ∧ va_Nc xA xI s) (hAL : ∀ q, AL q → s.heap.size ≤ q ∧ q < sz1) {fa fd fs g : Nat → Int32} {L B : Nat → Nat → Int32} {n b k9 : Nat} (hk9 : k9 < 50) (hn : n ≤ 12) (hb5 : b ≤ 5) {m7 X : Int32} (hfs : ∀ j, j < b → fs j = B 0 j) (hBI : BI g B b) (EX : ∀ (H : Heap) (locs : List Loc) (ls : Array Slot) (fe : Nat → Int32), (∀ i, i < (b) → fe i = B 1 i) → (∀ i, (b) ≤ i → i < b → fe i ≤ B 1 i) → LH D cs s AL adL z0 o sz1 fa fe fs g L B n b H locs → lv_has ls 20 [(0, .ref b9), (1, .ref o), (2, .ref (adL 0)), (3, .ref (adL 1)), (4, .ref (adL 2)), (5, .int (nI n)), (6, .int (nI b)), (8, .int (g 0)), (9, .int 1), (10, .int (nI k9)), (7, .int m7), (15, .int (X - spB B b)), (16, .int (nI b))] → W p l e room_1 s m #[Value.ref b9] below meth c H locs (500 + 2000 * k9 + 20 * b) (6000 + 20000 * k9 + 200 * b) (lw_Z below #[Value.ref b9] s) (F0 m 1230 ls [])) : ∀ (k j : Nat), j + k = b → ∀ (H : Heap) (locs : List Loc) (ls : Array Slot) (fe : Nat → Int32), (∀ i, i < j → fe i = B 1 i) → (∀ i, j ≤ i → i < b → fe i ≤ B 1 i) → LH D cs s AL adL z0 o sz1 fa fe fs g L B n b H locs → lv_has ls 20 [(0, .ref b9), (1, .ref o), (2, .ref (adL 0)), (3, .ref (adL 1)), (4, .ref (adL 2)), (5, .int (nI n)), (6, .int (nI b)), (8, .int (g 0)), (9, .int 1), (10, .int (nI k9)), (7, .int m7), (15, .int (X - spB B j)), (16, .int (nI j))] → W p l e room_1 s m #[Value.ref b9] below meth c H locs (500 + 2000 * k9 + 20 * j) (6000 + 20000 * k9 + 200 * j) (lw_Z below #[Value.ref b9] s) (F0 m 1106 ls []) := by
  intro k
  induction k with
  | zero =>
    intro j hj H locs ls fe hlo hge hH hl
    obtain rfl : b = j := by omega
    obtain ⟨hR, hA, hsz, hS⟩ := hH
    obtain ⟨hx, hb0, hr, hml, hown0, hts0, hX, hbl, hlocks, hgv⟩ := C0
    have hb : c.code = cL_law := hb0
    have hown : s.vm.findClass RL = some m.cls := hown0
    have hts : ∀ w ∈ wsL_law, w.before #[Value.ref b9] s = true := fun w h => hts0 w (wsL_law_in w h)
    have hK := hE0.1
    refine lv_iload hx hb dL_law_1106 (lv_at hl 12 rfl) ?_
    refine lv_iload hx hb dL_law_1108 (lv_at hl 6 rfl) ?_
    refine lv_icmp_ge (tgt := 1230) hx hb dL_law_1110 (by decide) (fun c_1 => ?_) (fun c_1 => ?_)
    · -- nI b ge nI b : True
      exact EX H locs ls fe hlo hge ⟨hR, hA, hsz, hS⟩ (lv_sub hl [0, 1, 2, 3, 4, 5, 6, 7, 8, 9, 10, 11, 12] rfl)
    · -- nI b ge nI b : False
      exact absurd (Int32.le_refl (nI b)) c_1
  | succ k ih =>
    intro j hj H locs ls fe hlo hge hH hl
    have hj9 : j < b := by omega
    obtain ⟨hR, hA, hsz, hS⟩ := hH
    obtain ⟨hx, hb0, hr, hml, hown0, hts0, hX, hbl, hlocks, hgv⟩ := C0
    have hb : c.code = cL_law := hb0
    have hown : s.vm.findClass RL = some m.cls := hown0
    have hts : ∀ w ∈ wsL_law, w.before #[Value.ref b9] s = true := fun w h => hts0 w (wsL_law_in w h)
    have hK := hE0.1
    refine lv_iload hx hb dL_law_1106 (lv_at hl 12 rfl) ?_
    refine lv_iload hx hb dL_law_1108 (lv_at hl 6 rfl) ?_
    refine lv_icmp_ge (tgt := 1230) hx hb dL_law_1110 (by decide) (fun c_2 => ?_) (fun c_2 => ?_)
    · -- nI j ge nI b : True
      exact absurd c_2 (nI_ge hj9 (by omega))
    · -- nI j ge nI b : False
      refine lv_iload hx hb dL_law_1113 (lv_at hl 11 rfl) ?_
      refine lv_aload_n hx hb dL_law_1115 rfl (lv_at hl 1 rfl) ?_
      refine lv_iload hx hb dL_law_1116 (lv_at hl 12 rfl) ?_
      refine vx_calli (vx_runSX (hh := [(0, 5, 6, 23)]) (As := [.ref o, .int (nI j)]) (rest := [.int (X - spB B j)]) ⟨hx, hb, hml, hown, hts⟩ (c_L_bond_0 l hst D cs (AC s.heap.size AL) z0 sa o g L B n b hn hb5 (nI j) (kIx_nI hj9 (by omega))) (vx_cwSW 2 hts gL_law_L_bond rfl rfl rfl (by decide +kernel) ⟨Nat.le_of_ble_eq_true rfl, Nat.le_of_ble_eq_true rfl⟩) ⟨pR_fb, fun U hU hV => ⟨rfl, hE0.law hS hsz hAL hV hU, by rw [hU]; exact hR, hnc.1.moved hV.alike, hnc.2.1.moved hV.alike, hnc.2.2.moved hV.alike⟩⟩ rfl rfl hl.1 rfl (lv_room (Nat.le_of_ble_eq_true rfl)) dL_law_1118 ⟨by show _ ≤ (664879 : Nat); omega, by show _ ≤ (7106988 : Nat); omega⟩) hS (fun q _ h => h.1) (fun q h => h.1) (fun _ _ h => h.elim) (fun E9 ce9 q9 u9 t9 H9 locs9 ht9 hvm9 hpx9 hbx9 hz9 hk9 hS9 hc9 hv9 hl9 => hpx9.elim) (fun r_3 u t9 H locs ht hvm hw hB hz1 hk1 hS => ?_)
      rw [ht] at hB
      simp only [ixN_nI (show j < 1000 by omega)] at hw hB
      have hR : RC D cs (AC s.heap.size AL) z0 o g L B n b H := hB
      have hsz := Nat.le_trans hsz hz1
      have hA := hA.keptA (A1 := (AC s.heap.size AL)) (fun q hq z => z.2 hq) hk1
      obtain rfl : r_3 = B 2 (j) := hw
      by_cases h2 : B 2 j = 2
      ·
        refine lv_iconst (v := 2) hx hb dL_law_1121 (by decide) ?_
        refine lv_icmp_ne (tgt := 1133) hx hb dL_law_1122 (by decide) (fun c_4 => ?_) (fun c_4 => ?_)
        · -- B 2 (j) ne 2 : True
          exact absurd (h2) c_4
        · -- B 2 (j) ne 2 : False
          refine lv_aload hx hb dL_law_1125 (lv_at hl 4 rfl) ?_
          refine lv_iload hx hb dL_law_1127 (lv_at hl 12 rfl) ?_
          refine wb_iald hx hb hK hA 2 (by decide) 0 rfl rfl j rfl (by omega) (by decide) dL_law_1129 ?_
          rw [show (fs j : Int32) = B 0 j from hfs j hj9]
          refine lv_goto (tgt := 1134) hx hb dL_law_1130 (by decide) ?_
          refine lv_isub hx hb dL_law_1134 ?_
          rw [show ((X - spB B j) - (B 0 j) : Int32) = X - spB B (j + 1) from by rw [spB_y h2]; grind]
          by_cases h0 : B 2 j = 0
          ·
            refine lv_istore (lv' := [(15, .int (X - spB B (j + 1))), (0, .ref b9), (1, .ref o), (2, .ref (adL 0)), (3, .ref (adL 1)), (4, .ref (adL 2)), (5, .int (nI n)), (6, .int (nI b)), (8, .int (g 0)), (9, .int 1), (10, .int (nI k9)), (7, .int m7), (16, .int (nI j))]) hx hb dL_law_1135 hl (by decide) rfl (fun ls hl => ?_)
            refine lv_iload hx hb dL_law_1137 (lv_at hl 9 rfl) ?_
            refine lv_if_eq (tgt := 1179) hx hb dL_law_1139 (by decide) (fun c_5 => ?_) (fun c_5 => ?_)
            · -- 1 eq 0 : True
              exact absurd c_5 (by decide)
            · -- 1 eq 0 : False
              refine lv_aload_n hx hb dL_law_1142 rfl (lv_at hl 2 rfl) ?_
              refine lv_iload hx hb dL_law_1143 (lv_at hl 12 rfl) ?_
              refine vx_calli (vx_runSX (hh := [(0, 5, 6, 23)]) (As := [.ref o, .int (nI j)]) (rest := []) ⟨hx, hb, hml, hown, hts⟩ (c_L_due_0 l hst D cs (AC s.heap.size AL) z0 sa o g L B n b hn hb5 (nI j) (kIx_nI hj9 (by omega))) (vx_cwSW 2 hts gL_law_L_due rfl rfl rfl (by decide +kernel) ⟨Nat.le_of_ble_eq_true rfl, Nat.le_of_ble_eq_true rfl⟩) ⟨pR_fb, fun U hU hV => ⟨rfl, hE0.law hS hsz hAL hV hU, by rw [hU]; exact hR, hnc.1.moved hV.alike, hnc.2.1.moved hV.alike, hnc.2.2.moved hV.alike⟩⟩ rfl rfl hl.1 rfl (lv_room (Nat.le_of_ble_eq_true rfl)) dL_law_1145 ⟨by show _ ≤ (664879 : Nat); omega, by show _ ≤ (7106988 : Nat); omega⟩) hS (fun q _ h => h.1) (fun q h => h.1) (fun _ _ h => h.elim) (fun E9 ce9 q9 u9 t9 H9 locs9 ht9 hvm9 hpx9 hbx9 hz9 hk9 hS9 hc9 hv9 hl9 => hpx9.elim) (fun r_6 u t9 H locs ht hvm hw hB hz1 hk1 hS => ?_)
              rw [ht] at hB
              simp only [ixN_nI (show j < 1000 by omega)] at hw hB
              have hR : RC D cs (AC s.heap.size AL) z0 o g L B n b H := hB
              have hsz := Nat.le_trans hsz hz1
              have hA := hA.keptA (A1 := (AC s.heap.size AL)) (fun q hq z => z.2 hq) hk1
              obtain rfl : r_6 = B 1 (j) := hw
              refine lv_aload_n hx hb dL_law_1148 rfl (lv_at hl 4 rfl) ?_
              refine lv_iload hx hb dL_law_1149 (lv_at hl 12 rfl) ?_
              refine wb_iald hx hb hK hA 1 (by decide) 0 rfl rfl j rfl (by omega) (by decide) dL_law_1151 ?_
              refine lv_icmp_lt (tgt := 1179) hx hb dL_law_1152 (by decide) (fun c_7 => ?_) (fun c_7 => ?_)
              · -- B 1 (j) lt fe j : True
                exact absurd c_7 (Int32.not_lt.mpr (hge j (Nat.le_refl j) hj9))
              · -- B 1 (j) lt fe j : False
                refine lv_aload_n hx hb dL_law_1155 rfl (lv_at hl 2 rfl) ?_
                refine lv_iload hx hb dL_law_1156 (lv_at hl 12 rfl) ?_
                refine vx_calli (vx_runSX (hh := [(0, 5, 6, 23)]) (As := [.ref o, .int (nI j)]) (rest := []) ⟨hx, hb, hml, hown, hts⟩ (c_L_bond_0 l hst D cs (AC s.heap.size AL) z0 sa o g L B n b hn hb5 (nI j) (kIx_nI hj9 (by omega))) (vx_cwSW 2 hts gL_law_L_bond rfl rfl rfl (by decide +kernel) ⟨Nat.le_of_ble_eq_true rfl, Nat.le_of_ble_eq_true rfl⟩) ⟨pR_fb, fun U hU hV => ⟨rfl, hE0.law hS hsz hAL hV hU, by rw [hU]; exact hR, hnc.1.moved hV.alike, hnc.2.1.moved hV.alike, hnc.2.2.moved hV.alike⟩⟩ rfl rfl hl.1 rfl (lv_room (Nat.le_of_ble_eq_true rfl)) dL_law_1158 ⟨by show _ ≤ (664879 : Nat); omega, by show _ ≤ (7106988 : Nat); omega⟩) hS (fun q _ h => h.1) (fun q h => h.1) (fun _ _ h => h.elim) (fun E9 ce9 q9 u9 t9 H9 locs9 ht9 hvm9 hpx9 hbx9 hz9 hk9 hS9 hc9 hv9 hl9 => hpx9.elim) (fun r_8 u t9 H locs ht hvm hw hB hz1 hk1 hS => ?_)
                rw [ht] at hB
                simp only [ixN_nI (show j < 1000 by omega)] at hw hB
                have hR : RC D cs (AC s.heap.size AL) z0 o g L B n b H := hB
                have hsz := Nat.le_trans hsz hz1
                have hA := hA.keptA (A1 := (AC s.heap.size AL)) (fun q hq z => z.2 hq) hk1
                obtain rfl : r_8 = B 2 (j) := hw
                refine lv_if_ne (tgt := 1175) hx hb dL_law_1161 (by decide) (fun c_9 => ?_) (fun c_9 => ?_)
                · -- B 2 (j) ne 0 : True
                  exact absurd (h0) c_9
                · -- B 2 (j) ne 0 : False
                  refine lv_aload_n hx hb dL_law_1164 rfl (lv_at hl 2 rfl) ?_
                  refine lv_iload hx hb dL_law_1165 (lv_at hl 12 rfl) ?_
                  refine vx_calli (vx_runSX (hh := [(0, 5, 6, 23)]) (As := [.ref o, .int (nI j)]) (rest := []) ⟨hx, hb, hml, hown, hts⟩ (c_L_due_0 l hst D cs (AC s.heap.size AL) z0 sa o g L B n b hn hb5 (nI j) (kIx_nI hj9 (by omega))) (vx_cwSW 2 hts gL_law_L_due rfl rfl rfl (by decide +kernel) ⟨Nat.le_of_ble_eq_true rfl, Nat.le_of_ble_eq_true rfl⟩) ⟨pR_fb, fun U hU hV => ⟨rfl, hE0.law hS hsz hAL hV hU, by rw [hU]; exact hR, hnc.1.moved hV.alike, hnc.2.1.moved hV.alike, hnc.2.2.moved hV.alike⟩⟩ rfl rfl hl.1 rfl (lv_room (Nat.le_of_ble_eq_true rfl)) dL_law_1167 ⟨by show _ ≤ (664879 : Nat); omega, by show _ ≤ (7106988 : Nat); omega⟩) hS (fun q _ h => h.1) (fun q h => h.1) (fun _ _ h => h.elim) (fun E9 ce9 q9 u9 t9 H9 locs9 ht9 hvm9 hpx9 hbx9 hz9 hk9 hS9 hc9 hv9 hl9 => hpx9.elim) (fun r_10 u t9 H locs ht hvm hw hB hz1 hk1 hS => ?_)
                  rw [ht] at hB
                  simp only [ixN_nI (show j < 1000 by omega)] at hw hB
                  have hR : RC D cs (AC s.heap.size AL) z0 o g L B n b H := hB
                  have hsz := Nat.le_trans hsz hz1
                  have hA := hA.keptA (A1 := (AC s.heap.size AL)) (fun q hq z => z.2 hq) hk1
                  obtain rfl : r_10 = B 1 (j) := hw
                  refine lv_iload hx hb dL_law_1170 (lv_at hl 8 rfl) ?_
                  refine lv_icmp_le (tgt := 1179) hx hb dL_law_1172 (by decide) (fun c_11 => ?_) (fun c_11 => ?_)
                  · -- B 1 (j) le g 0 : True
                    exact absurd c_11 (Int32.not_le.mpr ((hBI j hj9).1 h0))
                  · -- B 1 (j) le g 0 : False
                    refine lv_iconst (v := 1) hx hb dL_law_1175 (by decide) ?_
                    refine lv_goto (tgt := 1180) hx hb dL_law_1176 (by decide) ?_
                    refine lv_istore (lv' := [(9, .int 1), (15, .int (X - spB B (j + 1))), (0, .ref b9), (1, .ref o), (2, .ref (adL 0)), (3, .ref (adL 1)), (4, .ref (adL 2)), (5, .int (nI n)), (6, .int (nI b)), (8, .int (g 0)), (10, .int (nI k9)), (7, .int m7), (16, .int (nI j))]) hx hb dL_law_1180 hl (by decide) rfl (fun ls hl => ?_)
                    refine lv_aload_n hx hb dL_law_1182 rfl (lv_at hl 5 rfl) ?_
                    refine lv_iload hx hb dL_law_1183 (lv_at hl 12 rfl) ?_
                    refine lv_aload_n hx hb dL_law_1185 rfl (lv_at hl 3 rfl) ?_
                    refine lv_iload hx hb dL_law_1186 (lv_at hl 12 rfl) ?_
                    refine vx_calli (vx_runSX (hh := [(0, 5, 6, 23)]) (As := [.ref o, .int (nI j)]) (rest := [.int (nI j), .ref (adL 1)]) ⟨hx, hb, hml, hown, hts⟩ (c_L_due_0 l hst D cs (AC s.heap.size AL) z0 sa o g L B n b hn hb5 (nI j) (kIx_nI hj9 (by omega))) (vx_cwSW 2 hts gL_law_L_due rfl rfl rfl (by decide +kernel) ⟨Nat.le_of_ble_eq_true rfl, Nat.le_of_ble_eq_true rfl⟩) ⟨pR_fb, fun U hU hV => ⟨rfl, hE0.law hS hsz hAL hV hU, by rw [hU]; exact hR, hnc.1.moved hV.alike, hnc.2.1.moved hV.alike, hnc.2.2.moved hV.alike⟩⟩ rfl rfl hl.1 rfl (lv_room (Nat.le_of_ble_eq_true rfl)) dL_law_1188 ⟨by show _ ≤ (664879 : Nat); omega, by show _ ≤ (7106988 : Nat); omega⟩) hS (fun q _ h => h.1) (fun q h => h.1) (fun _ _ h => h.elim) (fun E9 ce9 q9 u9 t9 H9 locs9 ht9 hvm9 hpx9 hbx9 hz9 hk9 hS9 hc9 hv9 hl9 => hpx9.elim) (fun r_12 u t9 H locs ht hvm hw hB hz1 hk1 hS => ?_)
                    rw [ht] at hB
                    simp only [ixN_nI (show j < 1000 by omega)] at hw hB
                    have hR : RC D cs (AC s.heap.size AL) z0 o g L B n b H := hB
                    have hsz := Nat.le_trans hsz hz1
                    have hA := hA.keptA (A1 := (AC s.heap.size AL)) (fun q hq z => z.2 hq) hk1
                    obtain rfl : r_12 = B 1 (j) := hw
                    refine wb_iastL hx hb hK hA hS (fun q hq => (hAL q hq).1) 1 (by decide) 0 rfl rfl j rfl (by omega) (by decide) dL_law_1191 (fun H locs hA2 hS hz2 hk2 => ?_)
                    have hR := hR.keptA (A1 := fun z => z = adL 1) (fun q hq e9 => hq.2 (by rw [e9]; exact (hA.2.2 1 (by decide)).1)) hk2
                    have hA := ctL_1 hA2
                    have hsz := Nat.le_trans hsz hz2
                    refine lv_iload hx hb dL_law_1192 (lv_at hl 0 rfl) ?_
                    refine lv_if_eq (tgt := 1221) hx hb dL_law_1194 (by decide) (fun c_13 => ?_) (fun c_13 => ?_)
                    · -- 1 eq 0 : True
                      exact absurd c_13 (by decide)
                    · -- 1 eq 0 : False
                      refine lv_aload_n hx hb dL_law_1197 rfl (lv_at hl 3 rfl) ?_
                      refine lv_iload hx hb dL_law_1198 (lv_at hl 12 rfl) ?_
                      refine vx_calli (vx_runSX (hh := [(0, 5, 6, 23)]) (As := [.ref o, .int (nI j)]) (rest := []) ⟨hx, hb, hml, hown, hts⟩ (c_L_bond_0 l hst D cs (AC s.heap.size AL) z0 sa o g L B n b hn hb5 (nI j) (kIx_nI hj9 (by omega))) (vx_cwSW 2 hts gL_law_L_bond rfl rfl rfl (by decide +kernel) ⟨Nat.le_of_ble_eq_true rfl, Nat.le_of_ble_eq_true rfl⟩) ⟨pR_fb, fun U hU hV => ⟨rfl, hE0.law hS hsz hAL hV hU, by rw [hU]; exact hR, hnc.1.moved hV.alike, hnc.2.1.moved hV.alike, hnc.2.2.moved hV.alike⟩⟩ rfl rfl hl.1 rfl (lv_room (Nat.le_of_ble_eq_true rfl)) dL_law_1200 ⟨by show _ ≤ (664879 : Nat); omega, by show _ ≤ (7106988 : Nat); omega⟩) hS (fun q _ h => h.1) (fun q h => h.1) (fun _ _ h => h.elim) (fun E9 ce9 q9 u9 t9 H9 locs9 ht9 hvm9 hpx9 hbx9 hz9 hk9 hS9 hc9 hv9 hl9 => hpx9.elim) (fun r_14 u t9 H locs ht hvm hw hB hz1 hk1 hS => ?_)
                      rw [ht] at hB
                      simp only [ixN_nI (show j < 1000 by omega)] at hw hB
                      have hR : RC D cs (AC s.heap.size AL) z0 o g L B n b H := hB
                      have hsz := Nat.le_trans hsz hz1
                      have hA := hA.keptA (A1 := (AC s.heap.size AL)) (fun q hq z => z.2 hq) hk1
                      obtain rfl : r_14 = B 2 (j) := hw
                      refine lv_if_eq (tgt := 1217) hx hb dL_law_1203 (by decide) (fun c_15 => ?_) (fun c_15 => ?_)
                      · -- B 2 (j) eq 0 : True
                        refine lv_iconst (v := 1) hx hb dL_law_1217 (by decide) ?_
                        refine lv_goto (tgt := 1222) hx hb dL_law_1218 (by decide) ?_
                        refine lv_istore (lv' := [(9, .int 1), (15, .int (X - spB B (j + 1))), (0, .ref b9), (1, .ref o), (2, .ref (adL 0)), (3, .ref (adL 1)), (4, .ref (adL 2)), (5, .int (nI n)), (6, .int (nI b)), (8, .int (g 0)), (10, .int (nI k9)), (7, .int m7), (16, .int (nI j))]) hx hb dL_law_1222 hl (by decide) rfl (fun ls hl => ?_)
                        refine lv_iinc (v := nI (j + 1)) (lv' := [(16, .int (nI (j + 1))), (9, .int 1), (15, .int (X - spB B (j + 1))), (0, .ref b9), (1, .ref o), (2, .ref (adL 0)), (3, .ref (adL 1)), (4, .ref (adL 2)), (5, .int (nI n)), (6, .int (nI b)), (8, .int (g 0)), (10, .int (nI k9)), (7, .int m7)]) hx hb dL_law_1224 hl (k := 12) rfl (nI_1 _) (by decide) rfl (fun ls hl => ?_)
                        refine lv_goto (tgt := 1106) hx hb dL_law_1227 (by decide) ?_
                        refine W.widen (k := 500 + 2000 * k9 + 20 * (j + 1)) (n := 6000 + 20000 * k9 + 200 * (j + 1)) (by omega) (by omega) ?_
                        exact ih (j + 1) (by omega) H locs ls (upd fe j (B 1 j)) (fe_lo hlo) (fe_ge hge) ⟨hR, hA, hsz, hS⟩ (lv_sub hl [3, 4, 5, 6, 7, 8, 9, 10, 1, 11, 12, 2, 0] rfl)
                      · -- B 2 (j) eq 0 : False
                        exact absurd (h0) c_15
          ·
            refine lv_istore (lv' := [(15, .int (X - spB B (j + 1))), (0, .ref b9), (1, .ref o), (2, .ref (adL 0)), (3, .ref (adL 1)), (4, .ref (adL 2)), (5, .int (nI n)), (6, .int (nI b)), (8, .int (g 0)), (9, .int 1), (10, .int (nI k9)), (7, .int m7), (16, .int (nI j))]) hx hb dL_law_1135 hl (by decide) rfl (fun ls hl => ?_)
            refine lv_iload hx hb dL_law_1137 (lv_at hl 9 rfl) ?_
            refine lv_if_eq (tgt := 1179) hx hb dL_law_1139 (by decide) (fun c_16 => ?_) (fun c_16 => ?_)
            · -- 1 eq 0 : True
              exact absurd c_16 (by decide)
            · -- 1 eq 0 : False
              refine lv_aload_n hx hb dL_law_1142 rfl (lv_at hl 2 rfl) ?_
              refine lv_iload hx hb dL_law_1143 (lv_at hl 12 rfl) ?_
              refine vx_calli (vx_runSX (hh := [(0, 5, 6, 23)]) (As := [.ref o, .int (nI j)]) (rest := []) ⟨hx, hb, hml, hown, hts⟩ (c_L_due_0 l hst D cs (AC s.heap.size AL) z0 sa o g L B n b hn hb5 (nI j) (kIx_nI hj9 (by omega))) (vx_cwSW 2 hts gL_law_L_due rfl rfl rfl (by decide +kernel) ⟨Nat.le_of_ble_eq_true rfl, Nat.le_of_ble_eq_true rfl⟩) ⟨pR_fb, fun U hU hV => ⟨rfl, hE0.law hS hsz hAL hV hU, by rw [hU]; exact hR, hnc.1.moved hV.alike, hnc.2.1.moved hV.alike, hnc.2.2.moved hV.alike⟩⟩ rfl rfl hl.1 rfl (lv_room (Nat.le_of_ble_eq_true rfl)) dL_law_1145 ⟨by show _ ≤ (664879 : Nat); omega, by show _ ≤ (7106988 : Nat); omega⟩) hS (fun q _ h => h.1) (fun q h => h.1) (fun _ _ h => h.elim) (fun E9 ce9 q9 u9 t9 H9 locs9 ht9 hvm9 hpx9 hbx9 hz9 hk9 hS9 hc9 hv9 hl9 => hpx9.elim) (fun r_17 u t9 H locs ht hvm hw hB hz1 hk1 hS => ?_)
              rw [ht] at hB
              simp only [ixN_nI (show j < 1000 by omega)] at hw hB
              have hR : RC D cs (AC s.heap.size AL) z0 o g L B n b H := hB
              have hsz := Nat.le_trans hsz hz1
              have hA := hA.keptA (A1 := (AC s.heap.size AL)) (fun q hq z => z.2 hq) hk1
              obtain rfl : r_17 = B 1 (j) := hw
              refine lv_aload_n hx hb dL_law_1148 rfl (lv_at hl 4 rfl) ?_
              refine lv_iload hx hb dL_law_1149 (lv_at hl 12 rfl) ?_
              refine wb_iald hx hb hK hA 1 (by decide) 0 rfl rfl j rfl (by omega) (by decide) dL_law_1151 ?_
              refine lv_icmp_lt (tgt := 1179) hx hb dL_law_1152 (by decide) (fun c_18 => ?_) (fun c_18 => ?_)
              · -- B 1 (j) lt fe j : True
                exact absurd c_18 (Int32.not_lt.mpr (hge j (Nat.le_refl j) hj9))
              · -- B 1 (j) lt fe j : False
                refine lv_aload_n hx hb dL_law_1155 rfl (lv_at hl 2 rfl) ?_
                refine lv_iload hx hb dL_law_1156 (lv_at hl 12 rfl) ?_
                refine vx_calli (vx_runSX (hh := [(0, 5, 6, 23)]) (As := [.ref o, .int (nI j)]) (rest := []) ⟨hx, hb, hml, hown, hts⟩ (c_L_bond_0 l hst D cs (AC s.heap.size AL) z0 sa o g L B n b hn hb5 (nI j) (kIx_nI hj9 (by omega))) (vx_cwSW 2 hts gL_law_L_bond rfl rfl rfl (by decide +kernel) ⟨Nat.le_of_ble_eq_true rfl, Nat.le_of_ble_eq_true rfl⟩) ⟨pR_fb, fun U hU hV => ⟨rfl, hE0.law hS hsz hAL hV hU, by rw [hU]; exact hR, hnc.1.moved hV.alike, hnc.2.1.moved hV.alike, hnc.2.2.moved hV.alike⟩⟩ rfl rfl hl.1 rfl (lv_room (Nat.le_of_ble_eq_true rfl)) dL_law_1158 ⟨by show _ ≤ (664879 : Nat); omega, by show _ ≤ (7106988 : Nat); omega⟩) hS (fun q _ h => h.1) (fun q h => h.1) (fun _ _ h => h.elim) (fun E9 ce9 q9 u9 t9 H9 locs9 ht9 hvm9 hpx9 hbx9 hz9 hk9 hS9 hc9 hv9 hl9 => hpx9.elim) (fun r_19 u t9 H locs ht hvm hw hB hz1 hk1 hS => ?_)
                rw [ht] at hB
                simp only [ixN_nI (show j < 1000 by omega)] at hw hB
                have hR : RC D cs (AC s.heap.size AL) z0 o g L B n b H := hB
                have hsz := Nat.le_trans hsz hz1
                have hA := hA.keptA (A1 := (AC s.heap.size AL)) (fun q hq z => z.2 hq) hk1
                obtain rfl : r_19 = B 2 (j) := hw
                refine lv_if_ne (tgt := 1175) hx hb dL_law_1161 (by decide) (fun c_20 => ?_) (fun c_20 => ?_)
                · -- B 2 (j) ne 0 : True
                  refine lv_iconst (v := 1) hx hb dL_law_1175 (by decide) ?_
                  refine lv_goto (tgt := 1180) hx hb dL_law_1176 (by decide) ?_
                  refine lv_istore (lv' := [(9, .int 1), (15, .int (X - spB B (j + 1))), (0, .ref b9), (1, .ref o), (2, .ref (adL 0)), (3, .ref (adL 1)), (4, .ref (adL 2)), (5, .int (nI n)), (6, .int (nI b)), (8, .int (g 0)), (10, .int (nI k9)), (7, .int m7), (16, .int (nI j))]) hx hb dL_law_1180 hl (by decide) rfl (fun ls hl => ?_)
                  refine lv_aload_n hx hb dL_law_1182 rfl (lv_at hl 5 rfl) ?_
                  refine lv_iload hx hb dL_law_1183 (lv_at hl 12 rfl) ?_
                  refine lv_aload_n hx hb dL_law_1185 rfl (lv_at hl 3 rfl) ?_
                  refine lv_iload hx hb dL_law_1186 (lv_at hl 12 rfl) ?_
                  refine vx_calli (vx_runSX (hh := [(0, 5, 6, 23)]) (As := [.ref o, .int (nI j)]) (rest := [.int (nI j), .ref (adL 1)]) ⟨hx, hb, hml, hown, hts⟩ (c_L_due_0 l hst D cs (AC s.heap.size AL) z0 sa o g L B n b hn hb5 (nI j) (kIx_nI hj9 (by omega))) (vx_cwSW 2 hts gL_law_L_due rfl rfl rfl (by decide +kernel) ⟨Nat.le_of_ble_eq_true rfl, Nat.le_of_ble_eq_true rfl⟩) ⟨pR_fb, fun U hU hV => ⟨rfl, hE0.law hS hsz hAL hV hU, by rw [hU]; exact hR, hnc.1.moved hV.alike, hnc.2.1.moved hV.alike, hnc.2.2.moved hV.alike⟩⟩ rfl rfl hl.1 rfl (lv_room (Nat.le_of_ble_eq_true rfl)) dL_law_1188 ⟨by show _ ≤ (664879 : Nat); omega, by show _ ≤ (7106988 : Nat); omega⟩) hS (fun q _ h => h.1) (fun q h => h.1) (fun _ _ h => h.elim) (fun E9 ce9 q9 u9 t9 H9 locs9 ht9 hvm9 hpx9 hbx9 hz9 hk9 hS9 hc9 hv9 hl9 => hpx9.elim) (fun r_21 u t9 H locs ht hvm hw hB hz1 hk1 hS => ?_)
                  rw [ht] at hB
                  simp only [ixN_nI (show j < 1000 by omega)] at hw hB
                  have hR : RC D cs (AC s.heap.size AL) z0 o g L B n b H := hB
                  have hsz := Nat.le_trans hsz hz1
                  have hA := hA.keptA (A1 := (AC s.heap.size AL)) (fun q hq z => z.2 hq) hk1
                  obtain rfl : r_21 = B 1 (j) := hw
                  refine wb_iastL hx hb hK hA hS (fun q hq => (hAL q hq).1) 1 (by decide) 0 rfl rfl j rfl (by omega) (by decide) dL_law_1191 (fun H locs hA2 hS hz2 hk2 => ?_)
                  have hR := hR.keptA (A1 := fun z => z = adL 1) (fun q hq e9 => hq.2 (by rw [e9]; exact (hA.2.2 1 (by decide)).1)) hk2
                  have hA := ctL_1 hA2
                  have hsz := Nat.le_trans hsz hz2
                  refine lv_iload hx hb dL_law_1192 (lv_at hl 0 rfl) ?_
                  refine lv_if_eq (tgt := 1221) hx hb dL_law_1194 (by decide) (fun c_22 => ?_) (fun c_22 => ?_)
                  · -- 1 eq 0 : True
                    exact absurd c_22 (by decide)
                  · -- 1 eq 0 : False
                    refine lv_aload_n hx hb dL_law_1197 rfl (lv_at hl 3 rfl) ?_
                    refine lv_iload hx hb dL_law_1198 (lv_at hl 12 rfl) ?_
                    refine vx_calli (vx_runSX (hh := [(0, 5, 6, 23)]) (As := [.ref o, .int (nI j)]) (rest := []) ⟨hx, hb, hml, hown, hts⟩ (c_L_bond_0 l hst D cs (AC s.heap.size AL) z0 sa o g L B n b hn hb5 (nI j) (kIx_nI hj9 (by omega))) (vx_cwSW 2 hts gL_law_L_bond rfl rfl rfl (by decide +kernel) ⟨Nat.le_of_ble_eq_true rfl, Nat.le_of_ble_eq_true rfl⟩) ⟨pR_fb, fun U hU hV => ⟨rfl, hE0.law hS hsz hAL hV hU, by rw [hU]; exact hR, hnc.1.moved hV.alike, hnc.2.1.moved hV.alike, hnc.2.2.moved hV.alike⟩⟩ rfl rfl hl.1 rfl (lv_room (Nat.le_of_ble_eq_true rfl)) dL_law_1200 ⟨by show _ ≤ (664879 : Nat); omega, by show _ ≤ (7106988 : Nat); omega⟩) hS (fun q _ h => h.1) (fun q h => h.1) (fun _ _ h => h.elim) (fun E9 ce9 q9 u9 t9 H9 locs9 ht9 hvm9 hpx9 hbx9 hz9 hk9 hS9 hc9 hv9 hl9 => hpx9.elim) (fun r_23 u t9 H locs ht hvm hw hB hz1 hk1 hS => ?_)
                    rw [ht] at hB
                    simp only [ixN_nI (show j < 1000 by omega)] at hw hB
                    have hR : RC D cs (AC s.heap.size AL) z0 o g L B n b H := hB
                    have hsz := Nat.le_trans hsz hz1
                    have hA := hA.keptA (A1 := (AC s.heap.size AL)) (fun q hq z => z.2 hq) hk1
                    obtain rfl : r_23 = B 2 (j) := hw
                    refine lv_if_eq (tgt := 1217) hx hb dL_law_1203 (by decide) (fun c_24 => ?_) (fun c_24 => ?_)
                    · -- B 2 (j) eq 0 : True
                      exact absurd c_24 (h0)
                    · -- B 2 (j) eq 0 : False
                      refine lv_aload_n hx hb dL_law_1206 rfl (lv_at hl 3 rfl) ?_
                      refine lv_iload hx hb dL_law_1207 (lv_at hl 12 rfl) ?_
                      refine vx_calli (vx_runSX (hh := [(0, 5, 6, 23)]) (As := [.ref o, .int (nI j)]) (rest := []) ⟨hx, hb, hml, hown, hts⟩ (c_L_due_0 l hst D cs (AC s.heap.size AL) z0 sa o g L B n b hn hb5 (nI j) (kIx_nI hj9 (by omega))) (vx_cwSW 2 hts gL_law_L_due rfl rfl rfl (by decide +kernel) ⟨Nat.le_of_ble_eq_true rfl, Nat.le_of_ble_eq_true rfl⟩) ⟨pR_fb, fun U hU hV => ⟨rfl, hE0.law hS hsz hAL hV hU, by rw [hU]; exact hR, hnc.1.moved hV.alike, hnc.2.1.moved hV.alike, hnc.2.2.moved hV.alike⟩⟩ rfl rfl hl.1 rfl (lv_room (Nat.le_of_ble_eq_true rfl)) dL_law_1209 ⟨by show _ ≤ (664879 : Nat); omega, by show _ ≤ (7106988 : Nat); omega⟩) hS (fun q _ h => h.1) (fun q h => h.1) (fun _ _ h => h.elim) (fun E9 ce9 q9 u9 t9 H9 locs9 ht9 hvm9 hpx9 hbx9 hz9 hk9 hS9 hc9 hv9 hl9 => hpx9.elim) (fun r_25 u t9 H locs ht hvm hw hB hz1 hk1 hS => ?_)
                      rw [ht] at hB
                      simp only [ixN_nI (show j < 1000 by omega)] at hw hB
                      have hR : RC D cs (AC s.heap.size AL) z0 o g L B n b H := hB
                      have hsz := Nat.le_trans hsz hz1
                      have hA := hA.keptA (A1 := (AC s.heap.size AL)) (fun q hq z => z.2 hq) hk1
                      obtain rfl : r_25 = B 1 (j) := hw
                      refine lv_iload hx hb dL_law_1212 (lv_at hl 9 rfl) ?_
                      refine lv_icmp_gt (tgt := 1221) hx hb dL_law_1214 (by decide) (fun c_26 => ?_) (fun c_26 => ?_)
                      · -- B 1 (j) gt g 0 : True
                        exact absurd c_26 (Int32.not_lt.mpr ((hBI j hj9).2 h0))
                      · -- B 1 (j) gt g 0 : False
                        refine lv_iconst (v := 1) hx hb dL_law_1217 (by decide) ?_
                        refine lv_goto (tgt := 1222) hx hb dL_law_1218 (by decide) ?_
                        refine lv_istore (lv' := [(9, .int 1), (15, .int (X - spB B (j + 1))), (0, .ref b9), (1, .ref o), (2, .ref (adL 0)), (3, .ref (adL 1)), (4, .ref (adL 2)), (5, .int (nI n)), (6, .int (nI b)), (8, .int (g 0)), (10, .int (nI k9)), (7, .int m7), (16, .int (nI j))]) hx hb dL_law_1222 hl (by decide) rfl (fun ls hl => ?_)
                        refine lv_iinc (v := nI (j + 1)) (lv' := [(16, .int (nI (j + 1))), (9, .int 1), (15, .int (X - spB B (j + 1))), (0, .ref b9), (1, .ref o), (2, .ref (adL 0)), (3, .ref (adL 1)), (4, .ref (adL 2)), (5, .int (nI n)), (6, .int (nI b)), (8, .int (g 0)), (10, .int (nI k9)), (7, .int m7)]) hx hb dL_law_1224 hl (k := 12) rfl (nI_1 _) (by decide) rfl (fun ls hl => ?_)
                        refine lv_goto (tgt := 1106) hx hb dL_law_1227 (by decide) ?_
                        refine W.widen (k := 500 + 2000 * k9 + 20 * (j + 1)) (n := 6000 + 20000 * k9 + 200 * (j + 1)) (by omega) (by omega) ?_
                        exact ih (j + 1) (by omega) H locs ls (upd fe j (B 1 j)) (fe_lo hlo) (fe_ge hge) ⟨hR, hA, hsz, hS⟩ (lv_sub hl [3, 4, 5, 6, 7, 8, 9, 10, 1, 11, 12, 2, 0] rfl)
                · -- B 2 (j) ne 0 : False
                  exact absurd c_20 (h0)
      ·
        refine lv_iconst (v := 2) hx hb dL_law_1121 (by decide) ?_
        refine lv_icmp_ne (tgt := 1133) hx hb dL_law_1122 (by decide) (fun c_27 => ?_) (fun c_27 => ?_)
        · -- B 2 (j) ne 2 : True
          refine lv_iconst (v := 0) hx hb dL_law_1133 (by decide) ?_
          refine lv_isub hx hb dL_law_1134 ?_
          rw [show ((X - spB B j) - 0 : Int32) = X - spB B (j + 1) from by rw [spB_n h2]; grind]
          by_cases h0 : B 2 j = 0
          ·
            refine lv_istore (lv' := [(15, .int (X - spB B (j + 1))), (0, .ref b9), (1, .ref o), (2, .ref (adL 0)), (3, .ref (adL 1)), (4, .ref (adL 2)), (5, .int (nI n)), (6, .int (nI b)), (8, .int (g 0)), (9, .int 1), (10, .int (nI k9)), (7, .int m7), (16, .int (nI j))]) hx hb dL_law_1135 hl (by decide) rfl (fun ls hl => ?_)
            refine lv_iload hx hb dL_law_1137 (lv_at hl 9 rfl) ?_
            refine lv_if_eq (tgt := 1179) hx hb dL_law_1139 (by decide) (fun c_28 => ?_) (fun c_28 => ?_)
            · -- 1 eq 0 : True
              exact absurd c_28 (by decide)
            · -- 1 eq 0 : False
              refine lv_aload_n hx hb dL_law_1142 rfl (lv_at hl 2 rfl) ?_
              refine lv_iload hx hb dL_law_1143 (lv_at hl 12 rfl) ?_
              refine vx_calli (vx_runSX (hh := [(0, 5, 6, 23)]) (As := [.ref o, .int (nI j)]) (rest := []) ⟨hx, hb, hml, hown, hts⟩ (c_L_due_0 l hst D cs (AC s.heap.size AL) z0 sa o g L B n b hn hb5 (nI j) (kIx_nI hj9 (by omega))) (vx_cwSW 2 hts gL_law_L_due rfl rfl rfl (by decide +kernel) ⟨Nat.le_of_ble_eq_true rfl, Nat.le_of_ble_eq_true rfl⟩) ⟨pR_fb, fun U hU hV => ⟨rfl, hE0.law hS hsz hAL hV hU, by rw [hU]; exact hR, hnc.1.moved hV.alike, hnc.2.1.moved hV.alike, hnc.2.2.moved hV.alike⟩⟩ rfl rfl hl.1 rfl (lv_room (Nat.le_of_ble_eq_true rfl)) dL_law_1145 ⟨by show _ ≤ (664879 : Nat); omega, by show _ ≤ (7106988 : Nat); omega⟩) hS (fun q _ h => h.1) (fun q h => h.1) (fun _ _ h => h.elim) (fun E9 ce9 q9 u9 t9 H9 locs9 ht9 hvm9 hpx9 hbx9 hz9 hk9 hS9 hc9 hv9 hl9 => hpx9.elim) (fun r_29 u t9 H locs ht hvm hw hB hz1 hk1 hS => ?_)
              rw [ht] at hB
              simp only [ixN_nI (show j < 1000 by omega)] at hw hB
              have hR : RC D cs (AC s.heap.size AL) z0 o g L B n b H := hB
              have hsz := Nat.le_trans hsz hz1
              have hA := hA.keptA (A1 := (AC s.heap.size AL)) (fun q hq z => z.2 hq) hk1
              obtain rfl : r_29 = B 1 (j) := hw
              refine lv_aload_n hx hb dL_law_1148 rfl (lv_at hl 4 rfl) ?_
              refine lv_iload hx hb dL_law_1149 (lv_at hl 12 rfl) ?_
              refine wb_iald hx hb hK hA 1 (by decide) 0 rfl rfl j rfl (by omega) (by decide) dL_law_1151 ?_
              refine lv_icmp_lt (tgt := 1179) hx hb dL_law_1152 (by decide) (fun c_30 => ?_) (fun c_30 => ?_)
              · -- B 1 (j) lt fe j : True
                exact absurd c_30 (Int32.not_lt.mpr (hge j (Nat.le_refl j) hj9))
              · -- B 1 (j) lt fe j : False
                refine lv_aload_n hx hb dL_law_1155 rfl (lv_at hl 2 rfl) ?_
                refine lv_iload hx hb dL_law_1156 (lv_at hl 12 rfl) ?_
                refine vx_calli (vx_runSX (hh := [(0, 5, 6, 23)]) (As := [.ref o, .int (nI j)]) (rest := []) ⟨hx, hb, hml, hown, hts⟩ (c_L_bond_0 l hst D cs (AC s.heap.size AL) z0 sa o g L B n b hn hb5 (nI j) (kIx_nI hj9 (by omega))) (vx_cwSW 2 hts gL_law_L_bond rfl rfl rfl (by decide +kernel) ⟨Nat.le_of_ble_eq_true rfl, Nat.le_of_ble_eq_true rfl⟩) ⟨pR_fb, fun U hU hV => ⟨rfl, hE0.law hS hsz hAL hV hU, by rw [hU]; exact hR, hnc.1.moved hV.alike, hnc.2.1.moved hV.alike, hnc.2.2.moved hV.alike⟩⟩ rfl rfl hl.1 rfl (lv_room (Nat.le_of_ble_eq_true rfl)) dL_law_1158 ⟨by show _ ≤ (664879 : Nat); omega, by show _ ≤ (7106988 : Nat); omega⟩) hS (fun q _ h => h.1) (fun q h => h.1) (fun _ _ h => h.elim) (fun E9 ce9 q9 u9 t9 H9 locs9 ht9 hvm9 hpx9 hbx9 hz9 hk9 hS9 hc9 hv9 hl9 => hpx9.elim) (fun r_31 u t9 H locs ht hvm hw hB hz1 hk1 hS => ?_)
                rw [ht] at hB
                simp only [ixN_nI (show j < 1000 by omega)] at hw hB
                have hR : RC D cs (AC s.heap.size AL) z0 o g L B n b H := hB
                have hsz := Nat.le_trans hsz hz1
                have hA := hA.keptA (A1 := (AC s.heap.size AL)) (fun q hq z => z.2 hq) hk1
                obtain rfl : r_31 = B 2 (j) := hw
                refine lv_if_ne (tgt := 1175) hx hb dL_law_1161 (by decide) (fun c_32 => ?_) (fun c_32 => ?_)
                · -- B 2 (j) ne 0 : True
                  exact absurd (h0) c_32
                · -- B 2 (j) ne 0 : False
                  refine lv_aload_n hx hb dL_law_1164 rfl (lv_at hl 2 rfl) ?_
                  refine lv_iload hx hb dL_law_1165 (lv_at hl 12 rfl) ?_
                  refine vx_calli (vx_runSX (hh := [(0, 5, 6, 23)]) (As := [.ref o, .int (nI j)]) (rest := []) ⟨hx, hb, hml, hown, hts⟩ (c_L_due_0 l hst D cs (AC s.heap.size AL) z0 sa o g L B n b hn hb5 (nI j) (kIx_nI hj9 (by omega))) (vx_cwSW 2 hts gL_law_L_due rfl rfl rfl (by decide +kernel) ⟨Nat.le_of_ble_eq_true rfl, Nat.le_of_ble_eq_true rfl⟩) ⟨pR_fb, fun U hU hV => ⟨rfl, hE0.law hS hsz hAL hV hU, by rw [hU]; exact hR, hnc.1.moved hV.alike, hnc.2.1.moved hV.alike, hnc.2.2.moved hV.alike⟩⟩ rfl rfl hl.1 rfl (lv_room (Nat.le_of_ble_eq_true rfl)) dL_law_1167 ⟨by show _ ≤ (664879 : Nat); omega, by show _ ≤ (7106988 : Nat); omega⟩) hS (fun q _ h => h.1) (fun q h => h.1) (fun _ _ h => h.elim) (fun E9 ce9 q9 u9 t9 H9 locs9 ht9 hvm9 hpx9 hbx9 hz9 hk9 hS9 hc9 hv9 hl9 => hpx9.elim) (fun r_33 u t9 H locs ht hvm hw hB hz1 hk1 hS => ?_)
                  rw [ht] at hB
                  simp only [ixN_nI (show j < 1000 by omega)] at hw hB
                  have hR : RC D cs (AC s.heap.size AL) z0 o g L B n b H := hB
                  have hsz := Nat.le_trans hsz hz1
                  have hA := hA.keptA (A1 := (AC s.heap.size AL)) (fun q hq z => z.2 hq) hk1
                  obtain rfl : r_33 = B 1 (j) := hw
                  refine lv_iload hx hb dL_law_1170 (lv_at hl 8 rfl) ?_
                  refine lv_icmp_le (tgt := 1179) hx hb dL_law_1172 (by decide) (fun c_34 => ?_) (fun c_34 => ?_)
                  · -- B 1 (j) le g 0 : True
                    exact absurd c_34 (Int32.not_le.mpr ((hBI j hj9).1 h0))
                  · -- B 1 (j) le g 0 : False
                    refine lv_iconst (v := 1) hx hb dL_law_1175 (by decide) ?_
                    refine lv_goto (tgt := 1180) hx hb dL_law_1176 (by decide) ?_
                    refine lv_istore (lv' := [(9, .int 1), (15, .int (X - spB B (j + 1))), (0, .ref b9), (1, .ref o), (2, .ref (adL 0)), (3, .ref (adL 1)), (4, .ref (adL 2)), (5, .int (nI n)), (6, .int (nI b)), (8, .int (g 0)), (10, .int (nI k9)), (7, .int m7), (16, .int (nI j))]) hx hb dL_law_1180 hl (by decide) rfl (fun ls hl => ?_)
                    refine lv_aload_n hx hb dL_law_1182 rfl (lv_at hl 5 rfl) ?_
                    refine lv_iload hx hb dL_law_1183 (lv_at hl 12 rfl) ?_
                    refine lv_aload_n hx hb dL_law_1185 rfl (lv_at hl 3 rfl) ?_
                    refine lv_iload hx hb dL_law_1186 (lv_at hl 12 rfl) ?_
                    refine vx_calli (vx_runSX (hh := [(0, 5, 6, 23)]) (As := [.ref o, .int (nI j)]) (rest := [.int (nI j), .ref (adL 1)]) ⟨hx, hb, hml, hown, hts⟩ (c_L_due_0 l hst D cs (AC s.heap.size AL) z0 sa o g L B n b hn hb5 (nI j) (kIx_nI hj9 (by omega))) (vx_cwSW 2 hts gL_law_L_due rfl rfl rfl (by decide +kernel) ⟨Nat.le_of_ble_eq_true rfl, Nat.le_of_ble_eq_true rfl⟩) ⟨pR_fb, fun U hU hV => ⟨rfl, hE0.law hS hsz hAL hV hU, by rw [hU]; exact hR, hnc.1.moved hV.alike, hnc.2.1.moved hV.alike, hnc.2.2.moved hV.alike⟩⟩ rfl rfl hl.1 rfl (lv_room (Nat.le_of_ble_eq_true rfl)) dL_law_1188 ⟨by show _ ≤ (664879 : Nat); omega, by show _ ≤ (7106988 : Nat); omega⟩) hS (fun q _ h => h.1) (fun q h => h.1) (fun _ _ h => h.elim) (fun E9 ce9 q9 u9 t9 H9 locs9 ht9 hvm9 hpx9 hbx9 hz9 hk9 hS9 hc9 hv9 hl9 => hpx9.elim) (fun r_35 u t9 H locs ht hvm hw hB hz1 hk1 hS => ?_)
                    rw [ht] at hB
                    simp only [ixN_nI (show j < 1000 by omega)] at hw hB
                    have hR : RC D cs (AC s.heap.size AL) z0 o g L B n b H := hB
                    have hsz := Nat.le_trans hsz hz1
                    have hA := hA.keptA (A1 := (AC s.heap.size AL)) (fun q hq z => z.2 hq) hk1
                    obtain rfl : r_35 = B 1 (j) := hw
                    refine wb_iastL hx hb hK hA hS (fun q hq => (hAL q hq).1) 1 (by decide) 0 rfl rfl j rfl (by omega) (by decide) dL_law_1191 (fun H locs hA2 hS hz2 hk2 => ?_)
                    have hR := hR.keptA (A1 := fun z => z = adL 1) (fun q hq e9 => hq.2 (by rw [e9]; exact (hA.2.2 1 (by decide)).1)) hk2
                    have hA := ctL_1 hA2
                    have hsz := Nat.le_trans hsz hz2
                    refine lv_iload hx hb dL_law_1192 (lv_at hl 0 rfl) ?_
                    refine lv_if_eq (tgt := 1221) hx hb dL_law_1194 (by decide) (fun c_36 => ?_) (fun c_36 => ?_)
                    · -- 1 eq 0 : True
                      exact absurd c_36 (by decide)
                    · -- 1 eq 0 : False
                      refine lv_aload_n hx hb dL_law_1197 rfl (lv_at hl 3 rfl) ?_
                      refine lv_iload hx hb dL_law_1198 (lv_at hl 12 rfl) ?_
                      refine vx_calli (vx_runSX (hh := [(0, 5, 6, 23)]) (As := [.ref o, .int (nI j)]) (rest := []) ⟨hx, hb, hml, hown, hts⟩ (c_L_bond_0 l hst D cs (AC s.heap.size AL) z0 sa o g L B n b hn hb5 (nI j) (kIx_nI hj9 (by omega))) (vx_cwSW 2 hts gL_law_L_bond rfl rfl rfl (by decide +kernel) ⟨Nat.le_of_ble_eq_true rfl, Nat.le_of_ble_eq_true rfl⟩) ⟨pR_fb, fun U hU hV => ⟨rfl, hE0.law hS hsz hAL hV hU, by rw [hU]; exact hR, hnc.1.moved hV.alike, hnc.2.1.moved hV.alike, hnc.2.2.moved hV.alike⟩⟩ rfl rfl hl.1 rfl (lv_room (Nat.le_of_ble_eq_true rfl)) dL_law_1200 ⟨by show _ ≤ (664879 : Nat); omega, by show _ ≤ (7106988 : Nat); omega⟩) hS (fun q _ h => h.1) (fun q h => h.1) (fun _ _ h => h.elim) (fun E9 ce9 q9 u9 t9 H9 locs9 ht9 hvm9 hpx9 hbx9 hz9 hk9 hS9 hc9 hv9 hl9 => hpx9.elim) (fun r_37 u t9 H locs ht hvm hw hB hz1 hk1 hS => ?_)
                      rw [ht] at hB
                      simp only [ixN_nI (show j < 1000 by omega)] at hw hB
                      have hR : RC D cs (AC s.heap.size AL) z0 o g L B n b H := hB
                      have hsz := Nat.le_trans hsz hz1
                      have hA := hA.keptA (A1 := (AC s.heap.size AL)) (fun q hq z => z.2 hq) hk1
                      obtain rfl : r_37 = B 2 (j) := hw
                      refine lv_if_eq (tgt := 1217) hx hb dL_law_1203 (by decide) (fun c_38 => ?_) (fun c_38 => ?_)
                      · -- B 2 (j) eq 0 : True
                        refine lv_iconst (v := 1) hx hb dL_law_1217 (by decide) ?_
                        refine lv_goto (tgt := 1222) hx hb dL_law_1218 (by decide) ?_
                        refine lv_istore (lv' := [(9, .int 1), (15, .int (X - spB B (j + 1))), (0, .ref b9), (1, .ref o), (2, .ref (adL 0)), (3, .ref (adL 1)), (4, .ref (adL 2)), (5, .int (nI n)), (6, .int (nI b)), (8, .int (g 0)), (10, .int (nI k9)), (7, .int m7), (16, .int (nI j))]) hx hb dL_law_1222 hl (by decide) rfl (fun ls hl => ?_)
                        refine lv_iinc (v := nI (j + 1)) (lv' := [(16, .int (nI (j + 1))), (9, .int 1), (15, .int (X - spB B (j + 1))), (0, .ref b9), (1, .ref o), (2, .ref (adL 0)), (3, .ref (adL 1)), (4, .ref (adL 2)), (5, .int (nI n)), (6, .int (nI b)), (8, .int (g 0)), (10, .int (nI k9)), (7, .int m7)]) hx hb dL_law_1224 hl (k := 12) rfl (nI_1 _) (by decide) rfl (fun ls hl => ?_)
                        refine lv_goto (tgt := 1106) hx hb dL_law_1227 (by decide) ?_
                        refine W.widen (k := 500 + 2000 * k9 + 20 * (j + 1)) (n := 6000 + 20000 * k9 + 200 * (j + 1)) (by omega) (by omega) ?_
                        exact ih (j + 1) (by omega) H locs ls (upd fe j (B 1 j)) (fe_lo hlo) (fe_ge hge) ⟨hR, hA, hsz, hS⟩ (lv_sub hl [3, 4, 5, 6, 7, 8, 9, 10, 1, 11, 12, 2, 0] rfl)
                      · -- B 2 (j) eq 0 : False
                        exact absurd (h0) c_38
          ·
            refine lv_istore (lv' := [(15, .int (X - spB B (j + 1))), (0, .ref b9), (1, .ref o), (2, .ref (adL 0)), (3, .ref (adL 1)), (4, .ref (adL 2)), (5, .int (nI n)), (6, .int (nI b)), (8, .int (g 0)), (9, .int 1), (10, .int (nI k9)), (7, .int m7), (16, .int (nI j))]) hx hb dL_law_1135 hl (by decide) rfl (fun ls hl => ?_)
            refine lv_iload hx hb dL_law_1137 (lv_at hl 9 rfl) ?_
            refine lv_if_eq (tgt := 1179) hx hb dL_law_1139 (by decide) (fun c_39 => ?_) (fun c_39 => ?_)
            · -- 1 eq 0 : True
              exact absurd c_39 (by decide)
            · -- 1 eq 0 : False
              refine lv_aload_n hx hb dL_law_1142 rfl (lv_at hl 2 rfl) ?_
              refine lv_iload hx hb dL_law_1143 (lv_at hl 12 rfl) ?_
              refine vx_calli (vx_runSX (hh := [(0, 5, 6, 23)]) (As := [.ref o, .int (nI j)]) (rest := []) ⟨hx, hb, hml, hown, hts⟩ (c_L_due_0 l hst D cs (AC s.heap.size AL) z0 sa o g L B n b hn hb5 (nI j) (kIx_nI hj9 (by omega))) (vx_cwSW 2 hts gL_law_L_due rfl rfl rfl (by decide +kernel) ⟨Nat.le_of_ble_eq_true rfl, Nat.le_of_ble_eq_true rfl⟩) ⟨pR_fb, fun U hU hV => ⟨rfl, hE0.law hS hsz hAL hV hU, by rw [hU]; exact hR, hnc.1.moved hV.alike, hnc.2.1.moved hV.alike, hnc.2.2.moved hV.alike⟩⟩ rfl rfl hl.1 rfl (lv_room (Nat.le_of_ble_eq_true rfl)) dL_law_1145 ⟨by show _ ≤ (664879 : Nat); omega, by show _ ≤ (7106988 : Nat); omega⟩) hS (fun q _ h => h.1) (fun q h => h.1) (fun _ _ h => h.elim) (fun E9 ce9 q9 u9 t9 H9 locs9 ht9 hvm9 hpx9 hbx9 hz9 hk9 hS9 hc9 hv9 hl9 => hpx9.elim) (fun r_40 u t9 H locs ht hvm hw hB hz1 hk1 hS => ?_)
              rw [ht] at hB
              simp only [ixN_nI (show j < 1000 by omega)] at hw hB
              have hR : RC D cs (AC s.heap.size AL) z0 o g L B n b H := hB
              have hsz := Nat.le_trans hsz hz1
              have hA := hA.keptA (A1 := (AC s.heap.size AL)) (fun q hq z => z.2 hq) hk1
              obtain rfl : r_40 = B 1 (j) := hw
              refine lv_aload_n hx hb dL_law_1148 rfl (lv_at hl 4 rfl) ?_
              refine lv_iload hx hb dL_law_1149 (lv_at hl 12 rfl) ?_
              refine wb_iald hx hb hK hA 1 (by decide) 0 rfl rfl j rfl (by omega) (by decide) dL_law_1151 ?_
              refine lv_icmp_lt (tgt := 1179) hx hb dL_law_1152 (by decide) (fun c_41 => ?_) (fun c_41 => ?_)
              · -- B 1 (j) lt fe j : True
                exact absurd c_41 (Int32.not_lt.mpr (hge j (Nat.le_refl j) hj9))
              · -- B 1 (j) lt fe j : False
                refine lv_aload_n hx hb dL_law_1155 rfl (lv_at hl 2 rfl) ?_
                refine lv_iload hx hb dL_law_1156 (lv_at hl 12 rfl) ?_
                refine vx_calli (vx_runSX (hh := [(0, 5, 6, 23)]) (As := [.ref o, .int (nI j)]) (rest := []) ⟨hx, hb, hml, hown, hts⟩ (c_L_bond_0 l hst D cs (AC s.heap.size AL) z0 sa o g L B n b hn hb5 (nI j) (kIx_nI hj9 (by omega))) (vx_cwSW 2 hts gL_law_L_bond rfl rfl rfl (by decide +kernel) ⟨Nat.le_of_ble_eq_true rfl, Nat.le_of_ble_eq_true rfl⟩) ⟨pR_fb, fun U hU hV => ⟨rfl, hE0.law hS hsz hAL hV hU, by rw [hU]; exact hR, hnc.1.moved hV.alike, hnc.2.1.moved hV.alike, hnc.2.2.moved hV.alike⟩⟩ rfl rfl hl.1 rfl (lv_room (Nat.le_of_ble_eq_true rfl)) dL_law_1158 ⟨by show _ ≤ (664879 : Nat); omega, by show _ ≤ (7106988 : Nat); omega⟩) hS (fun q _ h => h.1) (fun q h => h.1) (fun _ _ h => h.elim) (fun E9 ce9 q9 u9 t9 H9 locs9 ht9 hvm9 hpx9 hbx9 hz9 hk9 hS9 hc9 hv9 hl9 => hpx9.elim) (fun r_42 u t9 H locs ht hvm hw hB hz1 hk1 hS => ?_)
                rw [ht] at hB
                simp only [ixN_nI (show j < 1000 by omega)] at hw hB
                have hR : RC D cs (AC s.heap.size AL) z0 o g L B n b H := hB
                have hsz := Nat.le_trans hsz hz1
                have hA := hA.keptA (A1 := (AC s.heap.size AL)) (fun q hq z => z.2 hq) hk1
                obtain rfl : r_42 = B 2 (j) := hw
                refine lv_if_ne (tgt := 1175) hx hb dL_law_1161 (by decide) (fun c_43 => ?_) (fun c_43 => ?_)
                · -- B 2 (j) ne 0 : True
                  refine lv_iconst (v := 1) hx hb dL_law_1175 (by decide) ?_
                  refine lv_goto (tgt := 1180) hx hb dL_law_1176 (by decide) ?_
                  refine lv_istore (lv' := [(9, .int 1), (15, .int (X - spB B (j + 1))), (0, .ref b9), (1, .ref o), (2, .ref (adL 0)), (3, .ref (adL 1)), (4, .ref (adL 2)), (5, .int (nI n)), (6, .int (nI b)), (8, .int (g 0)), (10, .int (nI k9)), (7, .int m7), (16, .int (nI j))]) hx hb dL_law_1180 hl (by decide) rfl (fun ls hl => ?_)
                  refine lv_aload_n hx hb dL_law_1182 rfl (lv_at hl 5 rfl) ?_
                  refine lv_iload hx hb dL_law_1183 (lv_at hl 12 rfl) ?_
                  refine lv_aload_n hx hb dL_law_1185 rfl (lv_at hl 3 rfl) ?_
                  refine lv_iload hx hb dL_law_1186 (lv_at hl 12 rfl) ?_
                  refine vx_calli (vx_runSX (hh := [(0, 5, 6, 23)]) (As := [.ref o, .int (nI j)]) (rest := [.int (nI j), .ref (adL 1)]) ⟨hx, hb, hml, hown, hts⟩ (c_L_due_0 l hst D cs (AC s.heap.size AL) z0 sa o g L B n b hn hb5 (nI j) (kIx_nI hj9 (by omega))) (vx_cwSW 2 hts gL_law_L_due rfl rfl rfl (by decide +kernel) ⟨Nat.le_of_ble_eq_true rfl, Nat.le_of_ble_eq_true rfl⟩) ⟨pR_fb, fun U hU hV => ⟨rfl, hE0.law hS hsz hAL hV hU, by rw [hU]; exact hR, hnc.1.moved hV.alike, hnc.2.1.moved hV.alike, hnc.2.2.moved hV.alike⟩⟩ rfl rfl hl.1 rfl (lv_room (Nat.le_of_ble_eq_true rfl)) dL_law_1188 ⟨by show _ ≤ (664879 : Nat); omega, by show _ ≤ (7106988 : Nat); omega⟩) hS (fun q _ h => h.1) (fun q h => h.1) (fun _ _ h => h.elim) (fun E9 ce9 q9 u9 t9 H9 locs9 ht9 hvm9 hpx9 hbx9 hz9 hk9 hS9 hc9 hv9 hl9 => hpx9.elim) (fun r_44 u t9 H locs ht hvm hw hB hz1 hk1 hS => ?_)
                  rw [ht] at hB
                  simp only [ixN_nI (show j < 1000 by omega)] at hw hB
                  have hR : RC D cs (AC s.heap.size AL) z0 o g L B n b H := hB
                  have hsz := Nat.le_trans hsz hz1
                  have hA := hA.keptA (A1 := (AC s.heap.size AL)) (fun q hq z => z.2 hq) hk1
                  obtain rfl : r_44 = B 1 (j) := hw
                  refine wb_iastL hx hb hK hA hS (fun q hq => (hAL q hq).1) 1 (by decide) 0 rfl rfl j rfl (by omega) (by decide) dL_law_1191 (fun H locs hA2 hS hz2 hk2 => ?_)
                  have hR := hR.keptA (A1 := fun z => z = adL 1) (fun q hq e9 => hq.2 (by rw [e9]; exact (hA.2.2 1 (by decide)).1)) hk2
                  have hA := ctL_1 hA2
                  have hsz := Nat.le_trans hsz hz2
                  refine lv_iload hx hb dL_law_1192 (lv_at hl 0 rfl) ?_
                  refine lv_if_eq (tgt := 1221) hx hb dL_law_1194 (by decide) (fun c_45 => ?_) (fun c_45 => ?_)
                  · -- 1 eq 0 : True
                    exact absurd c_45 (by decide)
                  · -- 1 eq 0 : False
                    refine lv_aload_n hx hb dL_law_1197 rfl (lv_at hl 3 rfl) ?_
                    refine lv_iload hx hb dL_law_1198 (lv_at hl 12 rfl) ?_
                    refine vx_calli (vx_runSX (hh := [(0, 5, 6, 23)]) (As := [.ref o, .int (nI j)]) (rest := []) ⟨hx, hb, hml, hown, hts⟩ (c_L_bond_0 l hst D cs (AC s.heap.size AL) z0 sa o g L B n b hn hb5 (nI j) (kIx_nI hj9 (by omega))) (vx_cwSW 2 hts gL_law_L_bond rfl rfl rfl (by decide +kernel) ⟨Nat.le_of_ble_eq_true rfl, Nat.le_of_ble_eq_true rfl⟩) ⟨pR_fb, fun U hU hV => ⟨rfl, hE0.law hS hsz hAL hV hU, by rw [hU]; exact hR, hnc.1.moved hV.alike, hnc.2.1.moved hV.alike, hnc.2.2.moved hV.alike⟩⟩ rfl rfl hl.1 rfl (lv_room (Nat.le_of_ble_eq_true rfl)) dL_law_1200 ⟨by show _ ≤ (664879 : Nat); omega, by show _ ≤ (7106988 : Nat); omega⟩) hS (fun q _ h => h.1) (fun q h => h.1) (fun _ _ h => h.elim) (fun E9 ce9 q9 u9 t9 H9 locs9 ht9 hvm9 hpx9 hbx9 hz9 hk9 hS9 hc9 hv9 hl9 => hpx9.elim) (fun r_46 u t9 H locs ht hvm hw hB hz1 hk1 hS => ?_)
                    rw [ht] at hB
                    simp only [ixN_nI (show j < 1000 by omega)] at hw hB
                    have hR : RC D cs (AC s.heap.size AL) z0 o g L B n b H := hB
                    have hsz := Nat.le_trans hsz hz1
                    have hA := hA.keptA (A1 := (AC s.heap.size AL)) (fun q hq z => z.2 hq) hk1
                    obtain rfl : r_46 = B 2 (j) := hw
                    refine lv_if_eq (tgt := 1217) hx hb dL_law_1203 (by decide) (fun c_47 => ?_) (fun c_47 => ?_)
                    · -- B 2 (j) eq 0 : True
                      exact absurd c_47 (h0)
                    · -- B 2 (j) eq 0 : False
                      refine lv_aload_n hx hb dL_law_1206 rfl (lv_at hl 3 rfl) ?_
                      refine lv_iload hx hb dL_law_1207 (lv_at hl 12 rfl) ?_
                      refine vx_calli (vx_runSX (hh := [(0, 5, 6, 23)]) (As := [.ref o, .int (nI j)]) (rest := []) ⟨hx, hb, hml, hown, hts⟩ (c_L_due_0 l hst D cs (AC s.heap.size AL) z0 sa o g L B n b hn hb5 (nI j) (kIx_nI hj9 (by omega))) (vx_cwSW 2 hts gL_law_L_due rfl rfl rfl (by decide +kernel) ⟨Nat.le_of_ble_eq_true rfl, Nat.le_of_ble_eq_true rfl⟩) ⟨pR_fb, fun U hU hV => ⟨rfl, hE0.law hS hsz hAL hV hU, by rw [hU]; exact hR, hnc.1.moved hV.alike, hnc.2.1.moved hV.alike, hnc.2.2.moved hV.alike⟩⟩ rfl rfl hl.1 rfl (lv_room (Nat.le_of_ble_eq_true rfl)) dL_law_1209 ⟨by show _ ≤ (664879 : Nat); omega, by show _ ≤ (7106988 : Nat); omega⟩) hS (fun q _ h => h.1) (fun q h => h.1) (fun _ _ h => h.elim) (fun E9 ce9 q9 u9 t9 H9 locs9 ht9 hvm9 hpx9 hbx9 hz9 hk9 hS9 hc9 hv9 hl9 => hpx9.elim) (fun r_48 u t9 H locs ht hvm hw hB hz1 hk1 hS => ?_)
                      rw [ht] at hB
                      simp only [ixN_nI (show j < 1000 by omega)] at hw hB
                      have hR : RC D cs (AC s.heap.size AL) z0 o g L B n b H := hB
                      have hsz := Nat.le_trans hsz hz1
                      have hA := hA.keptA (A1 := (AC s.heap.size AL)) (fun q hq z => z.2 hq) hk1
                      obtain rfl : r_48 = B 1 (j) := hw
                      refine lv_iload hx hb dL_law_1212 (lv_at hl 9 rfl) ?_
                      refine lv_icmp_gt (tgt := 1221) hx hb dL_law_1214 (by decide) (fun c_49 => ?_) (fun c_49 => ?_)
                      · -- B 1 (j) gt g 0 : True
                        exact absurd c_49 (Int32.not_lt.mpr ((hBI j hj9).2 h0))
                      · -- B 1 (j) gt g 0 : False
                        refine lv_iconst (v := 1) hx hb dL_law_1217 (by decide) ?_
                        refine lv_goto (tgt := 1222) hx hb dL_law_1218 (by decide) ?_
                        refine lv_istore (lv' := [(9, .int 1), (15, .int (X - spB B (j + 1))), (0, .ref b9), (1, .ref o), (2, .ref (adL 0)), (3, .ref (adL 1)), (4, .ref (adL 2)), (5, .int (nI n)), (6, .int (nI b)), (8, .int (g 0)), (10, .int (nI k9)), (7, .int m7), (16, .int (nI j))]) hx hb dL_law_1222 hl (by decide) rfl (fun ls hl => ?_)
                        refine lv_iinc (v := nI (j + 1)) (lv' := [(16, .int (nI (j + 1))), (9, .int 1), (15, .int (X - spB B (j + 1))), (0, .ref b9), (1, .ref o), (2, .ref (adL 0)), (3, .ref (adL 1)), (4, .ref (adL 2)), (5, .int (nI n)), (6, .int (nI b)), (8, .int (g 0)), (10, .int (nI k9)), (7, .int m7)]) hx hb dL_law_1224 hl (k := 12) rfl (nI_1 _) (by decide) rfl (fun ls hl => ?_)
                        refine lv_goto (tgt := 1106) hx hb dL_law_1227 (by decide) ?_
                        refine W.widen (k := 500 + 2000 * k9 + 20 * (j + 1)) (n := 6000 + 20000 * k9 + 200 * (j + 1)) (by omega) (by omega) ?_
                        exact ih (j + 1) (by omega) H locs ls (upd fe j (B 1 j)) (fe_lo hlo) (fe_ge hge) ⟨hR, hA, hsz, hS⟩ (lv_sub hl [3, 4, 5, 6, 7, 8, 9, 10, 1, 11, 12, 2, 0] rfl)
                · -- B 2 (j) ne 0 : False
                  exact absurd c_43 (h0)
        · -- B 2 (j) ne 2 : False
          exact absurd c_27 (h2)

set_option maxHeartbeats 4000000 in
set_option maxRecDepth 100000 in
theorem law_pass {p : Program} {l : Launch} {e : Env} {s : State} {m : MethodId} {below : List Frame} {meth : Method} {c : Code} {b9 L9 : Nat} {xs : Nat → Int32} {D : va_G} {cs : Nat → ClassId} {z0 : Nat} {sa : Nat → Nat} {AL : Nat → Prop} {adL : Nat → Nat} {o sz1 : Nat} (hst : l.stackTraces = false) (C0 : lw_At p s m meth c b9 L9 xs) (hE0 : Ev D cs (fun q => s.heap.size ≤ q) z0 sa s) (hnc : va_Nc xS xA s ∧ va_Nc xS xI s ∧ va_Nc xA xI s) (hAL : ∀ q, AL q → s.heap.size ≤ q ∧ q < sz1) {fa fd fs g : Nat → Int32} {L B : Nat → Nat → Int32} {n b k9 : Nat} {H : Heap} {locs : List Loc} {ls : Array Slot} (hk9 : k9 < 50) {z kk : Nat} (hz : z < 134217728) (hI : LI D cs s AL adL z0 o sz1 fa fd fs g L B n b k9 H locs) (hl : lv_has ls 20 [(0, .ref b9), (1, .ref o), (2, .ref (adL 0)), (3, .ref (adL 1)), (4, .ref (adL 2)), (5, .int (nI n)), (6, .int (nI b)), (7, .int (g 1)), (8, .int (g 0)), (9, .int 1), (10, .int (nI k9)), (12, .int (nI z)), (14, .int (nI kk))]) (KK : ∀ (H : Heap) (locs : List Loc) (ls : Array Slot) (fa fd fs g : Nat → Int32) (L B : Nat → Nat → Int32) (n b : Nat), LI D cs s AL adL z0 o sz1 fa fd fs g L B n b (k9 + 1) H locs → lv_has ls 20 [(0, .ref b9), (1, .ref o), (2, .ref (adL 0)), (3, .ref (adL 1)), (4, .ref (adL 2)), (5, .int (nI n)), (6, .int (nI b)), (7, .int (g 1)), (8, .int (g 0)), (9, .int 1), (10, .int (nI k9))] → W p l e room_1 s m #[Value.ref b9] below meth c H locs (1030 + 2000 * k9) (10300 + 20000 * k9) (lw_Z below #[Value.ref b9] s) (F0 m 1237 ls [])) : W p l e room_1 s m #[Value.ref b9] below meth c H locs (30 + 2000 * k9) (300 + 20000 * k9) (lw_Z below #[Value.ref b9] s) (F0 m 969 ls []) := by
  have C9 := C0
  obtain ⟨hR, hA, hsz, hS, hLV⟩ := hI
  obtain ⟨hx, hb0, hr, hml, hown0, hts0, hX, hbl, hlocks, hgv⟩ := C0
  have hb : c.code = cL_law := hb0
  have hown : s.vm.findClass RL = some m.cls := hown0
  have hts : ∀ w ∈ wsL_law, w.before #[Value.ref b9] s = true := fun w h => hts0 w (wsL_law_in w h)
  have hK := hE0.1
  have hIv := hLV.1
  have hbd := hIv.bd
  have hn := hIv.1
  have hb5 := hIv.2.1
  refine lv_iconst (v := 0) hx hb dL_law_969 (by decide) ?_
  refine lv_istore (lv' := [(15, .int 0), (0, .ref b9), (1, .ref o), (2, .ref (adL 0)), (3, .ref (adL 1)), (4, .ref (adL 2)), (5, .int (nI n)), (6, .int (nI b)), (7, .int (g 1)), (8, .int (g 0)), (9, .int 1), (10, .int (nI k9)), (12, .int (nI z)), (14, .int (nI kk))]) hx hb dL_law_970 hl (by decide) rfl (fun ls hl => ?_)
  refine lv_iconst (v := 0) hx hb dL_law_972 (by decide) ?_
  refine lv_istore (lv' := [(16, .int 0), (15, .int 0), (0, .ref b9), (1, .ref o), (2, .ref (adL 0)), (3, .ref (adL 1)), (4, .ref (adL 2)), (5, .int (nI n)), (6, .int (nI b)), (7, .int (g 1)), (8, .int (g 0)), (9, .int 1), (10, .int (nI k9)), (12, .int (nI z)), (14, .int (nI kk))]) hx hb dL_law_973 hl (by decide) rfl (fun ls hl => ?_)
  refine W.widen (k := 30 + 2000 * k9 + 10 * 0) (n := 300 + 20000 * k9 + 100 * 0) (by omega) (by omega) ?_
  refine pass_l1 (sa := sa) (X := 0) (m7 := g 1) (m8 := g 0) (z := z) hst C9 hE0 hnc hAL hk9 hn hb5 hLV.2.2.1 (fun H locs ls hH hl => ?_) n 0 (by omega) H locs ls ⟨hR, hA, hsz, hS⟩ (by rw [show (0 : Int32) - spL L 0 = 0 from by rw [spL]; decide]; exact lv_sub hl [2, 3, 4, 5, 6, 7, 8, 11, 12, 9, 10, 13, 1, 0] rfl)
  obtain ⟨hR, hA, hsz, hS⟩ := hH
  refine lv_iconst (v := 0) hx hb dL_law_1011 (by decide) ?_
  refine lv_istore (lv' := [(16, .int 0), (0, .ref b9), (1, .ref o), (2, .ref (adL 0)), (3, .ref (adL 1)), (4, .ref (adL 2)), (5, .int (nI n)), (6, .int (nI b)), (9, .int 1), (10, .int (nI k9)), (7, .int (g 1)), (8, .int (g 0)), (12, .int (nI z)), (15, .int (0 - spL L n))]) hx hb dL_law_1012 hl (by decide) rfl (fun ls hl => ?_)
  refine W.widen (k := 200 + 2000 * k9 + 10 * 0) (n := 2000 + 20000 * k9 + 100 * 0) (by omega) (by omega) ?_
  refine pass_l2 (sa := sa) (X := 0 - spL L n) (m7 := g 1) (m8 := g 0) (z := z) hst C9 hE0 hnc hAL hk9 hn hb5 hLV.2.2.2.1 (fun H locs ls hH hl => ?_) b 0 (by omega) H locs ls ⟨hR, hA, hsz, hS⟩ (by rw [show (0 : Int32) - spL L n + spB B 0 = 0 - spL L n from by rw [spB]; grind]; exact lv_sub hl [1, 2, 3, 4, 5, 6, 7, 8, 9, 10, 11, 12, 13, 0] rfl)
  obtain ⟨hR, hA, hsz, hS⟩ := hH
  refine lv_aload_n hx hb dL_law_1051 rfl (lv_at hl 1 rfl) ?_
  refine lv_iconst (v := 1) hx hb dL_law_1052 (by decide) ?_
  refine lv_iload hx hb dL_law_1053 (lv_at hl 11 rfl) ?_
  refine lv_bipush (v := 24) hx hb dL_law_1055 (by decide) ?_
  refine lv_irem hx hb dL_law_1057 (by decide) ?_
  rw [nI_md (a := z) (c := 24) (k := 24) rfl (by omega) (by omega) (by omega)]
  refine lv_iadd hx hb dL_law_1058 ?_
  rw [show (1 : Int32) + nI (z % 24) = nI (1 + (z % 24)) from nI_add 1 _]
  obtain ⟨q9, eq9⟩ : ∃ q9, q9 = z % 24 := ⟨_, rfl⟩
  rw [← eq9]
  obtain ⟨hkp, hpass⟩ := hLV.pass hk9 (x := q9) (by omega)
  refine vx_calli (vx_runSX (hh := [(0, 5, 6, 15)]) (As := [.ref o, .int (nI (1 + q9))]) (rest := []) ⟨hx, hb, hml, hown, hts⟩ (c_L_pass_0 l hst D cs (AC s.heap.size AL) z0 sa o g L B n b hn hb5 (nI (1 + q9)) hkp) (vx_cwSW 2 hts gL_law_L_pass rfl rfl rfl (by decide +kernel) ⟨Nat.le_of_ble_eq_true rfl, Nat.le_of_ble_eq_true rfl⟩) ⟨pR_fb, fun U hU hV => ⟨rfl, hE0.law hS hsz hAL hV hU, by rw [hU]; exact hR, hnc.1.moved hV.alike, hnc.2.1.moved hV.alike, hnc.2.2.moved hV.alike⟩⟩ rfl rfl hl.1 rfl (lv_room (Nat.le_of_ble_eq_true rfl)) dL_law_1059 ⟨by show _ ≤ (664879 : Nat); omega, by show _ ≤ (7106988 : Nat); omega⟩) hS (fun q _ h => h.1) (fun q h => h.1) (fun _ _ h => h.elim) (fun E9 ce9 q9 u9 t9 H9 locs9 ht9 hvm9 hpx9 hbx9 hz9 hk9 hS9 hc9 hv9 hl9 => hpx9.elim) (fun r_1 u t9 H locs ht hvm hw hB hz1 hk1 hS => ?_)
  rw [ht] at hB
  simp only [ixN_nI (show (1 + q9) < 1000 by omega)] at hw hB
  generalize lvMany n b (g, L, B) ((1 + q9)) = y at hw hB hpass
  have hR : RC D cs (AC s.heap.size AL) z0 o y.1 y.2.1 y.2.2 n b H := hB
  have hsz := Nat.le_trans hsz hz1
  have hA := hA.keptA (A1 := (AC s.heap.size AL)) (fun q hq z => z.2 hq) hk1
  obtain rfl : r_1 = y.1 0 := hw
  obtain ⟨hcash, hdue, hLVp⟩ := hpass
  have hLV2 := hLVp (y.2.2 1) (fun _ _ => rfl)
  refine lv_istore (lv' := [(8, .int (y.1 0)), (0, .ref b9), (1, .ref o), (2, .ref (adL 0)), (3, .ref (adL 1)), (4, .ref (adL 2)), (5, .int (nI n)), (6, .int (nI b)), (9, .int 1), (10, .int (nI k9)), (7, .int (g 1)), (12, .int (nI z)), (15, .int (0 - spL L n + spB B b)), (16, .int (nI b))]) hx hb dL_law_1062 hl (by decide) rfl (fun ls hl => ?_)
  refine lv_iconst (v := 0) hx hb dL_law_1064 (by decide) ?_
  refine lv_istore (lv' := [(16, .int 0), (8, .int (y.1 0)), (0, .ref b9), (1, .ref o), (2, .ref (adL 0)), (3, .ref (adL 1)), (4, .ref (adL 2)), (5, .int (nI n)), (6, .int (nI b)), (9, .int 1), (10, .int (nI k9)), (7, .int (g 1)), (12, .int (nI z)), (15, .int (0 - spL L n + spB B b))]) hx hb dL_law_1065 hl (by decide) rfl (fun ls hl => ?_)
  refine W.widen (k := 300 + 2000 * k9 + 10 * 0) (n := 4000 + 20000 * k9 + 100 * 0) (by omega) (by omega) ?_
  refine pass_l3 (sa := sa) (X := 0 - spL L n + spB B b) (m7 := g 1) (m8 := y.1 0) (z := z) hst C9 hE0 hnc hAL hk9 hn hb5 hLV2.2.2.1 (fun H locs ls hH hl => ?_) n 0 (by omega) H locs ls ⟨hR, hA, hsz, hS⟩ (by rw [show (0 : Int32) - spL L n + spB B b + spL y.2.1 0 = 0 - spL L n + spB B b from by rw [spL]; grind]; exact lv_sub hl [2, 3, 4, 5, 6, 7, 8, 9, 10, 11, 1, 12, 13, 0] rfl)
  obtain ⟨hR, hA, hsz, hS⟩ := hH
  refine lv_iconst (v := 0) hx hb dL_law_1103 (by decide) ?_
  refine lv_istore (lv' := [(16, .int 0), (0, .ref b9), (1, .ref o), (2, .ref (adL 0)), (3, .ref (adL 1)), (4, .ref (adL 2)), (5, .int (nI n)), (6, .int (nI b)), (9, .int 1), (10, .int (nI k9)), (7, .int (g 1)), (8, .int (y.1 0)), (12, .int (nI z)), (15, .int (0 - spL L n + spB B b + spL y.2.1 n))]) hx hb dL_law_1104 hl (by decide) rfl (fun ls hl => ?_)
  refine W.widen (k := 500 + 2000 * k9 + 20 * 0) (n := 6000 + 20000 * k9 + 200 * 0) (by omega) (by omega) ?_
  refine pass_l4 (sa := sa) (fd := fd) (X := 0 - spL L n + spB B b + spL y.2.1 n) (m7 := g 1) hst C9 hE0 hnc hAL hk9 hn hb5 hLV2.2.2.2.1 hLV2.2.2.2.2.2.2 (fun H locs ls fe hlo hge hH hl => ?_) b 0 (by omega) H locs ls fd (fun i hi => absurd hi (Nat.not_lt_zero i)) (fun i _ hi => hdue i hi) ⟨hR, hA, hsz, hS⟩ (by rw [show (0 : Int32) - spL L n + spB B b + spL y.2.1 n - spB y.2.2 0 = 0 - spL L n + spB B b + spL y.2.1 n from by rw [spB]; grind]; exact lv_sub hl [1, 2, 3, 4, 5, 6, 7, 11, 8, 9, 10, 13, 0] rfl)
  obtain ⟨hR, hA, hsz, hS⟩ := hH
  refine lv_iload hx hb dL_law_1230 (lv_at hl 10 rfl) ?_
  refine lv_iload hx hb dL_law_1232 (lv_at hl 11 rfl) ?_
  refine lv_iadd hx hb dL_law_1234 ?_
  rw [show ((g 1) + (0 - spL L n + spB B b + spL y.2.1 n - spB y.2.2 b) : Int32) = y.1 1 from hcash.symm]
  refine lv_istore (lv' := [(7, .int (y.1 1)), (0, .ref b9), (1, .ref o), (2, .ref (adL 0)), (3, .ref (adL 1)), (4, .ref (adL 2)), (5, .int (nI n)), (6, .int (nI b)), (8, .int (y.1 0)), (9, .int 1), (10, .int (nI k9)), (15, .int (0 - spL L n + spB B b + spL y.2.1 n - spB y.2.2 b)), (16, .int (nI b))]) hx hb dL_law_1235 hl (by decide) rfl (fun ls hl => ?_)
  refine W.widen (k := 1030 + 2000 * k9) (n := 10300 + 20000 * k9) (by omega) (by omega) ?_
  exact KK _ _ _ fa fe fs y.1 y.2.1 y.2.2 n b ⟨hR, hA, hsz, hS, (hLVp fe hlo)⟩ (lv_sub hl [1, 2, 3, 4, 5, 6, 7, 0, 8, 9, 10] rfl)

set_option maxHeartbeats 4000000 in
set_option maxRecDepth 100000 in
theorem tail_debt {p : Program} {l : Launch} {e : Env} {s : State} {m : MethodId} {below : List Frame} {meth : Method} {c : Code} {b9 L9 : Nat} {xs : Nat → Int32} {D : va_G} {cs : Nat → ClassId} {z0 : Nat} {sa : Nat → Nat} {AL : Nat → Prop} {adL : Nat → Nat} {o sz1 : Nat} (hst : l.stackTraces = false) (C0 : lw_At p s m meth c b9 L9 xs) (hE0 : Ev D cs (fun q => s.heap.size ≤ q) z0 sa s) (hnc : va_Nc xS xA s ∧ va_Nc xS xI s ∧ va_Nc xA xI s) (hAL : ∀ q, AL q → s.heap.size ≤ q ∧ q < sz1) {fa fd fs g : Nat → Int32} {L B : Nat → Nat → Int32} {n b k9 : Nat} (hk9 : k9 < 50) (hn : n ≤ 12) (hb5 : b ≤ 5) (hfs : ∀ j, j < b → fs j = B 0 j) (EX : ∀ (H : Heap) (locs : List Loc) (ls : Array Slot), LH D cs s AL adL z0 o sz1 fa fd fs g L B n b H locs → lv_has ls 20 [(0, .ref b9), (1, .ref o), (2, .ref (adL 0)), (3, .ref (adL 1)), (4, .ref (adL 2)), (5, .int (nI n)), (6, .int (nI b)), (7, .int (g 1)), (8, .int (g 0)), (9, .int 1), (10, .int (nI k9)), (15, .int (mOwed B b)), (16, .int (nI b))] → W p l e room_1 s m #[Value.ref b9] below meth c H locs (1030 + 2000 * k9 + 10 * b) (10300 + 20000 * k9 + 100 * b) (lw_Z below #[Value.ref b9] s) (F0 m 1284 ls [])) : ∀ (k j : Nat), j + k = b → ∀ (H : Heap) (locs : List Loc) (ls : Array Slot), LH D cs s AL adL z0 o sz1 fa fd fs g L B n b H locs → lv_has ls 20 [(0, .ref b9), (1, .ref o), (2, .ref (adL 0)), (3, .ref (adL 1)), (4, .ref (adL 2)), (5, .int (nI n)), (6, .int (nI b)), (7, .int (g 1)), (8, .int (g 0)), (9, .int 1), (10, .int (nI k9)), (15, .int (mOwed B j)), (16, .int (nI j))] → W p l e room_1 s m #[Value.ref b9] below meth c H locs (1030 + 2000 * k9 + 10 * j) (10300 + 20000 * k9 + 100 * j) (lw_Z below #[Value.ref b9] s) (F0 m 1243 ls []) := by
  intro k
  induction k with
  | zero =>
    intro j hj H locs ls hH hl
    obtain rfl : b = j := by omega
    obtain ⟨hR, hA, hsz, hS⟩ := hH
    obtain ⟨hx, hb0, hr, hml, hown0, hts0, hX, hbl, hlocks, hgv⟩ := C0
    have hb : c.code = cL_law := hb0
    have hown : s.vm.findClass RL = some m.cls := hown0
    have hts : ∀ w ∈ wsL_law, w.before #[Value.ref b9] s = true := fun w h => hts0 w (wsL_law_in w h)
    have hK := hE0.1
    refine lv_iload hx hb dL_law_1243 (lv_at hl 12 rfl) ?_
    refine lv_iload hx hb dL_law_1245 (lv_at hl 6 rfl) ?_
    refine lv_icmp_ge (tgt := 1284) hx hb dL_law_1247 (by decide) (fun c_1 => ?_) (fun c_1 => ?_)
    · -- nI b ge nI b : True
      exact EX H locs ls ⟨hR, hA, hsz, hS⟩ (lv_sub hl [0, 1, 2, 3, 4, 5, 6, 7, 8, 9, 10, 11, 12] rfl)
    · -- nI b ge nI b : False
      exact absurd (Int32.le_refl (nI b)) c_1
  | succ k ih =>
    intro j hj H locs ls hH hl
    have hj9 : j < b := by omega
    obtain ⟨hR, hA, hsz, hS⟩ := hH
    obtain ⟨hx, hb0, hr, hml, hown0, hts0, hX, hbl, hlocks, hgv⟩ := C0
    have hb : c.code = cL_law := hb0
    have hown : s.vm.findClass RL = some m.cls := hown0
    have hts : ∀ w ∈ wsL_law, w.before #[Value.ref b9] s = true := fun w h => hts0 w (wsL_law_in w h)
    have hK := hE0.1
    refine lv_iload hx hb dL_law_1243 (lv_at hl 12 rfl) ?_
    refine lv_iload hx hb dL_law_1245 (lv_at hl 6 rfl) ?_
    refine lv_icmp_ge (tgt := 1284) hx hb dL_law_1247 (by decide) (fun c_2 => ?_) (fun c_2 => ?_)
    · -- nI j ge nI b : True
      exact absurd c_2 (nI_ge hj9 (by omega))
    · -- nI j ge nI b : False
      refine lv_iload hx hb dL_law_1250 (lv_at hl 9 rfl) ?_
      refine lv_if_eq (tgt := 1284) hx hb dL_law_1252 (by decide) (fun c_3 => ?_) (fun c_3 => ?_)
      · -- 1 eq 0 : True
        exact absurd c_3 (by decide)
      · -- 1 eq 0 : False
        refine lv_iload hx hb dL_law_1255 (lv_at hl 11 rfl) ?_
        refine lv_aload_n hx hb dL_law_1257 rfl (lv_at hl 1 rfl) ?_
        refine lv_iload hx hb dL_law_1258 (lv_at hl 12 rfl) ?_
        refine vx_calli (vx_runSX (hh := [(0, 5, 6, 23)]) (As := [.ref o, .int (nI j)]) (rest := [.int (mOwed B j)]) ⟨hx, hb, hml, hown, hts⟩ (c_L_bond_0 l hst D cs (AC s.heap.size AL) z0 sa o g L B n b hn hb5 (nI j) (kIx_nI hj9 (by omega))) (vx_cwSW 2 hts gL_law_L_bond rfl rfl rfl (by decide +kernel) ⟨Nat.le_of_ble_eq_true rfl, Nat.le_of_ble_eq_true rfl⟩) ⟨pR_fb, fun U hU hV => ⟨rfl, hE0.law hS hsz hAL hV hU, by rw [hU]; exact hR, hnc.1.moved hV.alike, hnc.2.1.moved hV.alike, hnc.2.2.moved hV.alike⟩⟩ rfl rfl hl.1 rfl (lv_room (Nat.le_of_ble_eq_true rfl)) dL_law_1260 ⟨by show _ ≤ (664879 : Nat); omega, by show _ ≤ (7106988 : Nat); omega⟩) hS (fun q _ h => h.1) (fun q h => h.1) (fun _ _ h => h.elim) (fun E9 ce9 q9 u9 t9 H9 locs9 ht9 hvm9 hpx9 hbx9 hz9 hk9 hS9 hc9 hv9 hl9 => hpx9.elim) (fun r_4 u t9 H locs ht hvm hw hB hz1 hk1 hS => ?_)
        rw [ht] at hB
        simp only [ixN_nI (show j < 1000 by omega)] at hw hB
        have hR : RC D cs (AC s.heap.size AL) z0 o g L B n b H := hB
        have hsz := Nat.le_trans hsz hz1
        have hA := hA.keptA (A1 := (AC s.heap.size AL)) (fun q hq z => z.2 hq) hk1
        obtain rfl : r_4 = B 2 (j) := hw
        by_cases h2 : B 2 j = 0
        ·
          refine lv_if_ne (tgt := 1274) hx hb dL_law_1263 (by decide) (fun c_5 => ?_) (fun c_5 => ?_)
          · -- B 2 (j) ne 0 : True
            exact absurd (h2) c_5
          · -- B 2 (j) ne 0 : False
            refine lv_aload hx hb dL_law_1266 (lv_at hl 4 rfl) ?_
            refine lv_iload hx hb dL_law_1268 (lv_at hl 12 rfl) ?_
            refine wb_iald hx hb hK hA 2 (by decide) 0 rfl rfl j rfl (by omega) (by decide) dL_law_1270 ?_
            rw [show (fs j : Int32) = B 0 j from hfs j hj9]
            refine lv_goto (tgt := 1275) hx hb dL_law_1271 (by decide) ?_
            refine lv_iadd hx hb dL_law_1275 ?_
            rw [show ((mOwed B j) + (B 0 j) : Int32) = mOwed B (j + 1) from by rw [mOwed_y h2]]
            refine lv_istore (lv' := [(15, .int (mOwed B (j + 1))), (0, .ref b9), (1, .ref o), (2, .ref (adL 0)), (3, .ref (adL 1)), (4, .ref (adL 2)), (5, .int (nI n)), (6, .int (nI b)), (7, .int (g 1)), (8, .int (g 0)), (9, .int 1), (10, .int (nI k9)), (16, .int (nI j))]) hx hb dL_law_1276 hl (by decide) rfl (fun ls hl => ?_)
            refine lv_iinc (v := nI (j + 1)) (lv' := [(16, .int (nI (j + 1))), (15, .int (mOwed B (j + 1))), (0, .ref b9), (1, .ref o), (2, .ref (adL 0)), (3, .ref (adL 1)), (4, .ref (adL 2)), (5, .int (nI n)), (6, .int (nI b)), (7, .int (g 1)), (8, .int (g 0)), (9, .int 1), (10, .int (nI k9))]) hx hb dL_law_1278 hl (k := 12) rfl (nI_1 _) (by decide) rfl (fun ls hl => ?_)
            refine lv_goto (tgt := 1243) hx hb dL_law_1281 (by decide) ?_
            refine W.widen (k := 1030 + 2000 * k9 + 10 * (j + 1)) (n := 10300 + 20000 * k9 + 100 * (j + 1)) (by omega) (by omega) ?_
            exact ih (j + 1) (by omega) H locs ls ⟨hR, hA, hsz, hS⟩ (lv_sub hl [2, 3, 4, 5, 6, 7, 8, 9, 10, 11, 12, 1, 0] rfl)
        ·
          refine lv_if_ne (tgt := 1274) hx hb dL_law_1263 (by decide) (fun c_6 => ?_) (fun c_6 => ?_)
          · -- B 2 (j) ne 0 : True
            refine lv_iconst (v := 0) hx hb dL_law_1274 (by decide) ?_
            refine lv_iadd hx hb dL_law_1275 ?_
            rw [show ((mOwed B j) + 0 : Int32) = mOwed B (j + 1) from by rw [mOwed_n h2]; grind]
            refine lv_istore (lv' := [(15, .int (mOwed B (j + 1))), (0, .ref b9), (1, .ref o), (2, .ref (adL 0)), (3, .ref (adL 1)), (4, .ref (adL 2)), (5, .int (nI n)), (6, .int (nI b)), (7, .int (g 1)), (8, .int (g 0)), (9, .int 1), (10, .int (nI k9)), (16, .int (nI j))]) hx hb dL_law_1276 hl (by decide) rfl (fun ls hl => ?_)
            refine lv_iinc (v := nI (j + 1)) (lv' := [(16, .int (nI (j + 1))), (15, .int (mOwed B (j + 1))), (0, .ref b9), (1, .ref o), (2, .ref (adL 0)), (3, .ref (adL 1)), (4, .ref (adL 2)), (5, .int (nI n)), (6, .int (nI b)), (7, .int (g 1)), (8, .int (g 0)), (9, .int 1), (10, .int (nI k9))]) hx hb dL_law_1278 hl (k := 12) rfl (nI_1 _) (by decide) rfl (fun ls hl => ?_)
            refine lv_goto (tgt := 1243) hx hb dL_law_1281 (by decide) ?_
            refine W.widen (k := 1030 + 2000 * k9 + 10 * (j + 1)) (n := 10300 + 20000 * k9 + 100 * (j + 1)) (by omega) (by omega) ?_
            exact ih (j + 1) (by omega) H locs ls ⟨hR, hA, hsz, hS⟩ (lv_sub hl [2, 3, 4, 5, 6, 7, 8, 9, 10, 11, 12, 1, 0] rfl)
          · -- B 2 (j) ne 0 : False
            exact absurd c_6 (h2)

set_option maxHeartbeats 4000000 in
set_option maxRecDepth 100000 in
theorem tail_lack {p : Program} {l : Launch} {e : Env} {s : State} {m : MethodId} {below : List Frame} {meth : Method} {c : Code} {b9 L9 : Nat} {xs : Nat → Int32} {D : va_G} {cs : Nat → ClassId} {z0 : Nat} {sa : Nat → Nat} {AL : Nat → Prop} {adL : Nat → Nat} {o sz1 : Nat} (hst : l.stackTraces = false) (C0 : lw_At p s m meth c b9 L9 xs) (hE0 : Ev D cs (fun q => s.heap.size ≤ q) z0 sa s) (hnc : va_Nc xS xA s ∧ va_Nc xS xI s ∧ va_Nc xA xI s) (hAL : ∀ q, AL q → s.heap.size ≤ q ∧ q < sz1) {fa fd fs g : Nat → Int32} {L B : Nat → Nat → Int32} {n b k9 : Nat} (hk9 : k9 < 50) (hn : n ≤ 12) (hb5 : b ≤ 5) (hbd : Bd g L B n b) (EX : ∀ (H : Heap) (locs : List Loc) (ls : Array Slot), LH D cs s AL adL z0 o sz1 fa fd fs g L B n b H locs → lv_has ls 20 [(0, .ref b9), (1, .ref o), (2, .ref (adL 0)), (3, .ref (adL 1)), (4, .ref (adL 2)), (5, .int (nI n)), (6, .int (nI b)), (7, .int (g 1)), (8, .int (g 0)), (9, .int 1), (10, .int (nI k9)), (17, .int (nI 3))] → W p l e room_1 s m #[Value.ref b9] below meth c H locs (1100 + 2000 * k9 + 10 * 3) (11000 + 20000 * k9 + 100 * 3) (lw_Z below #[Value.ref b9] s) (F0 m 1417 ls [])) : ∀ (k j : Nat), j + k = 3 → ∀ (H : Heap) (locs : List Loc) (ls : Array Slot), LH D cs s AL adL z0 o sz1 fa fd fs g L B n b H locs → lv_has ls 20 [(0, .ref b9), (1, .ref o), (2, .ref (adL 0)), (3, .ref (adL 1)), (4, .ref (adL 2)), (5, .int (nI n)), (6, .int (nI b)), (7, .int (g 1)), (8, .int (g 0)), (9, .int 1), (10, .int (nI k9)), (17, .int (nI j))] → W p l e room_1 s m #[Value.ref b9] below meth c H locs (1100 + 2000 * k9 + 10 * j) (11000 + 20000 * k9 + 100 * j) (lw_Z below #[Value.ref b9] s) (F0 m 1348 ls []) := by
  intro k
  induction k with
  | zero =>
    intro j hj H locs ls hH hl
    obtain rfl : 3 = j := by omega
    obtain ⟨hR, hA, hsz, hS⟩ := hH
    obtain ⟨hx, hb0, hr, hml, hown0, hts0, hX, hbl, hlocks, hgv⟩ := C0
    have hb : c.code = cL_law := hb0
    have hown : s.vm.findClass RL = some m.cls := hown0
    have hts : ∀ w ∈ wsL_law, w.before #[Value.ref b9] s = true := fun w h => hts0 w (wsL_law_in w h)
    have hK := hE0.1
    refine lv_iload hx hb dL_law_1348 (lv_at hl 11 rfl) ?_
    refine lv_iconst (v := 3) hx hb dL_law_1350 (by decide) ?_
    refine lv_icmp_ge (tgt := 1417) hx hb dL_law_1351 (by decide) (fun c_1 => ?_) (fun c_1 => ?_)
    · -- nI 3 ge 3 : True
      exact EX H locs ls ⟨hR, hA, hsz, hS⟩ (lv_sub hl [0, 1, 2, 3, 4, 5, 6, 7, 8, 9, 10, 11] rfl)
    · -- nI 3 ge 3 : False
      exact absurd (Int32.le_refl (nI 3)) c_1
  | succ k ih =>
    intro j hj H locs ls hH hl
    have hj9 : j < 3 := by omega
    obtain ⟨hR, hA, hsz, hS⟩ := hH
    obtain ⟨hx, hb0, hr, hml, hown0, hts0, hX, hbl, hlocks, hgv⟩ := C0
    have hb : c.code = cL_law := hb0
    have hown : s.vm.findClass RL = some m.cls := hown0
    have hts : ∀ w ∈ wsL_law, w.before #[Value.ref b9] s = true := fun w h => hts0 w (wsL_law_in w h)
    have hK := hE0.1
    refine lv_iload hx hb dL_law_1348 (lv_at hl 11 rfl) ?_
    refine lv_iconst (v := 3) hx hb dL_law_1350 (by decide) ?_
    refine lv_icmp_ge (tgt := 1417) hx hb dL_law_1351 (by decide) (fun c_2 => ?_) (fun c_2 => ?_)
    · -- nI j ge 3 : True
      exact absurd c_2 (nI_ge hj9 (by decide))
    · -- nI j ge 3 : False
      refine lv_iload hx hb dL_law_1354 (lv_at hl 9 rfl) ?_
      refine lv_if_eq (tgt := 1417) hx hb dL_law_1356 (by decide) (fun c_3 => ?_) (fun c_3 => ?_)
      · -- 1 eq 0 : True
        exact absurd c_3 (by decide)
      · -- 1 eq 0 : False
        refine lv_aload_n hx hb dL_law_1359 rfl (lv_at hl 1 rfl) ?_
        refine lv_iload hx hb dL_law_1360 (lv_at hl 11 rfl) ?_
        refine vx_calll (vx_runSX (hh := [(0, 5, 6, 15)]) (As := [.ref o, .int (nI j)]) (rest := []) ⟨hx, hb, hml, hown, hts⟩ (c_L_lacking_0 l hst D cs (AC s.heap.size AL) z0 sa o g L B n b hn hb5 (nI j) hbd (kIn_t hj9)) (vx_cwSW 2 hts gL_law_L_lacking rfl rfl rfl (by decide +kernel) ⟨Nat.le_of_ble_eq_true rfl, Nat.le_of_ble_eq_true rfl⟩) ⟨pR_fb, fun U hU hV => ⟨rfl, hE0.law hS hsz hAL hV hU, by rw [hU]; exact hR, hnc.1.moved hV.alike, hnc.2.1.moved hV.alike, hnc.2.2.moved hV.alike⟩⟩ rfl rfl hl.1 rfl (lv_room (Nat.le_of_ble_eq_true rfl)) dL_law_1362 ⟨by show _ ≤ (664879 : Nat); omega, by show _ ≤ (7106988 : Nat); omega⟩) hS (fun q _ h => h.1) (fun q h => h.1) (fun _ _ h => h.elim) (fun E9 ce9 q9 u9 t9 H9 locs9 ht9 hvm9 hpx9 hbx9 hz9 hk9 hS9 hc9 hv9 hl9 => hpx9.elim) (fun r_4 u t9 H locs ht hvm hw hB hz1 hk1 hS => ?_)
        rw [ht] at hB
        have hR : RC D cs (AC s.heap.size AL) z0 o g L B n b H := hB
        have hsz := Nat.le_trans hsz hz1
        have hA := hA.keptA (A1 := (AC s.heap.size AL)) (fun q hq z => z.2 hq) hk1
        obtain rfl : r_4 = mLack g L B n b (nI j) (mPool L 1 n) := hw
        refine lv_lconst (v := 0) hx hb dL_law_1365 (by decide) ?_
        refine W.lcmp hx hb dL_law_1366 ?_
        refine lv_if_lt (tgt := 1408) hx hb dL_law_1367 (by decide) (fun c9 => absurd c9 (lgn (lack_nn hbd _ hj9))) (fun _ => ?_)
        by_cases hq : mLack g L B n b (nI j) (mPool L 1 n) = 0
        ·
          refine lv_aload_n hx hb dL_law_1370 rfl (lv_at hl 1 rfl) ?_
          refine lv_iload hx hb dL_law_1371 (lv_at hl 11 rfl) ?_
          refine vx_calli (vx_runSX (hh := [(0, 13, 14, 15)]) (As := [.ref o, .int (nI j)]) (rest := []) ⟨hx, hb, hml, hown, hts⟩ (c_L_holds_0t l hst D cs (AC s.heap.size AL) z0 sa o g L B n b hn hb5 (nI j) hbd (kIn_t hj9) hq) (vx_cwSW 2 hts gL_law_L_holds rfl rfl rfl (by decide +kernel) ⟨Nat.le_of_ble_eq_true rfl, Nat.le_of_ble_eq_true rfl⟩) ⟨pR_fb, fun U hU hV => ⟨rfl, hE0.law hS hsz hAL hV hU, by rw [hU]; exact hR, hnc.1.moved hV.alike, hnc.2.1.moved hV.alike, hnc.2.2.moved hV.alike⟩⟩ rfl rfl hl.1 rfl (lv_room (Nat.le_of_ble_eq_true rfl)) dL_law_1373 ⟨by show _ ≤ (664879 : Nat); omega, by show _ ≤ (7106988 : Nat); omega⟩) hS (fun q _ h => h.1) (fun q h => h.1) (fun _ _ h => h.elim) (fun E9 ce9 q9 u9 t9 H9 locs9 ht9 hvm9 hpx9 hbx9 hz9 hk9 hS9 hc9 hv9 hl9 => hpx9.elim) (fun r_5 u t9 H locs ht hvm hw hB hz1 hk1 hS => ?_)
          rw [ht] at hB
          have hR : RC D cs (AC s.heap.size AL) z0 o g L B n b H := hB
          have hsz := Nat.le_trans hsz hz1
          have hA := hA.keptA (A1 := (AC s.heap.size AL)) (fun q hq z => z.2 hq) hk1
          obtain rfl : r_5 = 1 := hw
          refine lv_iconst (v := 1) hx hb dL_law_1376 (by decide) ?_
          refine lv_icmp_ne (tgt := 1384) hx hb dL_law_1377 (by decide) (fun c_6 => ?_) (fun c_6 => ?_)
          · -- 1 ne 1 : True
            exact absurd c_6 (by decide)
          · -- 1 ne 1 : False
            refine lv_iconst (v := 1) hx hb dL_law_1380 (by decide) ?_
            refine lv_goto (tgt := 1385) hx hb dL_law_1381 (by decide) ?_
            refine lv_aload_n hx hb dL_law_1385 rfl (lv_at hl 1 rfl) ?_
            refine lv_iload hx hb dL_law_1386 (lv_at hl 11 rfl) ?_
            refine vx_calll (vx_runSX (hh := [(0, 5, 6, 15)]) (As := [.ref o, .int (nI j)]) (rest := [.int 1]) ⟨hx, hb, hml, hown, hts⟩ (c_L_lacking_0 l hst D cs (AC s.heap.size AL) z0 sa o g L B n b hn hb5 (nI j) hbd (kIn_t hj9)) (vx_cwSW 2 hts gL_law_L_lacking rfl rfl rfl (by decide +kernel) ⟨Nat.le_of_ble_eq_true rfl, Nat.le_of_ble_eq_true rfl⟩) ⟨pR_fb, fun U hU hV => ⟨rfl, hE0.law hS hsz hAL hV hU, by rw [hU]; exact hR, hnc.1.moved hV.alike, hnc.2.1.moved hV.alike, hnc.2.2.moved hV.alike⟩⟩ rfl rfl hl.1 rfl (lv_room (Nat.le_of_ble_eq_true rfl)) dL_law_1388 ⟨by show _ ≤ (664879 : Nat); omega, by show _ ≤ (7106988 : Nat); omega⟩) hS (fun q _ h => h.1) (fun q h => h.1) (fun _ _ h => h.elim) (fun E9 ce9 q9 u9 t9 H9 locs9 ht9 hvm9 hpx9 hbx9 hz9 hk9 hS9 hc9 hv9 hl9 => hpx9.elim) (fun r_7 u t9 H locs ht hvm hw hB hz1 hk1 hS => ?_)
            rw [ht] at hB
            have hR : RC D cs (AC s.heap.size AL) z0 o g L B n b H := hB
            have hsz := Nat.le_trans hsz hz1
            have hA := hA.keptA (A1 := (AC s.heap.size AL)) (fun q hq z => z.2 hq) hk1
            obtain rfl : r_7 = mLack g L B n b (nI j) (mPool L 1 n) := hw
            refine lv_lconst (v := 0) hx hb dL_law_1391 (by decide) ?_
            refine W.lcmp hx hb dL_law_1392 ?_
            refine lv_if_ne (tgt := 1400) hx hb dL_law_1393 (by decide) (fun c9 => absurd ((lg0_eq _ _).mpr hq) c9) (fun _ => ?_)
            refine lv_iconst (v := 1) hx hb dL_law_1396 (by decide) ?_
            refine lv_goto (tgt := 1401) hx hb dL_law_1397 (by decide) ?_
            refine lv_icmp_ne (tgt := 1408) hx hb dL_law_1401 (by decide) (fun c_8 => ?_) (fun c_8 => ?_)
            · -- 1 ne 1 : True
              exact absurd c_8 (by decide)
            · -- 1 ne 1 : False
              refine lv_iconst (v := 1) hx hb dL_law_1404 (by decide) ?_
              refine lv_goto (tgt := 1409) hx hb dL_law_1405 (by decide) ?_
              refine lv_istore (lv' := [(9, .int 1), (0, .ref b9), (1, .ref o), (2, .ref (adL 0)), (3, .ref (adL 1)), (4, .ref (adL 2)), (5, .int (nI n)), (6, .int (nI b)), (7, .int (g 1)), (8, .int (g 0)), (10, .int (nI k9)), (17, .int (nI j))]) hx hb dL_law_1409 hl (by decide) rfl (fun ls hl => ?_)
              refine lv_iinc (v := nI (j + 1)) (lv' := [(17, .int (nI (j + 1))), (9, .int 1), (0, .ref b9), (1, .ref o), (2, .ref (adL 0)), (3, .ref (adL 1)), (4, .ref (adL 2)), (5, .int (nI n)), (6, .int (nI b)), (7, .int (g 1)), (8, .int (g 0)), (10, .int (nI k9))]) hx hb dL_law_1411 hl (k := 11) rfl (nI_1 _) (by decide) rfl (fun ls hl => ?_)
              refine lv_goto (tgt := 1348) hx hb dL_law_1414 (by decide) ?_
              refine W.widen (k := 1100 + 2000 * k9 + 10 * (j + 1)) (n := 11000 + 20000 * k9 + 100 * (j + 1)) (by omega) (by omega) ?_
              exact ih (j + 1) (by omega) H locs ls ⟨hR, hA, hsz, hS⟩ (lv_sub hl [2, 3, 4, 5, 6, 7, 8, 9, 10, 1, 11, 0] rfl)
        ·
          refine lv_aload_n hx hb dL_law_1370 rfl (lv_at hl 1 rfl) ?_
          refine lv_iload hx hb dL_law_1371 (lv_at hl 11 rfl) ?_
          refine vx_calli (vx_runSX (hh := [(0, 13, 14, 15)]) (As := [.ref o, .int (nI j)]) (rest := []) ⟨hx, hb, hml, hown, hts⟩ (c_L_holds_0f l hst D cs (AC s.heap.size AL) z0 sa o g L B n b hn hb5 (nI j) hbd (kIn_t hj9) hq) (vx_cwSW 2 hts gL_law_L_holds rfl rfl rfl (by decide +kernel) ⟨Nat.le_of_ble_eq_true rfl, Nat.le_of_ble_eq_true rfl⟩) ⟨pR_fb, fun U hU hV => ⟨rfl, hE0.law hS hsz hAL hV hU, by rw [hU]; exact hR, hnc.1.moved hV.alike, hnc.2.1.moved hV.alike, hnc.2.2.moved hV.alike⟩⟩ rfl rfl hl.1 rfl (lv_room (Nat.le_of_ble_eq_true rfl)) dL_law_1373 ⟨by show _ ≤ (664879 : Nat); omega, by show _ ≤ (7106988 : Nat); omega⟩) hS (fun q _ h => h.1) (fun q h => h.1) (fun _ _ h => h.elim) (fun E9 ce9 q9 u9 t9 H9 locs9 ht9 hvm9 hpx9 hbx9 hz9 hk9 hS9 hc9 hv9 hl9 => hpx9.elim) (fun r_9 u t9 H locs ht hvm hw hB hz1 hk1 hS => ?_)
          rw [ht] at hB
          have hR : RC D cs (AC s.heap.size AL) z0 o g L B n b H := hB
          have hsz := Nat.le_trans hsz hz1
          have hA := hA.keptA (A1 := (AC s.heap.size AL)) (fun q hq z => z.2 hq) hk1
          obtain rfl : r_9 = 0 := hw
          refine lv_iconst (v := 1) hx hb dL_law_1376 (by decide) ?_
          refine lv_icmp_ne (tgt := 1384) hx hb dL_law_1377 (by decide) (fun c_10 => ?_) (fun c_10 => ?_)
          · -- 0 ne 1 : True
            refine lv_iconst (v := 0) hx hb dL_law_1384 (by decide) ?_
            refine lv_aload_n hx hb dL_law_1385 rfl (lv_at hl 1 rfl) ?_
            refine lv_iload hx hb dL_law_1386 (lv_at hl 11 rfl) ?_
            refine vx_calll (vx_runSX (hh := [(0, 5, 6, 15)]) (As := [.ref o, .int (nI j)]) (rest := [.int 0]) ⟨hx, hb, hml, hown, hts⟩ (c_L_lacking_0 l hst D cs (AC s.heap.size AL) z0 sa o g L B n b hn hb5 (nI j) hbd (kIn_t hj9)) (vx_cwSW 2 hts gL_law_L_lacking rfl rfl rfl (by decide +kernel) ⟨Nat.le_of_ble_eq_true rfl, Nat.le_of_ble_eq_true rfl⟩) ⟨pR_fb, fun U hU hV => ⟨rfl, hE0.law hS hsz hAL hV hU, by rw [hU]; exact hR, hnc.1.moved hV.alike, hnc.2.1.moved hV.alike, hnc.2.2.moved hV.alike⟩⟩ rfl rfl hl.1 rfl (lv_room (Nat.le_of_ble_eq_true rfl)) dL_law_1388 ⟨by show _ ≤ (664879 : Nat); omega, by show _ ≤ (7106988 : Nat); omega⟩) hS (fun q _ h => h.1) (fun q h => h.1) (fun _ _ h => h.elim) (fun E9 ce9 q9 u9 t9 H9 locs9 ht9 hvm9 hpx9 hbx9 hz9 hk9 hS9 hc9 hv9 hl9 => hpx9.elim) (fun r_11 u t9 H locs ht hvm hw hB hz1 hk1 hS => ?_)
            rw [ht] at hB
            have hR : RC D cs (AC s.heap.size AL) z0 o g L B n b H := hB
            have hsz := Nat.le_trans hsz hz1
            have hA := hA.keptA (A1 := (AC s.heap.size AL)) (fun q hq z => z.2 hq) hk1
            obtain rfl : r_11 = mLack g L B n b (nI j) (mPool L 1 n) := hw
            refine lv_lconst (v := 0) hx hb dL_law_1391 (by decide) ?_
            refine W.lcmp hx hb dL_law_1392 ?_
            refine lv_if_ne (tgt := 1400) hx hb dL_law_1393 (by decide) (fun _ => ?_) (fun c9 => absurd ((lg0_eq _ _).mp c9) hq)
            refine lv_iconst (v := 0) hx hb dL_law_1400 (by decide) ?_
            refine lv_icmp_ne (tgt := 1408) hx hb dL_law_1401 (by decide) (fun c_12 => ?_) (fun c_12 => ?_)
            · -- 0 ne 0 : True
              exact absurd c_12 (by decide)
            · -- 0 ne 0 : False
              refine lv_iconst (v := 1) hx hb dL_law_1404 (by decide) ?_
              refine lv_goto (tgt := 1409) hx hb dL_law_1405 (by decide) ?_
              refine lv_istore (lv' := [(9, .int 1), (0, .ref b9), (1, .ref o), (2, .ref (adL 0)), (3, .ref (adL 1)), (4, .ref (adL 2)), (5, .int (nI n)), (6, .int (nI b)), (7, .int (g 1)), (8, .int (g 0)), (10, .int (nI k9)), (17, .int (nI j))]) hx hb dL_law_1409 hl (by decide) rfl (fun ls hl => ?_)
              refine lv_iinc (v := nI (j + 1)) (lv' := [(17, .int (nI (j + 1))), (9, .int 1), (0, .ref b9), (1, .ref o), (2, .ref (adL 0)), (3, .ref (adL 1)), (4, .ref (adL 2)), (5, .int (nI n)), (6, .int (nI b)), (7, .int (g 1)), (8, .int (g 0)), (10, .int (nI k9))]) hx hb dL_law_1411 hl (k := 11) rfl (nI_1 _) (by decide) rfl (fun ls hl => ?_)
              refine lv_goto (tgt := 1348) hx hb dL_law_1414 (by decide) ?_
              refine W.widen (k := 1100 + 2000 * k9 + 10 * (j + 1)) (n := 11000 + 20000 * k9 + 100 * (j + 1)) (by omega) (by omega) ?_
              exact ih (j + 1) (by omega) H locs ls ⟨hR, hA, hsz, hS⟩ (lv_sub hl [2, 3, 4, 5, 6, 7, 8, 9, 10, 1, 11, 0] rfl)
          · -- 0 ne 1 : False
            exact absurd c_10 (by decide)

set_option maxHeartbeats 4000000 in
set_option maxRecDepth 100000 in
theorem law_tail {p : Program} {l : Launch} {e : Env} {s : State} {m : MethodId} {below : List Frame} {meth : Method} {c : Code} {b9 L9 : Nat} {xs : Nat → Int32} {D : va_G} {cs : Nat → ClassId} {z0 : Nat} {sa : Nat → Nat} {AL : Nat → Prop} {adL : Nat → Nat} {o sz1 : Nat} (hst : l.stackTraces = false) (C0 : lw_At p s m meth c b9 L9 xs) (hE0 : Ev D cs (fun q => s.heap.size ≤ q) z0 sa s) (hnc : va_Nc xS xA s ∧ va_Nc xS xI s ∧ va_Nc xA xI s) (hAL : ∀ q, AL q → s.heap.size ≤ q ∧ q < sz1) {fa fd fs g : Nat → Int32} {L B : Nat → Nat → Int32} {n b k9 : Nat} {H : Heap} {locs : List Loc} {ls : Array Slot} (hk9 : k9 < 50) (hI : LI D cs s AL adL z0 o sz1 fa fd fs g L B n b (k9 + 1) H locs) (hl : lv_has ls 20 [(0, .ref b9), (1, .ref o), (2, .ref (adL 0)), (3, .ref (adL 1)), (4, .ref (adL 2)), (5, .int (nI n)), (6, .int (nI b)), (7, .int (g 1)), (8, .int (g 0)), (9, .int 1), (10, .int (nI k9))]) (KT : ∀ (H : Heap) (locs : List Loc) (ls : Array Slot) (fa fd fs g : Nat → Int32) (L B : Nat → Nat → Int32) (n b : Nat), LI D cs s AL adL z0 o sz1 fa fd fs g L B n b (k9 + 1) H locs → lv_has ls 20 [(0, .ref b9), (1, .ref o), (2, .ref (adL 0)), (3, .ref (adL 1)), (4, .ref (adL 2)), (5, .int (nI n)), (6, .int (nI b)), (7, .int (g 1)), (8, .int (g 0)), (9, .int 1), (10, .int (nI (k9 + 1)))] → W p l e room_1 s m #[Value.ref b9] below meth c H locs (30 + 2000 * (k9 + 1)) (300 + 20000 * (k9 + 1)) (lw_Z below #[Value.ref b9] s) (F0 m 58 ls [])) : W p l e room_1 s m #[Value.ref b9] below meth c H locs (1030 + 2000 * k9) (10300 + 20000 * k9) (lw_Z below #[Value.ref b9] s) (F0 m 1237 ls []) := by
  have C9 := C0
  obtain ⟨hR, hA, hsz, hS, hLV⟩ := hI
  obtain ⟨hx, hb0, hr, hml, hown0, hts0, hX, hbl, hlocks, hgv⟩ := C0
  have hb : c.code = cL_law := hb0
  have hown : s.vm.findClass RL = some m.cls := hown0
  have hts : ∀ w ∈ wsL_law, w.before #[Value.ref b9] s = true := fun w h => hts0 w (wsL_law_in w h)
  have hK := hE0.1
  have hIv := hLV.1
  have hbd := hIv.bd
  have hn := hIv.1
  have hb5 := hIv.2.1
  refine lv_iconst (v := 0) hx hb dL_law_1237 (by decide) ?_
  refine lv_istore (lv' := [(15, .int 0), (0, .ref b9), (1, .ref o), (2, .ref (adL 0)), (3, .ref (adL 1)), (4, .ref (adL 2)), (5, .int (nI n)), (6, .int (nI b)), (7, .int (g 1)), (8, .int (g 0)), (9, .int 1), (10, .int (nI k9))]) hx hb dL_law_1238 hl (by decide) rfl (fun ls hl => ?_)
  refine lv_iconst (v := 0) hx hb dL_law_1240 (by decide) ?_
  refine lv_istore (lv' := [(16, .int 0), (15, .int 0), (0, .ref b9), (1, .ref o), (2, .ref (adL 0)), (3, .ref (adL 1)), (4, .ref (adL 2)), (5, .int (nI n)), (6, .int (nI b)), (7, .int (g 1)), (8, .int (g 0)), (9, .int 1), (10, .int (nI k9))]) hx hb dL_law_1241 hl (by decide) rfl (fun ls hl => ?_)
  refine W.widen (k := 1030 + 2000 * k9 + 10 * 0) (n := 10300 + 20000 * k9 + 100 * 0) (by omega) (by omega) ?_
  refine tail_debt (sa := sa) hst C9 hE0 hnc hAL hk9 hn hb5 hLV.2.2.2.1 (fun H locs ls hH hl => ?_) b 0 (by omega) H locs ls ⟨hR, hA, hsz, hS⟩ (lv_sub hl [2, 3, 4, 5, 6, 7, 8, 9, 10, 11, 12, 1, 0] rfl)
  obtain ⟨hR, hA, hsz, hS⟩ := hH
  refine lv_iload hx hb dL_law_1284 (lv_at hl 11 rfl) ?_
  refine lv_bipush (v := 15) hx hb dL_law_1286 (by decide) ?_
  refine lv_imul hx hb dL_law_1288 ?_
  refine lv_bipush (v := 100) hx hb dL_law_1289 (by decide) ?_
  refine lv_idiv hx hb dL_law_1291 (by decide) ?_
  refine lv_istore (lv' := [(16, .int (((mOwed B b) * 15) / 100)), (0, .ref b9), (1, .ref o), (2, .ref (adL 0)), (3, .ref (adL 1)), (4, .ref (adL 2)), (5, .int (nI n)), (6, .int (nI b)), (7, .int (g 1)), (8, .int (g 0)), (9, .int 1), (10, .int (nI k9)), (15, .int (mOwed B b))]) hx hb dL_law_1292 hl (by decide) rfl (fun ls hl => ?_)
  refine lv_iload hx hb dL_law_1294 (lv_at hl 10 rfl) ?_
  refine lv_if_eq (tgt := 1342) hx hb dL_law_1296 (by decide) (fun c_1 => ?_) (fun c_1 => ?_)
  · -- 1 eq 0 : True
    exact absurd c_1 (by decide)
  · -- 1 eq 0 : False
    refine lv_aload_n hx hb dL_law_1299 rfl (lv_at hl 2 rfl) ?_
    obtain ⟨ad, y1, y2, N1, N2, nd, gv, ho, hN1, hN2, hW⟩ := id hR
    have hcc := c_X3_cash l D cs (AC s.heap.size AL) z0 sa ad g L B n b y1 y2 N1 N2 nd gv hn hb5 hN1 hN2
    rw [ho] at hcc
    refine va_calli (va_runV (As := []) (rest := []) ⟨hx, hb, hml, hown, hts⟩ hcc (cwV 0 hts gL_law_X3_cash rfl rfl rfl (by decide +kernel) ⟨Nat.le_of_ble_eq_true rfl, Nat.le_of_ble_eq_true rfl⟩) ⟨pC_fb, (by rw [← ho]; exact wb_recv hK hW (r := 0) (lvC_0 (by decide)) (ci := 4) rfl rfl), fun U hU hV => ⟨rfl, hE0.law hS hsz hAL hV hU, by rw [hU]; exact hW⟩⟩ rfl rfl hl.1 rfl (lv_room (Nat.le_of_ble_eq_true rfl)) dL_law_1300 ⟨by show _ ≤ (664879 : Nat); omega, by show _ ≤ (7106988 : Nat); omega⟩) hS (fun _ _ h => h.elim) (fun _ h => h.elim) (fun r_2 u t9 H locs ht hvm hw hB hz1 hk1 hS => ?_)
    have hR : RC D cs (AC s.heap.size AL) z0 o g L B n b H := hR.keptA (A1 := fun _ => False) (fun _ _ h => h) hk1
    have hsz := Nat.le_trans hsz hz1
    have hA := hA.keptA (A1 := fun _ => False) (fun _ _ h => h) hk1
    obtain rfl : r_2 = g 1 := hw
    refine lv_iload hx hb dL_law_1303 (lv_at hl 8 rfl) ?_
    refine lv_icmp_ne (tgt := 1342) hx hb dL_law_1305 (by decide) (fun c_3 => ?_) (fun c_3 => ?_)
    · -- g 1 ne g 1 : True
      exact absurd (rfl) c_3
    · -- g 1 ne g 1 : False
      refine lv_aload_n hx hb dL_law_1308 rfl (lv_at hl 2 rfl) ?_
      obtain ⟨ad, y1, y2, N1, N2, nd, gv, ho, hN1, hN2, hW⟩ := id hR
      have hcc := c_X3_debt l D cs (AC s.heap.size AL) z0 sa ad g L B n b y1 y2 N1 N2 nd gv hn hb5 hN1 hN2
      rw [ho] at hcc
      refine va_calli (va_runV (As := []) (rest := []) ⟨hx, hb, hml, hown, hts⟩ hcc (cwV 0 hts gL_law_X3_debt rfl rfl rfl (by decide +kernel) ⟨Nat.le_of_ble_eq_true rfl, Nat.le_of_ble_eq_true rfl⟩) ⟨pC_fb, (by rw [← ho]; exact wb_recv hK hW (r := 0) (lvC_0 (by decide)) (ci := 4) rfl rfl), fun U hU hV => ⟨rfl, hE0.law hS hsz hAL hV hU, by rw [hU]; exact hW⟩⟩ rfl rfl hl.1 rfl (lv_room (Nat.le_of_ble_eq_true rfl)) dL_law_1309 ⟨by show _ ≤ (664879 : Nat); omega, by show _ ≤ (7106988 : Nat); omega⟩) hS (fun _ _ h => h.elim) (fun _ h => h.elim) (fun r_4 u t9 H locs ht hvm hw hB hz1 hk1 hS => ?_)
      have hR : RC D cs (AC s.heap.size AL) z0 o g L B n b H := hR.keptA (A1 := fun _ => False) (fun _ _ h => h) hk1
      have hsz := Nat.le_trans hsz hz1
      have hA := hA.keptA (A1 := fun _ => False) (fun _ _ h => h) hk1
      obtain rfl : r_4 = mOwed B b := hw
      refine lv_iload hx hb dL_law_1312 (lv_at hl 12 rfl) ?_
      refine lv_icmp_ne (tgt := 1342) hx hb dL_law_1314 (by decide) (fun c_5 => ?_) (fun c_5 => ?_)
      · -- mOwed B b ne mOwed B b : True
        exact absurd (rfl) c_5
      · -- mOwed B b ne mOwed B b : False
        refine lv_aload_n hx hb dL_law_1317 rfl (lv_at hl 2 rfl) ?_
        obtain ⟨ad, y1, y2, N1, N2, nd, gv, ho, hN1, hN2, hW⟩ := id hR
        have hcc := c_X3_substitutes l D cs (AC s.heap.size AL) z0 sa ad g L B n b y1 y2 N1 N2 nd gv hn hb5 hN1 hN2
        rw [ho] at hcc
        refine va_calli (va_runV (As := []) (rest := []) ⟨hx, hb, hml, hown, hts⟩ hcc (cwV 0 hts gL_law_X3_substitutes rfl rfl rfl (by decide +kernel) ⟨Nat.le_of_ble_eq_true rfl, Nat.le_of_ble_eq_true rfl⟩) ⟨pC_fb, (by rw [← ho]; exact wb_recv hK hW (r := 0) (lvC_0 (by decide)) (ci := 4) rfl rfl), fun U hU hV => ⟨rfl, hE0.law hS hsz hAL hV hU, by rw [hU]; exact hW⟩⟩ rfl rfl hl.1 rfl (lv_room (Nat.le_of_ble_eq_true rfl)) dL_law_1318 ⟨by show _ ≤ (664879 : Nat); omega, by show _ ≤ (7106988 : Nat); omega⟩) hS (fun _ _ h => h.elim) (fun _ h => h.elim) (fun r_6 u t9 H locs ht hvm hw hB hz1 hk1 hS => ?_)
        have hR : RC D cs (AC s.heap.size AL) z0 o g L B n b H := hR.keptA (A1 := fun _ => False) (fun _ _ h => h) hk1
        have hsz := Nat.le_trans hsz hz1
        have hA := hA.keptA (A1 := fun _ => False) (fun _ _ h => h) hk1
        obtain rfl : r_6 = mBeside g B b := hw
        refine lv_iload hx hb dL_law_1321 (lv_at hl 0 rfl) ?_
        refine lv_iload hx hb dL_law_1323 (lv_at hl 8 rfl) ?_
        refine lv_icmp_ge (tgt := 1333) hx hb dL_law_1325 (by decide) (fun c_7 => ?_) (fun c_7 => ?_)
        · -- ((mOwed B b) * 15) / 100 ge g 1 : True
          refine lv_iload hx hb dL_law_1333 (lv_at hl 8 rfl) ?_
          refine lv_icmp_ne (tgt := 1342) hx hb dL_law_1335 (by decide) (fun c_8 => ?_) (fun c_8 => ?_)
          · -- mBeside g B b ne g 1 : True
            exact absurd (mBes_y c_7) c_8
          · -- mBeside g B b ne g 1 : False
            refine lv_iconst (v := 1) hx hb dL_law_1338 (by decide) ?_
            refine lv_goto (tgt := 1343) hx hb dL_law_1339 (by decide) ?_
            refine lv_istore (lv' := [(9, .int 1), (16, .int (((mOwed B b) * 15) / 100)), (0, .ref b9), (1, .ref o), (2, .ref (adL 0)), (3, .ref (adL 1)), (4, .ref (adL 2)), (5, .int (nI n)), (6, .int (nI b)), (7, .int (g 1)), (8, .int (g 0)), (10, .int (nI k9)), (15, .int (mOwed B b))]) hx hb dL_law_1343 hl (by decide) rfl (fun ls hl => ?_)
            refine lv_iconst (v := 0) hx hb dL_law_1345 (by decide) ?_
            refine lv_istore (lv' := [(17, .int 0), (9, .int 1), (16, .int (((mOwed B b) * 15) / 100)), (0, .ref b9), (1, .ref o), (2, .ref (adL 0)), (3, .ref (adL 1)), (4, .ref (adL 2)), (5, .int (nI n)), (6, .int (nI b)), (7, .int (g 1)), (8, .int (g 0)), (10, .int (nI k9)), (15, .int (mOwed B b))]) hx hb dL_law_1346 hl (by decide) rfl (fun ls hl => ?_)
            refine W.widen (k := 1100 + 2000 * k9 + 10 * 0) (n := 11000 + 20000 * k9 + 100 * 0) (by omega) (by omega) ?_
            refine tail_lack (sa := sa) hst C9 hE0 hnc hAL hk9 hn hb5 hbd (fun H locs ls hH hl => ?_) 3 0 (by omega) H locs ls ⟨hR, hA, hsz, hS⟩ (lv_sub hl [3, 4, 5, 6, 7, 8, 9, 10, 11, 1, 12, 0] rfl)
            obtain ⟨hR, hA, hsz, hS⟩ := hH
            refine lv_iload hx hb dL_law_1417 (lv_at hl 9 rfl) ?_
            refine lv_if_eq (tgt := 1445) hx hb dL_law_1419 (by decide) (fun c_9 => ?_) (fun c_9 => ?_)
            · -- 1 eq 0 : True
              exact absurd c_9 (by decide)
            · -- 1 eq 0 : False
              refine lv_iload hx hb dL_law_1422 (lv_at hl 10 rfl) ?_
              refine lv_bipush (v := 8) hx hb dL_law_1424 (by decide) ?_
              refine lv_irem hx hb dL_law_1426 (by decide) ?_
              rw [nI_md (a := k9) (c := 8) (k := 8) rfl (by omega) (by omega) (by omega)]
              refine lv_bipush (v := 7) hx hb dL_law_1427 (by decide) ?_
              refine lv_icmp_ne (tgt := 1441) hx hb dL_law_1429 (by decide) (fun c_10 => ?_) (fun c_10 => ?_)
              · -- nI (k9 % 8) ne 7 : True
                refine lv_iconst (v := 1) hx hb dL_law_1441 (by decide) ?_
                refine lv_goto (tgt := 1446) hx hb dL_law_1442 (by decide) ?_
                refine lv_istore (lv' := [(9, .int 1), (0, .ref b9), (1, .ref o), (2, .ref (adL 0)), (3, .ref (adL 1)), (4, .ref (adL 2)), (5, .int (nI n)), (6, .int (nI b)), (7, .int (g 1)), (8, .int (g 0)), (10, .int (nI k9)), (17, .int (nI 3))]) hx hb dL_law_1446 hl (by decide) rfl (fun ls hl => ?_)
                refine lv_iinc (v := nI (k9 + 1)) (lv' := [(10, .int (nI (k9 + 1))), (9, .int 1), (0, .ref b9), (1, .ref o), (2, .ref (adL 0)), (3, .ref (adL 1)), (4, .ref (adL 2)), (5, .int (nI n)), (6, .int (nI b)), (7, .int (g 1)), (8, .int (g 0)), (17, .int (nI 3))]) hx hb dL_law_1448 hl (k := 10) rfl (nI_1 _) (by decide) rfl (fun ls hl => ?_)
                refine lv_goto (tgt := 58) hx hb dL_law_1451 (by decide) ?_
                refine W.widen (k := 30 + 2000 * (k9 + 1)) (n := 300 + 20000 * (k9 + 1)) (by omega) (by omega) ?_
                exact KT _ _ _ fa fd fs g L B n b ⟨hR, hA, hsz, hS, hLV⟩ (lv_sub hl [2, 3, 4, 5, 6, 7, 8, 9, 10, 1, 0] rfl)
              · -- nI (k9 % 8) ne 7 : False
                refine lv_aload_n hx hb dL_law_1432 rfl (lv_at hl 1 rfl) ?_
                refine lv_iload hx hb dL_law_1433 (lv_at hl 5 rfl) ?_
                refine va_calli (va_runS (As := [.ref o, .int (nI n)]) (rest := []) ⟨hx, hb, hml, hown, hts⟩ (c_L_adds l hst D cs (AC s.heap.size AL) z0 sa o g L B n b hn hb5 hbd) (va_cwS 2 hts gL_law_L_adds rfl rfl rfl (by decide +kernel) ⟨Nat.le_of_ble_eq_true rfl, Nat.le_of_ble_eq_true rfl⟩) ⟨pR_fb, fun U hU hV => ⟨rfl, hE0.law hS hsz hAL hV hU, by rw [hU]; exact hR, hnc.1.moved hV.alike, hnc.2.1.moved hV.alike, hnc.2.2.moved hV.alike⟩⟩ rfl rfl hl.1 rfl (lv_room (Nat.le_of_ble_eq_true rfl)) dL_law_1435 ⟨by show _ ≤ (664879 : Nat); omega, by show _ ≤ (7106988 : Nat); omega⟩) hS (fun q _ h => h.1) (fun q h => h.1) (fun r_11 u t9 H locs ht hvm hw hB hz1 hk1 hS => ?_)
                rw [ht] at hB
                have hR := hB
                have hsz := Nat.le_trans hsz hz1
                have hA := hA.keptA (A1 := (AC s.heap.size AL)) (fun q hq z => z.2 hq) hk1
                obtain rfl : r_11 = 1 := hw
                refine lv_if_eq (tgt := 1445) hx hb dL_law_1438 (by decide) (fun c_12 => ?_) (fun c_12 => ?_)
                · -- 1 eq 0 : True
                  exact absurd c_12 (by decide)
                · -- 1 eq 0 : False
                  refine lv_iconst (v := 1) hx hb dL_law_1441 (by decide) ?_
                  refine lv_goto (tgt := 1446) hx hb dL_law_1442 (by decide) ?_
                  refine lv_istore (lv' := [(9, .int 1), (0, .ref b9), (1, .ref o), (2, .ref (adL 0)), (3, .ref (adL 1)), (4, .ref (adL 2)), (5, .int (nI n)), (6, .int (nI b)), (7, .int (g 1)), (8, .int (g 0)), (10, .int (nI k9)), (17, .int (nI 3))]) hx hb dL_law_1446 hl (by decide) rfl (fun ls hl => ?_)
                  refine lv_iinc (v := nI (k9 + 1)) (lv' := [(10, .int (nI (k9 + 1))), (9, .int 1), (0, .ref b9), (1, .ref o), (2, .ref (adL 0)), (3, .ref (adL 1)), (4, .ref (adL 2)), (5, .int (nI n)), (6, .int (nI b)), (7, .int (g 1)), (8, .int (g 0)), (17, .int (nI 3))]) hx hb dL_law_1448 hl (k := 10) rfl (nI_1 _) (by decide) rfl (fun ls hl => ?_)
                  refine lv_goto (tgt := 58) hx hb dL_law_1451 (by decide) ?_
                  refine W.widen (k := 30 + 2000 * (k9 + 1)) (n := 300 + 20000 * (k9 + 1)) (by omega) (by omega) ?_
                  exact KT _ _ _ fa fd fs g (addsL g L B n b) B n b ⟨hR, hA, hsz, hS, hLV.adds⟩ (lv_sub hl [2, 3, 4, 5, 6, 7, 8, 9, 10, 1, 0] rfl)
        · -- ((mOwed B b) * 15) / 100 ge g 1 : False
          refine lv_iload hx hb dL_law_1328 (lv_at hl 0 rfl) ?_
          refine lv_goto (tgt := 1335) hx hb dL_law_1330 (by decide) ?_
          refine lv_icmp_ne (tgt := 1342) hx hb dL_law_1335 (by decide) (fun c_13 => ?_) (fun c_13 => ?_)
          · -- mBeside g B b ne ((mOwed B b) * 15) / 100 : True
            exact absurd (mBes_n c_7) c_13
          · -- mBeside g B b ne ((mOwed B b) * 15) / 100 : False
            refine lv_iconst (v := 1) hx hb dL_law_1338 (by decide) ?_
            refine lv_goto (tgt := 1343) hx hb dL_law_1339 (by decide) ?_
            refine lv_istore (lv' := [(9, .int 1), (16, .int (((mOwed B b) * 15) / 100)), (0, .ref b9), (1, .ref o), (2, .ref (adL 0)), (3, .ref (adL 1)), (4, .ref (adL 2)), (5, .int (nI n)), (6, .int (nI b)), (7, .int (g 1)), (8, .int (g 0)), (10, .int (nI k9)), (15, .int (mOwed B b))]) hx hb dL_law_1343 hl (by decide) rfl (fun ls hl => ?_)
            refine lv_iconst (v := 0) hx hb dL_law_1345 (by decide) ?_
            refine lv_istore (lv' := [(17, .int 0), (9, .int 1), (16, .int (((mOwed B b) * 15) / 100)), (0, .ref b9), (1, .ref o), (2, .ref (adL 0)), (3, .ref (adL 1)), (4, .ref (adL 2)), (5, .int (nI n)), (6, .int (nI b)), (7, .int (g 1)), (8, .int (g 0)), (10, .int (nI k9)), (15, .int (mOwed B b))]) hx hb dL_law_1346 hl (by decide) rfl (fun ls hl => ?_)
            refine W.widen (k := 1100 + 2000 * k9 + 10 * 0) (n := 11000 + 20000 * k9 + 100 * 0) (by omega) (by omega) ?_
            refine tail_lack (sa := sa) hst C9 hE0 hnc hAL hk9 hn hb5 hbd (fun H locs ls hH hl => ?_) 3 0 (by omega) H locs ls ⟨hR, hA, hsz, hS⟩ (lv_sub hl [3, 4, 5, 6, 7, 8, 9, 10, 11, 1, 12, 0] rfl)
            obtain ⟨hR, hA, hsz, hS⟩ := hH
            refine lv_iload hx hb dL_law_1417 (lv_at hl 9 rfl) ?_
            refine lv_if_eq (tgt := 1445) hx hb dL_law_1419 (by decide) (fun c_14 => ?_) (fun c_14 => ?_)
            · -- 1 eq 0 : True
              exact absurd c_14 (by decide)
            · -- 1 eq 0 : False
              refine lv_iload hx hb dL_law_1422 (lv_at hl 10 rfl) ?_
              refine lv_bipush (v := 8) hx hb dL_law_1424 (by decide) ?_
              refine lv_irem hx hb dL_law_1426 (by decide) ?_
              rw [nI_md (a := k9) (c := 8) (k := 8) rfl (by omega) (by omega) (by omega)]
              refine lv_bipush (v := 7) hx hb dL_law_1427 (by decide) ?_
              refine lv_icmp_ne (tgt := 1441) hx hb dL_law_1429 (by decide) (fun c_15 => ?_) (fun c_15 => ?_)
              · -- nI (k9 % 8) ne 7 : True
                refine lv_iconst (v := 1) hx hb dL_law_1441 (by decide) ?_
                refine lv_goto (tgt := 1446) hx hb dL_law_1442 (by decide) ?_
                refine lv_istore (lv' := [(9, .int 1), (0, .ref b9), (1, .ref o), (2, .ref (adL 0)), (3, .ref (adL 1)), (4, .ref (adL 2)), (5, .int (nI n)), (6, .int (nI b)), (7, .int (g 1)), (8, .int (g 0)), (10, .int (nI k9)), (17, .int (nI 3))]) hx hb dL_law_1446 hl (by decide) rfl (fun ls hl => ?_)
                refine lv_iinc (v := nI (k9 + 1)) (lv' := [(10, .int (nI (k9 + 1))), (9, .int 1), (0, .ref b9), (1, .ref o), (2, .ref (adL 0)), (3, .ref (adL 1)), (4, .ref (adL 2)), (5, .int (nI n)), (6, .int (nI b)), (7, .int (g 1)), (8, .int (g 0)), (17, .int (nI 3))]) hx hb dL_law_1448 hl (k := 10) rfl (nI_1 _) (by decide) rfl (fun ls hl => ?_)
                refine lv_goto (tgt := 58) hx hb dL_law_1451 (by decide) ?_
                refine W.widen (k := 30 + 2000 * (k9 + 1)) (n := 300 + 20000 * (k9 + 1)) (by omega) (by omega) ?_
                exact KT _ _ _ fa fd fs g L B n b ⟨hR, hA, hsz, hS, hLV⟩ (lv_sub hl [2, 3, 4, 5, 6, 7, 8, 9, 10, 1, 0] rfl)
              · -- nI (k9 % 8) ne 7 : False
                refine lv_aload_n hx hb dL_law_1432 rfl (lv_at hl 1 rfl) ?_
                refine lv_iload hx hb dL_law_1433 (lv_at hl 5 rfl) ?_
                refine va_calli (va_runS (As := [.ref o, .int (nI n)]) (rest := []) ⟨hx, hb, hml, hown, hts⟩ (c_L_adds l hst D cs (AC s.heap.size AL) z0 sa o g L B n b hn hb5 hbd) (va_cwS 2 hts gL_law_L_adds rfl rfl rfl (by decide +kernel) ⟨Nat.le_of_ble_eq_true rfl, Nat.le_of_ble_eq_true rfl⟩) ⟨pR_fb, fun U hU hV => ⟨rfl, hE0.law hS hsz hAL hV hU, by rw [hU]; exact hR, hnc.1.moved hV.alike, hnc.2.1.moved hV.alike, hnc.2.2.moved hV.alike⟩⟩ rfl rfl hl.1 rfl (lv_room (Nat.le_of_ble_eq_true rfl)) dL_law_1435 ⟨by show _ ≤ (664879 : Nat); omega, by show _ ≤ (7106988 : Nat); omega⟩) hS (fun q _ h => h.1) (fun q h => h.1) (fun r_16 u t9 H locs ht hvm hw hB hz1 hk1 hS => ?_)
                rw [ht] at hB
                have hR := hB
                have hsz := Nat.le_trans hsz hz1
                have hA := hA.keptA (A1 := (AC s.heap.size AL)) (fun q hq z => z.2 hq) hk1
                obtain rfl : r_16 = 1 := hw
                refine lv_if_eq (tgt := 1445) hx hb dL_law_1438 (by decide) (fun c_17 => ?_) (fun c_17 => ?_)
                · -- 1 eq 0 : True
                  exact absurd c_17 (by decide)
                · -- 1 eq 0 : False
                  refine lv_iconst (v := 1) hx hb dL_law_1441 (by decide) ?_
                  refine lv_goto (tgt := 1446) hx hb dL_law_1442 (by decide) ?_
                  refine lv_istore (lv' := [(9, .int 1), (0, .ref b9), (1, .ref o), (2, .ref (adL 0)), (3, .ref (adL 1)), (4, .ref (adL 2)), (5, .int (nI n)), (6, .int (nI b)), (7, .int (g 1)), (8, .int (g 0)), (10, .int (nI k9)), (17, .int (nI 3))]) hx hb dL_law_1446 hl (by decide) rfl (fun ls hl => ?_)
                  refine lv_iinc (v := nI (k9 + 1)) (lv' := [(10, .int (nI (k9 + 1))), (9, .int 1), (0, .ref b9), (1, .ref o), (2, .ref (adL 0)), (3, .ref (adL 1)), (4, .ref (adL 2)), (5, .int (nI n)), (6, .int (nI b)), (7, .int (g 1)), (8, .int (g 0)), (17, .int (nI 3))]) hx hb dL_law_1448 hl (k := 10) rfl (nI_1 _) (by decide) rfl (fun ls hl => ?_)
                  refine lv_goto (tgt := 58) hx hb dL_law_1451 (by decide) ?_
                  refine W.widen (k := 30 + 2000 * (k9 + 1)) (n := 300 + 20000 * (k9 + 1)) (by omega) (by omega) ?_
                  exact KT _ _ _ fa fd fs g (addsL g L B n b) B n b ⟨hR, hA, hsz, hS, hLV.adds⟩ (lv_sub hl [2, 3, 4, 5, 6, 7, 8, 9, 10, 1, 0] rfl)

set_option maxHeartbeats 4000000 in
set_option maxRecDepth 100000 in
theorem law_loop {p : Program} {l : Launch} {e : Env} {s : State} {m : MethodId} {below : List Frame} {meth : Method} {c : Code} {b9 L9 : Nat} {xs : Nat → Int32} {D : va_G} {cs : Nat → ClassId} {z0 : Nat} {sa : Nat → Nat} {AL : Nat → Prop} {adL : Nat → Nat} {o sz1 : Nat} (hst : l.stackTraces = false) (C0 : lw_At p s m meth c b9 L9 xs) (hE0 : Ev D cs (fun q => s.heap.size ≤ q) z0 sa s) (hnc : va_Nc xS xA s ∧ va_Nc xS xI s ∧ va_Nc xA xI s) (hAL : ∀ q, AL q → s.heap.size ≤ q ∧ q < sz1) (hL9 : L9 ≤ 260) : ∀ (f9 k9 : Nat), k9 ≤ 50 → 51 ≤ k9 + f9 → ∀ (H : Heap) (locs : List Loc) (ls : Array Slot) (fa fd fs g : Nat → Int32) (L B : Nat → Nat → Int32) (n b : Nat), LI D cs s AL adL z0 o sz1 fa fd fs g L B n b k9 H locs → lv_has ls 20 [(0, .ref b9), (1, .ref o), (2, .ref (adL 0)), (3, .ref (adL 1)), (4, .ref (adL 2)), (5, .int (nI n)), (6, .int (nI b)), (7, .int (g 1)), (8, .int (g 0)), (9, .int 1), (10, .int (nI k9))] → W p l e room_1 s m #[Value.ref b9] below meth c H locs (30 + 2000 * k9) (300 + 20000 * k9) (lw_Z below #[Value.ref b9] s) (F0 m 58 ls [])
  | 0, k9, h1, h2 => by omega
  | f9 + 1, k9, h1, h2 => by
    intro H locs ls fa fd fs g L B n b hI hl
    have ih := law_loop (e := e) (below := below) (adL := adL) (o := o) hst C0 hE0 hnc hAL hL9 f9 (k9 + 1)
    have C9 := C0
    obtain ⟨hR, hA, hsz, hS, hLV⟩ := hI
    obtain ⟨hx, hb0, hr, hml, hown0, hts0, hX, hbl, hlocks, hgv⟩ := C0
    have hb : c.code = cL_law := hb0
    have hown : s.vm.findClass RL = some m.cls := hown0
    have hts : ∀ w ∈ wsL_law, w.before #[Value.ref b9] s = true := fun w h => hts0 w (wsL_law_in w h)
    have hK := hE0.1
    have hIv := hLV.1
    have hbd := hIv.bd
    have hn := hIv.1
    have hb5 := hIv.2.1
    have hbA : ¬ (fun q : Nat => s.heap.size ≤ q) b9 := Nat.not_le.mpr hbl
    by_cases he : k9 = 50
    ·
      refine lv_iload hx hb dL_law_58 (lv_at hl 10 rfl) ?_
      refine lv_bipush (v := 50) hx hb dL_law_60 (by decide) ?_
      refine lv_icmp_ge (tgt := 1454) hx hb dL_law_62 (by decide) (fun c_1 => ?_) (fun c_1 => ?_)
      · -- nI k9 ge 50 : True
        refine lv_iload hx hb dL_law_1454 (lv_at hl 9 rfl) ?_
        refine va_forget (fun q hq => hS.2.2 q hq) ?_
        refine W.widen (k := 664879) (n := 7106988) (by omega) (by omega) ?_
        exact lw_ret hx hb0 hr hlocks dL_law_1456
      · -- nI k9 ge 50 : False
        exact absurd (by rw [he]; exact Int32.le_refl _) c_1
    ·
      have hk9 : k9 < 50 := by omega
      have KK : ∀ (H : Heap) (locs : List Loc) (ls : Array Slot) (fa fd fs g : Nat → Int32) (L B : Nat → Nat → Int32) (n b : Nat), LI D cs s AL adL z0 o sz1 fa fd fs g L B n b (k9 + 1) H locs → lv_has ls 20 [(0, .ref b9), (1, .ref o), (2, .ref (adL 0)), (3, .ref (adL 1)), (4, .ref (adL 2)), (5, .int (nI n)), (6, .int (nI b)), (7, .int (g 1)), (8, .int (g 0)), (9, .int 1), (10, .int (nI k9))] → W p l e room_1 s m #[Value.ref b9] below meth c H locs (1030 + 2000 * k9) (10300 + 20000 * k9) (lw_Z below #[Value.ref b9] s) (F0 m 1237 ls []) := fun H locs ls fa fd fs g L B n b hI hl => law_tail hst C9 hE0 hnc hAL hk9 hI hl (fun H locs ls fa fd fs g L B n b hI hl => ih (by omega) (by omega) H locs ls fa fd fs g L B n b hI hl)
      refine lv_iload hx hb dL_law_58 (lv_at hl 10 rfl) ?_
      refine lv_bipush (v := 50) hx hb dL_law_60 (by decide) ?_
      refine lv_icmp_ge (tgt := 1454) hx hb dL_law_62 (by decide) (fun c_2 => ?_) (fun c_2 => ?_)
      · -- nI k9 ge 50 : True
        exact absurd c_2 (nI_ge hk9 (by decide))
      · -- nI k9 ge 50 : False
        refine lv_iload hx hb dL_law_65 (lv_at hl 9 rfl) ?_
        refine lv_if_eq (tgt := 1454) hx hb dL_law_67 (by decide) (fun c_3 => ?_) (fun c_3 => ?_)
        · -- 1 eq 0 : True
          exact absurd c_3 (by decide)
        · -- 1 eq 0 : False
          refine lv_aload_n hx hb dL_law_70 rfl (lv_at hl 0 rfl) ?_
          refine lv_iload hx hb dL_law_71 (lv_at hl 10 rfl) ?_
          refine va_calli (va_runS (As := [.ref b9, .int (nI k9)]) (rest := []) ⟨hx, hb, hml, hown, hts⟩ (c_L_cell l b9 L9 k9 xs (by omega) hL9) (va_cwS 2 hts gL_law_L_cell rfl rfl rfl (by decide +kernel) ⟨Nat.le_of_ble_eq_true rfl, Nat.le_of_ble_eq_true rfl⟩) ⟨pX_fb, fun U hU hV => ⟨rfl, by rw [hU]; exact va_X.moved hV.alike (hX.kept (hS.2.1 b9 hbl hbA)), by rw [hU]; exact Nat.lt_of_lt_of_le hbl hS.1⟩⟩ rfl rfl hl.1 rfl (lv_room (Nat.le_of_ble_eq_true rfl)) dL_law_73 ⟨by show _ ≤ (664879 : Nat); omega, by show _ ≤ (7106988 : Nat); omega⟩) hS (fun _ _ h => h.elim) (fun _ h => h.elim) (fun r_4 u t9 H locs ht hvm hw hB hz1 hk1 hS => ?_)
          have hR := hR.keptA (A1 := fun _ => False) (fun _ _ h => h) hk1
          have hsz := Nat.le_trans hsz hz1
          have hA := hA.keptA (A1 := fun _ => False) (fun _ _ h => h) hk1
          obtain ⟨y9, hy9, rfl⟩ := hw
          refine lv_istore (lv' := [(11, .int (nI y9)), (0, .ref b9), (1, .ref o), (2, .ref (adL 0)), (3, .ref (adL 1)), (4, .ref (adL 2)), (5, .int (nI n)), (6, .int (nI b)), (7, .int (g 1)), (8, .int (g 0)), (9, .int 1), (10, .int (nI k9))]) hx hb dL_law_76 hl (by decide) rfl (fun ls hl => ?_)
          refine lv_iload hx hb dL_law_78 (lv_at hl 0 rfl) ?_
          refine lv_bipush (v := 16) hx hb dL_law_80 (by decide) ?_
          refine lv_idiv hx hb dL_law_82 (by decide) ?_
          rw [nI_dv (a := y9) (c := 16) (k := 16) rfl (by omega) (by omega) (by omega)]
          obtain ⟨z, ez⟩ : ∃ q, q = y9 / 16 := ⟨_, rfl⟩
          rw [← ez]
          have hz : z < 134217728 := by omega
          refine lv_istore (lv' := [(12, .int (nI z)), (11, .int (nI y9)), (0, .ref b9), (1, .ref o), (2, .ref (adL 0)), (3, .ref (adL 1)), (4, .ref (adL 2)), (5, .int (nI n)), (6, .int (nI b)), (7, .int (g 1)), (8, .int (g 0)), (9, .int 1), (10, .int (nI k9))]) hx hb dL_law_83 hl (by decide) rfl (fun ls hl => ?_)
          refine lv_iload hx hb dL_law_85 (lv_at hl 1 rfl) ?_
          refine lv_bipush (v := 16) hx hb dL_law_87 (by decide) ?_
          refine lv_irem hx hb dL_law_89 (by decide) ?_
          rw [nI_md (a := y9) (c := 16) (k := 16) rfl (by omega) (by omega) (by omega)]
          obtain ⟨kd, ekd⟩ : ∃ q, q = y9 % 16 := ⟨_, rfl⟩
          rw [← ekd]
          refine lv_istore (lv' := [(13, .int (nI kd)), (12, .int (nI z)), (11, .int (nI y9)), (0, .ref b9), (1, .ref o), (2, .ref (adL 0)), (3, .ref (adL 1)), (4, .ref (adL 2)), (5, .int (nI n)), (6, .int (nI b)), (7, .int (g 1)), (8, .int (g 0)), (9, .int 1), (10, .int (nI k9))]) hx hb dL_law_90 hl (by decide) rfl (fun ls hl => ?_)
          refine lv_iload hx hb dL_law_92 (lv_at hl 8 rfl) ?_
          by_cases hn0 : n = 0
          ·
            refine lv_if_ne (tgt := 101) hx hb dL_law_94 (by decide) (fun c_5 => ?_) (fun c_5 => ?_)
            · -- nI n ne 0 : True
              exact absurd (by rw [hn0]; rfl) c_5
            · -- nI n ne 0 : False
              refine lv_iconst (v := 0) hx hb dL_law_97 (by decide) ?_
              refine lv_goto (tgt := 106) hx hb dL_law_98 (by decide) ?_
              refine lv_istore (lv' := [(14, .int 0), (13, .int (nI kd)), (12, .int (nI z)), (11, .int (nI y9)), (0, .ref b9), (1, .ref o), (2, .ref (adL 0)), (3, .ref (adL 1)), (4, .ref (adL 2)), (5, .int (nI n)), (6, .int (nI b)), (7, .int (g 1)), (8, .int (g 0)), (9, .int 1), (10, .int (nI k9))]) hx hb dL_law_106 hl (by decide) rfl (fun ls hl => ?_)
              refine lv_iload hx hb dL_law_108 (lv_at hl 1 rfl) ?_
              refine lv_iconst (v := 4) hx hb dL_law_110 (by decide) ?_
              refine lv_icmp_lt (tgt := 120) hx hb dL_law_111 (by decide) (fun c_6 => ?_) (fun c_6 => ?_)
              · -- nI kd lt 4 : True
                exact law_addLoan (kk := 0) hst C9 hE0 hnc hAL hk9 hz ⟨hR, hA, hsz, hS, hLV⟩ (lv_sub hl [4, 5, 6, 7, 8, 9, 10, 11, 12, 13, 14, 2, 0] rfl) KK
              · -- nI kd lt 4 : False
                refine lv_iload hx hb dL_law_114 (lv_at hl 9 rfl) ?_
                refine lv_iconst (v := 2) hx hb dL_law_116 (by decide) ?_
                refine lv_icmp_ge (tgt := 232) hx hb dL_law_117 (by decide) (fun c_7 => ?_) (fun c_7 => ?_)
                · -- nI n ge 2 : True
                  exact absurd c_7 (by rw [hn0]; decide)
                · -- nI n ge 2 : False
                  exact law_addLoan (kk := 0) hst C9 hE0 hnc hAL hk9 hz ⟨hR, hA, hsz, hS, hLV⟩ (lv_sub hl [4, 5, 6, 7, 8, 9, 10, 11, 12, 13, 14, 2, 0] rfl) KK
          ·
            refine lv_if_ne (tgt := 101) hx hb dL_law_94 (by decide) (fun c_8 => ?_) (fun c_8 => ?_)
            · -- nI n ne 0 : True
              refine lv_iload hx hb dL_law_101 (lv_at hl 1 rfl) ?_
              refine lv_iload hx hb dL_law_103 (lv_at hl 8 rfl) ?_
              refine lv_irem hx hb dL_law_105 (nI_ne0 (by omega) (by omega)) ?_
              rw [nI_md (a := z) (c := n) (k := nI n) rfl (by omega) (by omega) (by omega)]
              obtain ⟨kk, ekk⟩ : ∃ q, q = z % n := ⟨_, rfl⟩
              rw [← ekk]
              have hkk : kk < n := by rw [ekk]; exact Nat.mod_lt _ (by omega)
              refine lv_istore (lv' := [(14, .int (nI kk)), (13, .int (nI kd)), (12, .int (nI z)), (11, .int (nI y9)), (0, .ref b9), (1, .ref o), (2, .ref (adL 0)), (3, .ref (adL 1)), (4, .ref (adL 2)), (5, .int (nI n)), (6, .int (nI b)), (7, .int (g 1)), (8, .int (g 0)), (9, .int 1), (10, .int (nI k9))]) hx hb dL_law_106 hl (by decide) rfl (fun ls hl => ?_)
              refine lv_iload hx hb dL_law_108 (lv_at hl 1 rfl) ?_
              refine lv_iconst (v := 4) hx hb dL_law_110 (by decide) ?_
              refine lv_icmp_lt (tgt := 120) hx hb dL_law_111 (by decide) (fun c_9 => ?_) (fun c_9 => ?_)
              · -- nI kd lt 4 : True
                exact law_addLoan (kk := kk) hst C9 hE0 hnc hAL hk9 hz ⟨hR, hA, hsz, hS, hLV⟩ (lv_sub hl [4, 5, 6, 7, 8, 9, 10, 11, 12, 13, 14, 2, 0] rfl) KK
              · -- nI kd lt 4 : False
                refine lv_iload hx hb dL_law_114 (lv_at hl 9 rfl) ?_
                refine lv_iconst (v := 2) hx hb dL_law_116 (by decide) ?_
                refine lv_icmp_ge (tgt := 232) hx hb dL_law_117 (by decide) (fun c_10 => ?_) (fun c_10 => ?_)
                · -- nI n ge 2 : True
                  refine lv_iload hx hb dL_law_232 (lv_at hl 1 rfl) ?_
                  refine lv_iconst (v := 4) hx hb dL_law_234 (by decide) ?_
                  refine lv_icmp_ne (tgt := 355) hx hb dL_law_235 (by decide) (fun c_11 => ?_) (fun c_11 => ?_)
                  · -- nI kd ne 4 : True
                    refine lv_iload hx hb dL_law_355 (lv_at hl 1 rfl) ?_
                    refine lv_bipush (v := 8) hx hb dL_law_357 (by decide) ?_
                    refine lv_icmp_ge (tgt := 429) hx hb dL_law_359 (by decide) (fun c_12 => ?_) (fun c_12 => ?_)
                    · -- nI kd ge 8 : True
                      refine lv_iload hx hb dL_law_429 (lv_at hl 1 rfl) ?_
                      refine lv_bipush (v := 8) hx hb dL_law_431 (by decide) ?_
                      refine lv_icmp_ne (tgt := 514) hx hb dL_law_433 (by decide) (fun c_13 => ?_) (fun c_13 => ?_)
                      · -- nI kd ne 8 : True
                        refine lv_iload hx hb dL_law_514 (lv_at hl 1 rfl) ?_
                        refine lv_bipush (v := 9) hx hb dL_law_516 (by decide) ?_
                        refine lv_icmp_ne (tgt := 677) hx hb dL_law_518 (by decide) (fun c_14 => ?_) (fun c_14 => ?_)
                        · -- nI kd ne 9 : True
                          refine lv_iload hx hb dL_law_677 (lv_at hl 1 rfl) ?_
                          refine lv_bipush (v := 10) hx hb dL_law_679 (by decide) ?_
                          refine lv_icmp_ne (tgt := 759) hx hb dL_law_681 (by decide) (fun c_15 => ?_) (fun c_15 => ?_)
                          · -- nI kd ne 10 : True
                            refine lv_iload hx hb dL_law_759 (lv_at hl 1 rfl) ?_
                            refine lv_bipush (v := 11) hx hb dL_law_761 (by decide) ?_
                            refine lv_icmp_ne (tgt := 852) hx hb dL_law_763 (by decide) (fun c_16 => ?_) (fun c_16 => ?_)
                            · -- nI kd ne 11 : True
                              refine lv_iload hx hb dL_law_852 (lv_at hl 1 rfl) ?_
                              refine lv_bipush (v := 12) hx hb dL_law_854 (by decide) ?_
                              refine lv_icmp_ne (tgt := 898) hx hb dL_law_856 (by decide) (fun c_17 => ?_) (fun c_17 => ?_)
                              · -- nI kd ne 12 : True
                                refine lv_iload hx hb dL_law_898 (lv_at hl 1 rfl) ?_
                                refine lv_bipush (v := 13) hx hb dL_law_900 (by decide) ?_
                                refine lv_icmp_ne (tgt := 969) hx hb dL_law_902 (by decide) (fun c_18 => ?_) (fun c_18 => ?_)
                                · -- nI kd ne 13 : True
                                  exact law_pass (kk := kk) hst C9 hE0 hnc hAL hk9 hz ⟨hR, hA, hsz, hS, hLV⟩ (lv_sub hl [4, 5, 6, 7, 8, 9, 10, 11, 12, 13, 14, 2, 0] rfl) KK
                                · -- nI kd ne 13 : False
                                  exact law_take (kk := kk) hst C9 hE0 hnc hAL hk9 hz ⟨hR, hA, hsz, hS, hLV⟩ (lv_sub hl [4, 5, 6, 7, 8, 9, 10, 11, 12, 13, 14, 2, 0] rfl) KK
                              · -- nI kd ne 12 : False
                                exact law_rules (kk := kk) hst C9 hE0 hnc hAL hk9 hz ⟨hR, hA, hsz, hS, hLV⟩ (lv_sub hl [4, 5, 6, 7, 8, 9, 10, 11, 12, 13, 14, 2, 0] rfl) KK
                            · -- nI kd ne 11 : False
                              exact law_setWorth (kk := kk) hst C9 hE0 hnc hAL hk9 hz hkk ⟨hR, hA, hsz, hS, hLV⟩ (lv_sub hl [4, 5, 6, 7, 8, 9, 10, 11, 12, 13, 14, 2, 0] rfl) KK
                          · -- nI kd ne 10 : False
                            exact law_arrears (kk := kk) hst C9 hE0 hnc hAL hk9 hz hkk ⟨hR, hA, hsz, hS, hLV⟩ (lv_sub hl [4, 5, 6, 7, 8, 9, 10, 11, 12, 13, 14, 2, 0] rfl) KK
                        · -- nI kd ne 9 : False
                          exact law_swap (kk := kk) hst C9 hE0 hnc hAL hk9 hz hkk ⟨hR, hA, hsz, hS, hLV⟩ (lv_sub hl [4, 5, 6, 7, 8, 9, 10, 11, 12, 13, 14, 2, 0] rfl) KK
                      · -- nI kd ne 8 : False
                        exact law_leave (kk := kk) hst C9 hE0 hnc hAL hk9 hz hkk ⟨hR, hA, hsz, hS, hLV⟩ (lv_sub hl [4, 5, 6, 7, 8, 9, 10, 11, 12, 13, 14, 2, 0] rfl) KK
                    · -- nI kd ge 8 : False
                      exact law_enter (kk := kk) hst C9 hE0 hnc hAL hk9 hz hkk ⟨hR, hA, hsz, hS, hLV⟩ (lv_sub hl [4, 5, 6, 7, 8, 9, 10, 11, 12, 13, 14, 2, 0] rfl) KK
                  · -- nI kd ne 4 : False
                    exact law_addBond (kk := kk) hst C9 hE0 hnc hAL hk9 hz ⟨hR, hA, hsz, hS, hLV⟩ (lv_sub hl [4, 5, 6, 7, 8, 9, 10, 11, 12, 13, 14, 2, 0] rfl) KK
                · -- nI n ge 2 : False
                  exact law_addLoan (kk := kk) hst C9 hE0 hnc hAL hk9 hz ⟨hR, hA, hsz, hS, hLV⟩ (lv_sub hl [4, 5, 6, 7, 8, 9, 10, 11, 12, 13, 14, 2, 0] rfl) KK
            · -- nI n ne 0 : False
              exact absurd c_8 (nI_ne0 (Nat.pos_of_ne_zero hn0) (by omega))
