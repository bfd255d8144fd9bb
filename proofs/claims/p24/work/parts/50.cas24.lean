set_option maxHeartbeats 4000000 in
set_option maxRecDepth 100000 in
theorem law_addLoan {p : Program} {l : Launch} {e : Env} {s : State} {m : MethodId} {below : List Frame} {meth : Method} {c : Code} {b9 L9 : Nat} {xs : Nat → Int32} {D : va_G} {cs : Nat → ClassId} {z0 : Nat} {sa : Nat → Nat} {AL : Nat → Prop} {adL : Nat → Nat} {o sz1 : Nat} (hst : l.stackTraces = false) (C0 : lw_At p s m meth c b9 L9 xs) (hE0 : Ev D cs (fun q => s.heap.size ≤ q) z0 sa s) (hnc : va_Nc xS xA s ∧ va_Nc xS xI s ∧ va_Nc xA xI s) (hAL : ∀ q, AL q → s.heap.size ≤ q ∧ q < sz1) {fa fd fs g : Nat → Int32} {L B : Nat → Nat → Int32} {n b k9 : Nat} {H : Heap} {locs : List Loc} {ls : Array Slot} (hk9 : k9 < 50) {z kk : Nat} (hz : z < 134217728) (hI : LI D cs s AL adL z0 o sz1 fa fd fs g L B n b k9 H locs) (hl : lv_has ls 20 [(0, .ref b9), (1, .ref o), (2, .ref (adL 0)), (3, .ref (adL 1)), (4, .ref (adL 2)), (5, .int (nI n)), (6, .int (nI b)), (7, .int (g 1)), (8, .int (g 0)), (9, .int 1), (10, .int (nI k9)), (12, .int (nI z)), (14, .int (nI kk))]) (KK : ∀ (H : Heap) (locs : List Loc) (ls : Array Slot) (fa fd fs g : Nat → Int32) (L B : Nat → Nat → Int32) (n b : Nat), LI D cs s AL adL z0 o sz1 fa fd fs g L B n b (k9 + 1) H locs → lv_has ls 20 [(0, .ref b9), (1, .ref o), (2, .ref (adL 0)), (3, .ref (adL 1)), (4, .ref (adL 2)), (5, .int (nI n)), (6, .int (nI b)), (7, .int (g 1)), (8, .int (g 0)), (9, .int 1), (10, .int (nI k9))] → W p l e room_1 s m #[Value.ref b9] below meth c H locs (1030 + 2000 * k9) (10300 + 20000 * k9) (lw_Z below #[Value.ref b9] s) (F0 m 1237 ls [])) : W p l e room_1 s m #[Value.ref b9] below meth c H locs (30 + 2000 * k9) (300 + 20000 * k9) (lw_Z below #[Value.ref b9] s) (F0 m 120 ls []) := by
  obtain ⟨hR, hA, hsz, hS, hLV⟩ := hI
  obtain ⟨hx, hb0, hr, hml, hown0, hts0, hX, hbl, hlocks, hgv⟩ := C0
  have hb : c.code = cL_law := hb0
  have hown : s.vm.findClass RL = some m.cls := hown0
  have hts : ∀ w ∈ wsL_law, w.before #[Value.ref b9] s = true := fun w h => hts0 w (wsL_law_in w h)
  have hK := hE0.1
  have hIv := hLV.1
  have hbd := hIv.bd
  have hn := hIv.1
  have hb5 := hIv.2.1
  refine lv_iconst (v := 1) hx hb dL_law_120 (by decide) ?_
  refine lv_iload hx hb dL_law_121 (lv_at hl 11 rfl) ?_
  refine lv_sipush (v := 2000) hx hb dL_law_123 (by decide) ?_
  refine lv_irem hx hb dL_law_126 (by decide) ?_
  rw [nI_md (a := z) (c := 2000) (k := 2000) rfl (by omega) (by omega) (by omega)]
  refine lv_iadd hx hb dL_law_127 ?_
  rw [show (1 : Int32) + nI (z % 2000) = nI (1 + (z % 2000)) from nI_add 1 _]
  refine lv_istore (lv' := [(15, .int (nI (1 + (z % 2000)))), (0, .ref b9), (1, .ref o), (2, .ref (adL 0)), (3, .ref (adL 1)), (4, .ref (adL 2)), (5, .int (nI n)), (6, .int (nI b)), (7, .int (g 1)), (8, .int (g 0)), (9, .int 1), (10, .int (nI k9)), (12, .int (nI z)), (14, .int (nI kk))]) hx hb dL_law_128 hl (by decide) rfl (fun ls hl => ?_)
  refine lv_sipush (v := 300) hx hb dL_law_130 (by decide) ?_
  refine lv_iload hx hb dL_law_133 (lv_at hl 12 rfl) ?_
  refine lv_bipush (v := 11) hx hb dL_law_135 (by decide) ?_
  refine lv_idiv hx hb dL_law_137 (by decide) ?_
  rw [nI_dv (a := z) (c := 11) (k := 11) rfl (by omega) (by omega) (by omega)]
  refine lv_sipush (v := 300) hx hb dL_law_138 (by decide) ?_
  refine lv_irem hx hb dL_law_141 (by decide) ?_
  rw [nI_md (a := (z / 11)) (c := 300) (k := 300) rfl (by omega) (by omega) (by omega)]
  refine lv_iadd hx hb dL_law_142 ?_
  rw [show (300 : Int32) + nI ((z / 11) % 300) = nI (300 + ((z / 11) % 300)) from nI_add 300 _]
  refine lv_istore (lv' := [(16, .int (nI (300 + ((z / 11) % 300)))), (15, .int (nI (1 + (z % 2000)))), (0, .ref b9), (1, .ref o), (2, .ref (adL 0)), (3, .ref (adL 1)), (4, .ref (adL 2)), (5, .int (nI n)), (6, .int (nI b)), (7, .int (g 1)), (8, .int (g 0)), (9, .int 1), (10, .int (nI k9)), (12, .int (nI z)), (14, .int (nI kk))]) hx hb dL_law_143 hl (by decide) rfl (fun ls hl => ?_)
  refine lv_aload_n hx hb dL_law_145 rfl (lv_at hl 3 rfl) ?_
  refine lv_iload hx hb dL_law_146 (lv_at hl 1 rfl) ?_
  refine lv_iload hx hb dL_law_148 (lv_at hl 13 rfl) ?_
  refine lv_bipush (v := 7) hx hb dL_law_150 (by decide) ?_
  refine lv_idiv hx hb dL_law_152 (by decide) ?_
  rw [nI_dv (a := z) (c := 7) (k := 7) rfl (by omega) (by omega) (by omega)]
  refine lv_sipush (v := 3000) hx hb dL_law_153 (by decide) ?_
  refine lv_irem hx hb dL_law_156 (by decide) ?_
  rw [nI_md (a := (z / 7)) (c := 3000) (k := 3000) rfl (by omega) (by omega) (by omega)]
  refine lv_iconst (v := 1) hx hb dL_law_157 (by decide) ?_
  refine lv_iload hx hb dL_law_158 (lv_at hl 13 rfl) ?_
  refine lv_iconst (v := 3) hx hb dL_law_160 (by decide) ?_
  refine lv_idiv hx hb dL_law_161 (by decide) ?_
  rw [nI_dv (a := z) (c := 3) (k := 3) rfl (by omega) (by omega) (by omega)]
  refine lv_iconst (v := 5) hx hb dL_law_162 (by decide) ?_
  refine lv_irem hx hb dL_law_163 (by decide) ?_
  rw [nI_md (a := (z / 3)) (c := 5) (k := 5) rfl (by omega) (by omega) (by omega)]
  refine lv_iadd hx hb dL_law_164 ?_
  rw [show (1 : Int32) + nI ((z / 3) % 5) = nI (1 + ((z / 3) % 5)) from nI_add 1 _]
  refine lv_iload hx hb dL_law_165 (lv_at hl 0 rfl) ?_
  have hkk := kAL (g := g) (n := n) (a := (1 + z % 2000)) (w := (z / 7 % 3000)) (r := (1 + z / 3 % 5)) (d := (300 + z / 11 % 300)) hn (by omega) (by omega) (by omega) (by omega) (by omega)
  by_cases hd : nI (300 + z / 11 % 300) ≤ g 0
  ·
    refine vx_calli (vx_runSX (hh := [(0, 9, 10, 15), (0, 9, 15, 17)]) (As := [.ref o, .int (nI (1 + (z % 2000))), .int (nI ((z / 7) % 3000)), .int (nI (1 + ((z / 3) % 5))), .int (nI (300 + ((z / 11) % 300)))]) (rest := []) ⟨hx, hb, hml, hown, hts⟩ (c_L_addLoan_1 l hst D cs (AC s.heap.size AL) z0 sa o g L B n b hn hb5 (nI (1 + (z % 2000))) (nI ((z / 7) % 3000)) (nI (1 + ((z / 3) % 5))) (nI (300 + ((z / 11) % 300))) (hIv.2.2.2.2.2.2.2.2.1 n (Nat.le_refl n)) (hkk.trans (if_pos hd))) (vx_cwSW 5 hts gL_law_L_addLoan rfl rfl rfl (by decide +kernel) ⟨Nat.le_of_ble_eq_true rfl, Nat.le_of_ble_eq_true rfl⟩) ⟨pR_fb, fun U hU hV => ⟨rfl, hE0.law hS hsz hAL hV hU, by rw [hU]; exact hR, hnc.1.moved hV.alike, hnc.2.1.moved hV.alike, hnc.2.2.moved hV.alike⟩⟩ rfl rfl hl.1 rfl (lv_room (Nat.le_of_ble_eq_true rfl)) dL_law_167 ⟨by show _ ≤ (664879 : Nat); omega, by show _ ≤ (7106988 : Nat); omega⟩) hS (fun q _ h => h.1) (fun q h => h.1) (fun _ _ h => h.elim) (fun E9 ce9 q9 u9 t9 H9 locs9 ht9 hvm9 hpx9 hbx9 hz9 hk9 hS9 hc9 hv9 hl9 => hpx9.elim) (fun r_1 u t9 H locs ht hvm hw hB hz1 hk1 hS => ?_)
    rw [ht] at hB
    have hR : RC D cs (AC s.heap.size AL) z0 o g L B n b H := hB
    have hsz := Nat.le_trans hsz hz1
    have hA := hA.keptA (A1 := (AC s.heap.size AL)) (fun q hq z => z.2 hq) hk1
    obtain rfl : r_1 = (-102) := hw
    refine lv_iload hx hb dL_law_170 (lv_at hl 0 rfl) ?_
    refine lv_iload hx hb dL_law_172 (lv_at hl 10 rfl) ?_
    refine lv_icmp_gt (tgt := 182) hx hb dL_law_174 (by decide) (fun c_2 => ?_) (fun c_2 => ?_)
    · -- nI (300 + ((z / 11) % 300)) gt g 0 : True
      exact absurd c_2 (Int32.not_lt.mpr hd)
    · -- nI (300 + ((z / 11) % 300)) gt g 0 : False
      refine lv_bipush (v := (-102)) hx hb dL_law_177 (by decide) ?_
      refine lv_goto (tgt := 196) hx hb dL_law_179 (by decide) ?_
      refine lv_icmp_ne (tgt := 203) hx hb dL_law_196 (by decide) (fun c_3 => ?_) (fun c_3 => ?_)
      · -- (-102) ne (-102) : True
        exact absurd c_3 (by decide)
      · -- (-102) ne (-102) : False
        refine lv_iconst (v := 1) hx hb dL_law_199 (by decide) ?_
        refine lv_goto (tgt := 204) hx hb dL_law_200 (by decide) ?_
        refine lv_istore (lv' := [(9, .int 1), (16, .int (nI (300 + ((z / 11) % 300)))), (15, .int (nI (1 + (z % 2000)))), (0, .ref b9), (1, .ref o), (2, .ref (adL 0)), (3, .ref (adL 1)), (4, .ref (adL 2)), (5, .int (nI n)), (6, .int (nI b)), (7, .int (g 1)), (8, .int (g 0)), (10, .int (nI k9)), (12, .int (nI z)), (14, .int (nI kk))]) hx hb dL_law_204 hl (by decide) rfl (fun ls hl => ?_)
        refine lv_iload hx hb dL_law_206 (lv_at hl 8 rfl) ?_
        refine lv_bipush (v := 12) hx hb dL_law_208 (by decide) ?_
        refine lv_icmp_ge (tgt := 229) hx hb dL_law_210 (by decide) (fun c_4 => ?_) (fun c_4 => ?_)
        · -- nI n ge 12 : True
          refine lv_goto (tgt := 1237) hx hb dL_law_229 (by decide) ?_
          refine W.widen (k := 1030 + 2000 * k9) (n := 10300 + 20000 * k9) (by omega) (by omega) ?_
          exact KK _ _ _ fa fd fs g L B n b ⟨hR, hA, hsz, hS, (hLV).k⟩ (lv_sub hl [3, 4, 5, 6, 7, 8, 9, 10, 11, 0, 12] rfl)
        · -- nI n ge 12 : False
          refine lv_iload hx hb dL_law_213 (lv_at hl 1 rfl) ?_
          refine lv_iload hx hb dL_law_215 (lv_at hl 11 rfl) ?_
          refine lv_icmp_le (tgt := 229) hx hb dL_law_217 (by decide) (fun c_5 => ?_) (fun c_5 => ?_)
          · -- nI (300 + ((z / 11) % 300)) le g 0 : True
            refine lv_goto (tgt := 1237) hx hb dL_law_229 (by decide) ?_
            refine W.widen (k := 1030 + 2000 * k9) (n := 10300 + 20000 * k9) (by omega) (by omega) ?_
            exact KK _ _ _ fa fd fs g L B n b ⟨hR, hA, hsz, hS, (hLV).k⟩ (lv_sub hl [3, 4, 5, 6, 7, 8, 9, 10, 11, 0, 12] rfl)
          · -- nI (300 + ((z / 11) % 300)) le g 0 : False
            exact absurd (hd) c_5
  ·
    by_cases h12 : 12 ≤ n
    ·
      refine vx_calli (vx_runSX (hh := [(0, 9, 10, 15), (0, 9, 15, 17)]) (As := [.ref o, .int (nI (1 + (z % 2000))), .int (nI ((z / 7) % 3000)), .int (nI (1 + ((z / 3) % 5))), .int (nI (300 + ((z / 11) % 300)))]) (rest := []) ⟨hx, hb, hml, hown, hts⟩ (c_L_addLoan_2 l hst D cs (AC s.heap.size AL) z0 sa o g L B n b hn hb5 (nI (1 + (z % 2000))) (nI ((z / 7) % 3000)) (nI (1 + ((z / 3) % 5))) (nI (300 + ((z / 11) % 300))) (hIv.2.2.2.2.2.2.2.2.1 n (Nat.le_refl n)) (hkk.trans ((if_neg hd).trans (if_pos h12)))) (vx_cwSW 5 hts gL_law_L_addLoan rfl rfl rfl (by decide +kernel) ⟨Nat.le_of_ble_eq_true rfl, Nat.le_of_ble_eq_true rfl⟩) ⟨pR_fb, fun U hU hV => ⟨rfl, hE0.law hS hsz hAL hV hU, by rw [hU]; exact hR, hnc.1.moved hV.alike, hnc.2.1.moved hV.alike, hnc.2.2.moved hV.alike⟩⟩ rfl rfl hl.1 rfl (lv_room (Nat.le_of_ble_eq_true rfl)) dL_law_167 ⟨by show _ ≤ (664879 : Nat); omega, by show _ ≤ (7106988 : Nat); omega⟩) hS (fun q _ h => h.1) (fun q h => h.1) (fun _ _ h => h.elim) (fun E9 ce9 q9 u9 t9 H9 locs9 ht9 hvm9 hpx9 hbx9 hz9 hk9 hS9 hc9 hv9 hl9 => hpx9.elim) (fun r_6 u t9 H locs ht hvm hw hB hz1 hk1 hS => ?_)
      rw [ht] at hB
      have hR : RC D cs (AC s.heap.size AL) z0 o g L B n b H := hB
      have hsz := Nat.le_trans hsz hz1
      have hA := hA.keptA (A1 := (AC s.heap.size AL)) (fun q hq z => z.2 hq) hk1
      obtain rfl : r_6 = (-103) := hw
      refine lv_iload hx hb dL_law_170 (lv_at hl 0 rfl) ?_
      refine lv_iload hx hb dL_law_172 (lv_at hl 10 rfl) ?_
      refine lv_icmp_gt (tgt := 182) hx hb dL_law_174 (by decide) (fun c_7 => ?_) (fun c_7 => ?_)
      · -- nI (300 + ((z / 11) % 300)) gt g 0 : True
        refine lv_iload hx hb dL_law_182 (lv_at hl 7 rfl) ?_
        refine lv_bipush (v := 12) hx hb dL_law_184 (by decide) ?_
        refine lv_icmp_ge (tgt := 194) hx hb dL_law_186 (by decide) (fun c_8 => ?_) (fun c_8 => ?_)
        · -- nI n ge 12 : True
          refine lv_bipush (v := (-103)) hx hb dL_law_194 (by decide) ?_
          refine lv_icmp_ne (tgt := 203) hx hb dL_law_196 (by decide) (fun c_9 => ?_) (fun c_9 => ?_)
          · -- (-103) ne (-103) : True
            exact absurd c_9 (by decide)
          · -- (-103) ne (-103) : False
            refine lv_iconst (v := 1) hx hb dL_law_199 (by decide) ?_
            refine lv_goto (tgt := 204) hx hb dL_law_200 (by decide) ?_
            refine lv_istore (lv' := [(9, .int 1), (16, .int (nI (300 + ((z / 11) % 300)))), (15, .int (nI (1 + (z % 2000)))), (0, .ref b9), (1, .ref o), (2, .ref (adL 0)), (3, .ref (adL 1)), (4, .ref (adL 2)), (5, .int (nI n)), (6, .int (nI b)), (7, .int (g 1)), (8, .int (g 0)), (10, .int (nI k9)), (12, .int (nI z)), (14, .int (nI kk))]) hx hb dL_law_204 hl (by decide) rfl (fun ls hl => ?_)
            refine lv_iload hx hb dL_law_206 (lv_at hl 8 rfl) ?_
            refine lv_bipush (v := 12) hx hb dL_law_208 (by decide) ?_
            refine lv_icmp_ge (tgt := 229) hx hb dL_law_210 (by decide) (fun c_10 => ?_) (fun c_10 => ?_)
            · -- nI n ge 12 : True
              refine lv_goto (tgt := 1237) hx hb dL_law_229 (by decide) ?_
              refine W.widen (k := 1030 + 2000 * k9) (n := 10300 + 20000 * k9) (by omega) (by omega) ?_
              exact KK _ _ _ fa fd fs g L B n b ⟨hR, hA, hsz, hS, (hLV).k⟩ (lv_sub hl [3, 4, 5, 6, 7, 8, 9, 10, 11, 0, 12] rfl)
            · -- nI n ge 12 : False
              exact absurd (nI_le h12 (by omega)) c_10
        · -- nI n ge 12 : False
          exact absurd (nI_le h12 (by omega)) c_8
      · -- nI (300 + ((z / 11) % 300)) gt g 0 : False
        exact absurd (Int32.not_le.mp hd) c_7
    ·
      have hk0 := hkk.trans ((if_neg hd).trans (if_neg h12))
      refine vx_calli (vx_runSX (hh := [(0, 9, 10, 15), (0, 9, 15, 17)]) (As := [.ref o, .int (nI (1 + (z % 2000))), .int (nI ((z / 7) % 3000)), .int (nI (1 + ((z / 3) % 5))), .int (nI (300 + ((z / 11) % 300)))]) (rest := []) ⟨hx, hb, hml, hown, hts⟩ (c_L_addLoan_0 l hst D cs (AC s.heap.size AL) z0 sa o g L B n b hn hb5 (nI (1 + (z % 2000))) (nI ((z / 7) % 3000)) (nI (1 + ((z / 3) % 5))) (nI (300 + ((z / 11) % 300))) (hIv.2.2.2.2.2.2.2.2.1 n (Nat.le_refl n)) hk0) (vx_cwSW 5 hts gL_law_L_addLoan rfl rfl rfl (by decide +kernel) ⟨Nat.le_of_ble_eq_true rfl, Nat.le_of_ble_eq_true rfl⟩) ⟨pR_fb, fun U hU hV => ⟨rfl, hE0.law hS hsz hAL hV hU, by rw [hU]; exact hR, hnc.1.moved hV.alike, hnc.2.1.moved hV.alike, hnc.2.2.moved hV.alike⟩⟩ rfl rfl hl.1 rfl (lv_room (Nat.le_of_ble_eq_true rfl)) dL_law_167 ⟨by show _ ≤ (664879 : Nat); omega, by show _ ≤ (7106988 : Nat); omega⟩) hS (fun q _ h => h.1) (fun q h => h.1) (fun _ _ h => h.elim) (fun E9 ce9 q9 u9 t9 H9 locs9 ht9 hvm9 hpx9 hbx9 hz9 hk9 hS9 hc9 hv9 hl9 => hpx9.elim) (fun r_11 u t9 H locs ht hvm hw hB hz1 hk1 hS => ?_)
      rw [ht] at hB
      have hR : RC D cs (AC s.heap.size AL) z0 o g (addL L n (nI (1 + (z % 2000))) (nI ((z / 7) % 3000)) (nI (1 + ((z / 3) % 5))) (nI (300 + ((z / 11) % 300)))) B (n + 1) b H := hB
      have hsz := Nat.le_trans hsz hz1
      have hA := hA.keptA (A1 := (AC s.heap.size AL)) (fun q hq z => z.2 hq) hk1
      obtain rfl : r_11 = nI n := hw
      refine lv_iload hx hb dL_law_170 (lv_at hl 0 rfl) ?_
      refine lv_iload hx hb dL_law_172 (lv_at hl 10 rfl) ?_
      refine lv_icmp_gt (tgt := 182) hx hb dL_law_174 (by decide) (fun c_12 => ?_) (fun c_12 => ?_)
      · -- nI (300 + ((z / 11) % 300)) gt g 0 : True
        refine lv_iload hx hb dL_law_182 (lv_at hl 7 rfl) ?_
        refine lv_bipush (v := 12) hx hb dL_law_184 (by decide) ?_
        refine lv_icmp_ge (tgt := 194) hx hb dL_law_186 (by decide) (fun c_13 => ?_) (fun c_13 => ?_)
        · -- nI n ge 12 : True
          exact absurd c_13 (nI_ge (Nat.lt_of_not_le h12) (by decide))
        · -- nI n ge 12 : False
          refine lv_iload hx hb dL_law_189 (lv_at hl 7 rfl) ?_
          refine lv_goto (tgt := 196) hx hb dL_law_191 (by decide) ?_
          refine lv_icmp_ne (tgt := 203) hx hb dL_law_196 (by decide) (fun c_14 => ?_) (fun c_14 => ?_)
          · -- nI n ne nI n : True
            exact absurd (rfl) c_14
          · -- nI n ne nI n : False
            refine lv_iconst (v := 1) hx hb dL_law_199 (by decide) ?_
            refine lv_goto (tgt := 204) hx hb dL_law_200 (by decide) ?_
            refine lv_istore (lv' := [(9, .int 1), (16, .int (nI (300 + ((z / 11) % 300)))), (15, .int (nI (1 + (z % 2000)))), (0, .ref b9), (1, .ref o), (2, .ref (adL 0)), (3, .ref (adL 1)), (4, .ref (adL 2)), (5, .int (nI n)), (6, .int (nI b)), (7, .int (g 1)), (8, .int (g 0)), (10, .int (nI k9)), (12, .int (nI z)), (14, .int (nI kk))]) hx hb dL_law_204 hl (by decide) rfl (fun ls hl => ?_)
            refine lv_iload hx hb dL_law_206 (lv_at hl 8 rfl) ?_
            refine lv_bipush (v := 12) hx hb dL_law_208 (by decide) ?_
            refine lv_icmp_ge (tgt := 229) hx hb dL_law_210 (by decide) (fun c_15 => ?_) (fun c_15 => ?_)
            · -- nI n ge 12 : True
              exact absurd c_15 (nI_ge (Nat.lt_of_not_le h12) (by decide))
            · -- nI n ge 12 : False
              refine lv_iload hx hb dL_law_213 (lv_at hl 1 rfl) ?_
              refine lv_iload hx hb dL_law_215 (lv_at hl 11 rfl) ?_
              refine lv_icmp_le (tgt := 229) hx hb dL_law_217 (by decide) (fun c_16 => ?_) (fun c_16 => ?_)
              · -- nI (300 + ((z / 11) % 300)) le g 0 : True
                exact absurd c_16 (hd)
              · -- nI (300 + ((z / 11) % 300)) le g 0 : False
                refine lv_aload_n hx hb dL_law_220 rfl (lv_at hl 5 rfl) ?_
                refine lv_iload hx hb dL_law_221 (lv_at hl 8 rfl) ?_
                refine lv_iload hx hb dL_law_223 (lv_at hl 2 rfl) ?_
                refine wb_iastL hx hb hK hA hS (fun q hq => (hAL q hq).1) 0 (by decide) 0 rfl rfl n rfl (by omega) (by decide) dL_law_225 (fun H locs hA2 hS hz2 hk2 => ?_)
                have hR := hR.keptA (A1 := fun z => z = adL 0) (fun q hq e9 => hq.2 (by rw [e9]; exact (hA.2.2 0 (by decide)).1)) hk2
                have hA := ctL_0 hA2
                have hsz := Nat.le_trans hsz hz2
                refine lv_iinc (v := nI (n + 1)) (lv' := [(5, .int (nI (n + 1))), (9, .int 1), (16, .int (nI (300 + ((z / 11) % 300)))), (15, .int (nI (1 + (z % 2000)))), (0, .ref b9), (1, .ref o), (2, .ref (adL 0)), (3, .ref (adL 1)), (4, .ref (adL 2)), (6, .int (nI b)), (7, .int (g 1)), (8, .int (g 0)), (10, .int (nI k9)), (12, .int (nI z)), (14, .int (nI kk))]) hx hb dL_law_226 hl (k := 8) rfl (nI_1 _) (by decide) rfl (fun ls hl => ?_)
                refine lv_goto (tgt := 1237) hx hb dL_law_229 (by decide) ?_
                refine W.widen (k := 1030 + 2000 * k9) (n := 10300 + 20000 * k9) (by omega) (by omega) ?_
                exact KK _ _ _ (upd fa n (nI (1 + (z % 2000)))) fd fs g (addL L n (nI (1 + (z % 2000))) (nI ((z / 7) % 3000)) (nI (1 + ((z / 3) % 5))) (nI (300 + ((z / 11) % 300)))) B (n + 1) b ⟨hR, hA, hsz, hS, ((hLV.loan hk0)).k⟩ (lv_sub hl [4, 5, 6, 7, 8, 0, 9, 10, 11, 1, 12] rfl)
      · -- nI (300 + ((z / 11) % 300)) gt g 0 : False
        exact absurd (Int32.not_le.mp hd) c_12

set_option maxHeartbeats 4000000 in
set_option maxRecDepth 100000 in
theorem law_addBond {p : Program} {l : Launch} {e : Env} {s : State} {m : MethodId} {below : List Frame} {meth : Method} {c : Code} {b9 L9 : Nat} {xs : Nat → Int32} {D : va_G} {cs : Nat → ClassId} {z0 : Nat} {sa : Nat → Nat} {AL : Nat → Prop} {adL : Nat → Nat} {o sz1 : Nat} (hst : l.stackTraces = false) (C0 : lw_At p s m meth c b9 L9 xs) (hE0 : Ev D cs (fun q => s.heap.size ≤ q) z0 sa s) (hnc : va_Nc xS xA s ∧ va_Nc xS xI s ∧ va_Nc xA xI s) (hAL : ∀ q, AL q → s.heap.size ≤ q ∧ q < sz1) {fa fd fs g : Nat → Int32} {L B : Nat → Nat → Int32} {n b k9 : Nat} {H : Heap} {locs : List Loc} {ls : Array Slot} (hk9 : k9 < 50) {z kk : Nat} (hz : z < 134217728) (hI : LI D cs s AL adL z0 o sz1 fa fd fs g L B n b k9 H locs) (hl : lv_has ls 20 [(0, .ref b9), (1, .ref o), (2, .ref (adL 0)), (3, .ref (adL 1)), (4, .ref (adL 2)), (5, .int (nI n)), (6, .int (nI b)), (7, .int (g 1)), (8, .int (g 0)), (9, .int 1), (10, .int (nI k9)), (12, .int (nI z)), (14, .int (nI kk))]) (KK : ∀ (H : Heap) (locs : List Loc) (ls : Array Slot) (fa fd fs g : Nat → Int32) (L B : Nat → Nat → Int32) (n b : Nat), LI D cs s AL adL z0 o sz1 fa fd fs g L B n b (k9 + 1) H locs → lv_has ls 20 [(0, .ref b9), (1, .ref o), (2, .ref (adL 0)), (3, .ref (adL 1)), (4, .ref (adL 2)), (5, .int (nI n)), (6, .int (nI b)), (7, .int (g 1)), (8, .int (g 0)), (9, .int 1), (10, .int (nI k9))] → W p l e room_1 s m #[Value.ref b9] below meth c H locs (1030 + 2000 * k9) (10300 + 20000 * k9) (lw_Z below #[Value.ref b9] s) (F0 m 1237 ls [])) : W p l e room_1 s m #[Value.ref b9] below meth c H locs (30 + 2000 * k9) (300 + 20000 * k9) (lw_Z below #[Value.ref b9] s) (F0 m 238 ls []) := by
  obtain ⟨hR, hA, hsz, hS, hLV⟩ := hI
  obtain ⟨hx, hb0, hr, hml, hown0, hts0, hX, hbl, hlocks, hgv⟩ := C0
  have hb : c.code = cL_law := hb0
  have hown : s.vm.findClass RL = some m.cls := hown0
  have hts : ∀ w ∈ wsL_law, w.before #[Value.ref b9] s = true := fun w h => hts0 w (wsL_law_in w h)
  have hK := hE0.1
  have hIv := hLV.1
  have hbd := hIv.bd
  have hn := hIv.1
  have hb5 := hIv.2.1
  refine lv_sipush (v := 260) hx hb dL_law_238 (by decide) ?_
  refine lv_iload hx hb dL_law_241 (lv_at hl 11 rfl) ?_
  refine lv_sipush (v := 340) hx hb dL_law_243 (by decide) ?_
  refine lv_irem hx hb dL_law_246 (by decide) ?_
  rw [nI_md (a := z) (c := 340) (k := 340) rfl (by omega) (by omega) (by omega)]
  refine lv_iadd hx hb dL_law_247 ?_
  rw [show (260 : Int32) + nI (z % 340) = nI (260 + (z % 340)) from nI_add 260 _]
  refine lv_istore (lv' := [(15, .int (nI (260 + (z % 340)))), (0, .ref b9), (1, .ref o), (2, .ref (adL 0)), (3, .ref (adL 1)), (4, .ref (adL 2)), (5, .int (nI n)), (6, .int (nI b)), (7, .int (g 1)), (8, .int (g 0)), (9, .int 1), (10, .int (nI k9)), (12, .int (nI z)), (14, .int (nI kk))]) hx hb dL_law_248 hl (by decide) rfl (fun ls hl => ?_)
  refine lv_aload_n hx hb dL_law_250 rfl (lv_at hl 2 rfl) ?_
  refine lv_iconst (v := 1) hx hb dL_law_251 (by decide) ?_
  refine lv_iload hx hb dL_law_252 (lv_at hl 12 rfl) ?_
  refine lv_sipush (v := 340) hx hb dL_law_254 (by decide) ?_
  refine lv_idiv hx hb dL_law_257 (by decide) ?_
  rw [nI_dv (a := z) (c := 340) (k := 340) rfl (by omega) (by omega) (by omega)]
  refine lv_sipush (v := 2500) hx hb dL_law_258 (by decide) ?_
  refine lv_irem hx hb dL_law_261 (by decide) ?_
  rw [nI_md (a := (z / 340)) (c := 2500) (k := 2500) rfl (by omega) (by omega) (by omega)]
  refine lv_iadd hx hb dL_law_262 ?_
  rw [show (1 : Int32) + nI ((z / 340) % 2500) = nI (1 + ((z / 340) % 2500)) from nI_add 1 _]
  refine lv_iload hx hb dL_law_263 (lv_at hl 0 rfl) ?_
  have hkk := kAB (g := g) (b := b) (a := (1 + z / 340 % 2500)) (d := (260 + z % 340)) hb5 (by omega) (by omega) (by omega)
  by_cases hd : nI (260 + z % 340) ≤ g 0
  ·
    refine vx_calli (vx_runSX (hh := [(0, 6, 7, 15), (0, 6, 11, 17)]) (As := [.ref o, .int (nI (1 + ((z / 340) % 2500))), .int (nI (260 + (z % 340)))]) (rest := []) ⟨hx, hb, hml, hown, hts⟩ (c_L_addBond_1 l hst D cs (AC s.heap.size AL) z0 sa o g L B n b hn hb5 (nI (1 + ((z / 340) % 2500))) (nI (260 + (z % 340))) (hIv.2.2.2.2.2.2.2.2.2 b (Nat.le_refl b)) (hkk.trans (if_pos hd))) (vx_cwSW 3 hts gL_law_L_addBond rfl rfl rfl (by decide +kernel) ⟨Nat.le_of_ble_eq_true rfl, Nat.le_of_ble_eq_true rfl⟩) ⟨pR_fb, fun U hU hV => ⟨rfl, hE0.law hS hsz hAL hV hU, by rw [hU]; exact hR, hnc.1.moved hV.alike, hnc.2.1.moved hV.alike, hnc.2.2.moved hV.alike⟩⟩ rfl rfl hl.1 rfl (lv_room (Nat.le_of_ble_eq_true rfl)) dL_law_265 ⟨by show _ ≤ (664879 : Nat); omega, by show _ ≤ (7106988 : Nat); omega⟩) hS (fun q _ h => h.1) (fun q h => h.1) (fun _ _ h => h.elim) (fun E9 ce9 q9 u9 t9 H9 locs9 ht9 hvm9 hpx9 hbx9 hz9 hk9 hS9 hc9 hv9 hl9 => hpx9.elim) (fun r_1 u t9 H locs ht hvm hw hB hz1 hk1 hS => ?_)
    rw [ht] at hB
    have hR : RC D cs (AC s.heap.size AL) z0 o g L B n b H := hB
    have hsz := Nat.le_trans hsz hz1
    have hA := hA.keptA (A1 := (AC s.heap.size AL)) (fun q hq z => z.2 hq) hk1
    obtain rfl : r_1 = (-102) := hw
    refine lv_iload hx hb dL_law_268 (lv_at hl 0 rfl) ?_
    refine lv_iload hx hb dL_law_270 (lv_at hl 9 rfl) ?_
    refine lv_icmp_gt (tgt := 280) hx hb dL_law_272 (by decide) (fun c_2 => ?_) (fun c_2 => ?_)
    · -- nI (260 + (z % 340)) gt g 0 : True
      exact absurd c_2 (Int32.not_lt.mpr hd)
    · -- nI (260 + (z % 340)) gt g 0 : False
      refine lv_bipush (v := (-102)) hx hb dL_law_275 (by decide) ?_
      refine lv_goto (tgt := 293) hx hb dL_law_277 (by decide) ?_
      refine lv_icmp_ne (tgt := 300) hx hb dL_law_293 (by decide) (fun c_3 => ?_) (fun c_3 => ?_)
      · -- (-102) ne (-102) : True
        exact absurd c_3 (by decide)
      · -- (-102) ne (-102) : False
        refine lv_iconst (v := 1) hx hb dL_law_296 (by decide) ?_
        refine lv_goto (tgt := 301) hx hb dL_law_297 (by decide) ?_
        refine lv_istore (lv' := [(9, .int 1), (15, .int (nI (260 + (z % 340)))), (0, .ref b9), (1, .ref o), (2, .ref (adL 0)), (3, .ref (adL 1)), (4, .ref (adL 2)), (5, .int (nI n)), (6, .int (nI b)), (7, .int (g 1)), (8, .int (g 0)), (10, .int (nI k9)), (12, .int (nI z)), (14, .int (nI kk))]) hx hb dL_law_301 hl (by decide) rfl (fun ls hl => ?_)
        refine lv_iload hx hb dL_law_303 (lv_at hl 8 rfl) ?_
        refine lv_iconst (v := 5) hx hb dL_law_305 (by decide) ?_
        refine lv_icmp_ge (tgt := 352) hx hb dL_law_306 (by decide) (fun c_4 => ?_) (fun c_4 => ?_)
        · -- nI b ge 5 : True
          refine lv_goto (tgt := 1237) hx hb dL_law_352 (by decide) ?_
          refine W.widen (k := 1030 + 2000 * k9) (n := 10300 + 20000 * k9) (by omega) (by omega) ?_
          exact KK _ _ _ fa fd fs g L B n b ⟨hR, hA, hsz, hS, (hLV).k⟩ (lv_sub hl [2, 3, 4, 5, 6, 7, 8, 9, 10, 0, 11] rfl)
        · -- nI b ge 5 : False
          refine lv_iload hx hb dL_law_309 (lv_at hl 1 rfl) ?_
          refine lv_iload hx hb dL_law_311 (lv_at hl 10 rfl) ?_
          refine lv_icmp_le (tgt := 352) hx hb dL_law_313 (by decide) (fun c_5 => ?_) (fun c_5 => ?_)
          · -- nI (260 + (z % 340)) le g 0 : True
            refine lv_goto (tgt := 1237) hx hb dL_law_352 (by decide) ?_
            refine W.widen (k := 1030 + 2000 * k9) (n := 10300 + 20000 * k9) (by omega) (by omega) ?_
            exact KK _ _ _ fa fd fs g L B n b ⟨hR, hA, hsz, hS, (hLV).k⟩ (lv_sub hl [2, 3, 4, 5, 6, 7, 8, 9, 10, 0, 11] rfl)
          · -- nI (260 + (z % 340)) le g 0 : False
            exact absurd (hd) c_5
  ·
    by_cases h12 : 5 ≤ b
    ·
      refine vx_calli (vx_runSX (hh := [(0, 6, 7, 15), (0, 6, 11, 17)]) (As := [.ref o, .int (nI (1 + ((z / 340) % 2500))), .int (nI (260 + (z % 340)))]) (rest := []) ⟨hx, hb, hml, hown, hts⟩ (c_L_addBond_2 l hst D cs (AC s.heap.size AL) z0 sa o g L B n b hn hb5 (nI (1 + ((z / 340) % 2500))) (nI (260 + (z % 340))) (hIv.2.2.2.2.2.2.2.2.2 b (Nat.le_refl b)) (hkk.trans ((if_neg hd).trans (if_pos h12)))) (vx_cwSW 3 hts gL_law_L_addBond rfl rfl rfl (by decide +kernel) ⟨Nat.le_of_ble_eq_true rfl, Nat.le_of_ble_eq_true rfl⟩) ⟨pR_fb, fun U hU hV => ⟨rfl, hE0.law hS hsz hAL hV hU, by rw [hU]; exact hR, hnc.1.moved hV.alike, hnc.2.1.moved hV.alike, hnc.2.2.moved hV.alike⟩⟩ rfl rfl hl.1 rfl (lv_room (Nat.le_of_ble_eq_true rfl)) dL_law_265 ⟨by show _ ≤ (664879 : Nat); omega, by show _ ≤ (7106988 : Nat); omega⟩) hS (fun q _ h => h.1) (fun q h => h.1) (fun _ _ h => h.elim) (fun E9 ce9 q9 u9 t9 H9 locs9 ht9 hvm9 hpx9 hbx9 hz9 hk9 hS9 hc9 hv9 hl9 => hpx9.elim) (fun r_6 u t9 H locs ht hvm hw hB hz1 hk1 hS => ?_)
      rw [ht] at hB
      have hR : RC D cs (AC s.heap.size AL) z0 o g L B n b H := hB
      have hsz := Nat.le_trans hsz hz1
      have hA := hA.keptA (A1 := (AC s.heap.size AL)) (fun q hq z => z.2 hq) hk1
      obtain rfl : r_6 = (-103) := hw
      refine lv_iload hx hb dL_law_268 (lv_at hl 0 rfl) ?_
      refine lv_iload hx hb dL_law_270 (lv_at hl 9 rfl) ?_
      refine lv_icmp_gt (tgt := 280) hx hb dL_law_272 (by decide) (fun c_7 => ?_) (fun c_7 => ?_)
      · -- nI (260 + (z % 340)) gt g 0 : True
        refine lv_iload hx hb dL_law_280 (lv_at hl 7 rfl) ?_
        refine lv_iconst (v := 5) hx hb dL_law_282 (by decide) ?_
        refine lv_icmp_ge (tgt := 291) hx hb dL_law_283 (by decide) (fun c_8 => ?_) (fun c_8 => ?_)
        · -- nI b ge 5 : True
          refine lv_bipush (v := (-103)) hx hb dL_law_291 (by decide) ?_
          refine lv_icmp_ne (tgt := 300) hx hb dL_law_293 (by decide) (fun c_9 => ?_) (fun c_9 => ?_)
          · -- (-103) ne (-103) : True
            exact absurd c_9 (by decide)
          · -- (-103) ne (-103) : False
            refine lv_iconst (v := 1) hx hb dL_law_296 (by decide) ?_
            refine lv_goto (tgt := 301) hx hb dL_law_297 (by decide) ?_
            refine lv_istore (lv' := [(9, .int 1), (15, .int (nI (260 + (z % 340)))), (0, .ref b9), (1, .ref o), (2, .ref (adL 0)), (3, .ref (adL 1)), (4, .ref (adL 2)), (5, .int (nI n)), (6, .int (nI b)), (7, .int (g 1)), (8, .int (g 0)), (10, .int (nI k9)), (12, .int (nI z)), (14, .int (nI kk))]) hx hb dL_law_301 hl (by decide) rfl (fun ls hl => ?_)
            refine lv_iload hx hb dL_law_303 (lv_at hl 8 rfl) ?_
            refine lv_iconst (v := 5) hx hb dL_law_305 (by decide) ?_
            refine lv_icmp_ge (tgt := 352) hx hb dL_law_306 (by decide) (fun c_10 => ?_) (fun c_10 => ?_)
            · -- nI b ge 5 : True
              refine lv_goto (tgt := 1237) hx hb dL_law_352 (by decide) ?_
              refine W.widen (k := 1030 + 2000 * k9) (n := 10300 + 20000 * k9) (by omega) (by omega) ?_
              exact KK _ _ _ fa fd fs g L B n b ⟨hR, hA, hsz, hS, (hLV).k⟩ (lv_sub hl [2, 3, 4, 5, 6, 7, 8, 9, 10, 0, 11] rfl)
            · -- nI b ge 5 : False
              exact absurd (nI_le h12 (by omega)) c_10
        · -- nI b ge 5 : False
          exact absurd (nI_le h12 (by omega)) c_8
      · -- nI (260 + (z % 340)) gt g 0 : False
        exact absurd (Int32.not_le.mp hd) c_7
    ·
      have hk0 := hkk.trans ((if_neg hd).trans (if_neg h12))
      refine vx_calli (vx_runSX (hh := [(0, 6, 7, 15), (0, 6, 11, 17)]) (As := [.ref o, .int (nI (1 + ((z / 340) % 2500))), .int (nI (260 + (z % 340)))]) (rest := []) ⟨hx, hb, hml, hown, hts⟩ (c_L_addBond_0 l hst D cs (AC s.heap.size AL) z0 sa o g L B n b hn hb5 (nI (1 + ((z / 340) % 2500))) (nI (260 + (z % 340))) (hIv.2.2.2.2.2.2.2.2.2 b (Nat.le_refl b)) hk0) (vx_cwSW 3 hts gL_law_L_addBond rfl rfl rfl (by decide +kernel) ⟨Nat.le_of_ble_eq_true rfl, Nat.le_of_ble_eq_true rfl⟩) ⟨pR_fb, fun U hU hV => ⟨rfl, hE0.law hS hsz hAL hV hU, by rw [hU]; exact hR, hnc.1.moved hV.alike, hnc.2.1.moved hV.alike, hnc.2.2.moved hV.alike⟩⟩ rfl rfl hl.1 rfl (lv_room (Nat.le_of_ble_eq_true rfl)) dL_law_265 ⟨by show _ ≤ (664879 : Nat); omega, by show _ ≤ (7106988 : Nat); omega⟩) hS (fun q _ h => h.1) (fun q h => h.1) (fun _ _ h => h.elim) (fun E9 ce9 q9 u9 t9 H9 locs9 ht9 hvm9 hpx9 hbx9 hz9 hk9 hS9 hc9 hv9 hl9 => hpx9.elim) (fun r_11 u t9 H locs ht hvm hw hB hz1 hk1 hS => ?_)
      rw [ht] at hB
      have hR : RC D cs (AC s.heap.size AL) z0 o (upd g 1 (g 1 + (nI (1 + ((z / 340) % 2500))))) L (addB B b (nI (1 + ((z / 340) % 2500))) (nI (260 + (z % 340)))) n (b + 1) H := hB
      have hsz := Nat.le_trans hsz hz1
      have hA := hA.keptA (A1 := (AC s.heap.size AL)) (fun q hq z => z.2 hq) hk1
      obtain rfl : r_11 = nI b := hw
      refine lv_iload hx hb dL_law_268 (lv_at hl 0 rfl) ?_
      refine lv_iload hx hb dL_law_270 (lv_at hl 9 rfl) ?_
      refine lv_icmp_gt (tgt := 280) hx hb dL_law_272 (by decide) (fun c_12 => ?_) (fun c_12 => ?_)
      · -- nI (260 + (z % 340)) gt g 0 : True
        refine lv_iload hx hb dL_law_280 (lv_at hl 7 rfl) ?_
        refine lv_iconst (v := 5) hx hb dL_law_282 (by decide) ?_
        refine lv_icmp_ge (tgt := 291) hx hb dL_law_283 (by decide) (fun c_13 => ?_) (fun c_13 => ?_)
        · -- nI b ge 5 : True
          exact absurd c_13 (nI_ge (Nat.lt_of_not_le h12) (by decide))
        · -- nI b ge 5 : False
          refine lv_iload hx hb dL_law_286 (lv_at hl 7 rfl) ?_
          refine lv_goto (tgt := 293) hx hb dL_law_288 (by decide) ?_
          refine lv_icmp_ne (tgt := 300) hx hb dL_law_293 (by decide) (fun c_14 => ?_) (fun c_14 => ?_)
          · -- nI b ne nI b : True
            exact absurd (rfl) c_14
          · -- nI b ne nI b : False
            refine lv_iconst (v := 1) hx hb dL_law_296 (by decide) ?_
            refine lv_goto (tgt := 301) hx hb dL_law_297 (by decide) ?_
            refine lv_istore (lv' := [(9, .int 1), (15, .int (nI (260 + (z % 340)))), (0, .ref b9), (1, .ref o), (2, .ref (adL 0)), (3, .ref (adL 1)), (4, .ref (adL 2)), (5, .int (nI n)), (6, .int (nI b)), (7, .int (g 1)), (8, .int (g 0)), (10, .int (nI k9)), (12, .int (nI z)), (14, .int (nI kk))]) hx hb dL_law_301 hl (by decide) rfl (fun ls hl => ?_)
            refine lv_iload hx hb dL_law_303 (lv_at hl 8 rfl) ?_
            refine lv_iconst (v := 5) hx hb dL_law_305 (by decide) ?_
            refine lv_icmp_ge (tgt := 352) hx hb dL_law_306 (by decide) (fun c_15 => ?_) (fun c_15 => ?_)
            · -- nI b ge 5 : True
              exact absurd c_15 (nI_ge (Nat.lt_of_not_le h12) (by decide))
            · -- nI b ge 5 : False
              refine lv_iload hx hb dL_law_309 (lv_at hl 1 rfl) ?_
              refine lv_iload hx hb dL_law_311 (lv_at hl 10 rfl) ?_
              refine lv_icmp_le (tgt := 352) hx hb dL_law_313 (by decide) (fun c_16 => ?_) (fun c_16 => ?_)
              · -- nI (260 + (z % 340)) le g 0 : True
                exact absurd c_16 (hd)
              · -- nI (260 + (z % 340)) le g 0 : False
                refine lv_aload hx hb dL_law_316 (lv_at hl 6 rfl) ?_
                refine lv_iload hx hb dL_law_318 (lv_at hl 8 rfl) ?_
                refine lv_iconst (v := 1) hx hb dL_law_320 (by decide) ?_
                refine lv_iload hx hb dL_law_321 (lv_at hl 12 rfl) ?_
                refine lv_sipush (v := 340) hx hb dL_law_323 (by decide) ?_
                refine lv_idiv hx hb dL_law_326 (by decide) ?_
                rw [nI_dv (a := z) (c := 340) (k := 340) rfl (by omega) (by omega) (by omega)]
                refine lv_sipush (v := 2500) hx hb dL_law_327 (by decide) ?_
                refine lv_irem hx hb dL_law_330 (by decide) ?_
                rw [nI_md (a := (z / 340)) (c := 2500) (k := 2500) rfl (by omega) (by omega) (by omega)]
                refine lv_iadd hx hb dL_law_331 ?_
                rw [show (1 : Int32) + nI ((z / 340) % 2500) = nI (1 + ((z / 340) % 2500)) from nI_add 1 _]
                refine wb_iastL hx hb hK hA hS (fun q hq => (hAL q hq).1) 2 (by decide) 0 rfl rfl b rfl (by omega) (by decide) dL_law_332 (fun H locs hA2 hS hz2 hk2 => ?_)
                have hR := hR.keptA (A1 := fun z => z = adL 2) (fun q hq e9 => hq.2 (by rw [e9]; exact (hA.2.2 2 (by decide)).1)) hk2
                have hA := ctL_2 hA2
                have hsz := Nat.le_trans hsz hz2
                refine lv_aload_n hx hb dL_law_333 rfl (lv_at hl 5 rfl) ?_
                refine lv_iload hx hb dL_law_334 (lv_at hl 8 rfl) ?_
                refine lv_iload hx hb dL_law_336 (lv_at hl 1 rfl) ?_
                refine wb_iastL hx hb hK hA hS (fun q hq => (hAL q hq).1) 1 (by decide) 0 rfl rfl b rfl (by omega) (by decide) dL_law_338 (fun H locs hA2 hS hz2 hk2 => ?_)
                have hR := hR.keptA (A1 := fun z => z = adL 1) (fun q hq e9 => hq.2 (by rw [e9]; exact (hA.2.2 1 (by decide)).1)) hk2
                have hA := ctL_1 hA2
                have hsz := Nat.le_trans hsz hz2
                refine lv_iload hx hb dL_law_339 (lv_at hl 9 rfl) ?_
                refine lv_aload hx hb dL_law_341 (lv_at hl 6 rfl) ?_
                refine lv_iload hx hb dL_law_343 (lv_at hl 8 rfl) ?_
                refine wb_iald hx hb hK hA 2 (by decide) 0 rfl rfl b rfl (by omega) (by decide) dL_law_345 ?_
                rw [show ((upd fs b (nI (1 + ((z / 340) % 2500)))) b : Int32) = nI (1 + z / 340 % 2500) from upd_at _ _ _]
                refine lv_iadd hx hb dL_law_346 ?_
                refine lv_istore (lv' := [(7, .int ((g 1) + (nI (1 + z / 340 % 2500)))), (9, .int 1), (15, .int (nI (260 + (z % 340)))), (0, .ref b9), (1, .ref o), (2, .ref (adL 0)), (3, .ref (adL 1)), (4, .ref (adL 2)), (5, .int (nI n)), (6, .int (nI b)), (8, .int (g 0)), (10, .int (nI k9)), (12, .int (nI z)), (14, .int (nI kk))]) hx hb dL_law_347 hl (by decide) rfl (fun ls hl => ?_)
                refine lv_iinc (v := nI (b + 1)) (lv' := [(6, .int (nI (b + 1))), (7, .int ((g 1) + (nI (1 + z / 340 % 2500)))), (9, .int 1), (15, .int (nI (260 + (z % 340)))), (0, .ref b9), (1, .ref o), (2, .ref (adL 0)), (3, .ref (adL 1)), (4, .ref (adL 2)), (5, .int (nI n)), (8, .int (g 0)), (10, .int (nI k9)), (12, .int (nI z)), (14, .int (nI kk))]) hx hb dL_law_349 hl (k := 9) rfl (nI_1 _) (by decide) rfl (fun ls hl => ?_)
                refine lv_goto (tgt := 1237) hx hb dL_law_352 (by decide) ?_
                refine W.widen (k := 1030 + 2000 * k9) (n := 10300 + 20000 * k9) (by omega) (by omega) ?_
                exact KK _ _ _ fa (upd fd b (nI (260 + (z % 340)))) (upd fs b (nI (1 + ((z / 340) % 2500)))) (upd g 1 (g 1 + (nI (1 + ((z / 340) % 2500))))) L (addB B b (nI (1 + ((z / 340) % 2500))) (nI (260 + (z % 340)))) n (b + 1) ⟨hR, hA, hsz, hS, ((hLV.bond hk0)).k⟩ (lv_sub hl [4, 5, 6, 7, 8, 9, 0, 1, 10, 2, 11] rfl)
      · -- nI (260 + (z % 340)) gt g 0 : False
        exact absurd (Int32.not_le.mp hd) c_12

set_option maxHeartbeats 4000000 in
set_option maxRecDepth 100000 in
theorem law_enter {p : Program} {l : Launch} {e : Env} {s : State} {m : MethodId} {below : List Frame} {meth : Method} {c : Code} {b9 L9 : Nat} {xs : Nat → Int32} {D : va_G} {cs : Nat → ClassId} {z0 : Nat} {sa : Nat → Nat} {AL : Nat → Prop} {adL : Nat → Nat} {o sz1 : Nat} (hst : l.stackTraces = false) (C0 : lw_At p s m meth c b9 L9 xs) (hE0 : Ev D cs (fun q => s.heap.size ≤ q) z0 sa s) (hnc : va_Nc xS xA s ∧ va_Nc xS xI s ∧ va_Nc xA xI s) (hAL : ∀ q, AL q → s.heap.size ≤ q ∧ q < sz1) {fa fd fs g : Nat → Int32} {L B : Nat → Nat → Int32} {n b k9 : Nat} {H : Heap} {locs : List Loc} {ls : Array Slot} (hk9 : k9 < 50) {z kk : Nat} (hz : z < 134217728) (hkk : kk < n) (hI : LI D cs s AL adL z0 o sz1 fa fd fs g L B n b k9 H locs) (hl : lv_has ls 20 [(0, .ref b9), (1, .ref o), (2, .ref (adL 0)), (3, .ref (adL 1)), (4, .ref (adL 2)), (5, .int (nI n)), (6, .int (nI b)), (7, .int (g 1)), (8, .int (g 0)), (9, .int 1), (10, .int (nI k9)), (12, .int (nI z)), (14, .int (nI kk))]) (KK : ∀ (H : Heap) (locs : List Loc) (ls : Array Slot) (fa fd fs g : Nat → Int32) (L B : Nat → Nat → Int32) (n b : Nat), LI D cs s AL adL z0 o sz1 fa fd fs g L B n b (k9 + 1) H locs → lv_has ls 20 [(0, .ref b9), (1, .ref o), (2, .ref (adL 0)), (3, .ref (adL 1)), (4, .ref (adL 2)), (5, .int (nI n)), (6, .int (nI b)), (7, .int (g 1)), (8, .int (g 0)), (9, .int 1), (10, .int (nI k9))] → W p l e room_1 s m #[Value.ref b9] below meth c H locs (1030 + 2000 * k9) (10300 + 20000 * k9) (lw_Z below #[Value.ref b9] s) (F0 m 1237 ls [])) : W p l e room_1 s m #[Value.ref b9] below meth c H locs (30 + 2000 * k9) (300 + 20000 * k9) (lw_Z below #[Value.ref b9] s) (F0 m 362 ls []) := by
  obtain ⟨hR, hA, hsz, hS, hLV⟩ := hI
  obtain ⟨hx, hb0, hr, hml, hown0, hts0, hX, hbl, hlocks, hgv⟩ := C0
  have hb : c.code = cL_law := hb0
  have hown : s.vm.findClass RL = some m.cls := hown0
  have hts : ∀ w ∈ wsL_law, w.before #[Value.ref b9] s = true := fun w h => hts0 w (wsL_law_in w h)
  have hK := hE0.1
  have hIv := hLV.1
  have hbd := hIv.bd
  have hn := hIv.1
  have hb5 := hIv.2.1
  refine lv_aload_n hx hb dL_law_362 rfl (lv_at hl 1 rfl) ?_
  refine lv_iload hx hb dL_law_363 (lv_at hl 12 rfl) ?_
  refine vx_calli (vx_runSX (hh := [(0, 5, 6, 23)]) (As := [.ref o, .int (nI kk)]) (rest := []) ⟨hx, hb, hml, hown, hts⟩ (c_L_state_0 l hst D cs (AC s.heap.size AL) z0 sa o g L B n b hn hb5 (nI kk) (kIx_nI hkk (by omega))) (vx_cwSW 2 hts gL_law_L_state rfl rfl rfl (by decide +kernel) ⟨Nat.le_of_ble_eq_true rfl, Nat.le_of_ble_eq_true rfl⟩) ⟨pR_fb, fun U hU hV => ⟨rfl, hE0.law hS hsz hAL hV hU, by rw [hU]; exact hR, hnc.1.moved hV.alike, hnc.2.1.moved hV.alike, hnc.2.2.moved hV.alike⟩⟩ rfl rfl hl.1 rfl (lv_room (Nat.le_of_ble_eq_true rfl)) dL_law_365 ⟨by show _ ≤ (664879 : Nat); omega, by show _ ≤ (7106988 : Nat); omega⟩) hS (fun q _ h => h.1) (fun q h => h.1) (fun _ _ h => h.elim) (fun E9 ce9 q9 u9 t9 H9 locs9 ht9 hvm9 hpx9 hbx9 hz9 hk9 hS9 hc9 hv9 hl9 => hpx9.elim) (fun r_1 u t9 H locs ht hvm hw hB hz1 hk1 hS => ?_)
  rw [ht] at hB
  simp only [ixN_nI (show kk < 1000 by omega)] at hw hB
  have hR : RC D cs (AC s.heap.size AL) z0 o g L B n b H := hB
  have hsz := Nat.le_trans hsz hz1
  have hA := hA.keptA (A1 := (AC s.heap.size AL)) (fun q hq z => z.2 hq) hk1
  obtain rfl : r_1 = L 5 (kk) := hw
  refine lv_istore (lv' := [(15, .int (L 5 (kk))), (0, .ref b9), (1, .ref o), (2, .ref (adL 0)), (3, .ref (adL 1)), (4, .ref (adL 2)), (5, .int (nI n)), (6, .int (nI b)), (7, .int (g 1)), (8, .int (g 0)), (9, .int 1), (10, .int (nI k9)), (12, .int (nI z)), (14, .int (nI kk))]) hx hb dL_law_368 hl (by decide) rfl (fun ls hl => ?_)
  refine lv_iload hx hb dL_law_370 (lv_at hl 0 rfl) ?_
  by_cases h0 : L 5 kk = 0
  ·
    refine lv_if_ne (tgt := 408) hx hb dL_law_372 (by decide) (fun c_2 => ?_) (fun c_2 => ?_)
    · -- L 5 (kk) ne 0 : True
      exact absurd (h0) c_2
    · -- L 5 (kk) ne 0 : False
      refine lv_aload_n hx hb dL_law_375 rfl (lv_at hl 2 rfl) ?_
      refine lv_iload hx hb dL_law_376 (lv_at hl 13 rfl) ?_
      refine vx_calli (vx_runSX (hh := [(0, 5, 6, 23), (0, 5, 10, 17)]) (As := [.ref o, .int (nI kk)]) (rest := []) ⟨hx, hb, hml, hown, hts⟩ (c_L_enter_0 l hst D cs (AC s.heap.size AL) z0 sa o g L B n b hn hb5 (nI kk) (kSt_nI hkk (by omega) h0)) (vx_cwSW 2 hts gL_law_L_enter rfl rfl rfl (by decide +kernel) ⟨Nat.le_of_ble_eq_true rfl, Nat.le_of_ble_eq_true rfl⟩) ⟨pR_fb, fun U hU hV => ⟨rfl, hE0.law hS hsz hAL hV hU, by rw [hU]; exact hR, hnc.1.moved hV.alike, hnc.2.1.moved hV.alike, hnc.2.2.moved hV.alike⟩⟩ rfl rfl hl.1 rfl (lv_room (Nat.le_of_ble_eq_true rfl)) dL_law_378 ⟨by show _ ≤ (664879 : Nat); omega, by show _ ≤ (7106988 : Nat); omega⟩) hS (fun q _ h => h.1) (fun q h => h.1) (fun _ _ h => h.elim) (fun E9 ce9 q9 u9 t9 H9 locs9 ht9 hvm9 hpx9 hbx9 hz9 hk9 hS9 hc9 hv9 hl9 => hpx9.elim) (fun r_3 u t9 H locs ht hvm hw hB hz1 hk1 hS => ?_)
      rw [ht] at hB
      simp only [ixN_nI (show kk < 1000 by omega)] at hw hB
      have hR : RC D cs (AC s.heap.size AL) z0 o g (updL L 5 (kk) 1) B n b H := hB
      have hsz := Nat.le_trans hsz hz1
      have hA := hA.keptA (A1 := (AC s.heap.size AL)) (fun q hq z => z.2 hq) hk1
      obtain rfl : r_3 = mCount g (updL L 5 (kk) 1) (kk) := hw
      refine lv_aload_n hx hb dL_law_381 rfl (lv_at hl 2 rfl) ?_
      refine lv_iload hx hb dL_law_382 (lv_at hl 13 rfl) ?_
      refine vx_calli (vx_runSX (hh := [(0, 5, 6, 23)]) (As := [.ref o, .int (nI kk)]) (rest := [.int (mCount g (updL L 5 (kk) 1) (kk))]) ⟨hx, hb, hml, hown, hts⟩ (c_L_counts_0 l hst D cs (AC s.heap.size AL) z0 sa o g (updL L 5 (kk) 1) B n b hn hb5 (nI kk) (kIx_nI hkk (by omega))) (vx_cwSW 2 hts gL_law_L_counts rfl rfl rfl (by decide +kernel) ⟨Nat.le_of_ble_eq_true rfl, Nat.le_of_ble_eq_true rfl⟩) ⟨pR_fb, fun U hU hV => ⟨rfl, hE0.law hS hsz hAL hV hU, by rw [hU]; exact hR, hnc.1.moved hV.alike, hnc.2.1.moved hV.alike, hnc.2.2.moved hV.alike⟩⟩ rfl rfl hl.1 rfl (lv_room (Nat.le_of_ble_eq_true rfl)) dL_law_384 ⟨by show _ ≤ (664879 : Nat); omega, by show _ ≤ (7106988 : Nat); omega⟩) hS (fun q _ h => h.1) (fun q h => h.1) (fun _ _ h => h.elim) (fun E9 ce9 q9 u9 t9 H9 locs9 ht9 hvm9 hpx9 hbx9 hz9 hk9 hS9 hc9 hv9 hl9 => hpx9.elim) (fun r_4 u t9 H locs ht hvm hw hB hz1 hk1 hS => ?_)
      rw [ht] at hB
      simp only [ixN_nI (show kk < 1000 by omega)] at hw hB
      have hR : RC D cs (AC s.heap.size AL) z0 o g (updL L 5 (kk) 1) B n b H := hB
      have hsz := Nat.le_trans hsz hz1
      have hA := hA.keptA (A1 := (AC s.heap.size AL)) (fun q hq z => z.2 hq) hk1
      obtain rfl : r_4 = mCount g (updL L 5 (kk) 1) (kk) := hw
      refine lv_icmp_ne (tgt := 404) hx hb dL_law_387 (by decide) (fun c_5 => ?_) (fun c_5 => ?_)
      · -- mCount g (updL L 5 (kk) 1) (kk) ne mCount g (updL L 5 (kk) 1) (kk) : True
        exact absurd (rfl) c_5
      · -- mCount g (updL L 5 (kk) 1) (kk) ne mCount g (updL L 5 (kk) 1) (kk) : False
        refine lv_aload_n hx hb dL_law_390 rfl (lv_at hl 2 rfl) ?_
        refine lv_iload hx hb dL_law_391 (lv_at hl 13 rfl) ?_
        refine vx_calli (vx_runSX (hh := [(0, 5, 6, 23)]) (As := [.ref o, .int (nI kk)]) (rest := []) ⟨hx, hb, hml, hown, hts⟩ (c_L_state_0 l hst D cs (AC s.heap.size AL) z0 sa o g (updL L 5 (kk) 1) B n b hn hb5 (nI kk) (kIx_nI hkk (by omega))) (vx_cwSW 2 hts gL_law_L_state rfl rfl rfl (by decide +kernel) ⟨Nat.le_of_ble_eq_true rfl, Nat.le_of_ble_eq_true rfl⟩) ⟨pR_fb, fun U hU hV => ⟨rfl, hE0.law hS hsz hAL hV hU, by rw [hU]; exact hR, hnc.1.moved hV.alike, hnc.2.1.moved hV.alike, hnc.2.2.moved hV.alike⟩⟩ rfl rfl hl.1 rfl (lv_room (Nat.le_of_ble_eq_true rfl)) dL_law_393 ⟨by show _ ≤ (664879 : Nat); omega, by show _ ≤ (7106988 : Nat); omega⟩) hS (fun q _ h => h.1) (fun q h => h.1) (fun _ _ h => h.elim) (fun E9 ce9 q9 u9 t9 H9 locs9 ht9 hvm9 hpx9 hbx9 hz9 hk9 hS9 hc9 hv9 hl9 => hpx9.elim) (fun r_6 u t9 H locs ht hvm hw hB hz1 hk1 hS => ?_)
        rw [ht] at hB
        simp only [ixN_nI (show kk < 1000 by omega)] at hw hB
        have hR : RC D cs (AC s.heap.size AL) z0 o g (updL L 5 (kk) 1) B n b H := hB
        have hsz := Nat.le_trans hsz hz1
        have hA := hA.keptA (A1 := (AC s.heap.size AL)) (fun q hq z => z.2 hq) hk1
        obtain rfl : r_6 = (updL L 5 (kk) 1) 5 (kk) := hw
        rw [show ((updL L 5 (kk) 1) 5 (kk) : Int32) = 1 from updL_at _ _ _ _]
        refine lv_iconst (v := 1) hx hb dL_law_396 (by decide) ?_
        refine lv_icmp_ne (tgt := 404) hx hb dL_law_397 (by decide) (fun c_7 => ?_) (fun c_7 => ?_)
        · -- 1 ne 1 : True
          exact absurd c_7 (by decide)
        · -- 1 ne 1 : False
          refine lv_iconst (v := 1) hx hb dL_law_400 (by decide) ?_
          refine lv_goto (tgt := 424) hx hb dL_law_401 (by decide) ?_
          refine lv_istore (lv' := [(9, .int 1), (15, .int (L 5 (kk))), (0, .ref b9), (1, .ref o), (2, .ref (adL 0)), (3, .ref (adL 1)), (4, .ref (adL 2)), (5, .int (nI n)), (6, .int (nI b)), (7, .int (g 1)), (8, .int (g 0)), (10, .int (nI k9)), (12, .int (nI z)), (14, .int (nI kk))]) hx hb dL_law_424 hl (by decide) rfl (fun ls hl => ?_)
          refine lv_goto (tgt := 1237) hx hb dL_law_426 (by decide) ?_
          refine W.widen (k := 1030 + 2000 * k9) (n := 10300 + 20000 * k9) (by omega) (by omega) ?_
          exact KK _ _ _ fa fd fs g (updL L 5 (kk) 1) B n b ⟨hR, hA, hsz, hS, ((hLV.k5 hkk 1)).k⟩ (lv_sub hl [2, 3, 4, 5, 6, 7, 8, 9, 10, 0, 11] rfl)
  ·
    refine lv_if_ne (tgt := 408) hx hb dL_law_372 (by decide) (fun c_8 => ?_) (fun c_8 => ?_)
    · -- L 5 (kk) ne 0 : True
      refine lv_aload_n hx hb dL_law_408 rfl (lv_at hl 2 rfl) ?_
      refine lv_iload hx hb dL_law_409 (lv_at hl 13 rfl) ?_
      refine vx_calli (vx_runSX (hh := [(0, 5, 6, 23), (0, 5, 10, 17)]) (As := [.ref o, .int (nI kk)]) (rest := []) ⟨hx, hb, hml, hown, hts⟩ (c_L_enter_2 l hst D cs (AC s.heap.size AL) z0 sa o g L B n b hn hb5 (nI kk) (kSt_nI2 hkk (by omega) h0)) (vx_cwSW 2 hts gL_law_L_enter rfl rfl rfl (by decide +kernel) ⟨Nat.le_of_ble_eq_true rfl, Nat.le_of_ble_eq_true rfl⟩) ⟨pR_fb, fun U hU hV => ⟨rfl, hE0.law hS hsz hAL hV hU, by rw [hU]; exact hR, hnc.1.moved hV.alike, hnc.2.1.moved hV.alike, hnc.2.2.moved hV.alike⟩⟩ rfl rfl hl.1 rfl (lv_room (Nat.le_of_ble_eq_true rfl)) dL_law_411 ⟨by show _ ≤ (664879 : Nat); omega, by show _ ≤ (7106988 : Nat); omega⟩) hS (fun q _ h => h.1) (fun q h => h.1) (fun _ _ h => h.elim) (fun E9 ce9 q9 u9 t9 H9 locs9 ht9 hvm9 hpx9 hbx9 hz9 hk9 hS9 hc9 hv9 hl9 => hpx9.elim) (fun r_9 u t9 H locs ht hvm hw hB hz1 hk1 hS => ?_)
      rw [ht] at hB
      have hR : RC D cs (AC s.heap.size AL) z0 o g L B n b H := hB
      have hsz := Nat.le_trans hsz hz1
      have hA := hA.keptA (A1 := (AC s.heap.size AL)) (fun q hq z => z.2 hq) hk1
      obtain rfl : r_9 = (-103) := hw
      refine lv_bipush (v := (-103)) hx hb dL_law_414 (by decide) ?_
      refine lv_icmp_ne (tgt := 423) hx hb dL_law_416 (by decide) (fun c_10 => ?_) (fun c_10 => ?_)
      · -- (-103) ne (-103) : True
        exact absurd c_10 (by decide)
      · -- (-103) ne (-103) : False
        refine lv_iconst (v := 1) hx hb dL_law_419 (by decide) ?_
        refine lv_goto (tgt := 424) hx hb dL_law_420 (by decide) ?_
        refine lv_istore (lv' := [(9, .int 1), (15, .int (L 5 (kk))), (0, .ref b9), (1, .ref o), (2, .ref (adL 0)), (3, .ref (adL 1)), (4, .ref (adL 2)), (5, .int (nI n)), (6, .int (nI b)), (7, .int (g 1)), (8, .int (g 0)), (10, .int (nI k9)), (12, .int (nI z)), (14, .int (nI kk))]) hx hb dL_law_424 hl (by decide) rfl (fun ls hl => ?_)
        refine lv_goto (tgt := 1237) hx hb dL_law_426 (by decide) ?_
        refine W.widen (k := 1030 + 2000 * k9) (n := 10300 + 20000 * k9) (by omega) (by omega) ?_
        exact KK _ _ _ fa fd fs g L B n b ⟨hR, hA, hsz, hS, (hLV).k⟩ (lv_sub hl [2, 3, 4, 5, 6, 7, 8, 9, 10, 0, 11] rfl)
    · -- L 5 (kk) ne 0 : False
      exact absurd c_8 (h0)

set_option maxHeartbeats 4000000 in
set_option maxRecDepth 100000 in
theorem law_leave {p : Program} {l : Launch} {e : Env} {s : State} {m : MethodId} {below : List Frame} {meth : Method} {c : Code} {b9 L9 : Nat} {xs : Nat → Int32} {D : va_G} {cs : Nat → ClassId} {z0 : Nat} {sa : Nat → Nat} {AL : Nat → Prop} {adL : Nat → Nat} {o sz1 : Nat} (hst : l.stackTraces = false) (C0 : lw_At p s m meth c b9 L9 xs) (hE0 : Ev D cs (fun q => s.heap.size ≤ q) z0 sa s) (hnc : va_Nc xS xA s ∧ va_Nc xS xI s ∧ va_Nc xA xI s) (hAL : ∀ q, AL q → s.heap.size ≤ q ∧ q < sz1) {fa fd fs g : Nat → Int32} {L B : Nat → Nat → Int32} {n b k9 : Nat} {H : Heap} {locs : List Loc} {ls : Array Slot} (hk9 : k9 < 50) {z kk : Nat} (hz : z < 134217728) (hkk : kk < n) (hI : LI D cs s AL adL z0 o sz1 fa fd fs g L B n b k9 H locs) (hl : lv_has ls 20 [(0, .ref b9), (1, .ref o), (2, .ref (adL 0)), (3, .ref (adL 1)), (4, .ref (adL 2)), (5, .int (nI n)), (6, .int (nI b)), (7, .int (g 1)), (8, .int (g 0)), (9, .int 1), (10, .int (nI k9)), (12, .int (nI z)), (14, .int (nI kk))]) (KK : ∀ (H : Heap) (locs : List Loc) (ls : Array Slot) (fa fd fs g : Nat → Int32) (L B : Nat → Nat → Int32) (n b : Nat), LI D cs s AL adL z0 o sz1 fa fd fs g L B n b (k9 + 1) H locs → lv_has ls 20 [(0, .ref b9), (1, .ref o), (2, .ref (adL 0)), (3, .ref (adL 1)), (4, .ref (adL 2)), (5, .int (nI n)), (6, .int (nI b)), (7, .int (g 1)), (8, .int (g 0)), (9, .int 1), (10, .int (nI k9))] → W p l e room_1 s m #[Value.ref b9] below meth c H locs (1030 + 2000 * k9) (10300 + 20000 * k9) (lw_Z below #[Value.ref b9] s) (F0 m 1237 ls [])) : W p l e room_1 s m #[Value.ref b9] below meth c H locs (30 + 2000 * k9) (300 + 20000 * k9) (lw_Z below #[Value.ref b9] s) (F0 m 436 ls []) := by
  obtain ⟨hR, hA, hsz, hS, hLV⟩ := hI
  obtain ⟨hx, hb0, hr, hml, hown0, hts0, hX, hbl, hlocks, hgv⟩ := C0
  have hb : c.code = cL_law := hb0
  have hown : s.vm.findClass RL = some m.cls := hown0
  have hts : ∀ w ∈ wsL_law, w.before #[Value.ref b9] s = true := fun w h => hts0 w (wsL_law_in w h)
  have hK := hE0.1
  have hIv := hLV.1
  have hbd := hIv.bd
  have hn := hIv.1
  have hb5 := hIv.2.1
  refine lv_aload_n hx hb dL_law_436 rfl (lv_at hl 1 rfl) ?_
  refine lv_iload hx hb dL_law_437 (lv_at hl 12 rfl) ?_
  refine vx_calli (vx_runSX (hh := [(0, 5, 6, 23)]) (As := [.ref o, .int (nI kk)]) (rest := []) ⟨hx, hb, hml, hown, hts⟩ (c_L_state_0 l hst D cs (AC s.heap.size AL) z0 sa o g L B n b hn hb5 (nI kk) (kIx_nI hkk (by omega))) (vx_cwSW 2 hts gL_law_L_state rfl rfl rfl (by decide +kernel) ⟨Nat.le_of_ble_eq_true rfl, Nat.le_of_ble_eq_true rfl⟩) ⟨pR_fb, fun U hU hV => ⟨rfl, hE0.law hS hsz hAL hV hU, by rw [hU]; exact hR, hnc.1.moved hV.alike, hnc.2.1.moved hV.alike, hnc.2.2.moved hV.alike⟩⟩ rfl rfl hl.1 rfl (lv_room (Nat.le_of_ble_eq_true rfl)) dL_law_439 ⟨by show _ ≤ (664879 : Nat); omega, by show _ ≤ (7106988 : Nat); omega⟩) hS (fun q _ h => h.1) (fun q h => h.1) (fun _ _ h => h.elim) (fun E9 ce9 q9 u9 t9 H9 locs9 ht9 hvm9 hpx9 hbx9 hz9 hk9 hS9 hc9 hv9 hl9 => hpx9.elim) (fun r_1 u t9 H locs ht hvm hw hB hz1 hk1 hS => ?_)
  rw [ht] at hB
  simp only [ixN_nI (show kk < 1000 by omega)] at hw hB
  have hR : RC D cs (AC s.heap.size AL) z0 o g L B n b H := hB
  have hsz := Nat.le_trans hsz hz1
  have hA := hA.keptA (A1 := (AC s.heap.size AL)) (fun q hq z => z.2 hq) hk1
  obtain rfl : r_1 = L 5 (kk) := hw
  refine lv_istore (lv' := [(15, .int (L 5 (kk))), (0, .ref b9), (1, .ref o), (2, .ref (adL 0)), (3, .ref (adL 1)), (4, .ref (adL 2)), (5, .int (nI n)), (6, .int (nI b)), (7, .int (g 1)), (8, .int (g 0)), (9, .int 1), (10, .int (nI k9)), (12, .int (nI z)), (14, .int (nI kk))]) hx hb dL_law_442 hl (by decide) rfl (fun ls hl => ?_)
  by_cases h1 : L 5 kk = 1
  ·
    by_cases hP : mSafe g L B n b (outOf L n (nI kk))
    ·
      refine lv_aload_n hx hb dL_law_444 rfl (lv_at hl 2 rfl) ?_
      refine lv_iload hx hb dL_law_445 (lv_at hl 13 rfl) ?_
      refine vx_calli (vx_runSX (hh := [(0, 13, 14, 23), (0, 13, 18, 17)]) (As := [.ref o, .int (nI kk)]) (rest := []) ⟨hx, hb, hml, hown, hts⟩ (c_L_leave_0t l hst D cs (AC s.heap.size AL) z0 sa o g L B n b hn hb5 (nI kk) hbd (kSt_nI hkk (by omega) h1) hP) (vx_cwSW 2 hts gL_law_L_leave rfl rfl rfl (by decide +kernel) ⟨Nat.le_of_ble_eq_true rfl, Nat.le_of_ble_eq_true rfl⟩) ⟨pR_fb, fun U hU hV => ⟨rfl, hE0.law hS hsz hAL hV hU, by rw [hU]; exact hR, hnc.1.moved hV.alike, hnc.2.1.moved hV.alike, hnc.2.2.moved hV.alike⟩⟩ rfl rfl hl.1 rfl (lv_room (Nat.le_of_ble_eq_true rfl)) dL_law_447 ⟨by show _ ≤ (664879 : Nat); omega, by show _ ≤ (7106988 : Nat); omega⟩) hS (fun q _ h => h.1) (fun q h => h.1) (fun _ _ h => h.elim) (fun E9 ce9 q9 u9 t9 H9 locs9 ht9 hvm9 hpx9 hbx9 hz9 hk9 hS9 hc9 hv9 hl9 => hpx9.elim) (fun r_2 u t9 H locs ht hvm hw hB hz1 hk1 hS => ?_)
      rw [ht] at hB
      simp only [ixN_nI (show kk < 1000 by omega)] at hw hB
      have hR : RC D cs (AC s.heap.size AL) z0 o g (updL L 5 (kk) 0) B n b H := hB
      have hsz := Nat.le_trans hsz hz1
      have hA := hA.keptA (A1 := (AC s.heap.size AL)) (fun q hq z => z.2 hq) hk1
      obtain rfl : r_2 = 1 := hw
      refine lv_istore (lv' := [(16, .int 1), (15, .int (L 5 (kk))), (0, .ref b9), (1, .ref o), (2, .ref (adL 0)), (3, .ref (adL 1)), (4, .ref (adL 2)), (5, .int (nI n)), (6, .int (nI b)), (7, .int (g 1)), (8, .int (g 0)), (9, .int 1), (10, .int (nI k9)), (12, .int (nI z)), (14, .int (nI kk))]) hx hb dL_law_450 hl (by decide) rfl (fun ls hl => ?_)
      refine lv_iload hx hb dL_law_452 (lv_at hl 1 rfl) ?_
      refine lv_iconst (v := 1) hx hb dL_law_454 (by decide) ?_
      refine lv_icmp_ne (tgt := 497) hx hb dL_law_455 (by decide) (fun c_3 => ?_) (fun c_3 => ?_)
      · -- L 5 (kk) ne 1 : True
        exact absurd (h1) c_3
      · -- L 5 (kk) ne 1 : False
        refine lv_iload hx hb dL_law_458 (lv_at hl 0 rfl) ?_
        refine lv_aload_n hx hb dL_law_460 rfl (lv_at hl 3 rfl) ?_
        refine lv_iload hx hb dL_law_461 (lv_at hl 14 rfl) ?_
        refine vx_calli (vx_runSX (hh := [(0, 5, 6, 23)]) (As := [.ref o, .int (nI kk)]) (rest := [.int 1]) ⟨hx, hb, hml, hown, hts⟩ (c_L_state_0 l hst D cs (AC s.heap.size AL) z0 sa o g (updL L 5 (kk) 0) B n b hn hb5 (nI kk) (kIx_nI hkk (by omega))) (vx_cwSW 2 hts gL_law_L_state rfl rfl rfl (by decide +kernel) ⟨Nat.le_of_ble_eq_true rfl, Nat.le_of_ble_eq_true rfl⟩) ⟨pR_fb, fun U hU hV => ⟨rfl, hE0.law hS hsz hAL hV hU, by rw [hU]; exact hR, hnc.1.moved hV.alike, hnc.2.1.moved hV.alike, hnc.2.2.moved hV.alike⟩⟩ rfl rfl hl.1 rfl (lv_room (Nat.le_of_ble_eq_true rfl)) dL_law_463 ⟨by show _ ≤ (664879 : Nat); omega, by show _ ≤ (7106988 : Nat); omega⟩) hS (fun q _ h => h.1) (fun q h => h.1) (fun _ _ h => h.elim) (fun E9 ce9 q9 u9 t9 H9 locs9 ht9 hvm9 hpx9 hbx9 hz9 hk9 hS9 hc9 hv9 hl9 => hpx9.elim) (fun r_4 u t9 H locs ht hvm hw hB hz1 hk1 hS => ?_)
        rw [ht] at hB
        simp only [ixN_nI (show kk < 1000 by omega)] at hw hB
        have hR : RC D cs (AC s.heap.size AL) z0 o g (updL L 5 (kk) 0) B n b H := hB
        have hsz := Nat.le_trans hsz hz1
        have hA := hA.keptA (A1 := (AC s.heap.size AL)) (fun q hq z => z.2 hq) hk1
        obtain rfl : r_4 = (updL L 5 (kk) 0) 5 (kk) := hw
        rw [show ((updL L 5 (kk) 0) 5 (kk) : Int32) = 0 from updL_at _ _ _ _]
        refine lv_if_ne (tgt := 473) hx hb dL_law_466 (by decide) (fun c_5 => ?_) (fun c_5 => ?_)
        · -- 0 ne 0 : True
          exact absurd c_5 (by decide)
        · -- 0 ne 0 : False
          refine lv_iconst (v := 1) hx hb dL_law_469 (by decide) ?_
          refine lv_goto (tgt := 474) hx hb dL_law_470 (by decide) ?_
          refine lv_icmp_ne (tgt := 493) hx hb dL_law_474 (by decide) (fun c_6 => ?_) (fun c_6 => ?_)
          · -- 1 ne 1 : True
            exact absurd c_6 (by decide)
          · -- 1 ne 1 : False
            refine lv_iload hx hb dL_law_477 (lv_at hl 0 rfl) ?_
            refine lv_if_eq (tgt := 489) hx hb dL_law_479 (by decide) (fun c_7 => ?_) (fun c_7 => ?_)
            · -- 1 eq 0 : True
              exact absurd c_7 (by decide)
            · -- 1 eq 0 : False
              refine lv_aload_n hx hb dL_law_482 rfl (lv_at hl 3 rfl) ?_
              refine va_calli (va_runS (As := [.ref o]) (rest := []) ⟨hx, hb, hml, hown, hts⟩ (c_L_allHold l hst D cs (AC s.heap.size AL) z0 sa o g (updL L 5 (kk) 0) B n b hn hb5 ((hLV.k5 hkk 0).1.bd)) (va_cwS 1 hts gL_law_L_allHold rfl rfl rfl (by decide +kernel) ⟨Nat.le_of_ble_eq_true rfl, Nat.le_of_ble_eq_true rfl⟩) ⟨pR_fb, fun U hU hV => ⟨rfl, hE0.law hS hsz hAL hV hU, by rw [hU]; exact hR, hnc.1.moved hV.alike, hnc.2.1.moved hV.alike, hnc.2.2.moved hV.alike⟩⟩ rfl rfl hl.1 rfl (lv_room (Nat.le_of_ble_eq_true rfl)) dL_law_483 ⟨by show _ ≤ (664879 : Nat); omega, by show _ ≤ (7106988 : Nat); omega⟩) hS (fun q _ h => h.1) (fun q h => h.1) (fun r_8 u t9 H locs ht hvm hw hB hz1 hk1 hS => ?_)
              rw [ht] at hB
              have hR := hB
              have hsz := Nat.le_trans hsz hz1
              have hA := hA.keptA (A1 := (AC s.heap.size AL)) (fun q hq z => z.2 hq) hk1
              obtain rfl : r_8 = 1 := hw.trans (mOk_1 (leave_ok hn hkk hP))
              refine lv_if_eq (tgt := 493) hx hb dL_law_486 (by decide) (fun c_9 => ?_) (fun c_9 => ?_)
              · -- 1 eq 0 : True
                exact absurd c_9 (by decide)
              · -- 1 eq 0 : False
                refine lv_iconst (v := 1) hx hb dL_law_489 (by decide) ?_
                refine lv_goto (tgt := 509) hx hb dL_law_490 (by decide) ?_
                refine lv_istore (lv' := [(9, .int 1), (16, .int 1), (15, .int (L 5 (kk))), (0, .ref b9), (1, .ref o), (2, .ref (adL 0)), (3, .ref (adL 1)), (4, .ref (adL 2)), (5, .int (nI n)), (6, .int (nI b)), (7, .int (g 1)), (8, .int (g 0)), (10, .int (nI k9)), (12, .int (nI z)), (14, .int (nI kk))]) hx hb dL_law_509 hl (by decide) rfl (fun ls hl => ?_)
                refine lv_goto (tgt := 1237) hx hb dL_law_511 (by decide) ?_
                refine W.widen (k := 1030 + 2000 * k9) (n := 10300 + 20000 * k9) (by omega) (by omega) ?_
                exact KK _ _ _ fa fd fs g (updL L 5 (kk) 0) B n b ⟨hR, hA, hsz, hS, ((hLV.k5 hkk 0)).k⟩ (lv_sub hl [3, 4, 5, 6, 7, 8, 9, 10, 11, 0, 12] rfl)
    ·
      refine lv_aload_n hx hb dL_law_444 rfl (lv_at hl 2 rfl) ?_
      refine lv_iload hx hb dL_law_445 (lv_at hl 13 rfl) ?_
      refine vx_calli (vx_runSX (hh := [(0, 13, 14, 23), (0, 13, 18, 17)]) (As := [.ref o, .int (nI kk)]) (rest := []) ⟨hx, hb, hml, hown, hts⟩ (c_L_leave_0f l hst D cs (AC s.heap.size AL) z0 sa o g L B n b hn hb5 (nI kk) hbd (kSt_nI hkk (by omega) h1) hP) (vx_cwSW 2 hts gL_law_L_leave rfl rfl rfl (by decide +kernel) ⟨Nat.le_of_ble_eq_true rfl, Nat.le_of_ble_eq_true rfl⟩) ⟨pR_fb, fun U hU hV => ⟨rfl, hE0.law hS hsz hAL hV hU, by rw [hU]; exact hR, hnc.1.moved hV.alike, hnc.2.1.moved hV.alike, hnc.2.2.moved hV.alike⟩⟩ rfl rfl hl.1 rfl (lv_room (Nat.le_of_ble_eq_true rfl)) dL_law_447 ⟨by show _ ≤ (664879 : Nat); omega, by show _ ≤ (7106988 : Nat); omega⟩) hS (fun q _ h => h.1) (fun q h => h.1) (fun _ _ h => h.elim) (fun E9 ce9 q9 u9 t9 H9 locs9 ht9 hvm9 hpx9 hbx9 hz9 hk9 hS9 hc9 hv9 hl9 => hpx9.elim) (fun r_10 u t9 H locs ht hvm hw hB hz1 hk1 hS => ?_)
      rw [ht] at hB
      have hR : RC D cs (AC s.heap.size AL) z0 o g L B n b H := hB
      have hsz := Nat.le_trans hsz hz1
      have hA := hA.keptA (A1 := (AC s.heap.size AL)) (fun q hq z => z.2 hq) hk1
      obtain rfl : r_10 = 0 := hw
      refine lv_istore (lv' := [(16, .int 0), (15, .int (L 5 (kk))), (0, .ref b9), (1, .ref o), (2, .ref (adL 0)), (3, .ref (adL 1)), (4, .ref (adL 2)), (5, .int (nI n)), (6, .int (nI b)), (7, .int (g 1)), (8, .int (g 0)), (9, .int 1), (10, .int (nI k9)), (12, .int (nI z)), (14, .int (nI kk))]) hx hb dL_law_450 hl (by decide) rfl (fun ls hl => ?_)
      refine lv_iload hx hb dL_law_452 (lv_at hl 1 rfl) ?_
      refine lv_iconst (v := 1) hx hb dL_law_454 (by decide) ?_
      refine lv_icmp_ne (tgt := 497) hx hb dL_law_455 (by decide) (fun c_11 => ?_) (fun c_11 => ?_)
      · -- L 5 (kk) ne 1 : True
        exact absurd (h1) c_11
      · -- L 5 (kk) ne 1 : False
        refine lv_iload hx hb dL_law_458 (lv_at hl 0 rfl) ?_
        refine lv_aload_n hx hb dL_law_460 rfl (lv_at hl 3 rfl) ?_
        refine lv_iload hx hb dL_law_461 (lv_at hl 14 rfl) ?_
        refine vx_calli (vx_runSX (hh := [(0, 5, 6, 23)]) (As := [.ref o, .int (nI kk)]) (rest := [.int 0]) ⟨hx, hb, hml, hown, hts⟩ (c_L_state_0 l hst D cs (AC s.heap.size AL) z0 sa o g L B n b hn hb5 (nI kk) (kIx_nI hkk (by omega))) (vx_cwSW 2 hts gL_law_L_state rfl rfl rfl (by decide +kernel) ⟨Nat.le_of_ble_eq_true rfl, Nat.le_of_ble_eq_true rfl⟩) ⟨pR_fb, fun U hU hV => ⟨rfl, hE0.law hS hsz hAL hV hU, by rw [hU]; exact hR, hnc.1.moved hV.alike, hnc.2.1.moved hV.alike, hnc.2.2.moved hV.alike⟩⟩ rfl rfl hl.1 rfl (lv_room (Nat.le_of_ble_eq_true rfl)) dL_law_463 ⟨by show _ ≤ (664879 : Nat); omega, by show _ ≤ (7106988 : Nat); omega⟩) hS (fun q _ h => h.1) (fun q h => h.1) (fun _ _ h => h.elim) (fun E9 ce9 q9 u9 t9 H9 locs9 ht9 hvm9 hpx9 hbx9 hz9 hk9 hS9 hc9 hv9 hl9 => hpx9.elim) (fun r_12 u t9 H locs ht hvm hw hB hz1 hk1 hS => ?_)
        rw [ht] at hB
        simp only [ixN_nI (show kk < 1000 by omega)] at hw hB
        have hR : RC D cs (AC s.heap.size AL) z0 o g L B n b H := hB
        have hsz := Nat.le_trans hsz hz1
        have hA := hA.keptA (A1 := (AC s.heap.size AL)) (fun q hq z => z.2 hq) hk1
        obtain rfl : r_12 = L 5 (kk) := hw
        rw [show (L 5 (kk) : Int32) = 1 from h1]
        refine lv_if_ne (tgt := 473) hx hb dL_law_466 (by decide) (fun c_13 => ?_) (fun c_13 => ?_)
        · -- 1 ne 0 : True
          refine lv_iconst (v := 0) hx hb dL_law_473 (by decide) ?_
          refine lv_icmp_ne (tgt := 493) hx hb dL_law_474 (by decide) (fun c_14 => ?_) (fun c_14 => ?_)
          · -- 0 ne 0 : True
            exact absurd c_14 (by decide)
          · -- 0 ne 0 : False
            refine lv_iload hx hb dL_law_477 (lv_at hl 0 rfl) ?_
            refine lv_if_eq (tgt := 489) hx hb dL_law_479 (by decide) (fun c_15 => ?_) (fun c_15 => ?_)
            · -- 0 eq 0 : True
              refine lv_iconst (v := 1) hx hb dL_law_489 (by decide) ?_
              refine lv_goto (tgt := 509) hx hb dL_law_490 (by decide) ?_
              refine lv_istore (lv' := [(9, .int 1), (16, .int 0), (15, .int (L 5 (kk))), (0, .ref b9), (1, .ref o), (2, .ref (adL 0)), (3, .ref (adL 1)), (4, .ref (adL 2)), (5, .int (nI n)), (6, .int (nI b)), (7, .int (g 1)), (8, .int (g 0)), (10, .int (nI k9)), (12, .int (nI z)), (14, .int (nI kk))]) hx hb dL_law_509 hl (by decide) rfl (fun ls hl => ?_)
              refine lv_goto (tgt := 1237) hx hb dL_law_511 (by decide) ?_
              refine W.widen (k := 1030 + 2000 * k9) (n := 10300 + 20000 * k9) (by omega) (by omega) ?_
              exact KK _ _ _ fa fd fs g L B n b ⟨hR, hA, hsz, hS, (hLV).k⟩ (lv_sub hl [3, 4, 5, 6, 7, 8, 9, 10, 11, 0, 12] rfl)
            · -- 0 eq 0 : False
              exact absurd c_15 (by decide)
        · -- 1 ne 0 : False
          exact absurd c_13 (by decide)
  ·
    refine lv_aload_n hx hb dL_law_444 rfl (lv_at hl 2 rfl) ?_
    refine lv_iload hx hb dL_law_445 (lv_at hl 13 rfl) ?_
    refine vx_calli (vx_runSX (hh := [(0, 13, 14, 23), (0, 13, 18, 17)]) (As := [.ref o, .int (nI kk)]) (rest := []) ⟨hx, hb, hml, hown, hts⟩ (c_L_leave_2 l hst D cs (AC s.heap.size AL) z0 sa o g L B n b hn hb5 (nI kk) hbd (kSt_nI2 hkk (by omega) h1)) (vx_cwSW 2 hts gL_law_L_leave rfl rfl rfl (by decide +kernel) ⟨Nat.le_of_ble_eq_true rfl, Nat.le_of_ble_eq_true rfl⟩) ⟨pR_fb, fun U hU hV => ⟨rfl, hE0.law hS hsz hAL hV hU, by rw [hU]; exact hR, hnc.1.moved hV.alike, hnc.2.1.moved hV.alike, hnc.2.2.moved hV.alike⟩⟩ rfl rfl hl.1 rfl (lv_room (Nat.le_of_ble_eq_true rfl)) dL_law_447 ⟨by show _ ≤ (664879 : Nat); omega, by show _ ≤ (7106988 : Nat); omega⟩) hS (fun q _ h => h.1) (fun q h => h.1) (fun _ _ h => h.elim) (fun E9 ce9 q9 u9 t9 H9 locs9 ht9 hvm9 hpx9 hbx9 hz9 hk9 hS9 hc9 hv9 hl9 => hpx9.elim) (fun r_16 u t9 H locs ht hvm hw hB hz1 hk1 hS => ?_)
    rw [ht] at hB
    have hR : RC D cs (AC s.heap.size AL) z0 o g L B n b H := hB
    have hsz := Nat.le_trans hsz hz1
    have hA := hA.keptA (A1 := (AC s.heap.size AL)) (fun q hq z => z.2 hq) hk1
    obtain rfl : r_16 = (-103) := hw
    refine lv_istore (lv' := [(16, .int (-103)), (15, .int (L 5 (kk))), (0, .ref b9), (1, .ref o), (2, .ref (adL 0)), (3, .ref (adL 1)), (4, .ref (adL 2)), (5, .int (nI n)), (6, .int (nI b)), (7, .int (g 1)), (8, .int (g 0)), (9, .int 1), (10, .int (nI k9)), (12, .int (nI z)), (14, .int (nI kk))]) hx hb dL_law_450 hl (by decide) rfl (fun ls hl => ?_)
    refine lv_iload hx hb dL_law_452 (lv_at hl 1 rfl) ?_
    refine lv_iconst (v := 1) hx hb dL_law_454 (by decide) ?_
    refine lv_icmp_ne (tgt := 497) hx hb dL_law_455 (by decide) (fun c_17 => ?_) (fun c_17 => ?_)
    · -- L 5 (kk) ne 1 : True
      refine lv_iload hx hb dL_law_497 (lv_at hl 0 rfl) ?_
      refine lv_bipush (v := (-103)) hx hb dL_law_499 (by decide) ?_
      refine lv_icmp_ne (tgt := 508) hx hb dL_law_501 (by decide) (fun c_18 => ?_) (fun c_18 => ?_)
      · -- (-103) ne (-103) : True
        exact absurd c_18 (by decide)
      · -- (-103) ne (-103) : False
        refine lv_iconst (v := 1) hx hb dL_law_504 (by decide) ?_
        refine lv_goto (tgt := 509) hx hb dL_law_505 (by decide) ?_
        refine lv_istore (lv' := [(9, .int 1), (16, .int (-103)), (15, .int (L 5 (kk))), (0, .ref b9), (1, .ref o), (2, .ref (adL 0)), (3, .ref (adL 1)), (4, .ref (adL 2)), (5, .int (nI n)), (6, .int (nI b)), (7, .int (g 1)), (8, .int (g 0)), (10, .int (nI k9)), (12, .int (nI z)), (14, .int (nI kk))]) hx hb dL_law_509 hl (by decide) rfl (fun ls hl => ?_)
        refine lv_goto (tgt := 1237) hx hb dL_law_511 (by decide) ?_
        refine W.widen (k := 1030 + 2000 * k9) (n := 10300 + 20000 * k9) (by omega) (by omega) ?_
        exact KK _ _ _ fa fd fs g L B n b ⟨hR, hA, hsz, hS, (hLV).k⟩ (lv_sub hl [3, 4, 5, 6, 7, 8, 9, 10, 11, 0, 12] rfl)
    · -- L 5 (kk) ne 1 : False
      exact absurd c_17 (h1)

set_option maxHeartbeats 4000000 in
set_option maxRecDepth 100000 in
theorem law_swap {p : Program} {l : Launch} {e : Env} {s : State} {m : MethodId} {below : List Frame} {meth : Method} {c : Code} {b9 L9 : Nat} {xs : Nat → Int32} {D : va_G} {cs : Nat → ClassId} {z0 : Nat} {sa : Nat → Nat} {AL : Nat → Prop} {adL : Nat → Nat} {o sz1 : Nat} (hst : l.stackTraces = false) (C0 : lw_At p s m meth c b9 L9 xs) (hE0 : Ev D cs (fun q => s.heap.size ≤ q) z0 sa s) (hnc : va_Nc xS xA s ∧ va_Nc xS xI s ∧ va_Nc xA xI s) (hAL : ∀ q, AL q → s.heap.size ≤ q ∧ q < sz1) {fa fd fs g : Nat → Int32} {L B : Nat → Nat → Int32} {n b k9 : Nat} {H : Heap} {locs : List Loc} {ls : Array Slot} (hk9 : k9 < 50) {z kk : Nat} (hz : z < 134217728) (hkk : kk < n) (hI : LI D cs s AL adL z0 o sz1 fa fd fs g L B n b k9 H locs) (hl : lv_has ls 20 [(0, .ref b9), (1, .ref o), (2, .ref (adL 0)), (3, .ref (adL 1)), (4, .ref (adL 2)), (5, .int (nI n)), (6, .int (nI b)), (7, .int (g 1)), (8, .int (g 0)), (9, .int 1), (10, .int (nI k9)), (12, .int (nI z)), (14, .int (nI kk))]) (KK : ∀ (H : Heap) (locs : List Loc) (ls : Array Slot) (fa fd fs g : Nat → Int32) (L B : Nat → Nat → Int32) (n b : Nat), LI D cs s AL adL z0 o sz1 fa fd fs g L B n b (k9 + 1) H locs → lv_has ls 20 [(0, .ref b9), (1, .ref o), (2, .ref (adL 0)), (3, .ref (adL 1)), (4, .ref (adL 2)), (5, .int (nI n)), (6, .int (nI b)), (7, .int (g 1)), (8, .int (g 0)), (9, .int 1), (10, .int (nI k9))] → W p l e room_1 s m #[Value.ref b9] below meth c H locs (1030 + 2000 * k9) (10300 + 20000 * k9) (lw_Z below #[Value.ref b9] s) (F0 m 1237 ls [])) : W p l e room_1 s m #[Value.ref b9] below meth c H locs (30 + 2000 * k9) (300 + 20000 * k9) (lw_Z below #[Value.ref b9] s) (F0 m 521 ls []) := by
  obtain ⟨hR, hA, hsz, hS, hLV⟩ := hI
  obtain ⟨hx, hb0, hr, hml, hown0, hts0, hX, hbl, hlocks, hgv⟩ := C0
  have hb : c.code = cL_law := hb0
  have hown : s.vm.findClass RL = some m.cls := hown0
  have hts : ∀ w ∈ wsL_law, w.before #[Value.ref b9] s = true := fun w h => hts0 w (wsL_law_in w h)
  have hK := hE0.1
  have hIv := hLV.1
  have hbd := hIv.bd
  have hn := hIv.1
  have hb5 := hIv.2.1
  refine lv_iload hx hb dL_law_521 (lv_at hl 11 rfl) ?_
  refine lv_bipush (v := 7) hx hb dL_law_523 (by decide) ?_
  refine lv_idiv hx hb dL_law_525 (by decide) ?_
  rw [nI_dv (a := z) (c := 7) (k := 7) rfl (by omega) (by omega) (by omega)]
  refine lv_iload hx hb dL_law_526 (lv_at hl 5 rfl) ?_
  refine lv_irem hx hb dL_law_528 (nI_ne0 (by omega) (by omega)) ?_
  rw [nI_md (a := (z / 7)) (c := n) (k := nI n) rfl (by omega) (by omega) (by omega)]
  obtain ⟨k2, ek2⟩ : ∃ k2, k2 = z / 7 % n := ⟨_, rfl⟩
  have hk2 : k2 < n := by rw [ek2]; exact Nat.mod_lt _ (by omega)
  rw [← ek2]
  refine lv_istore (lv' := [(15, .int (nI k2)), (0, .ref b9), (1, .ref o), (2, .ref (adL 0)), (3, .ref (adL 1)), (4, .ref (adL 2)), (5, .int (nI n)), (6, .int (nI b)), (7, .int (g 1)), (8, .int (g 0)), (9, .int 1), (10, .int (nI k9)), (12, .int (nI z)), (14, .int (nI kk))]) hx hb dL_law_529 hl (by decide) rfl (fun ls hl => ?_)
  refine lv_aload_n hx hb dL_law_531 rfl (lv_at hl 2 rfl) ?_
  refine lv_iconst (v := 0) hx hb dL_law_532 (by decide) ?_
  refine vx_calli (vx_runSX (hh := [(0, 13, 14, 15)]) (As := [.ref o, .int 0]) (rest := []) ⟨hx, hb, hml, hown, hts⟩ (c_L_holds_v l hst D cs (AC s.heap.size AL) z0 sa o g L B n b hn hb5 0 hbd (by decide)) (vx_cwSW 2 hts gL_law_L_holds rfl rfl rfl (by decide +kernel) ⟨Nat.le_of_ble_eq_true rfl, Nat.le_of_ble_eq_true rfl⟩) ⟨pR_fb, fun U hU hV => ⟨rfl, hE0.law hS hsz hAL hV hU, by rw [hU]; exact hR, hnc.1.moved hV.alike, hnc.2.1.moved hV.alike, hnc.2.2.moved hV.alike⟩⟩ rfl rfl hl.1 rfl (lv_room (Nat.le_of_ble_eq_true rfl)) dL_law_533 ⟨by show _ ≤ (664879 : Nat); omega, by show _ ≤ (7106988 : Nat); omega⟩) hS (fun q _ h => h.1) (fun q h => h.1) (fun _ _ h => h.elim) (fun E9 ce9 q9 u9 t9 H9 locs9 ht9 hvm9 hpx9 hbx9 hz9 hk9 hS9 hc9 hv9 hl9 => hpx9.elim) (fun r_1 u t9 H locs ht hvm hw hB hz1 hk1 hS => ?_)
  rw [ht] at hB
  have hR := hB
  have hsz := Nat.le_trans hsz hz1
  have hA := hA.keptA (A1 := (AC s.heap.size AL)) (fun q hq z => z.2 hq) hk1
  obtain rfl : r_1 = hv g L B n b 0 := hw
  refine lv_iconst (v := 2) hx hb dL_law_536 (by decide) ?_
  refine lv_aload_n hx hb dL_law_537 rfl (lv_at hl 2 rfl) ?_
  refine lv_iconst (v := 1) hx hb dL_law_538 (by decide) ?_
  refine vx_calli (vx_runSX (hh := [(0, 13, 14, 15)]) (As := [.ref o, .int 1]) (rest := [.int 2, .int (hv g L B n b 0)]) ⟨hx, hb, hml, hown, hts⟩ (c_L_holds_v l hst D cs (AC s.heap.size AL) z0 sa o g L B n b hn hb5 1 hbd (by decide)) (vx_cwSW 2 hts gL_law_L_holds rfl rfl rfl (by decide +kernel) ⟨Nat.le_of_ble_eq_true rfl, Nat.le_of_ble_eq_true rfl⟩) ⟨pR_fb, fun U hU hV => ⟨rfl, hE0.law hS hsz hAL hV hU, by rw [hU]; exact hR, hnc.1.moved hV.alike, hnc.2.1.moved hV.alike, hnc.2.2.moved hV.alike⟩⟩ rfl rfl hl.1 rfl (lv_room (Nat.le_of_ble_eq_true rfl)) dL_law_539 ⟨by show _ ≤ (664879 : Nat); omega, by show _ ≤ (7106988 : Nat); omega⟩) hS (fun q _ h => h.1) (fun q h => h.1) (fun _ _ h => h.elim) (fun E9 ce9 q9 u9 t9 H9 locs9 ht9 hvm9 hpx9 hbx9 hz9 hk9 hS9 hc9 hv9 hl9 => hpx9.elim) (fun r_2 u t9 H locs ht hvm hw hB hz1 hk1 hS => ?_)
  rw [ht] at hB
  have hR := hB
  have hsz := Nat.le_trans hsz hz1
  have hA := hA.keptA (A1 := (AC s.heap.size AL)) (fun q hq z => z.2 hq) hk1
  obtain rfl : r_2 = hv g L B n b 1 := hw
  refine lv_imul hx hb dL_law_542 ?_
  refine lv_iadd hx hb dL_law_543 ?_
  refine lv_iconst (v := 4) hx hb dL_law_544 (by decide) ?_
  refine lv_aload_n hx hb dL_law_545 rfl (lv_at hl 2 rfl) ?_
  refine lv_iconst (v := 2) hx hb dL_law_546 (by decide) ?_
  refine vx_calli (vx_runSX (hh := [(0, 13, 14, 15)]) (As := [.ref o, .int 2]) (rest := [.int 4, .int ((hv g L B n b 0) + (2 * (hv g L B n b 1)))]) ⟨hx, hb, hml, hown, hts⟩ (c_L_holds_v l hst D cs (AC s.heap.size AL) z0 sa o g L B n b hn hb5 2 hbd (by decide)) (vx_cwSW 2 hts gL_law_L_holds rfl rfl rfl (by decide +kernel) ⟨Nat.le_of_ble_eq_true rfl, Nat.le_of_ble_eq_true rfl⟩) ⟨pR_fb, fun U hU hV => ⟨rfl, hE0.law hS hsz hAL hV hU, by rw [hU]; exact hR, hnc.1.moved hV.alike, hnc.2.1.moved hV.alike, hnc.2.2.moved hV.alike⟩⟩ rfl rfl hl.1 rfl (lv_room (Nat.le_of_ble_eq_true rfl)) dL_law_547 ⟨by show _ ≤ (664879 : Nat); omega, by show _ ≤ (7106988 : Nat); omega⟩) hS (fun q _ h => h.1) (fun q h => h.1) (fun _ _ h => h.elim) (fun E9 ce9 q9 u9 t9 H9 locs9 ht9 hvm9 hpx9 hbx9 hz9 hk9 hS9 hc9 hv9 hl9 => hpx9.elim) (fun r_3 u t9 H locs ht hvm hw hB hz1 hk1 hS => ?_)
  rw [ht] at hB
  have hR := hB
  have hsz := Nat.le_trans hsz hz1
  have hA := hA.keptA (A1 := (AC s.heap.size AL)) (fun q hq z => z.2 hq) hk1
  obtain rfl : r_3 = hv g L B n b 2 := hw
  refine lv_imul hx hb dL_law_550 ?_
  refine lv_iadd hx hb dL_law_551 ?_
  rw [show (((hv g L B n b 0) + (2 * (hv g L B n b 1))) + (4 * (hv g L B n b 2)) : Int32) = held9 g L B n b from rfl]
  refine lv_istore (lv' := [(16, .int (held9 g L B n b)), (15, .int (nI k2)), (0, .ref b9), (1, .ref o), (2, .ref (adL 0)), (3, .ref (adL 1)), (4, .ref (adL 2)), (5, .int (nI n)), (6, .int (nI b)), (7, .int (g 1)), (8, .int (g 0)), (9, .int 1), (10, .int (nI k9)), (12, .int (nI z)), (14, .int (nI kk))]) hx hb dL_law_552 hl (by decide) rfl (fun ls hl => ?_)
  by_cases h1 : L 5 kk = 1
  ·
    by_cases h2 : L 5 k2 = 0
    ·
      by_cases hP : canSwap g L B n b (nI kk) (nI k2)
      ·
        refine lv_aload_n hx hb dL_law_554 rfl (lv_at hl 3 rfl) ?_
        refine lv_iload hx hb dL_law_555 (lv_at hl 14 rfl) ?_
        refine vx_calli (vx_runSX (hh := [(0, 5, 6, 23)]) (As := [.ref o, .int (nI kk)]) (rest := []) ⟨hx, hb, hml, hown, hts⟩ (c_L_state_0 l hst D cs (AC s.heap.size AL) z0 sa o g L B n b hn hb5 (nI kk) (kIx_nI hkk (by omega))) (vx_cwSW 2 hts gL_law_L_state rfl rfl rfl (by decide +kernel) ⟨Nat.le_of_ble_eq_true rfl, Nat.le_of_ble_eq_true rfl⟩) ⟨pR_fb, fun U hU hV => ⟨rfl, hE0.law hS hsz hAL hV hU, by rw [hU]; exact hR, hnc.1.moved hV.alike, hnc.2.1.moved hV.alike, hnc.2.2.moved hV.alike⟩⟩ rfl rfl hl.1 rfl (lv_room (Nat.le_of_ble_eq_true rfl)) dL_law_557 ⟨by show _ ≤ (664879 : Nat); omega, by show _ ≤ (7106988 : Nat); omega⟩) hS (fun q _ h => h.1) (fun q h => h.1) (fun _ _ h => h.elim) (fun E9 ce9 q9 u9 t9 H9 locs9 ht9 hvm9 hpx9 hbx9 hz9 hk9 hS9 hc9 hv9 hl9 => hpx9.elim) (fun r_4 u t9 H locs ht hvm hw hB hz1 hk1 hS => ?_)
        rw [ht] at hB
        simp only [ixN_nI (show kk < 1000 by omega)] at hw hB
        have hR : RC D cs (AC s.heap.size AL) z0 o g L B n b H := hB
        have hsz := Nat.le_trans hsz hz1
        have hA := hA.keptA (A1 := (AC s.heap.size AL)) (fun q hq z => z.2 hq) hk1
        obtain rfl : r_4 = L 5 (kk) := hw
        refine lv_iconst (v := 1) hx hb dL_law_560 (by decide) ?_
        refine lv_icmp_ne (tgt := 577) hx hb dL_law_561 (by decide) (fun c_5 => ?_) (fun c_5 => ?_)
        · -- L 5 (kk) ne 1 : True
          exact absurd (h1) c_5
        · -- L 5 (kk) ne 1 : False
          refine lv_aload_n hx hb dL_law_564 rfl (lv_at hl 3 rfl) ?_
          refine lv_iload hx hb dL_law_565 (lv_at hl 1 rfl) ?_
          refine vx_calli (vx_runSX (hh := [(0, 5, 6, 23)]) (As := [.ref o, .int (nI k2)]) (rest := []) ⟨hx, hb, hml, hown, hts⟩ (c_L_state_0 l hst D cs (AC s.heap.size AL) z0 sa o g L B n b hn hb5 (nI k2) (kIx_nI hk2 (by omega))) (vx_cwSW 2 hts gL_law_L_state rfl rfl rfl (by decide +kernel) ⟨Nat.le_of_ble_eq_true rfl, Nat.le_of_ble_eq_true rfl⟩) ⟨pR_fb, fun U hU hV => ⟨rfl, hE0.law hS hsz hAL hV hU, by rw [hU]; exact hR, hnc.1.moved hV.alike, hnc.2.1.moved hV.alike, hnc.2.2.moved hV.alike⟩⟩ rfl rfl hl.1 rfl (lv_room (Nat.le_of_ble_eq_true rfl)) dL_law_567 ⟨by show _ ≤ (664879 : Nat); omega, by show _ ≤ (7106988 : Nat); omega⟩) hS (fun q _ h => h.1) (fun q h => h.1) (fun _ _ h => h.elim) (fun E9 ce9 q9 u9 t9 H9 locs9 ht9 hvm9 hpx9 hbx9 hz9 hk9 hS9 hc9 hv9 hl9 => hpx9.elim) (fun r_6 u t9 H locs ht hvm hw hB hz1 hk1 hS => ?_)
          rw [ht] at hB
          simp only [ixN_nI (show k2 < 1000 by omega)] at hw hB
          have hR : RC D cs (AC s.heap.size AL) z0 o g L B n b H := hB
          have hsz := Nat.le_trans hsz hz1
          have hA := hA.keptA (A1 := (AC s.heap.size AL)) (fun q hq z => z.2 hq) hk1
          obtain rfl : r_6 = L 5 (k2) := hw
          refine lv_if_ne (tgt := 577) hx hb dL_law_570 (by decide) (fun c_7 => ?_) (fun c_7 => ?_)
          · -- L 5 (k2) ne 0 : True
            exact absurd (h2) c_7
          · -- L 5 (k2) ne 0 : False
            refine lv_iconst (v := 1) hx hb dL_law_573 (by decide) ?_
            refine lv_goto (tgt := 578) hx hb dL_law_574 (by decide) ?_
            refine lv_istore (lv' := [(17, .int 1), (16, .int (held9 g L B n b)), (15, .int (nI k2)), (0, .ref b9), (1, .ref o), (2, .ref (adL 0)), (3, .ref (adL 1)), (4, .ref (adL 2)), (5, .int (nI n)), (6, .int (nI b)), (7, .int (g 1)), (8, .int (g 0)), (9, .int 1), (10, .int (nI k9)), (12, .int (nI z)), (14, .int (nI kk))]) hx hb dL_law_578 hl (by decide) rfl (fun ls hl => ?_)
            refine lv_aload_n hx hb dL_law_580 rfl (lv_at hl 4 rfl) ?_
            refine lv_iload hx hb dL_law_581 (lv_at hl 15 rfl) ?_
            refine lv_iload hx hb dL_law_583 (lv_at hl 2 rfl) ?_
            refine vx_calli (vx_runSX (hh := [(0, 14, 15, 23), (0, 14, 19, 17)]) (As := [.ref o, .int (nI kk), .int (nI k2)]) (rest := []) ⟨hx, hb, hml, hown, hts⟩ (c_L_swap_0t l hst D cs (AC s.heap.size AL) z0 sa o g L B n b hn hb5 (nI kk) (nI k2) hbd (kSwap_00 hkk hk2 (by omega) h1 h2) hP) (vx_cwSW 3 hts gL_law_L_swap rfl rfl rfl (by decide +kernel) ⟨Nat.le_of_ble_eq_true rfl, Nat.le_of_ble_eq_true rfl⟩) ⟨pR_fb, fun U hU hV => ⟨rfl, hE0.law hS hsz hAL hV hU, by rw [hU]; exact hR, hnc.1.moved hV.alike, hnc.2.1.moved hV.alike, hnc.2.2.moved hV.alike⟩⟩ rfl rfl hl.1 rfl (lv_room (Nat.le_of_ble_eq_true rfl)) dL_law_585 ⟨by show _ ≤ (664879 : Nat); omega, by show _ ≤ (7106988 : Nat); omega⟩) hS (fun q _ h => h.1) (fun q h => h.1) (fun _ _ h => h.elim) (fun E9 ce9 q9 u9 t9 H9 locs9 ht9 hvm9 hpx9 hbx9 hz9 hk9 hS9 hc9 hv9 hl9 => hpx9.elim) (fun r_8 u t9 H locs ht hvm hw hB hz1 hk1 hS => ?_)
            rw [ht] at hB
            simp only [ixN_nI (show k2 < 1000 by omega), ixN_nI (show kk < 1000 by omega)] at hw hB
            have hR : RC D cs (AC s.heap.size AL) z0 o g (updL (updL L 5 (kk) 0) 5 (k2) 1) B n b H := hB
            have hsz := Nat.le_trans hsz hz1
            have hA := hA.keptA (A1 := (AC s.heap.size AL)) (fun q hq z => z.2 hq) hk1
            obtain rfl : r_8 = 1 := hw
            refine lv_istore (lv' := [(18, .int 1), (17, .int 1), (16, .int (held9 g L B n b)), (15, .int (nI k2)), (0, .ref b9), (1, .ref o), (2, .ref (adL 0)), (3, .ref (adL 1)), (4, .ref (adL 2)), (5, .int (nI n)), (6, .int (nI b)), (7, .int (g 1)), (8, .int (g 0)), (9, .int 1), (10, .int (nI k9)), (12, .int (nI z)), (14, .int (nI kk))]) hx hb dL_law_588 hl (by decide) rfl (fun ls hl => ?_)
            refine lv_aload_n hx hb dL_law_590 rfl (lv_at hl 5 rfl) ?_
            refine lv_iconst (v := 0) hx hb dL_law_591 (by decide) ?_
            refine vx_calli (vx_runSX (hh := [(0, 13, 14, 15)]) (As := [.ref o, .int 0]) (rest := []) ⟨hx, hb, hml, hown, hts⟩ (c_L_holds_v l hst D cs (AC s.heap.size AL) z0 sa o g (updL (updL L 5 (kk) 0) 5 (k2) 1) B n b hn hb5 0 ((hLV.k5 hkk 0).k5 hk2 1).1.bd (by decide)) (vx_cwSW 2 hts gL_law_L_holds rfl rfl rfl (by decide +kernel) ⟨Nat.le_of_ble_eq_true rfl, Nat.le_of_ble_eq_true rfl⟩) ⟨pR_fb, fun U hU hV => ⟨rfl, hE0.law hS hsz hAL hV hU, by rw [hU]; exact hR, hnc.1.moved hV.alike, hnc.2.1.moved hV.alike, hnc.2.2.moved hV.alike⟩⟩ rfl rfl hl.1 rfl (lv_room (Nat.le_of_ble_eq_true rfl)) dL_law_592 ⟨by show _ ≤ (664879 : Nat); omega, by show _ ≤ (7106988 : Nat); omega⟩) hS (fun q _ h => h.1) (fun q h => h.1) (fun _ _ h => h.elim) (fun E9 ce9 q9 u9 t9 H9 locs9 ht9 hvm9 hpx9 hbx9 hz9 hk9 hS9 hc9 hv9 hl9 => hpx9.elim) (fun r_9 u t9 H locs ht hvm hw hB hz1 hk1 hS => ?_)
            rw [ht] at hB
            have hR := hB
            have hsz := Nat.le_trans hsz hz1
            have hA := hA.keptA (A1 := (AC s.heap.size AL)) (fun q hq z => z.2 hq) hk1
            obtain rfl : r_9 = hv g (updL (updL L 5 (kk) 0) 5 (k2) 1) B n b 0 := hw
            refine lv_iconst (v := 2) hx hb dL_law_595 (by decide) ?_
            refine lv_aload_n hx hb dL_law_596 rfl (lv_at hl 5 rfl) ?_
            refine lv_iconst (v := 1) hx hb dL_law_597 (by decide) ?_
            refine vx_calli (vx_runSX (hh := [(0, 13, 14, 15)]) (As := [.ref o, .int 1]) (rest := [.int 2, .int (hv g (updL (updL L 5 (kk) 0) 5 (k2) 1) B n b 0)]) ⟨hx, hb, hml, hown, hts⟩ (c_L_holds_v l hst D cs (AC s.heap.size AL) z0 sa o g (updL (updL L 5 (kk) 0) 5 (k2) 1) B n b hn hb5 1 ((hLV.k5 hkk 0).k5 hk2 1).1.bd (by decide)) (vx_cwSW 2 hts gL_law_L_holds rfl rfl rfl (by decide +kernel) ⟨Nat.le_of_ble_eq_true rfl, Nat.le_of_ble_eq_true rfl⟩) ⟨pR_fb, fun U hU hV => ⟨rfl, hE0.law hS hsz hAL hV hU, by rw [hU]; exact hR, hnc.1.moved hV.alike, hnc.2.1.moved hV.alike, hnc.2.2.moved hV.alike⟩⟩ rfl rfl hl.1 rfl (lv_room (Nat.le_of_ble_eq_true rfl)) dL_law_598 ⟨by show _ ≤ (664879 : Nat); omega, by show _ ≤ (7106988 : Nat); omega⟩) hS (fun q _ h => h.1) (fun q h => h.1) (fun _ _ h => h.elim) (fun E9 ce9 q9 u9 t9 H9 locs9 ht9 hvm9 hpx9 hbx9 hz9 hk9 hS9 hc9 hv9 hl9 => hpx9.elim) (fun r_10 u t9 H locs ht hvm hw hB hz1 hk1 hS => ?_)
            rw [ht] at hB
            have hR := hB
            have hsz := Nat.le_trans hsz hz1
            have hA := hA.keptA (A1 := (AC s.heap.size AL)) (fun q hq z => z.2 hq) hk1
            obtain rfl : r_10 = hv g (updL (updL L 5 (kk) 0) 5 (k2) 1) B n b 1 := hw
            refine lv_imul hx hb dL_law_601 ?_
            refine lv_iadd hx hb dL_law_602 ?_
            refine lv_iconst (v := 4) hx hb dL_law_603 (by decide) ?_
            refine lv_aload_n hx hb dL_law_604 rfl (lv_at hl 5 rfl) ?_
            refine lv_iconst (v := 2) hx hb dL_law_605 (by decide) ?_
            refine vx_calli (vx_runSX (hh := [(0, 13, 14, 15)]) (As := [.ref o, .int 2]) (rest := [.int 4, .int ((hv g (updL (updL L 5 (kk) 0) 5 (k2) 1) B n b 0) + (2 * (hv g (updL (updL L 5 (kk) 0) 5 (k2) 1) B n b 1)))]) ⟨hx, hb, hml, hown, hts⟩ (c_L_holds_v l hst D cs (AC s.heap.size AL) z0 sa o g (updL (updL L 5 (kk) 0) 5 (k2) 1) B n b hn hb5 2 ((hLV.k5 hkk 0).k5 hk2 1).1.bd (by decide)) (vx_cwSW 2 hts gL_law_L_holds rfl rfl rfl (by decide +kernel) ⟨Nat.le_of_ble_eq_true rfl, Nat.le_of_ble_eq_true rfl⟩) ⟨pR_fb, fun U hU hV => ⟨rfl, hE0.law hS hsz hAL hV hU, by rw [hU]; exact hR, hnc.1.moved hV.alike, hnc.2.1.moved hV.alike, hnc.2.2.moved hV.alike⟩⟩ rfl rfl hl.1 rfl (lv_room (Nat.le_of_ble_eq_true rfl)) dL_law_606 ⟨by show _ ≤ (664879 : Nat); omega, by show _ ≤ (7106988 : Nat); omega⟩) hS (fun q _ h => h.1) (fun q h => h.1) (fun _ _ h => h.elim) (fun E9 ce9 q9 u9 t9 H9 locs9 ht9 hvm9 hpx9 hbx9 hz9 hk9 hS9 hc9 hv9 hl9 => hpx9.elim) (fun r_11 u t9 H locs ht hvm hw hB hz1 hk1 hS => ?_)
            rw [ht] at hB
            have hR := hB
            have hsz := Nat.le_trans hsz hz1
            have hA := hA.keptA (A1 := (AC s.heap.size AL)) (fun q hq z => z.2 hq) hk1
            obtain rfl : r_11 = hv g (updL (updL L 5 (kk) 0) 5 (k2) 1) B n b 2 := hw
            refine lv_imul hx hb dL_law_609 ?_
            refine lv_iadd hx hb dL_law_610 ?_
            rw [show (((hv g (updL (updL L 5 (kk) 0) 5 (k2) 1) B n b 0) + (2 * (hv g (updL (updL L 5 (kk) 0) 5 (k2) 1) B n b 1))) + (4 * (hv g (updL (updL L 5 (kk) 0) 5 (k2) 1) B n b 2)) : Int32) = held9 g (updL (updL L 5 (kk) 0) 5 (k2) 1) B n b from rfl]
            refine lv_istore (lv' := [(19, .int (held9 g (updL (updL L 5 (kk) 0) 5 (k2) 1) B n b)), (18, .int 1), (17, .int 1), (16, .int (held9 g L B n b)), (15, .int (nI k2)), (0, .ref b9), (1, .ref o), (2, .ref (adL 0)), (3, .ref (adL 1)), (4, .ref (adL 2)), (5, .int (nI n)), (6, .int (nI b)), (7, .int (g 1)), (8, .int (g 0)), (9, .int 1), (10, .int (nI k9)), (12, .int (nI z)), (14, .int (nI kk))]) hx hb dL_law_611 hl (by decide) rfl (fun ls hl => ?_)
            refine lv_iload hx hb dL_law_613 (lv_at hl 2 rfl) ?_
            refine lv_if_eq (tgt := 660) hx hb dL_law_615 (by decide) (fun c_12 => ?_) (fun c_12 => ?_)
            · -- 1 eq 0 : True
              exact absurd c_12 (by decide)
            · -- 1 eq 0 : False
              refine lv_iload hx hb dL_law_618 (lv_at hl 3 rfl) ?_
              refine lv_iload hx hb dL_law_620 (lv_at hl 0 rfl) ?_
              refine lv_iconst (v := (-1)) hx hb dL_law_622 (by decide) ?_
              refine lv_ixor hx hb dL_law_623 ?_
              refine lv_iand hx hb dL_law_624 ?_
              refine lv_if_ne (tgt := 656) hx hb dL_law_625 (by decide) (fun c_13 => ?_) (fun c_13 => ?_)
              · -- (held9 g L B n b) &&& ((held9 g (updL (updL L 5 (kk) 0) 5 (k2) 1) B n b) ^^^ (-1)) ne 0 : True
                exact absurd (swap_held hn hkk hk2 h1 h2 hP) c_13
              · -- (held9 g L B n b) &&& ((held9 g (updL (updL L 5 (kk) 0) 5 (k2) 1) B n b) ^^^ (-1)) ne 0 : False
                refine lv_aload_n hx hb dL_law_628 rfl (lv_at hl 6 rfl) ?_
                refine lv_iload hx hb dL_law_629 (lv_at hl 17 rfl) ?_
                refine vx_calli (vx_runSX (hh := [(0, 5, 6, 23)]) (As := [.ref o, .int (nI kk)]) (rest := []) ⟨hx, hb, hml, hown, hts⟩ (c_L_state_0 l hst D cs (AC s.heap.size AL) z0 sa o g (updL (updL L 5 (kk) 0) 5 (k2) 1) B n b hn hb5 (nI kk) (kIx_nI hkk (by omega))) (vx_cwSW 2 hts gL_law_L_state rfl rfl rfl (by decide +kernel) ⟨Nat.le_of_ble_eq_true rfl, Nat.le_of_ble_eq_true rfl⟩) ⟨pR_fb, fun U hU hV => ⟨rfl, hE0.law hS hsz hAL hV hU, by rw [hU]; exact hR, hnc.1.moved hV.alike, hnc.2.1.moved hV.alike, hnc.2.2.moved hV.alike⟩⟩ rfl rfl hl.1 rfl (lv_room (Nat.le_of_ble_eq_true rfl)) dL_law_631 ⟨by show _ ≤ (664879 : Nat); omega, by show _ ≤ (7106988 : Nat); omega⟩) hS (fun q _ h => h.1) (fun q h => h.1) (fun _ _ h => h.elim) (fun E9 ce9 q9 u9 t9 H9 locs9 ht9 hvm9 hpx9 hbx9 hz9 hk9 hS9 hc9 hv9 hl9 => hpx9.elim) (fun r_14 u t9 H locs ht hvm hw hB hz1 hk1 hS => ?_)
                rw [ht] at hB
                simp only [ixN_nI (show kk < 1000 by omega)] at hw hB
                have hR : RC D cs (AC s.heap.size AL) z0 o g (updL (updL L 5 (kk) 0) 5 (k2) 1) B n b H := hB
                have hsz := Nat.le_trans hsz hz1
                have hA := hA.keptA (A1 := (AC s.heap.size AL)) (fun q hq z => z.2 hq) hk1
                obtain rfl : r_14 = (updL (updL L 5 (kk) 0) 5 (k2) 1) 5 (kk) := hw
                rw [show ((updL (updL L 5 (kk) 0) 5 (k2) 1) 5 (kk) : Int32) = 0 from by rw [updL_ni _ _ _ _ (fun e9 => absurd (h1.symm.trans ((congrArg (L 5) e9).trans h2)) (by decide)), updL_at]]
                refine lv_iconst (v := 1) hx hb dL_law_634 (by decide) ?_
                refine lv_iload hx hb dL_law_635 (lv_at hl 1 rfl) ?_
                refine lv_isub hx hb dL_law_637 ?_
                refine lv_icmp_ne (tgt := 656) hx hb dL_law_638 (by decide) (fun c_15 => ?_) (fun c_15 => ?_)
                · -- 0 ne 1 - 1 : True
                  exact absurd (by decide) c_15
                · -- 0 ne 1 - 1 : False
                  refine lv_aload_n hx hb dL_law_641 rfl (lv_at hl 6 rfl) ?_
                  refine lv_iload hx hb dL_law_642 (lv_at hl 4 rfl) ?_
                  refine vx_calli (vx_runSX (hh := [(0, 5, 6, 23)]) (As := [.ref o, .int (nI k2)]) (rest := []) ⟨hx, hb, hml, hown, hts⟩ (c_L_state_0 l hst D cs (AC s.heap.size AL) z0 sa o g (updL (updL L 5 (kk) 0) 5 (k2) 1) B n b hn hb5 (nI k2) (kIx_nI hk2 (by omega))) (vx_cwSW 2 hts gL_law_L_state rfl rfl rfl (by decide +kernel) ⟨Nat.le_of_ble_eq_true rfl, Nat.le_of_ble_eq_true rfl⟩) ⟨pR_fb, fun U hU hV => ⟨rfl, hE0.law hS hsz hAL hV hU, by rw [hU]; exact hR, hnc.1.moved hV.alike, hnc.2.1.moved hV.alike, hnc.2.2.moved hV.alike⟩⟩ rfl rfl hl.1 rfl (lv_room (Nat.le_of_ble_eq_true rfl)) dL_law_644 ⟨by show _ ≤ (664879 : Nat); omega, by show _ ≤ (7106988 : Nat); omega⟩) hS (fun q _ h => h.1) (fun q h => h.1) (fun _ _ h => h.elim) (fun E9 ce9 q9 u9 t9 H9 locs9 ht9 hvm9 hpx9 hbx9 hz9 hk9 hS9 hc9 hv9 hl9 => hpx9.elim) (fun r_16 u t9 H locs ht hvm hw hB hz1 hk1 hS => ?_)
                  rw [ht] at hB
                  simp only [ixN_nI (show k2 < 1000 by omega)] at hw hB
                  have hR : RC D cs (AC s.heap.size AL) z0 o g (updL (updL L 5 (kk) 0) 5 (k2) 1) B n b H := hB
                  have hsz := Nat.le_trans hsz hz1
                  have hA := hA.keptA (A1 := (AC s.heap.size AL)) (fun q hq z => z.2 hq) hk1
                  obtain rfl : r_16 = (updL (updL L 5 (kk) 0) 5 (k2) 1) 5 (k2) := hw
                  rw [show ((updL (updL L 5 (kk) 0) 5 (k2) 1) 5 (k2) : Int32) = 1 from updL_at _ _ _ _]
                  refine lv_iload hx hb dL_law_647 (lv_at hl 1 rfl) ?_
                  refine lv_icmp_ne (tgt := 656) hx hb dL_law_649 (by decide) (fun c_17 => ?_) (fun c_17 => ?_)
                  · -- 1 ne 1 : True
                    exact absurd c_17 (by decide)
                  · -- 1 ne 1 : False
                    refine lv_iconst (v := 1) hx hb dL_law_652 (by decide) ?_
                    refine lv_goto (tgt := 672) hx hb dL_law_653 (by decide) ?_
                    refine lv_istore (lv' := [(9, .int 1), (19, .int (held9 g (updL (updL L 5 (kk) 0) 5 (k2) 1) B n b)), (18, .int 1), (17, .int 1), (16, .int (held9 g L B n b)), (15, .int (nI k2)), (0, .ref b9), (1, .ref o), (2, .ref (adL 0)), (3, .ref (adL 1)), (4, .ref (adL 2)), (5, .int (nI n)), (6, .int (nI b)), (7, .int (g 1)), (8, .int (g 0)), (10, .int (nI k9)), (12, .int (nI z)), (14, .int (nI kk))]) hx hb dL_law_672 hl (by decide) rfl (fun ls hl => ?_)
                    refine lv_goto (tgt := 1237) hx hb dL_law_674 (by decide) ?_
                    refine W.widen (k := 1030 + 2000 * k9) (n := 10300 + 20000 * k9) (by omega) (by omega) ?_
                    exact KK _ _ _ fa fd fs g (updL (updL L 5 (kk) 0) 5 (k2) 1) B n b ⟨hR, hA, hsz, hS, (((hLV.k5 hkk 0).k5 hk2 1)).k⟩ (lv_sub hl [6, 7, 8, 9, 10, 11, 12, 13, 14, 0, 15] rfl)
      ·
        refine lv_aload_n hx hb dL_law_554 rfl (lv_at hl 3 rfl) ?_
        refine lv_iload hx hb dL_law_555 (lv_at hl 14 rfl) ?_
        refine vx_calli (vx_runSX (hh := [(0, 5, 6, 23)]) (As := [.ref o, .int (nI kk)]) (rest := []) ⟨hx, hb, hml, hown, hts⟩ (c_L_state_0 l hst D cs (AC s.heap.size AL) z0 sa o g L B n b hn hb5 (nI kk) (kIx_nI hkk (by omega))) (vx_cwSW 2 hts gL_law_L_state rfl rfl rfl (by decide +kernel) ⟨Nat.le_of_ble_eq_true rfl, Nat.le_of_ble_eq_true rfl⟩) ⟨pR_fb, fun U hU hV => ⟨rfl, hE0.law hS hsz hAL hV hU, by rw [hU]; exact hR, hnc.1.moved hV.alike, hnc.2.1.moved hV.alike, hnc.2.2.moved hV.alike⟩⟩ rfl rfl hl.1 rfl (lv_room (Nat.le_of_ble_eq_true rfl)) dL_law_557 ⟨by show _ ≤ (664879 : Nat); omega, by show _ ≤ (7106988 : Nat); omega⟩) hS (fun q _ h => h.1) (fun q h => h.1) (fun _ _ h => h.elim) (fun E9 ce9 q9 u9 t9 H9 locs9 ht9 hvm9 hpx9 hbx9 hz9 hk9 hS9 hc9 hv9 hl9 => hpx9.elim) (fun r_18 u t9 H locs ht hvm hw hB hz1 hk1 hS => ?_)
        rw [ht] at hB
        simp only [ixN_nI (show kk < 1000 by omega)] at hw hB
        have hR : RC D cs (AC s.heap.size AL) z0 o g L B n b H := hB
        have hsz := Nat.le_trans hsz hz1
        have hA := hA.keptA (A1 := (AC s.heap.size AL)) (fun q hq z => z.2 hq) hk1
        obtain rfl : r_18 = L 5 (kk) := hw
        refine lv_iconst (v := 1) hx hb dL_law_560 (by decide) ?_
        refine lv_icmp_ne (tgt := 577) hx hb dL_law_561 (by decide) (fun c_19 => ?_) (fun c_19 => ?_)
        · -- L 5 (kk) ne 1 : True
          exact absurd (h1) c_19
        · -- L 5 (kk) ne 1 : False
          refine lv_aload_n hx hb dL_law_564 rfl (lv_at hl 3 rfl) ?_
          refine lv_iload hx hb dL_law_565 (lv_at hl 1 rfl) ?_
          refine vx_calli (vx_runSX (hh := [(0, 5, 6, 23)]) (As := [.ref o, .int (nI k2)]) (rest := []) ⟨hx, hb, hml, hown, hts⟩ (c_L_state_0 l hst D cs (AC s.heap.size AL) z0 sa o g L B n b hn hb5 (nI k2) (kIx_nI hk2 (by omega))) (vx_cwSW 2 hts gL_law_L_state rfl rfl rfl (by decide +kernel) ⟨Nat.le_of_ble_eq_true rfl, Nat.le_of_ble_eq_true rfl⟩) ⟨pR_fb, fun U hU hV => ⟨rfl, hE0.law hS hsz hAL hV hU, by rw [hU]; exact hR, hnc.1.moved hV.alike, hnc.2.1.moved hV.alike, hnc.2.2.moved hV.alike⟩⟩ rfl rfl hl.1 rfl (lv_room (Nat.le_of_ble_eq_true rfl)) dL_law_567 ⟨by show _ ≤ (664879 : Nat); omega, by show _ ≤ (7106988 : Nat); omega⟩) hS (fun q _ h => h.1) (fun q h => h.1) (fun _ _ h => h.elim) (fun E9 ce9 q9 u9 t9 H9 locs9 ht9 hvm9 hpx9 hbx9 hz9 hk9 hS9 hc9 hv9 hl9 => hpx9.elim) (fun r_20 u t9 H locs ht hvm hw hB hz1 hk1 hS => ?_)
          rw [ht] at hB
          simp only [ixN_nI (show k2 < 1000 by omega)] at hw hB
          have hR : RC D cs (AC s.heap.size AL) z0 o g L B n b H := hB
          have hsz := Nat.le_trans hsz hz1
          have hA := hA.keptA (A1 := (AC s.heap.size AL)) (fun q hq z => z.2 hq) hk1
          obtain rfl : r_20 = L 5 (k2) := hw
          refine lv_if_ne (tgt := 577) hx hb dL_law_570 (by decide) (fun c_21 => ?_) (fun c_21 => ?_)
          · -- L 5 (k2) ne 0 : True
            exact absurd (h2) c_21
          · -- L 5 (k2) ne 0 : False
            refine lv_iconst (v := 1) hx hb dL_law_573 (by decide) ?_
            refine lv_goto (tgt := 578) hx hb dL_law_574 (by decide) ?_
            refine lv_istore (lv' := [(17, .int 1), (16, .int (held9 g L B n b)), (15, .int (nI k2)), (0, .ref b9), (1, .ref o), (2, .ref (adL 0)), (3, .ref (adL 1)), (4, .ref (adL 2)), (5, .int (nI n)), (6, .int (nI b)), (7, .int (g 1)), (8, .int (g 0)), (9, .int 1), (10, .int (nI k9)), (12, .int (nI z)), (14, .int (nI kk))]) hx hb dL_law_578 hl (by decide) rfl (fun ls hl => ?_)
            refine lv_aload_n hx hb dL_law_580 rfl (lv_at hl 4 rfl) ?_
            refine lv_iload hx hb dL_law_581 (lv_at hl 15 rfl) ?_
            refine lv_iload hx hb dL_law_583 (lv_at hl 2 rfl) ?_
            refine vx_calli (vx_runSX (hh := [(0, 14, 15, 23), (0, 14, 19, 17)]) (As := [.ref o, .int (nI kk), .int (nI k2)]) (rest := []) ⟨hx, hb, hml, hown, hts⟩ (c_L_swap_0f l hst D cs (AC s.heap.size AL) z0 sa o g L B n b hn hb5 (nI kk) (nI k2) hbd (kSwap_00 hkk hk2 (by omega) h1 h2) hP) (vx_cwSW 3 hts gL_law_L_swap rfl rfl rfl (by decide +kernel) ⟨Nat.le_of_ble_eq_true rfl, Nat.le_of_ble_eq_true rfl⟩) ⟨pR_fb, fun U hU hV => ⟨rfl, hE0.law hS hsz hAL hV hU, by rw [hU]; exact hR, hnc.1.moved hV.alike, hnc.2.1.moved hV.alike, hnc.2.2.moved hV.alike⟩⟩ rfl rfl hl.1 rfl (lv_room (Nat.le_of_ble_eq_true rfl)) dL_law_585 ⟨by show _ ≤ (664879 : Nat); omega, by show _ ≤ (7106988 : Nat); omega⟩) hS (fun q _ h => h.1) (fun q h => h.1) (fun _ _ h => h.elim) (fun E9 ce9 q9 u9 t9 H9 locs9 ht9 hvm9 hpx9 hbx9 hz9 hk9 hS9 hc9 hv9 hl9 => hpx9.elim) (fun r_22 u t9 H locs ht hvm hw hB hz1 hk1 hS => ?_)
            rw [ht] at hB
            have hR : RC D cs (AC s.heap.size AL) z0 o g L B n b H := hB
            have hsz := Nat.le_trans hsz hz1
            have hA := hA.keptA (A1 := (AC s.heap.size AL)) (fun q hq z => z.2 hq) hk1
            obtain rfl : r_22 = 0 := hw
            refine lv_istore (lv' := [(18, .int 0), (17, .int 1), (16, .int (held9 g L B n b)), (15, .int (nI k2)), (0, .ref b9), (1, .ref o), (2, .ref (adL 0)), (3, .ref (adL 1)), (4, .ref (adL 2)), (5, .int (nI n)), (6, .int (nI b)), (7, .int (g 1)), (8, .int (g 0)), (9, .int 1), (10, .int (nI k9)), (12, .int (nI z)), (14, .int (nI kk))]) hx hb dL_law_588 hl (by decide) rfl (fun ls hl => ?_)
            refine lv_aload_n hx hb dL_law_590 rfl (lv_at hl 5 rfl) ?_
            refine lv_iconst (v := 0) hx hb dL_law_591 (by decide) ?_
            refine vx_calli (vx_runSX (hh := [(0, 13, 14, 15)]) (As := [.ref o, .int 0]) (rest := []) ⟨hx, hb, hml, hown, hts⟩ (c_L_holds_v l hst D cs (AC s.heap.size AL) z0 sa o g L B n b hn hb5 0 hbd (by decide)) (vx_cwSW 2 hts gL_law_L_holds rfl rfl rfl (by decide +kernel) ⟨Nat.le_of_ble_eq_true rfl, Nat.le_of_ble_eq_true rfl⟩) ⟨pR_fb, fun U hU hV => ⟨rfl, hE0.law hS hsz hAL hV hU, by rw [hU]; exact hR, hnc.1.moved hV.alike, hnc.2.1.moved hV.alike, hnc.2.2.moved hV.alike⟩⟩ rfl rfl hl.1 rfl (lv_room (Nat.le_of_ble_eq_true rfl)) dL_law_592 ⟨by show _ ≤ (664879 : Nat); omega, by show _ ≤ (7106988 : Nat); omega⟩) hS (fun q _ h => h.1) (fun q h => h.1) (fun _ _ h => h.elim) (fun E9 ce9 q9 u9 t9 H9 locs9 ht9 hvm9 hpx9 hbx9 hz9 hk9 hS9 hc9 hv9 hl9 => hpx9.elim) (fun r_23 u t9 H locs ht hvm hw hB hz1 hk1 hS => ?_)
            rw [ht] at hB
            have hR := hB
            have hsz := Nat.le_trans hsz hz1
            have hA := hA.keptA (A1 := (AC s.heap.size AL)) (fun q hq z => z.2 hq) hk1
            obtain rfl : r_23 = hv g L B n b 0 := hw
            refine lv_iconst (v := 2) hx hb dL_law_595 (by decide) ?_
            refine lv_aload_n hx hb dL_law_596 rfl (lv_at hl 5 rfl) ?_
            refine lv_iconst (v := 1) hx hb dL_law_597 (by decide) ?_
            refine vx_calli (vx_runSX (hh := [(0, 13, 14, 15)]) (As := [.ref o, .int 1]) (rest := [.int 2, .int (hv g L B n b 0)]) ⟨hx, hb, hml, hown, hts⟩ (c_L_holds_v l hst D cs (AC s.heap.size AL) z0 sa o g L B n b hn hb5 1 hbd (by decide)) (vx_cwSW 2 hts gL_law_L_holds rfl rfl rfl (by decide +kernel) ⟨Nat.le_of_ble_eq_true rfl, Nat.le_of_ble_eq_true rfl⟩) ⟨pR_fb, fun U hU hV => ⟨rfl, hE0.law hS hsz hAL hV hU, by rw [hU]; exact hR, hnc.1.moved hV.alike, hnc.2.1.moved hV.alike, hnc.2.2.moved hV.alike⟩⟩ rfl rfl hl.1 rfl (lv_room (Nat.le_of_ble_eq_true rfl)) dL_law_598 ⟨by show _ ≤ (664879 : Nat); omega, by show _ ≤ (7106988 : Nat); omega⟩) hS (fun q _ h => h.1) (fun q h => h.1) (fun _ _ h => h.elim) (fun E9 ce9 q9 u9 t9 H9 locs9 ht9 hvm9 hpx9 hbx9 hz9 hk9 hS9 hc9 hv9 hl9 => hpx9.elim) (fun r_24 u t9 H locs ht hvm hw hB hz1 hk1 hS => ?_)
            rw [ht] at hB
            have hR := hB
            have hsz := Nat.le_trans hsz hz1
            have hA := hA.keptA (A1 := (AC s.heap.size AL)) (fun q hq z => z.2 hq) hk1
            obtain rfl : r_24 = hv g L B n b 1 := hw
            refine lv_imul hx hb dL_law_601 ?_
            refine lv_iadd hx hb dL_law_602 ?_
            refine lv_iconst (v := 4) hx hb dL_law_603 (by decide) ?_
            refine lv_aload_n hx hb dL_law_604 rfl (lv_at hl 5 rfl) ?_
            refine lv_iconst (v := 2) hx hb dL_law_605 (by decide) ?_
            refine vx_calli (vx_runSX (hh := [(0, 13, 14, 15)]) (As := [.ref o, .int 2]) (rest := [.int 4, .int ((hv g L B n b 0) + (2 * (hv g L B n b 1)))]) ⟨hx, hb, hml, hown, hts⟩ (c_L_holds_v l hst D cs (AC s.heap.size AL) z0 sa o g L B n b hn hb5 2 hbd (by decide)) (vx_cwSW 2 hts gL_law_L_holds rfl rfl rfl (by decide +kernel) ⟨Nat.le_of_ble_eq_true rfl, Nat.le_of_ble_eq_true rfl⟩) ⟨pR_fb, fun U hU hV => ⟨rfl, hE0.law hS hsz hAL hV hU, by rw [hU]; exact hR, hnc.1.moved hV.alike, hnc.2.1.moved hV.alike, hnc.2.2.moved hV.alike⟩⟩ rfl rfl hl.1 rfl (lv_room (Nat.le_of_ble_eq_true rfl)) dL_law_606 ⟨by show _ ≤ (664879 : Nat); omega, by show _ ≤ (7106988 : Nat); omega⟩) hS (fun q _ h => h.1) (fun q h => h.1) (fun _ _ h => h.elim) (fun E9 ce9 q9 u9 t9 H9 locs9 ht9 hvm9 hpx9 hbx9 hz9 hk9 hS9 hc9 hv9 hl9 => hpx9.elim) (fun r_25 u t9 H locs ht hvm hw hB hz1 hk1 hS => ?_)
            rw [ht] at hB
            have hR := hB
            have hsz := Nat.le_trans hsz hz1
            have hA := hA.keptA (A1 := (AC s.heap.size AL)) (fun q hq z => z.2 hq) hk1
            obtain rfl : r_25 = hv g L B n b 2 := hw
            refine lv_imul hx hb dL_law_609 ?_
            refine lv_iadd hx hb dL_law_610 ?_
            rw [show (((hv g L B n b 0) + (2 * (hv g L B n b 1))) + (4 * (hv g L B n b 2)) : Int32) = held9 g L B n b from rfl]
            refine lv_istore (lv' := [(19, .int (held9 g L B n b)), (18, .int 0), (17, .int 1), (16, .int (held9 g L B n b)), (15, .int (nI k2)), (0, .ref b9), (1, .ref o), (2, .ref (adL 0)), (3, .ref (adL 1)), (4, .ref (adL 2)), (5, .int (nI n)), (6, .int (nI b)), (7, .int (g 1)), (8, .int (g 0)), (9, .int 1), (10, .int (nI k9)), (12, .int (nI z)), (14, .int (nI kk))]) hx hb dL_law_611 hl (by decide) rfl (fun ls hl => ?_)
            refine lv_iload hx hb dL_law_613 (lv_at hl 2 rfl) ?_
            refine lv_if_eq (tgt := 660) hx hb dL_law_615 (by decide) (fun c_26 => ?_) (fun c_26 => ?_)
            · -- 1 eq 0 : True
              exact absurd c_26 (by decide)
            · -- 1 eq 0 : False
              refine lv_iload hx hb dL_law_618 (lv_at hl 3 rfl) ?_
              refine lv_iload hx hb dL_law_620 (lv_at hl 0 rfl) ?_
              refine lv_iconst (v := (-1)) hx hb dL_law_622 (by decide) ?_
              refine lv_ixor hx hb dL_law_623 ?_
              refine lv_iand hx hb dL_law_624 ?_
              refine lv_if_ne (tgt := 656) hx hb dL_law_625 (by decide) (fun c_27 => ?_) (fun c_27 => ?_)
              · -- (held9 g L B n b) &&& ((held9 g L B n b) ^^^ (-1)) ne 0 : True
                exact absurd (held_self _ _ _ _ _) c_27
              · -- (held9 g L B n b) &&& ((held9 g L B n b) ^^^ (-1)) ne 0 : False
                refine lv_aload_n hx hb dL_law_628 rfl (lv_at hl 6 rfl) ?_
                refine lv_iload hx hb dL_law_629 (lv_at hl 17 rfl) ?_
                refine vx_calli (vx_runSX (hh := [(0, 5, 6, 23)]) (As := [.ref o, .int (nI kk)]) (rest := []) ⟨hx, hb, hml, hown, hts⟩ (c_L_state_0 l hst D cs (AC s.heap.size AL) z0 sa o g L B n b hn hb5 (nI kk) (kIx_nI hkk (by omega))) (vx_cwSW 2 hts gL_law_L_state rfl rfl rfl (by decide +kernel) ⟨Nat.le_of_ble_eq_true rfl, Nat.le_of_ble_eq_true rfl⟩) ⟨pR_fb, fun U hU hV => ⟨rfl, hE0.law hS hsz hAL hV hU, by rw [hU]; exact hR, hnc.1.moved hV.alike, hnc.2.1.moved hV.alike, hnc.2.2.moved hV.alike⟩⟩ rfl rfl hl.1 rfl (lv_room (Nat.le_of_ble_eq_true rfl)) dL_law_631 ⟨by show _ ≤ (664879 : Nat); omega, by show _ ≤ (7106988 : Nat); omega⟩) hS (fun q _ h => h.1) (fun q h => h.1) (fun _ _ h => h.elim) (fun E9 ce9 q9 u9 t9 H9 locs9 ht9 hvm9 hpx9 hbx9 hz9 hk9 hS9 hc9 hv9 hl9 => hpx9.elim) (fun r_28 u t9 H locs ht hvm hw hB hz1 hk1 hS => ?_)
                rw [ht] at hB
                simp only [ixN_nI (show kk < 1000 by omega)] at hw hB
                have hR : RC D cs (AC s.heap.size AL) z0 o g L B n b H := hB
                have hsz := Nat.le_trans hsz hz1
                have hA := hA.keptA (A1 := (AC s.heap.size AL)) (fun q hq z => z.2 hq) hk1
                obtain rfl : r_28 = L 5 (kk) := hw
                rw [show (L 5 (kk) : Int32) = 1 from h1]
                refine lv_iconst (v := 1) hx hb dL_law_634 (by decide) ?_
                refine lv_iload hx hb dL_law_635 (lv_at hl 1 rfl) ?_
                refine lv_isub hx hb dL_law_637 ?_
                refine lv_icmp_ne (tgt := 656) hx hb dL_law_638 (by decide) (fun c_29 => ?_) (fun c_29 => ?_)
                · -- 1 ne 1 - 0 : True
                  exact absurd (by decide) c_29
                · -- 1 ne 1 - 0 : False
                  refine lv_aload_n hx hb dL_law_641 rfl (lv_at hl 6 rfl) ?_
                  refine lv_iload hx hb dL_law_642 (lv_at hl 4 rfl) ?_
                  refine vx_calli (vx_runSX (hh := [(0, 5, 6, 23)]) (As := [.ref o, .int (nI k2)]) (rest := []) ⟨hx, hb, hml, hown, hts⟩ (c_L_state_0 l hst D cs (AC s.heap.size AL) z0 sa o g L B n b hn hb5 (nI k2) (kIx_nI hk2 (by omega))) (vx_cwSW 2 hts gL_law_L_state rfl rfl rfl (by decide +kernel) ⟨Nat.le_of_ble_eq_true rfl, Nat.le_of_ble_eq_true rfl⟩) ⟨pR_fb, fun U hU hV => ⟨rfl, hE0.law hS hsz hAL hV hU, by rw [hU]; exact hR, hnc.1.moved hV.alike, hnc.2.1.moved hV.alike, hnc.2.2.moved hV.alike⟩⟩ rfl rfl hl.1 rfl (lv_room (Nat.le_of_ble_eq_true rfl)) dL_law_644 ⟨by show _ ≤ (664879 : Nat); omega, by show _ ≤ (7106988 : Nat); omega⟩) hS (fun q _ h => h.1) (fun q h => h.1) (fun _ _ h => h.elim) (fun E9 ce9 q9 u9 t9 H9 locs9 ht9 hvm9 hpx9 hbx9 hz9 hk9 hS9 hc9 hv9 hl9 => hpx9.elim) (fun r_30 u t9 H locs ht hvm hw hB hz1 hk1 hS => ?_)
                  rw [ht] at hB
                  simp only [ixN_nI (show k2 < 1000 by omega)] at hw hB
                  have hR : RC D cs (AC s.heap.size AL) z0 o g L B n b H := hB
                  have hsz := Nat.le_trans hsz hz1
                  have hA := hA.keptA (A1 := (AC s.heap.size AL)) (fun q hq z => z.2 hq) hk1
                  obtain rfl : r_30 = L 5 (k2) := hw
                  rw [show (L 5 (k2) : Int32) = 0 from h2]
                  refine lv_iload hx hb dL_law_647 (lv_at hl 1 rfl) ?_
                  refine lv_icmp_ne (tgt := 656) hx hb dL_law_649 (by decide) (fun c_31 => ?_) (fun c_31 => ?_)
                  · -- 0 ne 0 : True
                    exact absurd c_31 (by decide)
                  · -- 0 ne 0 : False
                    refine lv_iconst (v := 1) hx hb dL_law_652 (by decide) ?_
                    refine lv_goto (tgt := 672) hx hb dL_law_653 (by decide) ?_
                    refine lv_istore (lv' := [(9, .int 1), (19, .int (held9 g L B n b)), (18, .int 0), (17, .int 1), (16, .int (held9 g L B n b)), (15, .int (nI k2)), (0, .ref b9), (1, .ref o), (2, .ref (adL 0)), (3, .ref (adL 1)), (4, .ref (adL 2)), (5, .int (nI n)), (6, .int (nI b)), (7, .int (g 1)), (8, .int (g 0)), (10, .int (nI k9)), (12, .int (nI z)), (14, .int (nI kk))]) hx hb dL_law_672 hl (by decide) rfl (fun ls hl => ?_)
                    refine lv_goto (tgt := 1237) hx hb dL_law_674 (by decide) ?_
                    refine W.widen (k := 1030 + 2000 * k9) (n := 10300 + 20000 * k9) (by omega) (by omega) ?_
                    exact KK _ _ _ fa fd fs g L B n b ⟨hR, hA, hsz, hS, (hLV).k⟩ (lv_sub hl [6, 7, 8, 9, 10, 11, 12, 13, 14, 0, 15] rfl)
    ·
      refine lv_aload_n hx hb dL_law_554 rfl (lv_at hl 3 rfl) ?_
      refine lv_iload hx hb dL_law_555 (lv_at hl 14 rfl) ?_
      refine vx_calli (vx_runSX (hh := [(0, 5, 6, 23)]) (As := [.ref o, .int (nI kk)]) (rest := []) ⟨hx, hb, hml, hown, hts⟩ (c_L_state_0 l hst D cs (AC s.heap.size AL) z0 sa o g L B n b hn hb5 (nI kk) (kIx_nI hkk (by omega))) (vx_cwSW 2 hts gL_law_L_state rfl rfl rfl (by decide +kernel) ⟨Nat.le_of_ble_eq_true rfl, Nat.le_of_ble_eq_true rfl⟩) ⟨pR_fb, fun U hU hV => ⟨rfl, hE0.law hS hsz hAL hV hU, by rw [hU]; exact hR, hnc.1.moved hV.alike, hnc.2.1.moved hV.alike, hnc.2.2.moved hV.alike⟩⟩ rfl rfl hl.1 rfl (lv_room (Nat.le_of_ble_eq_true rfl)) dL_law_557 ⟨by show _ ≤ (664879 : Nat); omega, by show _ ≤ (7106988 : Nat); omega⟩) hS (fun q _ h => h.1) (fun q h => h.1) (fun _ _ h => h.elim) (fun E9 ce9 q9 u9 t9 H9 locs9 ht9 hvm9 hpx9 hbx9 hz9 hk9 hS9 hc9 hv9 hl9 => hpx9.elim) (fun r_32 u t9 H locs ht hvm hw hB hz1 hk1 hS => ?_)
      rw [ht] at hB
      simp only [ixN_nI (show kk < 1000 by omega)] at hw hB
      have hR : RC D cs (AC s.heap.size AL) z0 o g L B n b H := hB
      have hsz := Nat.le_trans hsz hz1
      have hA := hA.keptA (A1 := (AC s.heap.size AL)) (fun q hq z => z.2 hq) hk1
      obtain rfl : r_32 = L 5 (kk) := hw
      refine lv_iconst (v := 1) hx hb dL_law_560 (by decide) ?_
      refine lv_icmp_ne (tgt := 577) hx hb dL_law_561 (by decide) (fun c_33 => ?_) (fun c_33 => ?_)
      · -- L 5 (kk) ne 1 : True
        exact absurd (h1) c_33
      · -- L 5 (kk) ne 1 : False
        refine lv_aload_n hx hb dL_law_564 rfl (lv_at hl 3 rfl) ?_
        refine lv_iload hx hb dL_law_565 (lv_at hl 1 rfl) ?_
        refine vx_calli (vx_runSX (hh := [(0, 5, 6, 23)]) (As := [.ref o, .int (nI k2)]) (rest := []) ⟨hx, hb, hml, hown, hts⟩ (c_L_state_0 l hst D cs (AC s.heap.size AL) z0 sa o g L B n b hn hb5 (nI k2) (kIx_nI hk2 (by omega))) (vx_cwSW 2 hts gL_law_L_state rfl rfl rfl (by decide +kernel) ⟨Nat.le_of_ble_eq_true rfl, Nat.le_of_ble_eq_true rfl⟩) ⟨pR_fb, fun U hU hV => ⟨rfl, hE0.law hS hsz hAL hV hU, by rw [hU]; exact hR, hnc.1.moved hV.alike, hnc.2.1.moved hV.alike, hnc.2.2.moved hV.alike⟩⟩ rfl rfl hl.1 rfl (lv_room (Nat.le_of_ble_eq_true rfl)) dL_law_567 ⟨by show _ ≤ (664879 : Nat); omega, by show _ ≤ (7106988 : Nat); omega⟩) hS (fun q _ h => h.1) (fun q h => h.1) (fun _ _ h => h.elim) (fun E9 ce9 q9 u9 t9 H9 locs9 ht9 hvm9 hpx9 hbx9 hz9 hk9 hS9 hc9 hv9 hl9 => hpx9.elim) (fun r_34 u t9 H locs ht hvm hw hB hz1 hk1 hS => ?_)
        rw [ht] at hB
        simp only [ixN_nI (show k2 < 1000 by omega)] at hw hB
        have hR : RC D cs (AC s.heap.size AL) z0 o g L B n b H := hB
        have hsz := Nat.le_trans hsz hz1
        have hA := hA.keptA (A1 := (AC s.heap.size AL)) (fun q hq z => z.2 hq) hk1
        obtain rfl : r_34 = L 5 (k2) := hw
        refine lv_if_ne (tgt := 577) hx hb dL_law_570 (by decide) (fun c_35 => ?_) (fun c_35 => ?_)
        · -- L 5 (k2) ne 0 : True
          refine lv_iconst (v := 0) hx hb dL_law_577 (by decide) ?_
          refine lv_istore (lv' := [(17, .int 0), (16, .int (held9 g L B n b)), (15, .int (nI k2)), (0, .ref b9), (1, .ref o), (2, .ref (adL 0)), (3, .ref (adL 1)), (4, .ref (adL 2)), (5, .int (nI n)), (6, .int (nI b)), (7, .int (g 1)), (8, .int (g 0)), (9, .int 1), (10, .int (nI k9)), (12, .int (nI z)), (14, .int (nI kk))]) hx hb dL_law_578 hl (by decide) rfl (fun ls hl => ?_)
          refine lv_aload_n hx hb dL_law_580 rfl (lv_at hl 4 rfl) ?_
          refine lv_iload hx hb dL_law_581 (lv_at hl 15 rfl) ?_
          refine lv_iload hx hb dL_law_583 (lv_at hl 2 rfl) ?_
          refine vx_calli (vx_runSX (hh := [(0, 14, 15, 23), (0, 14, 19, 17)]) (As := [.ref o, .int (nI kk), .int (nI k2)]) (rest := []) ⟨hx, hb, hml, hown, hts⟩ (c_L_swap_2 l hst D cs (AC s.heap.size AL) z0 sa o g L B n b hn hb5 (nI kk) (nI k2) hbd (kSwap_2 hkk hk2 (by omega) (fun z9 => h2 z9.2))) (vx_cwSW 3 hts gL_law_L_swap rfl rfl rfl (by decide +kernel) ⟨Nat.le_of_ble_eq_true rfl, Nat.le_of_ble_eq_true rfl⟩) ⟨pR_fb, fun U hU hV => ⟨rfl, hE0.law hS hsz hAL hV hU, by rw [hU]; exact hR, hnc.1.moved hV.alike, hnc.2.1.moved hV.alike, hnc.2.2.moved hV.alike⟩⟩ rfl rfl hl.1 rfl (lv_room (Nat.le_of_ble_eq_true rfl)) dL_law_585 ⟨by show _ ≤ (664879 : Nat); omega, by show _ ≤ (7106988 : Nat); omega⟩) hS (fun q _ h => h.1) (fun q h => h.1) (fun _ _ h => h.elim) (fun E9 ce9 q9 u9 t9 H9 locs9 ht9 hvm9 hpx9 hbx9 hz9 hk9 hS9 hc9 hv9 hl9 => hpx9.elim) (fun r_36 u t9 H locs ht hvm hw hB hz1 hk1 hS => ?_)
          rw [ht] at hB
          have hR : RC D cs (AC s.heap.size AL) z0 o g L B n b H := hB
          have hsz := Nat.le_trans hsz hz1
          have hA := hA.keptA (A1 := (AC s.heap.size AL)) (fun q hq z => z.2 hq) hk1
          obtain rfl : r_36 = (-103) := hw
          refine lv_istore (lv' := [(18, .int (-103)), (17, .int 0), (16, .int (held9 g L B n b)), (15, .int (nI k2)), (0, .ref b9), (1, .ref o), (2, .ref (adL 0)), (3, .ref (adL 1)), (4, .ref (adL 2)), (5, .int (nI n)), (6, .int (nI b)), (7, .int (g 1)), (8, .int (g 0)), (9, .int 1), (10, .int (nI k9)), (12, .int (nI z)), (14, .int (nI kk))]) hx hb dL_law_588 hl (by decide) rfl (fun ls hl => ?_)
          refine lv_aload_n hx hb dL_law_590 rfl (lv_at hl 5 rfl) ?_
          refine lv_iconst (v := 0) hx hb dL_law_591 (by decide) ?_
          refine vx_calli (vx_runSX (hh := [(0, 13, 14, 15)]) (As := [.ref o, .int 0]) (rest := []) ⟨hx, hb, hml, hown, hts⟩ (c_L_holds_v l hst D cs (AC s.heap.size AL) z0 sa o g L B n b hn hb5 0 hbd (by decide)) (vx_cwSW 2 hts gL_law_L_holds rfl rfl rfl (by decide +kernel) ⟨Nat.le_of_ble_eq_true rfl, Nat.le_of_ble_eq_true rfl⟩) ⟨pR_fb, fun U hU hV => ⟨rfl, hE0.law hS hsz hAL hV hU, by rw [hU]; exact hR, hnc.1.moved hV.alike, hnc.2.1.moved hV.alike, hnc.2.2.moved hV.alike⟩⟩ rfl rfl hl.1 rfl (lv_room (Nat.le_of_ble_eq_true rfl)) dL_law_592 ⟨by show _ ≤ (664879 : Nat); omega, by show _ ≤ (7106988 : Nat); omega⟩) hS (fun q _ h => h.1) (fun q h => h.1) (fun _ _ h => h.elim) (fun E9 ce9 q9 u9 t9 H9 locs9 ht9 hvm9 hpx9 hbx9 hz9 hk9 hS9 hc9 hv9 hl9 => hpx9.elim) (fun r_37 u t9 H locs ht hvm hw hB hz1 hk1 hS => ?_)
          rw [ht] at hB
          have hR := hB
          have hsz := Nat.le_trans hsz hz1
          have hA := hA.keptA (A1 := (AC s.heap.size AL)) (fun q hq z => z.2 hq) hk1
          obtain rfl : r_37 = hv g L B n b 0 := hw
          refine lv_iconst (v := 2) hx hb dL_law_595 (by decide) ?_
          refine lv_aload_n hx hb dL_law_596 rfl (lv_at hl 5 rfl) ?_
          refine lv_iconst (v := 1) hx hb dL_law_597 (by decide) ?_
          refine vx_calli (vx_runSX (hh := [(0, 13, 14, 15)]) (As := [.ref o, .int 1]) (rest := [.int 2, .int (hv g L B n b 0)]) ⟨hx, hb, hml, hown, hts⟩ (c_L_holds_v l hst D cs (AC s.heap.size AL) z0 sa o g L B n b hn hb5 1 hbd (by decide)) (vx_cwSW 2 hts gL_law_L_holds rfl rfl rfl (by decide +kernel) ⟨Nat.le_of_ble_eq_true rfl, Nat.le_of_ble_eq_true rfl⟩) ⟨pR_fb, fun U hU hV => ⟨rfl, hE0.law hS hsz hAL hV hU, by rw [hU]; exact hR, hnc.1.moved hV.alike, hnc.2.1.moved hV.alike, hnc.2.2.moved hV.alike⟩⟩ rfl rfl hl.1 rfl (lv_room (Nat.le_of_ble_eq_true rfl)) dL_law_598 ⟨by show _ ≤ (664879 : Nat); omega, by show _ ≤ (7106988 : Nat); omega⟩) hS (fun q _ h => h.1) (fun q h => h.1) (fun _ _ h => h.elim) (fun E9 ce9 q9 u9 t9 H9 locs9 ht9 hvm9 hpx9 hbx9 hz9 hk9 hS9 hc9 hv9 hl9 => hpx9.elim) (fun r_38 u t9 H locs ht hvm hw hB hz1 hk1 hS => ?_)
          rw [ht] at hB
          have hR := hB
          have hsz := Nat.le_trans hsz hz1
          have hA := hA.keptA (A1 := (AC s.heap.size AL)) (fun q hq z => z.2 hq) hk1
          obtain rfl : r_38 = hv g L B n b 1 := hw
          refine lv_imul hx hb dL_law_601 ?_
          refine lv_iadd hx hb dL_law_602 ?_
          refine lv_iconst (v := 4) hx hb dL_law_603 (by decide) ?_
          refine lv_aload_n hx hb dL_law_604 rfl (lv_at hl 5 rfl) ?_
          refine lv_iconst (v := 2) hx hb dL_law_605 (by decide) ?_
          refine vx_calli (vx_runSX (hh := [(0, 13, 14, 15)]) (As := [.ref o, .int 2]) (rest := [.int 4, .int ((hv g L B n b 0) + (2 * (hv g L B n b 1)))]) ⟨hx, hb, hml, hown, hts⟩ (c_L_holds_v l hst D cs (AC s.heap.size AL) z0 sa o g L B n b hn hb5 2 hbd (by decide)) (vx_cwSW 2 hts gL_law_L_holds rfl rfl rfl (by decide +kernel) ⟨Nat.le_of_ble_eq_true rfl, Nat.le_of_ble_eq_true rfl⟩) ⟨pR_fb, fun U hU hV => ⟨rfl, hE0.law hS hsz hAL hV hU, by rw [hU]; exact hR, hnc.1.moved hV.alike, hnc.2.1.moved hV.alike, hnc.2.2.moved hV.alike⟩⟩ rfl rfl hl.1 rfl (lv_room (Nat.le_of_ble_eq_true rfl)) dL_law_606 ⟨by show _ ≤ (664879 : Nat); omega, by show _ ≤ (7106988 : Nat); omega⟩) hS (fun q _ h => h.1) (fun q h => h.1) (fun _ _ h => h.elim) (fun E9 ce9 q9 u9 t9 H9 locs9 ht9 hvm9 hpx9 hbx9 hz9 hk9 hS9 hc9 hv9 hl9 => hpx9.elim) (fun r_39 u t9 H locs ht hvm hw hB hz1 hk1 hS => ?_)
          rw [ht] at hB
          have hR := hB
          have hsz := Nat.le_trans hsz hz1
          have hA := hA.keptA (A1 := (AC s.heap.size AL)) (fun q hq z => z.2 hq) hk1
          obtain rfl : r_39 = hv g L B n b 2 := hw
          refine lv_imul hx hb dL_law_609 ?_
          refine lv_iadd hx hb dL_law_610 ?_
          rw [show (((hv g L B n b 0) + (2 * (hv g L B n b 1))) + (4 * (hv g L B n b 2)) : Int32) = held9 g L B n b from rfl]
          refine lv_istore (lv' := [(19, .int (held9 g L B n b)), (18, .int (-103)), (17, .int 0), (16, .int (held9 g L B n b)), (15, .int (nI k2)), (0, .ref b9), (1, .ref o), (2, .ref (adL 0)), (3, .ref (adL 1)), (4, .ref (adL 2)), (5, .int (nI n)), (6, .int (nI b)), (7, .int (g 1)), (8, .int (g 0)), (9, .int 1), (10, .int (nI k9)), (12, .int (nI z)), (14, .int (nI kk))]) hx hb dL_law_611 hl (by decide) rfl (fun ls hl => ?_)
          refine lv_iload hx hb dL_law_613 (lv_at hl 2 rfl) ?_
          refine lv_if_eq (tgt := 660) hx hb dL_law_615 (by decide) (fun c_40 => ?_) (fun c_40 => ?_)
          · -- 0 eq 0 : True
            refine lv_iload hx hb dL_law_660 (lv_at hl 1 rfl) ?_
            refine lv_bipush (v := (-103)) hx hb dL_law_662 (by decide) ?_
            refine lv_icmp_ne (tgt := 671) hx hb dL_law_664 (by decide) (fun c_41 => ?_) (fun c_41 => ?_)
            · -- (-103) ne (-103) : True
              exact absurd c_41 (by decide)
            · -- (-103) ne (-103) : False
              refine lv_iconst (v := 1) hx hb dL_law_667 (by decide) ?_
              refine lv_goto (tgt := 672) hx hb dL_law_668 (by decide) ?_
              refine lv_istore (lv' := [(9, .int 1), (19, .int (held9 g L B n b)), (18, .int (-103)), (17, .int 0), (16, .int (held9 g L B n b)), (15, .int (nI k2)), (0, .ref b9), (1, .ref o), (2, .ref (adL 0)), (3, .ref (adL 1)), (4, .ref (adL 2)), (5, .int (nI n)), (6, .int (nI b)), (7, .int (g 1)), (8, .int (g 0)), (10, .int (nI k9)), (12, .int (nI z)), (14, .int (nI kk))]) hx hb dL_law_672 hl (by decide) rfl (fun ls hl => ?_)
              refine lv_goto (tgt := 1237) hx hb dL_law_674 (by decide) ?_
              refine W.widen (k := 1030 + 2000 * k9) (n := 10300 + 20000 * k9) (by omega) (by omega) ?_
              exact KK _ _ _ fa fd fs g L B n b ⟨hR, hA, hsz, hS, (hLV).k⟩ (lv_sub hl [6, 7, 8, 9, 10, 11, 12, 13, 14, 0, 15] rfl)
          · -- 0 eq 0 : False
            exact absurd c_40 (by decide)
        · -- L 5 (k2) ne 0 : False
          exact absurd c_35 (h2)
  ·
    refine lv_aload_n hx hb dL_law_554 rfl (lv_at hl 3 rfl) ?_
    refine lv_iload hx hb dL_law_555 (lv_at hl 14 rfl) ?_
    refine vx_calli (vx_runSX (hh := [(0, 5, 6, 23)]) (As := [.ref o, .int (nI kk)]) (rest := []) ⟨hx, hb, hml, hown, hts⟩ (c_L_state_0 l hst D cs (AC s.heap.size AL) z0 sa o g L B n b hn hb5 (nI kk) (kIx_nI hkk (by omega))) (vx_cwSW 2 hts gL_law_L_state rfl rfl rfl (by decide +kernel) ⟨Nat.le_of_ble_eq_true rfl, Nat.le_of_ble_eq_true rfl⟩) ⟨pR_fb, fun U hU hV => ⟨rfl, hE0.law hS hsz hAL hV hU, by rw [hU]; exact hR, hnc.1.moved hV.alike, hnc.2.1.moved hV.alike, hnc.2.2.moved hV.alike⟩⟩ rfl rfl hl.1 rfl (lv_room (Nat.le_of_ble_eq_true rfl)) dL_law_557 ⟨by show _ ≤ (664879 : Nat); omega, by show _ ≤ (7106988 : Nat); omega⟩) hS (fun q _ h => h.1) (fun q h => h.1) (fun _ _ h => h.elim) (fun E9 ce9 q9 u9 t9 H9 locs9 ht9 hvm9 hpx9 hbx9 hz9 hk9 hS9 hc9 hv9 hl9 => hpx9.elim) (fun r_42 u t9 H locs ht hvm hw hB hz1 hk1 hS => ?_)
    rw [ht] at hB
    simp only [ixN_nI (show kk < 1000 by omega)] at hw hB
    have hR : RC D cs (AC s.heap.size AL) z0 o g L B n b H := hB
    have hsz := Nat.le_trans hsz hz1
    have hA := hA.keptA (A1 := (AC s.heap.size AL)) (fun q hq z => z.2 hq) hk1
    obtain rfl : r_42 = L 5 (kk) := hw
    refine lv_iconst (v := 1) hx hb dL_law_560 (by decide) ?_
    refine lv_icmp_ne (tgt := 577) hx hb dL_law_561 (by decide) (fun c_43 => ?_) (fun c_43 => ?_)
    · -- L 5 (kk) ne 1 : True
      refine lv_iconst (v := 0) hx hb dL_law_577 (by decide) ?_
      refine lv_istore (lv' := [(17, .int 0), (16, .int (held9 g L B n b)), (15, .int (nI k2)), (0, .ref b9), (1, .ref o), (2, .ref (adL 0)), (3, .ref (adL 1)), (4, .ref (adL 2)), (5, .int (nI n)), (6, .int (nI b)), (7, .int (g 1)), (8, .int (g 0)), (9, .int 1), (10, .int (nI k9)), (12, .int (nI z)), (14, .int (nI kk))]) hx hb dL_law_578 hl (by decide) rfl (fun ls hl => ?_)
      refine lv_aload_n hx hb dL_law_580 rfl (lv_at hl 4 rfl) ?_
      refine lv_iload hx hb dL_law_581 (lv_at hl 15 rfl) ?_
      refine lv_iload hx hb dL_law_583 (lv_at hl 2 rfl) ?_
      refine vx_calli (vx_runSX (hh := [(0, 14, 15, 23), (0, 14, 19, 17)]) (As := [.ref o, .int (nI kk), .int (nI k2)]) (rest := []) ⟨hx, hb, hml, hown, hts⟩ (c_L_swap_2 l hst D cs (AC s.heap.size AL) z0 sa o g L B n b hn hb5 (nI kk) (nI k2) hbd (kSwap_2 hkk hk2 (by omega) (fun z9 => h1 z9.1))) (vx_cwSW 3 hts gL_law_L_swap rfl rfl rfl (by decide +kernel) ⟨Nat.le_of_ble_eq_true rfl, Nat.le_of_ble_eq_true rfl⟩) ⟨pR_fb, fun U hU hV => ⟨rfl, hE0.law hS hsz hAL hV hU, by rw [hU]; exact hR, hnc.1.moved hV.alike, hnc.2.1.moved hV.alike, hnc.2.2.moved hV.alike⟩⟩ rfl rfl hl.1 rfl (lv_room (Nat.le_of_ble_eq_true rfl)) dL_law_585 ⟨by show _ ≤ (664879 : Nat); omega, by show _ ≤ (7106988 : Nat); omega⟩) hS (fun q _ h => h.1) (fun q h => h.1) (fun _ _ h => h.elim) (fun E9 ce9 q9 u9 t9 H9 locs9 ht9 hvm9 hpx9 hbx9 hz9 hk9 hS9 hc9 hv9 hl9 => hpx9.elim) (fun r_44 u t9 H locs ht hvm hw hB hz1 hk1 hS => ?_)
      rw [ht] at hB
      have hR : RC D cs (AC s.heap.size AL) z0 o g L B n b H := hB
      have hsz := Nat.le_trans hsz hz1
      have hA := hA.keptA (A1 := (AC s.heap.size AL)) (fun q hq z => z.2 hq) hk1
      obtain rfl : r_44 = (-103) := hw
      refine lv_istore (lv' := [(18, .int (-103)), (17, .int 0), (16, .int (held9 g L B n b)), (15, .int (nI k2)), (0, .ref b9), (1, .ref o), (2, .ref (adL 0)), (3, .ref (adL 1)), (4, .ref (adL 2)), (5, .int (nI n)), (6, .int (nI b)), (7, .int (g 1)), (8, .int (g 0)), (9, .int 1), (10, .int (nI k9)), (12, .int (nI z)), (14, .int (nI kk))]) hx hb dL_law_588 hl (by decide) rfl (fun ls hl => ?_)
      refine lv_aload_n hx hb dL_law_590 rfl (lv_at hl 5 rfl) ?_
      refine lv_iconst (v := 0) hx hb dL_law_591 (by decide) ?_
      refine vx_calli (vx_runSX (hh := [(0, 13, 14, 15)]) (As := [.ref o, .int 0]) (rest := []) ⟨hx, hb, hml, hown, hts⟩ (c_L_holds_v l hst D cs (AC s.heap.size AL) z0 sa o g L B n b hn hb5 0 hbd (by decide)) (vx_cwSW 2 hts gL_law_L_holds rfl rfl rfl (by decide +kernel) ⟨Nat.le_of_ble_eq_true rfl, Nat.le_of_ble_eq_true rfl⟩) ⟨pR_fb, fun U hU hV => ⟨rfl, hE0.law hS hsz hAL hV hU, by rw [hU]; exact hR, hnc.1.moved hV.alike, hnc.2.1.moved hV.alike, hnc.2.2.moved hV.alike⟩⟩ rfl rfl hl.1 rfl (lv_room (Nat.le_of_ble_eq_true rfl)) dL_law_592 ⟨by show _ ≤ (664879 : Nat); omega, by show _ ≤ (7106988 : Nat); omega⟩) hS (fun q _ h => h.1) (fun q h => h.1) (fun _ _ h => h.elim) (fun E9 ce9 q9 u9 t9 H9 locs9 ht9 hvm9 hpx9 hbx9 hz9 hk9 hS9 hc9 hv9 hl9 => hpx9.elim) (fun r_45 u t9 H locs ht hvm hw hB hz1 hk1 hS => ?_)
      rw [ht] at hB
      have hR := hB
      have hsz := Nat.le_trans hsz hz1
      have hA := hA.keptA (A1 := (AC s.heap.size AL)) (fun q hq z => z.2 hq) hk1
      obtain rfl : r_45 = hv g L B n b 0 := hw
      refine lv_iconst (v := 2) hx hb dL_law_595 (by decide) ?_
      refine lv_aload_n hx hb dL_law_596 rfl (lv_at hl 5 rfl) ?_
      refine lv_iconst (v := 1) hx hb dL_law_597 (by decide) ?_
      refine vx_calli (vx_runSX (hh := [(0, 13, 14, 15)]) (As := [.ref o, .int 1]) (rest := [.int 2, .int (hv g L B n b 0)]) ⟨hx, hb, hml, hown, hts⟩ (c_L_holds_v l hst D cs (AC s.heap.size AL) z0 sa o g L B n b hn hb5 1 hbd (by decide)) (vx_cwSW 2 hts gL_law_L_holds rfl rfl rfl (by decide +kernel) ⟨Nat.le_of_ble_eq_true rfl, Nat.le_of_ble_eq_true rfl⟩) ⟨pR_fb, fun U hU hV => ⟨rfl, hE0.law hS hsz hAL hV hU, by rw [hU]; exact hR, hnc.1.moved hV.alike, hnc.2.1.moved hV.alike, hnc.2.2.moved hV.alike⟩⟩ rfl rfl hl.1 rfl (lv_room (Nat.le_of_ble_eq_true rfl)) dL_law_598 ⟨by show _ ≤ (664879 : Nat); omega, by show _ ≤ (7106988 : Nat); omega⟩) hS (fun q _ h => h.1) (fun q h => h.1) (fun _ _ h => h.elim) (fun E9 ce9 q9 u9 t9 H9 locs9 ht9 hvm9 hpx9 hbx9 hz9 hk9 hS9 hc9 hv9 hl9 => hpx9.elim) (fun r_46 u t9 H locs ht hvm hw hB hz1 hk1 hS => ?_)
      rw [ht] at hB
      have hR := hB
      have hsz := Nat.le_trans hsz hz1
      have hA := hA.keptA (A1 := (AC s.heap.size AL)) (fun q hq z => z.2 hq) hk1
      obtain rfl : r_46 = hv g L B n b 1 := hw
      refine lv_imul hx hb dL_law_601 ?_
      refine lv_iadd hx hb dL_law_602 ?_
      refine lv_iconst (v := 4) hx hb dL_law_603 (by decide) ?_
      refine lv_aload_n hx hb dL_law_604 rfl (lv_at hl 5 rfl) ?_
      refine lv_iconst (v := 2) hx hb dL_law_605 (by decide) ?_
      refine vx_calli (vx_runSX (hh := [(0, 13, 14, 15)]) (As := [.ref o, .int 2]) (rest := [.int 4, .int ((hv g L B n b 0) + (2 * (hv g L B n b 1)))]) ⟨hx, hb, hml, hown, hts⟩ (c_L_holds_v l hst D cs (AC s.heap.size AL) z0 sa o g L B n b hn hb5 2 hbd (by decide)) (vx_cwSW 2 hts gL_law_L_holds rfl rfl rfl (by decide +kernel) ⟨Nat.le_of_ble_eq_true rfl, Nat.le_of_ble_eq_true rfl⟩) ⟨pR_fb, fun U hU hV => ⟨rfl, hE0.law hS hsz hAL hV hU, by rw [hU]; exact hR, hnc.1.moved hV.alike, hnc.2.1.moved hV.alike, hnc.2.2.moved hV.alike⟩⟩ rfl rfl hl.1 rfl (lv_room (Nat.le_of_ble_eq_true rfl)) dL_law_606 ⟨by show _ ≤ (664879 : Nat); omega, by show _ ≤ (7106988 : Nat); omega⟩) hS (fun q _ h => h.1) (fun q h => h.1) (fun _ _ h => h.elim) (fun E9 ce9 q9 u9 t9 H9 locs9 ht9 hvm9 hpx9 hbx9 hz9 hk9 hS9 hc9 hv9 hl9 => hpx9.elim) (fun r_47 u t9 H locs ht hvm hw hB hz1 hk1 hS => ?_)
      rw [ht] at hB
      have hR := hB
      have hsz := Nat.le_trans hsz hz1
      have hA := hA.keptA (A1 := (AC s.heap.size AL)) (fun q hq z => z.2 hq) hk1
      obtain rfl : r_47 = hv g L B n b 2 := hw
      refine lv_imul hx hb dL_law_609 ?_
      refine lv_iadd hx hb dL_law_610 ?_
      rw [show (((hv g L B n b 0) + (2 * (hv g L B n b 1))) + (4 * (hv g L B n b 2)) : Int32) = held9 g L B n b from rfl]
      refine lv_istore (lv' := [(19, .int (held9 g L B n b)), (18, .int (-103)), (17, .int 0), (16, .int (held9 g L B n b)), (15, .int (nI k2)), (0, .ref b9), (1, .ref o), (2, .ref (adL 0)), (3, .ref (adL 1)), (4, .ref (adL 2)), (5, .int (nI n)), (6, .int (nI b)), (7, .int (g 1)), (8, .int (g 0)), (9, .int 1), (10, .int (nI k9)), (12, .int (nI z)), (14, .int (nI kk))]) hx hb dL_law_611 hl (by decide) rfl (fun ls hl => ?_)
      refine lv_iload hx hb dL_law_613 (lv_at hl 2 rfl) ?_
      refine lv_if_eq (tgt := 660) hx hb dL_law_615 (by decide) (fun c_48 => ?_) (fun c_48 => ?_)
      · -- 0 eq 0 : True
        refine lv_iload hx hb dL_law_660 (lv_at hl 1 rfl) ?_
        refine lv_bipush (v := (-103)) hx hb dL_law_662 (by decide) ?_
        refine lv_icmp_ne (tgt := 671) hx hb dL_law_664 (by decide) (fun c_49 => ?_) (fun c_49 => ?_)
        · -- (-103) ne (-103) : True
          exact absurd c_49 (by decide)
        · -- (-103) ne (-103) : False
          refine lv_iconst (v := 1) hx hb dL_law_667 (by decide) ?_
          refine lv_goto (tgt := 672) hx hb dL_law_668 (by decide) ?_
          refine lv_istore (lv' := [(9, .int 1), (19, .int (held9 g L B n b)), (18, .int (-103)), (17, .int 0), (16, .int (held9 g L B n b)), (15, .int (nI k2)), (0, .ref b9), (1, .ref o), (2, .ref (adL 0)), (3, .ref (adL 1)), (4, .ref (adL 2)), (5, .int (nI n)), (6, .int (nI b)), (7, .int (g 1)), (8, .int (g 0)), (10, .int (nI k9)), (12, .int (nI z)), (14, .int (nI kk))]) hx hb dL_law_672 hl (by decide) rfl (fun ls hl => ?_)
          refine lv_goto (tgt := 1237) hx hb dL_law_674 (by decide) ?_
          refine W.widen (k := 1030 + 2000 * k9) (n := 10300 + 20000 * k9) (by omega) (by omega) ?_
          exact KK _ _ _ fa fd fs g L B n b ⟨hR, hA, hsz, hS, (hLV).k⟩ (lv_sub hl [6, 7, 8, 9, 10, 11, 12, 13, 14, 0, 15] rfl)
      · -- 0 eq 0 : False
        exact absurd c_48 (by decide)
    · -- L 5 (kk) ne 1 : False
      exact absurd c_43 (h1)

set_option maxHeartbeats 4000000 in
set_option maxRecDepth 100000 in
theorem law_arrears {p : Program} {l : Launch} {e : Env} {s : State} {m : MethodId} {below : List Frame} {meth : Method} {c : Code} {b9 L9 : Nat} {xs : Nat → Int32} {D : va_G} {cs : Nat → ClassId} {z0 : Nat} {sa : Nat → Nat} {AL : Nat → Prop} {adL : Nat → Nat} {o sz1 : Nat} (hst : l.stackTraces = false) (C0 : lw_At p s m meth c b9 L9 xs) (hE0 : Ev D cs (fun q => s.heap.size ≤ q) z0 sa s) (hnc : va_Nc xS xA s ∧ va_Nc xS xI s ∧ va_Nc xA xI s) (hAL : ∀ q, AL q → s.heap.size ≤ q ∧ q < sz1) {fa fd fs g : Nat → Int32} {L B : Nat → Nat → Int32} {n b k9 : Nat} {H : Heap} {locs : List Loc} {ls : Array Slot} (hk9 : k9 < 50) {z kk : Nat} (hz : z < 134217728) (hkk : kk < n) (hI : LI D cs s AL adL z0 o sz1 fa fd fs g L B n b k9 H locs) (hl : lv_has ls 20 [(0, .ref b9), (1, .ref o), (2, .ref (adL 0)), (3, .ref (adL 1)), (4, .ref (adL 2)), (5, .int (nI n)), (6, .int (nI b)), (7, .int (g 1)), (8, .int (g 0)), (9, .int 1), (10, .int (nI k9)), (12, .int (nI z)), (14, .int (nI kk))]) (KK : ∀ (H : Heap) (locs : List Loc) (ls : Array Slot) (fa fd fs g : Nat → Int32) (L B : Nat → Nat → Int32) (n b : Nat), LI D cs s AL adL z0 o sz1 fa fd fs g L B n b (k9 + 1) H locs → lv_has ls 20 [(0, .ref b9), (1, .ref o), (2, .ref (adL 0)), (3, .ref (adL 1)), (4, .ref (adL 2)), (5, .int (nI n)), (6, .int (nI b)), (7, .int (g 1)), (8, .int (g 0)), (9, .int 1), (10, .int (nI k9))] → W p l e room_1 s m #[Value.ref b9] below meth c H locs (1030 + 2000 * k9) (10300 + 20000 * k9) (lw_Z below #[Value.ref b9] s) (F0 m 1237 ls [])) : W p l e room_1 s m #[Value.ref b9] below meth c H locs (30 + 2000 * k9) (300 + 20000 * k9) (lw_Z below #[Value.ref b9] s) (F0 m 684 ls []) := by
  obtain ⟨hR, hA, hsz, hS, hLV⟩ := hI
  obtain ⟨hx, hb0, hr, hml, hown0, hts0, hX, hbl, hlocks, hgv⟩ := C0
  have hb : c.code = cL_law := hb0
  have hown : s.vm.findClass RL = some m.cls := hown0
  have hts : ∀ w ∈ wsL_law, w.before #[Value.ref b9] s = true := fun w h => hts0 w (wsL_law_in w h)
  have hK := hE0.1
  have hIv := hLV.1
  have hbd := hIv.bd
  have hn := hIv.1
  have hb5 := hIv.2.1
  refine lv_aload_n hx hb dL_law_684 rfl (lv_at hl 1 rfl) ?_
  refine lv_iload hx hb dL_law_685 (lv_at hl 12 rfl) ?_
  refine vx_calli (vx_runSX (hh := [(0, 5, 6, 23)]) (As := [.ref o, .int (nI kk)]) (rest := []) ⟨hx, hb, hml, hown, hts⟩ (c_L_state_0 l hst D cs (AC s.heap.size AL) z0 sa o g L B n b hn hb5 (nI kk) (kIx_nI hkk (by omega))) (vx_cwSW 2 hts gL_law_L_state rfl rfl rfl (by decide +kernel) ⟨Nat.le_of_ble_eq_true rfl, Nat.le_of_ble_eq_true rfl⟩) ⟨pR_fb, fun U hU hV => ⟨rfl, hE0.law hS hsz hAL hV hU, by rw [hU]; exact hR, hnc.1.moved hV.alike, hnc.2.1.moved hV.alike, hnc.2.2.moved hV.alike⟩⟩ rfl rfl hl.1 rfl (lv_room (Nat.le_of_ble_eq_true rfl)) dL_law_687 ⟨by show _ ≤ (664879 : Nat); omega, by show _ ≤ (7106988 : Nat); omega⟩) hS (fun q _ h => h.1) (fun q h => h.1) (fun _ _ h => h.elim) (fun E9 ce9 q9 u9 t9 H9 locs9 ht9 hvm9 hpx9 hbx9 hz9 hk9 hS9 hc9 hv9 hl9 => hpx9.elim) (fun r_1 u t9 H locs ht hvm hw hB hz1 hk1 hS => ?_)
  rw [ht] at hB
  simp only [ixN_nI (show kk < 1000 by omega)] at hw hB
  have hR : RC D cs (AC s.heap.size AL) z0 o g L B n b H := hB
  have hsz := Nat.le_trans hsz hz1
  have hA := hA.keptA (A1 := (AC s.heap.size AL)) (fun q hq z => z.2 hq) hk1
  obtain rfl : r_1 = L 5 (kk) := hw
  refine lv_istore (lv' := [(15, .int (L 5 (kk))), (0, .ref b9), (1, .ref o), (2, .ref (adL 0)), (3, .ref (adL 1)), (4, .ref (adL 2)), (5, .int (nI n)), (6, .int (nI b)), (7, .int (g 1)), (8, .int (g 0)), (9, .int 1), (10, .int (nI k9)), (12, .int (nI z)), (14, .int (nI kk))]) hx hb dL_law_690 hl (by decide) rfl (fun ls hl => ?_)
  refine lv_aload_n hx hb dL_law_692 rfl (lv_at hl 2 rfl) ?_
  refine lv_iload hx hb dL_law_693 (lv_at hl 13 rfl) ?_
  refine lv_iload hx hb dL_law_695 (lv_at hl 12 rfl) ?_
  refine lv_bipush (v := 6) hx hb dL_law_697 (by decide) ?_
  refine lv_irem hx hb dL_law_699 (by decide) ?_
  rw [nI_md (a := z) (c := 6) (k := 6) rfl (by omega) (by omega) (by omega)]
  by_cases h2 : L 5 kk = 2
  ·
    have hka := kArr_24 (L := L) (n := n) (k := kk) (a := z % 6) hkk (by omega) (by omega)
    refine vx_calli (vx_runSX (hh := [(0, 6, 7, 23), (0, 6, 11, 15), (0, 6, 15, 17)]) (As := [.ref o, .int (nI kk), .int (nI (z % 6))]) (rest := []) ⟨hx, hb, hml, hown, hts⟩ (c_L_arrears_3 l hst D cs (AC s.heap.size AL) z0 sa o g L B n b hn hb5 (nI kk) (nI (z % 6)) (hka.trans (if_pos h2))) (vx_cwSW 3 hts gL_law_L_arrears rfl rfl rfl (by decide +kernel) ⟨Nat.le_of_ble_eq_true rfl, Nat.le_of_ble_eq_true rfl⟩) ⟨pR_fb, fun U hU hV => ⟨rfl, hE0.law hS hsz hAL hV hU, by rw [hU]; exact hR, hnc.1.moved hV.alike, hnc.2.1.moved hV.alike, hnc.2.2.moved hV.alike⟩⟩ rfl rfl hl.1 rfl (lv_room (Nat.le_of_ble_eq_true rfl)) dL_law_700 ⟨by show _ ≤ (664879 : Nat); omega, by show _ ≤ (7106988 : Nat); omega⟩) hS (fun q _ h => h.1) (fun q h => h.1) (fun _ _ h => h.elim) (fun E9 ce9 q9 u9 t9 H9 locs9 ht9 hvm9 hpx9 hbx9 hz9 hk9 hS9 hc9 hv9 hl9 => hpx9.elim) (fun r_2 u t9 H locs ht hvm hw hB hz1 hk1 hS => ?_)
    rw [ht] at hB
    have hR : RC D cs (AC s.heap.size AL) z0 o g L B n b H := hB
    have hsz := Nat.le_trans hsz hz1
    have hA := hA.keptA (A1 := (AC s.heap.size AL)) (fun q hq z => z.2 hq) hk1
    obtain rfl : r_2 = (-103) := hw
    refine lv_istore (lv' := [(16, .int (-103)), (15, .int (L 5 (kk))), (0, .ref b9), (1, .ref o), (2, .ref (adL 0)), (3, .ref (adL 1)), (4, .ref (adL 2)), (5, .int (nI n)), (6, .int (nI b)), (7, .int (g 1)), (8, .int (g 0)), (9, .int 1), (10, .int (nI k9)), (12, .int (nI z)), (14, .int (nI kk))]) hx hb dL_law_703 hl (by decide) rfl (fun ls hl => ?_)
    refine lv_iload hx hb dL_law_705 (lv_at hl 1 rfl) ?_
    refine lv_iconst (v := 2) hx hb dL_law_707 (by decide) ?_
    refine lv_icmp_ne (tgt := 726) hx hb dL_law_708 (by decide) (fun c_3 => ?_) (fun c_3 => ?_)
    · -- L 5 (kk) ne 2 : True
      exact absurd (h2) c_3
    · -- L 5 (kk) ne 2 : False
      refine lv_iload hx hb dL_law_711 (lv_at hl 0 rfl) ?_
      refine lv_bipush (v := (-103)) hx hb dL_law_713 (by decide) ?_
      refine lv_icmp_ne (tgt := 722) hx hb dL_law_715 (by decide) (fun c_4 => ?_) (fun c_4 => ?_)
      · -- (-103) ne (-103) : True
        exact absurd c_4 (by decide)
      · -- (-103) ne (-103) : False
        refine lv_iconst (v := 1) hx hb dL_law_718 (by decide) ?_
        refine lv_goto (tgt := 754) hx hb dL_law_719 (by decide) ?_
        refine lv_istore (lv' := [(9, .int 1), (16, .int (-103)), (15, .int (L 5 (kk))), (0, .ref b9), (1, .ref o), (2, .ref (adL 0)), (3, .ref (adL 1)), (4, .ref (adL 2)), (5, .int (nI n)), (6, .int (nI b)), (7, .int (g 1)), (8, .int (g 0)), (10, .int (nI k9)), (12, .int (nI z)), (14, .int (nI kk))]) hx hb dL_law_754 hl (by decide) rfl (fun ls hl => ?_)
        refine lv_goto (tgt := 1237) hx hb dL_law_756 (by decide) ?_
        refine W.widen (k := 1030 + 2000 * k9) (n := 10300 + 20000 * k9) (by omega) (by omega) ?_
        exact KK _ _ _ fa fd fs g L B n b ⟨hR, hA, hsz, hS, (hLV).k⟩ (lv_sub hl [3, 4, 5, 6, 7, 8, 9, 10, 11, 0, 12] rfl)
  ·
    have hka := kArr_24 (L := L) (n := n) (k := kk) (a := z % 6) hkk (by omega) (by omega)
    refine vx_calli (vx_runSX (hh := [(0, 6, 7, 23), (0, 6, 11, 15), (0, 6, 15, 17)]) (As := [.ref o, .int (nI kk), .int (nI (z % 6))]) (rest := []) ⟨hx, hb, hml, hown, hts⟩ (c_L_arrears_0 l hst D cs (AC s.heap.size AL) z0 sa o g L B n b hn hb5 (nI kk) (nI (z % 6)) (hka.trans (if_neg h2))) (vx_cwSW 3 hts gL_law_L_arrears rfl rfl rfl (by decide +kernel) ⟨Nat.le_of_ble_eq_true rfl, Nat.le_of_ble_eq_true rfl⟩) ⟨pR_fb, fun U hU hV => ⟨rfl, hE0.law hS hsz hAL hV hU, by rw [hU]; exact hR, hnc.1.moved hV.alike, hnc.2.1.moved hV.alike, hnc.2.2.moved hV.alike⟩⟩ rfl rfl hl.1 rfl (lv_room (Nat.le_of_ble_eq_true rfl)) dL_law_700 ⟨by show _ ≤ (664879 : Nat); omega, by show _ ≤ (7106988 : Nat); omega⟩) hS (fun q _ h => h.1) (fun q h => h.1) (fun _ _ h => h.elim) (fun E9 ce9 q9 u9 t9 H9 locs9 ht9 hvm9 hpx9 hbx9 hz9 hk9 hS9 hc9 hv9 hl9 => hpx9.elim) (fun r_5 u t9 H locs ht hvm hw hB hz1 hk1 hS => ?_)
    rw [ht] at hB
    simp only [ixN_nI (show kk < 1000 by omega)] at hw hB
    have hR : RC D cs (AC s.heap.size AL) z0 o g (updL L 4 (kk) (nI (z % 6))) B n b H := hB
    have hsz := Nat.le_trans hsz hz1
    have hA := hA.keptA (A1 := (AC s.heap.size AL)) (fun q hq z => z.2 hq) hk1
    obtain rfl : r_5 = L 4 (kk) := hw
    refine lv_istore (lv' := [(16, .int (L 4 (kk))), (15, .int (L 5 (kk))), (0, .ref b9), (1, .ref o), (2, .ref (adL 0)), (3, .ref (adL 1)), (4, .ref (adL 2)), (5, .int (nI n)), (6, .int (nI b)), (7, .int (g 1)), (8, .int (g 0)), (9, .int 1), (10, .int (nI k9)), (12, .int (nI z)), (14, .int (nI kk))]) hx hb dL_law_703 hl (by decide) rfl (fun ls hl => ?_)
    refine lv_iload hx hb dL_law_705 (lv_at hl 1 rfl) ?_
    refine lv_iconst (v := 2) hx hb dL_law_707 (by decide) ?_
    refine lv_icmp_ne (tgt := 726) hx hb dL_law_708 (by decide) (fun c_6 => ?_) (fun c_6 => ?_)
    · -- L 5 (kk) ne 2 : True
      refine lv_iload hx hb dL_law_726 (lv_at hl 0 rfl) ?_
      refine lv_if_lt (tgt := 753) hx hb dL_law_728 (by decide) (fun c_7 => ?_) (fun c_7 => ?_)
      · -- L 4 (kk) lt 0 : True
        exact absurd c_7 (nn_lt (hLV.2.2.2.2.2.1 kk hkk))
      · -- L 4 (kk) lt 0 : False
        refine lv_iload hx hb dL_law_731 (lv_at hl 13 rfl) ?_
        refine lv_bipush (v := 6) hx hb dL_law_733 (by decide) ?_
        refine lv_irem hx hb dL_law_735 (by decide) ?_
        rw [nI_md (a := z) (c := 6) (k := 6) rfl (by omega) (by omega) (by omega)]
        refine lv_iconst (v := 3) hx hb dL_law_736 (by decide) ?_
        refine lv_icmp_lt (tgt := 749) hx hb dL_law_737 (by decide) (fun c_8 => ?_) (fun c_8 => ?_)
        · -- nI (z % 6) lt 3 : True
          refine lv_iconst (v := 1) hx hb dL_law_749 (by decide) ?_
          refine lv_goto (tgt := 754) hx hb dL_law_750 (by decide) ?_
          refine lv_istore (lv' := [(9, .int 1), (16, .int (L 4 (kk))), (15, .int (L 5 (kk))), (0, .ref b9), (1, .ref o), (2, .ref (adL 0)), (3, .ref (adL 1)), (4, .ref (adL 2)), (5, .int (nI n)), (6, .int (nI b)), (7, .int (g 1)), (8, .int (g 0)), (10, .int (nI k9)), (12, .int (nI z)), (14, .int (nI kk))]) hx hb dL_law_754 hl (by decide) rfl (fun ls hl => ?_)
          refine lv_goto (tgt := 1237) hx hb dL_law_756 (by decide) ?_
          refine W.widen (k := 1030 + 2000 * k9) (n := 10300 + 20000 * k9) (by omega) (by omega) ?_
          exact KK _ _ _ fa fd fs g (updL L 4 (kk) (nI (z % 6))) B n b ⟨hR, hA, hsz, hS, ((hLV.k4 hkk (nI_nn (by omega)))).k⟩ (lv_sub hl [3, 4, 5, 6, 7, 8, 9, 10, 11, 0, 12] rfl)
        · -- nI (z % 6) lt 3 : False
          refine lv_aload_n hx hb dL_law_740 rfl (lv_at hl 3 rfl) ?_
          refine lv_iload hx hb dL_law_741 (lv_at hl 14 rfl) ?_
          refine vx_calli (vx_runSX (hh := [(0, 5, 6, 23)]) (As := [.ref o, .int (nI kk)]) (rest := []) ⟨hx, hb, hml, hown, hts⟩ (c_L_counts_0 l hst D cs (AC s.heap.size AL) z0 sa o g (updL L 4 (kk) (nI (z % 6))) B n b hn hb5 (nI kk) (kIx_nI hkk (by omega))) (vx_cwSW 2 hts gL_law_L_counts rfl rfl rfl (by decide +kernel) ⟨Nat.le_of_ble_eq_true rfl, Nat.le_of_ble_eq_true rfl⟩) ⟨pR_fb, fun U hU hV => ⟨rfl, hE0.law hS hsz hAL hV hU, by rw [hU]; exact hR, hnc.1.moved hV.alike, hnc.2.1.moved hV.alike, hnc.2.2.moved hV.alike⟩⟩ rfl rfl hl.1 rfl (lv_room (Nat.le_of_ble_eq_true rfl)) dL_law_743 ⟨by show _ ≤ (664879 : Nat); omega, by show _ ≤ (7106988 : Nat); omega⟩) hS (fun q _ h => h.1) (fun q h => h.1) (fun _ _ h => h.elim) (fun E9 ce9 q9 u9 t9 H9 locs9 ht9 hvm9 hpx9 hbx9 hz9 hk9 hS9 hc9 hv9 hl9 => hpx9.elim) (fun r_9 u t9 H locs ht hvm hw hB hz1 hk1 hS => ?_)
          rw [ht] at hB
          simp only [ixN_nI (show kk < 1000 by omega)] at hw hB
          have hR : RC D cs (AC s.heap.size AL) z0 o g (updL L 4 (kk) (nI (z % 6))) B n b H := hB
          have hsz := Nat.le_trans hsz hz1
          have hA := hA.keptA (A1 := (AC s.heap.size AL)) (fun q hq z => z.2 hq) hk1
          obtain rfl : r_9 = mCount g (updL L 4 (kk) (nI (z % 6))) (kk) := hw
          rw [show (mCount g (updL L 4 (kk) (nI (z % 6))) (kk) : Int32) = 0 from mCount_arr (Int32.not_lt.mp c_8)]
          refine lv_if_ne (tgt := 753) hx hb dL_law_746 (by decide) (fun c_10 => ?_) (fun c_10 => ?_)
          · -- 0 ne 0 : True
            exact absurd c_10 (by decide)
          · -- 0 ne 0 : False
            refine lv_iconst (v := 1) hx hb dL_law_749 (by decide) ?_
            refine lv_goto (tgt := 754) hx hb dL_law_750 (by decide) ?_
            refine lv_istore (lv' := [(9, .int 1), (16, .int (L 4 (kk))), (15, .int (L 5 (kk))), (0, .ref b9), (1, .ref o), (2, .ref (adL 0)), (3, .ref (adL 1)), (4, .ref (adL 2)), (5, .int (nI n)), (6, .int (nI b)), (7, .int (g 1)), (8, .int (g 0)), (10, .int (nI k9)), (12, .int (nI z)), (14, .int (nI kk))]) hx hb dL_law_754 hl (by decide) rfl (fun ls hl => ?_)
            refine lv_goto (tgt := 1237) hx hb dL_law_756 (by decide) ?_
            refine W.widen (k := 1030 + 2000 * k9) (n := 10300 + 20000 * k9) (by omega) (by omega) ?_
            exact KK _ _ _ fa fd fs g (updL L 4 (kk) (nI (z % 6))) B n b ⟨hR, hA, hsz, hS, ((hLV.k4 hkk (nI_nn (by omega)))).k⟩ (lv_sub hl [3, 4, 5, 6, 7, 8, 9, 10, 11, 0, 12] rfl)
    · -- L 5 (kk) ne 2 : False
      exact absurd c_6 (h2)

set_option maxHeartbeats 4000000 in
set_option maxRecDepth 100000 in
theorem law_setWorth {p : Program} {l : Launch} {e : Env} {s : State} {m : MethodId} {below : List Frame} {meth : Method} {c : Code} {b9 L9 : Nat} {xs : Nat → Int32} {D : va_G} {cs : Nat → ClassId} {z0 : Nat} {sa : Nat → Nat} {AL : Nat → Prop} {adL : Nat → Nat} {o sz1 : Nat} (hst : l.stackTraces = false) (C0 : lw_At p s m meth c b9 L9 xs) (hE0 : Ev D cs (fun q => s.heap.size ≤ q) z0 sa s) (hnc : va_Nc xS xA s ∧ va_Nc xS xI s ∧ va_Nc xA xI s) (hAL : ∀ q, AL q → s.heap.size ≤ q ∧ q < sz1) {fa fd fs g : Nat → Int32} {L B : Nat → Nat → Int32} {n b k9 : Nat} {H : Heap} {locs : List Loc} {ls : Array Slot} (hk9 : k9 < 50) {z kk : Nat} (hz : z < 134217728) (hkk : kk < n) (hI : LI D cs s AL adL z0 o sz1 fa fd fs g L B n b k9 H locs) (hl : lv_has ls 20 [(0, .ref b9), (1, .ref o), (2, .ref (adL 0)), (3, .ref (adL 1)), (4, .ref (adL 2)), (5, .int (nI n)), (6, .int (nI b)), (7, .int (g 1)), (8, .int (g 0)), (9, .int 1), (10, .int (nI k9)), (12, .int (nI z)), (14, .int (nI kk))]) (KK : ∀ (H : Heap) (locs : List Loc) (ls : Array Slot) (fa fd fs g : Nat → Int32) (L B : Nat → Nat → Int32) (n b : Nat), LI D cs s AL adL z0 o sz1 fa fd fs g L B n b (k9 + 1) H locs → lv_has ls 20 [(0, .ref b9), (1, .ref o), (2, .ref (adL 0)), (3, .ref (adL 1)), (4, .ref (adL 2)), (5, .int (nI n)), (6, .int (nI b)), (7, .int (g 1)), (8, .int (g 0)), (9, .int 1), (10, .int (nI k9))] → W p l e room_1 s m #[Value.ref b9] below meth c H locs (1030 + 2000 * k9) (10300 + 20000 * k9) (lw_Z below #[Value.ref b9] s) (F0 m 1237 ls [])) : W p l e room_1 s m #[Value.ref b9] below meth c H locs (30 + 2000 * k9) (300 + 20000 * k9) (lw_Z below #[Value.ref b9] s) (F0 m 766 ls []) := by
  obtain ⟨hR, hA, hsz, hS, hLV⟩ := hI
  obtain ⟨hx, hb0, hr, hml, hown0, hts0, hX, hbl, hlocks, hgv⟩ := C0
  have hb : c.code = cL_law := hb0
  have hown : s.vm.findClass RL = some m.cls := hown0
  have hts : ∀ w ∈ wsL_law, w.before #[Value.ref b9] s = true := fun w h => hts0 w (wsL_law_in w h)
  have hK := hE0.1
  have hIv := hLV.1
  have hbd := hIv.bd
  have hn := hIv.1
  have hb5 := hIv.2.1
  refine lv_aload_n hx hb dL_law_766 rfl (lv_at hl 1 rfl) ?_
  refine lv_iload hx hb dL_law_767 (lv_at hl 12 rfl) ?_
  refine vx_calli (vx_runSX (hh := [(0, 5, 6, 23)]) (As := [.ref o, .int (nI kk)]) (rest := []) ⟨hx, hb, hml, hown, hts⟩ (c_L_counts_0 l hst D cs (AC s.heap.size AL) z0 sa o g L B n b hn hb5 (nI kk) (kIx_nI hkk (by omega))) (vx_cwSW 2 hts gL_law_L_counts rfl rfl rfl (by decide +kernel) ⟨Nat.le_of_ble_eq_true rfl, Nat.le_of_ble_eq_true rfl⟩) ⟨pR_fb, fun U hU hV => ⟨rfl, hE0.law hS hsz hAL hV hU, by rw [hU]; exact hR, hnc.1.moved hV.alike, hnc.2.1.moved hV.alike, hnc.2.2.moved hV.alike⟩⟩ rfl rfl hl.1 rfl (lv_room (Nat.le_of_ble_eq_true rfl)) dL_law_769 ⟨by show _ ≤ (664879 : Nat); omega, by show _ ≤ (7106988 : Nat); omega⟩) hS (fun q _ h => h.1) (fun q h => h.1) (fun _ _ h => h.elim) (fun E9 ce9 q9 u9 t9 H9 locs9 ht9 hvm9 hpx9 hbx9 hz9 hk9 hS9 hc9 hv9 hl9 => hpx9.elim) (fun r_1 u t9 H locs ht hvm hw hB hz1 hk1 hS => ?_)
  rw [ht] at hB
  simp only [ixN_nI (show kk < 1000 by omega)] at hw hB
  have hR : RC D cs (AC s.heap.size AL) z0 o g L B n b H := hB
  have hsz := Nat.le_trans hsz hz1
  have hA := hA.keptA (A1 := (AC s.heap.size AL)) (fun q hq z => z.2 hq) hk1
  obtain rfl : r_1 = mCount g L (kk) := hw
  refine lv_istore (lv' := [(15, .int (mCount g L (kk))), (0, .ref b9), (1, .ref o), (2, .ref (adL 0)), (3, .ref (adL 1)), (4, .ref (adL 2)), (5, .int (nI n)), (6, .int (nI b)), (7, .int (g 1)), (8, .int (g 0)), (9, .int 1), (10, .int (nI k9)), (12, .int (nI z)), (14, .int (nI kk))]) hx hb dL_law_772 hl (by decide) rfl (fun ls hl => ?_)
  refine lv_aload_n hx hb dL_law_774 rfl (lv_at hl 2 rfl) ?_
  refine lv_iload hx hb dL_law_775 (lv_at hl 13 rfl) ?_
  refine lv_iload hx hb dL_law_777 (lv_at hl 12 rfl) ?_
  refine lv_sipush (v := 3000) hx hb dL_law_779 (by decide) ?_
  refine lv_irem hx hb dL_law_782 (by decide) ?_
  rw [nI_md (a := z) (c := 3000) (k := 3000) rfl (by omega) (by omega) (by omega)]
  have hkw := kWorth_24 (n := n) (k := kk) (a := z % 3000) hkk (by omega) (by omega)
  refine vx_calli (vx_runSX (hh := [(0, 6, 7, 23), (0, 6, 11, 15)]) (As := [.ref o, .int (nI kk), .int (nI (z % 3000))]) (rest := []) ⟨hx, hb, hml, hown, hts⟩ (c_L_setWorth_0 l hst D cs (AC s.heap.size AL) z0 sa o g L B n b hn hb5 (nI kk) (nI (z % 3000)) hkw) (vx_cwSW 3 hts gL_law_L_setWorth rfl rfl rfl (by decide +kernel) ⟨Nat.le_of_ble_eq_true rfl, Nat.le_of_ble_eq_true rfl⟩) ⟨pR_fb, fun U hU hV => ⟨rfl, hE0.law hS hsz hAL hV hU, by rw [hU]; exact hR, hnc.1.moved hV.alike, hnc.2.1.moved hV.alike, hnc.2.2.moved hV.alike⟩⟩ rfl rfl hl.1 rfl (lv_room (Nat.le_of_ble_eq_true rfl)) dL_law_783 ⟨by show _ ≤ (664879 : Nat); omega, by show _ ≤ (7106988 : Nat); omega⟩) hS (fun q _ h => h.1) (fun q h => h.1) (fun _ _ h => h.elim) (fun E9 ce9 q9 u9 t9 H9 locs9 ht9 hvm9 hpx9 hbx9 hz9 hk9 hS9 hc9 hv9 hl9 => hpx9.elim) (fun r_2 u t9 H locs ht hvm hw hB hz1 hk1 hS => ?_)
  rw [ht] at hB
  simp only [ixN_nI (show kk < 1000 by omega)] at hw hB
  have hR : RC D cs (AC s.heap.size AL) z0 o g (updL L 1 (kk) (nI (z % 3000))) B n b H := hB
  have hsz := Nat.le_trans hsz hz1
  have hA := hA.keptA (A1 := (AC s.heap.size AL)) (fun q hq z => z.2 hq) hk1
  obtain rfl : r_2 = L 1 (kk) := hw
  refine lv_istore (lv' := [(16, .int (L 1 (kk))), (15, .int (mCount g L (kk))), (0, .ref b9), (1, .ref o), (2, .ref (adL 0)), (3, .ref (adL 1)), (4, .ref (adL 2)), (5, .int (nI n)), (6, .int (nI b)), (7, .int (g 1)), (8, .int (g 0)), (9, .int 1), (10, .int (nI k9)), (12, .int (nI z)), (14, .int (nI kk))]) hx hb dL_law_786 hl (by decide) rfl (fun ls hl => ?_)
  refine lv_iload hx hb dL_law_788 (lv_at hl 0 rfl) ?_
  refine lv_if_lt (tgt := 846) hx hb dL_law_790 (by decide) (fun c_3 => ?_) (fun c_3 => ?_)
  · -- L 1 (kk) lt 0 : True
    exact absurd c_3 (nn_lt (hIv.2.2.2.2.2.2.1 kk hkk).2.1.1)
  · -- L 1 (kk) lt 0 : False
    refine lv_iload hx hb dL_law_793 (lv_at hl 13 rfl) ?_
    refine lv_sipush (v := 3000) hx hb dL_law_795 (by decide) ?_
    refine lv_irem hx hb dL_law_798 (by decide) ?_
    rw [nI_md (a := z) (c := 3000) (k := 3000) rfl (by omega) (by omega) (by omega)]
    refine lv_iload hx hb dL_law_799 (lv_at hl 0 rfl) ?_
    refine lv_icmp_lt (tgt := 818) hx hb dL_law_801 (by decide) (fun c_4 => ?_) (fun c_4 => ?_)
    · -- nI (z % 3000) lt L 1 (kk) : True
      refine lv_aload_n hx hb dL_law_818 rfl (lv_at hl 3 rfl) ?_
      refine lv_iload hx hb dL_law_819 (lv_at hl 14 rfl) ?_
      refine vx_calli (vx_runSX (hh := [(0, 5, 6, 23)]) (As := [.ref o, .int (nI kk)]) (rest := []) ⟨hx, hb, hml, hown, hts⟩ (c_L_counts_0 l hst D cs (AC s.heap.size AL) z0 sa o g (updL L 1 (kk) (nI (z % 3000))) B n b hn hb5 (nI kk) (kIx_nI hkk (by omega))) (vx_cwSW 2 hts gL_law_L_counts rfl rfl rfl (by decide +kernel) ⟨Nat.le_of_ble_eq_true rfl, Nat.le_of_ble_eq_true rfl⟩) ⟨pR_fb, fun U hU hV => ⟨rfl, hE0.law hS hsz hAL hV hU, by rw [hU]; exact hR, hnc.1.moved hV.alike, hnc.2.1.moved hV.alike, hnc.2.2.moved hV.alike⟩⟩ rfl rfl hl.1 rfl (lv_room (Nat.le_of_ble_eq_true rfl)) dL_law_821 ⟨by show _ ≤ (664879 : Nat); omega, by show _ ≤ (7106988 : Nat); omega⟩) hS (fun q _ h => h.1) (fun q h => h.1) (fun _ _ h => h.elim) (fun E9 ce9 q9 u9 t9 H9 locs9 ht9 hvm9 hpx9 hbx9 hz9 hk9 hS9 hc9 hv9 hl9 => hpx9.elim) (fun r_5 u t9 H locs ht hvm hw hB hz1 hk1 hS => ?_)
      rw [ht] at hB
      simp only [ixN_nI (show kk < 1000 by omega)] at hw hB
      have hR : RC D cs (AC s.heap.size AL) z0 o g (updL L 1 (kk) (nI (z % 3000))) B n b H := hB
      have hsz := Nat.le_trans hsz hz1
      have hA := hA.keptA (A1 := (AC s.heap.size AL)) (fun q hq z => z.2 hq) hk1
      obtain rfl : r_5 = mCount g (updL L 1 (kk) (nI (z % 3000))) (kk) := hw
      refine lv_iload hx hb dL_law_824 (lv_at hl 1 rfl) ?_
      refine lv_icmp_gt (tgt := 846) hx hb dL_law_826 (by decide) (fun c_6 => ?_) (fun c_6 => ?_)
      · -- mCount g (updL L 1 (kk) (nI (z % 3000))) (kk) gt mCount g L (kk) : True
        exact absurd c_6 (Int32.not_lt.mpr (mCount_dn hIv hkk (nI_b (by omega)) (Int32.le_of_lt c_4)))
      · -- mCount g (updL L 1 (kk) (nI (z % 3000))) (kk) gt mCount g L (kk) : False
        refine lv_aload_n hx hb dL_law_829 rfl (lv_at hl 3 rfl) ?_
        refine lv_iload hx hb dL_law_830 (lv_at hl 14 rfl) ?_
        refine vx_calli (vx_runSX (hh := [(0, 5, 6, 23)]) (As := [.ref o, .int (nI kk)]) (rest := []) ⟨hx, hb, hml, hown, hts⟩ (c_L_counts_0 l hst D cs (AC s.heap.size AL) z0 sa o g (updL L 1 (kk) (nI (z % 3000))) B n b hn hb5 (nI kk) (kIx_nI hkk (by omega))) (vx_cwSW 2 hts gL_law_L_counts rfl rfl rfl (by decide +kernel) ⟨Nat.le_of_ble_eq_true rfl, Nat.le_of_ble_eq_true rfl⟩) ⟨pR_fb, fun U hU hV => ⟨rfl, hE0.law hS hsz hAL hV hU, by rw [hU]; exact hR, hnc.1.moved hV.alike, hnc.2.1.moved hV.alike, hnc.2.2.moved hV.alike⟩⟩ rfl rfl hl.1 rfl (lv_room (Nat.le_of_ble_eq_true rfl)) dL_law_832 ⟨by show _ ≤ (664879 : Nat); omega, by show _ ≤ (7106988 : Nat); omega⟩) hS (fun q _ h => h.1) (fun q h => h.1) (fun _ _ h => h.elim) (fun E9 ce9 q9 u9 t9 H9 locs9 ht9 hvm9 hpx9 hbx9 hz9 hk9 hS9 hc9 hv9 hl9 => hpx9.elim) (fun r_7 u t9 H locs ht hvm hw hB hz1 hk1 hS => ?_)
        rw [ht] at hB
        simp only [ixN_nI (show kk < 1000 by omega)] at hw hB
        have hR : RC D cs (AC s.heap.size AL) z0 o g (updL L 1 (kk) (nI (z % 3000))) B n b H := hB
        have hsz := Nat.le_trans hsz hz1
        have hA := hA.keptA (A1 := (AC s.heap.size AL)) (fun q hq z => z.2 hq) hk1
        obtain rfl : r_7 = mCount g (updL L 1 (kk) (nI (z % 3000))) (kk) := hw
        refine lv_aload_n hx hb dL_law_835 rfl (lv_at hl 4 rfl) ?_
        refine lv_iload hx hb dL_law_836 (lv_at hl 14 rfl) ?_
        refine wb_iald hx hb hK hA 0 (by decide) 0 rfl rfl kk rfl (by omega) (by decide) dL_law_838 ?_
        rw [show (fa kk : Int32) = L 0 kk from hLV.2.2.1 kk hkk]
        refine lv_icmp_gt (tgt := 846) hx hb dL_law_839 (by decide) (fun c_8 => ?_) (fun c_8 => ?_)
        · -- mCount g (updL L 1 (kk) (nI (z % 3000))) (kk) gt L 0 kk : True
          exact absurd c_8 (Int32.not_lt.mpr (mCount_le hIv hkk))
        · -- mCount g (updL L 1 (kk) (nI (z % 3000))) (kk) gt L 0 kk : False
          refine lv_iconst (v := 1) hx hb dL_law_842 (by decide) ?_
          refine lv_goto (tgt := 847) hx hb dL_law_843 (by decide) ?_
          refine lv_istore (lv' := [(9, .int 1), (16, .int (L 1 (kk))), (15, .int (mCount g L (kk))), (0, .ref b9), (1, .ref o), (2, .ref (adL 0)), (3, .ref (adL 1)), (4, .ref (adL 2)), (5, .int (nI n)), (6, .int (nI b)), (7, .int (g 1)), (8, .int (g 0)), (10, .int (nI k9)), (12, .int (nI z)), (14, .int (nI kk))]) hx hb dL_law_847 hl (by decide) rfl (fun ls hl => ?_)
          refine lv_goto (tgt := 1237) hx hb dL_law_849 (by decide) ?_
          refine W.widen (k := 1030 + 2000 * k9) (n := 10300 + 20000 * k9) (by omega) (by omega) ?_
          exact KK _ _ _ fa fd fs g (updL L 1 (kk) (nI (z % 3000))) B n b ⟨hR, hA, hsz, hS, ((hLV.k1 hkk (nI_b (by omega)))).k⟩ (lv_sub hl [3, 4, 5, 6, 7, 8, 9, 10, 11, 0, 12] rfl)
    · -- nI (z % 3000) lt L 1 (kk) : False
      refine lv_aload_n hx hb dL_law_804 rfl (lv_at hl 3 rfl) ?_
      refine lv_iload hx hb dL_law_805 (lv_at hl 14 rfl) ?_
      refine vx_calli (vx_runSX (hh := [(0, 5, 6, 23)]) (As := [.ref o, .int (nI kk)]) (rest := []) ⟨hx, hb, hml, hown, hts⟩ (c_L_counts_0 l hst D cs (AC s.heap.size AL) z0 sa o g (updL L 1 (kk) (nI (z % 3000))) B n b hn hb5 (nI kk) (kIx_nI hkk (by omega))) (vx_cwSW 2 hts gL_law_L_counts rfl rfl rfl (by decide +kernel) ⟨Nat.le_of_ble_eq_true rfl, Nat.le_of_ble_eq_true rfl⟩) ⟨pR_fb, fun U hU hV => ⟨rfl, hE0.law hS hsz hAL hV hU, by rw [hU]; exact hR, hnc.1.moved hV.alike, hnc.2.1.moved hV.alike, hnc.2.2.moved hV.alike⟩⟩ rfl rfl hl.1 rfl (lv_room (Nat.le_of_ble_eq_true rfl)) dL_law_807 ⟨by show _ ≤ (664879 : Nat); omega, by show _ ≤ (7106988 : Nat); omega⟩) hS (fun q _ h => h.1) (fun q h => h.1) (fun _ _ h => h.elim) (fun E9 ce9 q9 u9 t9 H9 locs9 ht9 hvm9 hpx9 hbx9 hz9 hk9 hS9 hc9 hv9 hl9 => hpx9.elim) (fun r_9 u t9 H locs ht hvm hw hB hz1 hk1 hS => ?_)
      rw [ht] at hB
      simp only [ixN_nI (show kk < 1000 by omega)] at hw hB
      have hR : RC D cs (AC s.heap.size AL) z0 o g (updL L 1 (kk) (nI (z % 3000))) B n b H := hB
      have hsz := Nat.le_trans hsz hz1
      have hA := hA.keptA (A1 := (AC s.heap.size AL)) (fun q hq z => z.2 hq) hk1
      obtain rfl : r_9 = mCount g (updL L 1 (kk) (nI (z % 3000))) (kk) := hw
      refine lv_iload hx hb dL_law_810 (lv_at hl 1 rfl) ?_
      refine lv_icmp_lt (tgt := 846) hx hb dL_law_812 (by decide) (fun c_10 => ?_) (fun c_10 => ?_)
      · -- mCount g (updL L 1 (kk) (nI (z % 3000))) (kk) lt mCount g L (kk) : True
        exact absurd c_10 (Int32.not_lt.mpr (mCount_up hIv hkk (nI_b (by omega)) (Int32.not_lt.mp c_4)))
      · -- mCount g (updL L 1 (kk) (nI (z % 3000))) (kk) lt mCount g L (kk) : False
        refine lv_goto (tgt := 829) hx hb dL_law_815 (by decide) ?_
        refine lv_aload_n hx hb dL_law_829 rfl (lv_at hl 3 rfl) ?_
        refine lv_iload hx hb dL_law_830 (lv_at hl 14 rfl) ?_
        refine vx_calli (vx_runSX (hh := [(0, 5, 6, 23)]) (As := [.ref o, .int (nI kk)]) (rest := []) ⟨hx, hb, hml, hown, hts⟩ (c_L_counts_0 l hst D cs (AC s.heap.size AL) z0 sa o g (updL L 1 (kk) (nI (z % 3000))) B n b hn hb5 (nI kk) (kIx_nI hkk (by omega))) (vx_cwSW 2 hts gL_law_L_counts rfl rfl rfl (by decide +kernel) ⟨Nat.le_of_ble_eq_true rfl, Nat.le_of_ble_eq_true rfl⟩) ⟨pR_fb, fun U hU hV => ⟨rfl, hE0.law hS hsz hAL hV hU, by rw [hU]; exact hR, hnc.1.moved hV.alike, hnc.2.1.moved hV.alike, hnc.2.2.moved hV.alike⟩⟩ rfl rfl hl.1 rfl (lv_room (Nat.le_of_ble_eq_true rfl)) dL_law_832 ⟨by show _ ≤ (664879 : Nat); omega, by show _ ≤ (7106988 : Nat); omega⟩) hS (fun q _ h => h.1) (fun q h => h.1) (fun _ _ h => h.elim) (fun E9 ce9 q9 u9 t9 H9 locs9 ht9 hvm9 hpx9 hbx9 hz9 hk9 hS9 hc9 hv9 hl9 => hpx9.elim) (fun r_11 u t9 H locs ht hvm hw hB hz1 hk1 hS => ?_)
        rw [ht] at hB
        simp only [ixN_nI (show kk < 1000 by omega)] at hw hB
        have hR : RC D cs (AC s.heap.size AL) z0 o g (updL L 1 (kk) (nI (z % 3000))) B n b H := hB
        have hsz := Nat.le_trans hsz hz1
        have hA := hA.keptA (A1 := (AC s.heap.size AL)) (fun q hq z => z.2 hq) hk1
        obtain rfl : r_11 = mCount g (updL L 1 (kk) (nI (z % 3000))) (kk) := hw
        refine lv_aload_n hx hb dL_law_835 rfl (lv_at hl 4 rfl) ?_
        refine lv_iload hx hb dL_law_836 (lv_at hl 14 rfl) ?_
        refine wb_iald hx hb hK hA 0 (by decide) 0 rfl rfl kk rfl (by omega) (by decide) dL_law_838 ?_
        rw [show (fa kk : Int32) = L 0 kk from hLV.2.2.1 kk hkk]
        refine lv_icmp_gt (tgt := 846) hx hb dL_law_839 (by decide) (fun c_12 => ?_) (fun c_12 => ?_)
        · -- mCount g (updL L 1 (kk) (nI (z % 3000))) (kk) gt L 0 kk : True
          exact absurd c_12 (Int32.not_lt.mpr (mCount_le hIv hkk))
        · -- mCount g (updL L 1 (kk) (nI (z % 3000))) (kk) gt L 0 kk : False
          refine lv_iconst (v := 1) hx hb dL_law_842 (by decide) ?_
          refine lv_goto (tgt := 847) hx hb dL_law_843 (by decide) ?_
          refine lv_istore (lv' := [(9, .int 1), (16, .int (L 1 (kk))), (15, .int (mCount g L (kk))), (0, .ref b9), (1, .ref o), (2, .ref (adL 0)), (3, .ref (adL 1)), (4, .ref (adL 2)), (5, .int (nI n)), (6, .int (nI b)), (7, .int (g 1)), (8, .int (g 0)), (10, .int (nI k9)), (12, .int (nI z)), (14, .int (nI kk))]) hx hb dL_law_847 hl (by decide) rfl (fun ls hl => ?_)
          refine lv_goto (tgt := 1237) hx hb dL_law_849 (by decide) ?_
          refine W.widen (k := 1030 + 2000 * k9) (n := 10300 + 20000 * k9) (by omega) (by omega) ?_
          exact KK _ _ _ fa fd fs g (updL L 1 (kk) (nI (z % 3000))) B n b ⟨hR, hA, hsz, hS, ((hLV.k1 hkk (nI_b (by omega)))).k⟩ (lv_sub hl [3, 4, 5, 6, 7, 8, 9, 10, 11, 0, 12] rfl)

set_option maxHeartbeats 4000000 in
set_option maxRecDepth 100000 in
theorem law_rules {p : Program} {l : Launch} {e : Env} {s : State} {m : MethodId} {below : List Frame} {meth : Method} {c : Code} {b9 L9 : Nat} {xs : Nat → Int32} {D : va_G} {cs : Nat → ClassId} {z0 : Nat} {sa : Nat → Nat} {AL : Nat → Prop} {adL : Nat → Nat} {o sz1 : Nat} (hst : l.stackTraces = false) (C0 : lw_At p s m meth c b9 L9 xs) (hE0 : Ev D cs (fun q => s.heap.size ≤ q) z0 sa s) (hnc : va_Nc xS xA s ∧ va_Nc xS xI s ∧ va_Nc xA xI s) (hAL : ∀ q, AL q → s.heap.size ≤ q ∧ q < sz1) {fa fd fs g : Nat → Int32} {L B : Nat → Nat → Int32} {n b k9 : Nat} {H : Heap} {locs : List Loc} {ls : Array Slot} (hk9 : k9 < 50) {z kk : Nat} (hz : z < 134217728) (hI : LI D cs s AL adL z0 o sz1 fa fd fs g L B n b k9 H locs) (hl : lv_has ls 20 [(0, .ref b9), (1, .ref o), (2, .ref (adL 0)), (3, .ref (adL 1)), (4, .ref (adL 2)), (5, .int (nI n)), (6, .int (nI b)), (7, .int (g 1)), (8, .int (g 0)), (9, .int 1), (10, .int (nI k9)), (12, .int (nI z)), (14, .int (nI kk))]) (KK : ∀ (H : Heap) (locs : List Loc) (ls : Array Slot) (fa fd fs g : Nat → Int32) (L B : Nat → Nat → Int32) (n b : Nat), LI D cs s AL adL z0 o sz1 fa fd fs g L B n b (k9 + 1) H locs → lv_has ls 20 [(0, .ref b9), (1, .ref o), (2, .ref (adL 0)), (3, .ref (adL 1)), (4, .ref (adL 2)), (5, .int (nI n)), (6, .int (nI b)), (7, .int (g 1)), (8, .int (g 0)), (9, .int 1), (10, .int (nI k9))] → W p l e room_1 s m #[Value.ref b9] below meth c H locs (1030 + 2000 * k9) (10300 + 20000 * k9) (lw_Z below #[Value.ref b9] s) (F0 m 1237 ls [])) : W p l e room_1 s m #[Value.ref b9] below meth c H locs (30 + 2000 * k9) (300 + 20000 * k9) (lw_Z below #[Value.ref b9] s) (F0 m 859 ls []) := by
  obtain ⟨hR, hA, hsz, hS, hLV⟩ := hI
  obtain ⟨hx, hb0, hr, hml, hown0, hts0, hX, hbl, hlocks, hgv⟩ := C0
  have hb : c.code = cL_law := hb0
  have hown : s.vm.findClass RL = some m.cls := hown0
  have hts : ∀ w ∈ wsL_law, w.before #[Value.ref b9] s = true := fun w h => hts0 w (wsL_law_in w h)
  have hK := hE0.1
  have hIv := hLV.1
  have hbd := hIv.bd
  have hn := hIv.1
  have hb5 := hIv.2.1
  refine lv_aload_n hx hb dL_law_859 rfl (lv_at hl 1 rfl) ?_
  refine lv_iconst (v := 1) hx hb dL_law_860 (by decide) ?_
  refine lv_iload hx hb dL_law_861 (lv_at hl 11 rfl) ?_
  refine lv_iconst (v := 5) hx hb dL_law_863 (by decide) ?_
  refine lv_irem hx hb dL_law_864 (by decide) ?_
  rw [nI_md (a := z) (c := 5) (k := 5) rfl (by omega) (by omega) (by omega)]
  refine lv_iadd hx hb dL_law_865 ?_
  rw [show (1 : Int32) + nI (z % 5) = nI (1 + (z % 5)) from nI_add 1 _]
  refine lv_iload hx hb dL_law_866 (lv_at hl 11 rfl) ?_
  refine lv_iconst (v := 5) hx hb dL_law_868 (by decide) ?_
  refine lv_idiv hx hb dL_law_869 (by decide) ?_
  rw [nI_dv (a := z) (c := 5) (k := 5) rfl (by omega) (by omega) (by omega)]
  refine lv_bipush (v := 51) hx hb dL_law_870 (by decide) ?_
  refine lv_irem hx hb dL_law_872 (by decide) ?_
  rw [nI_md (a := (z / 5)) (c := 51) (k := 51) rfl (by omega) (by omega) (by omega)]
  refine lv_iload hx hb dL_law_873 (lv_at hl 11 rfl) ?_
  refine lv_sipush (v := 255) hx hb dL_law_875 (by decide) ?_
  refine lv_idiv hx hb dL_law_878 (by decide) ?_
  rw [nI_dv (a := z) (c := 255) (k := 255) rfl (by omega) (by omega) (by omega)]
  refine lv_bipush (v := 21) hx hb dL_law_879 (by decide) ?_
  refine lv_irem hx hb dL_law_881 (by decide) ?_
  rw [nI_md (a := (z / 255)) (c := 21) (k := 21) rfl (by omega) (by omega) (by omega)]
  have hkr := kRules_24 (a := 1 + z % 5) (c := z / 5 % 51) (d := z / 255 % 21) (by omega) (by omega) (by omega) (by omega)
  refine vx_calli (vx_runSX (hh := [(0, 7, 10, 15)]) (As := [.ref o, .int (nI (1 + (z % 5))), .int (nI ((z / 5) % 51)), .int (nI ((z / 255) % 21))]) (rest := []) ⟨hx, hb, hml, hown, hts⟩ (c_L_rules_0 l hst D cs (AC s.heap.size AL) z0 sa o g L B n b hn hb5 (nI (1 + (z % 5))) (nI ((z / 5) % 51)) (nI ((z / 255) % 21)) hkr) (vx_cwSW 4 hts gL_law_L_rules rfl rfl rfl (by decide +kernel) ⟨Nat.le_of_ble_eq_true rfl, Nat.le_of_ble_eq_true rfl⟩) ⟨pR_fb, fun U hU hV => ⟨rfl, hE0.law hS hsz hAL hV hU, by rw [hU]; exact hR, hnc.1.moved hV.alike, hnc.2.1.moved hV.alike, hnc.2.2.moved hV.alike⟩⟩ rfl rfl hl.1 rfl (lv_room (Nat.le_of_ble_eq_true rfl)) dL_law_882 ⟨by show _ ≤ (664879 : Nat); omega, by show _ ≤ (7106988 : Nat); omega⟩) hS (fun q _ h => h.1) (fun q h => h.1) (fun _ _ h => h.elim) (fun E9 ce9 q9 u9 t9 H9 locs9 ht9 hvm9 hpx9 hbx9 hz9 hk9 hS9 hc9 hv9 hl9 => hpx9.elim) (fun r_1 u t9 H locs ht hvm hw hB hz1 hk1 hS => ?_)
  rw [ht] at hB
  have hR : RC D cs (AC s.heap.size AL) z0 o (rulesG g (nI (1 + (z % 5))) (nI ((z / 5) % 51)) (nI ((z / 255) % 21))) L B n b H := hB
  have hsz := Nat.le_trans hsz hz1
  have hA := hA.keptA (A1 := (AC s.heap.size AL)) (fun q hq z => z.2 hq) hk1
  obtain rfl : r_1 = 0 := hw
  refine lv_if_ne (tgt := 892) hx hb dL_law_885 (by decide) (fun c_2 => ?_) (fun c_2 => ?_)
  · -- 0 ne 0 : True
    exact absurd c_2 (by decide)
  · -- 0 ne 0 : False
    refine lv_iconst (v := 1) hx hb dL_law_888 (by decide) ?_
    refine lv_goto (tgt := 893) hx hb dL_law_889 (by decide) ?_
    refine lv_istore (lv' := [(9, .int 1), (0, .ref b9), (1, .ref o), (2, .ref (adL 0)), (3, .ref (adL 1)), (4, .ref (adL 2)), (5, .int (nI n)), (6, .int (nI b)), (7, .int (g 1)), (8, .int (g 0)), (10, .int (nI k9)), (12, .int (nI z)), (14, .int (nI kk))]) hx hb dL_law_893 hl (by decide) rfl (fun ls hl => ?_)
    refine lv_goto (tgt := 1237) hx hb dL_law_895 (by decide) ?_
    refine W.widen (k := 1030 + 2000 * k9) (n := 10300 + 20000 * k9) (by omega) (by omega) ?_
    exact KK _ _ _ fa fd fs (rulesG g (nI (1 + (z % 5))) (nI ((z / 5) % 51)) (nI ((z / 255) % 21))) L B n b ⟨hR, hA, hsz, hS, ((hLV.rules hkr)).k⟩ (lv_sub hl [1, 2, 3, 4, 5, 6, 7, 8, 9, 0, 10] rfl)

set_option maxHeartbeats 4000000 in
set_option maxRecDepth 100000 in
theorem law_take {p : Program} {l : Launch} {e : Env} {s : State} {m : MethodId} {below : List Frame} {meth : Method} {c : Code} {b9 L9 : Nat} {xs : Nat → Int32} {D : va_G} {cs : Nat → ClassId} {z0 : Nat} {sa : Nat → Nat} {AL : Nat → Prop} {adL : Nat → Nat} {o sz1 : Nat} (hst : l.stackTraces = false) (C0 : lw_At p s m meth c b9 L9 xs) (hE0 : Ev D cs (fun q => s.heap.size ≤ q) z0 sa s) (hnc : va_Nc xS xA s ∧ va_Nc xS xI s ∧ va_Nc xA xI s) (hAL : ∀ q, AL q → s.heap.size ≤ q ∧ q < sz1) {fa fd fs g : Nat → Int32} {L B : Nat → Nat → Int32} {n b k9 : Nat} {H : Heap} {locs : List Loc} {ls : Array Slot} (hk9 : k9 < 50) {z kk : Nat} (hz : z < 134217728) (hI : LI D cs s AL adL z0 o sz1 fa fd fs g L B n b k9 H locs) (hl : lv_has ls 20 [(0, .ref b9), (1, .ref o), (2, .ref (adL 0)), (3, .ref (adL 1)), (4, .ref (adL 2)), (5, .int (nI n)), (6, .int (nI b)), (7, .int (g 1)), (8, .int (g 0)), (9, .int 1), (10, .int (nI k9)), (12, .int (nI z)), (14, .int (nI kk))]) (KK : ∀ (H : Heap) (locs : List Loc) (ls : Array Slot) (fa fd fs g : Nat → Int32) (L B : Nat → Nat → Int32) (n b : Nat), LI D cs s AL adL z0 o sz1 fa fd fs g L B n b (k9 + 1) H locs → lv_has ls 20 [(0, .ref b9), (1, .ref o), (2, .ref (adL 0)), (3, .ref (adL 1)), (4, .ref (adL 2)), (5, .int (nI n)), (6, .int (nI b)), (7, .int (g 1)), (8, .int (g 0)), (9, .int 1), (10, .int (nI k9))] → W p l e room_1 s m #[Value.ref b9] below meth c H locs (1030 + 2000 * k9) (10300 + 20000 * k9) (lw_Z below #[Value.ref b9] s) (F0 m 1237 ls [])) : W p l e room_1 s m #[Value.ref b9] below meth c H locs (30 + 2000 * k9) (300 + 20000 * k9) (lw_Z below #[Value.ref b9] s) (F0 m 905 ls []) := by
  obtain ⟨hR, hA, hsz, hS, hLV⟩ := hI
  obtain ⟨hx, hb0, hr, hml, hown0, hts0, hX, hbl, hlocks, hgv⟩ := C0
  have hb : c.code = cL_law := hb0
  have hown : s.vm.findClass RL = some m.cls := hown0
  have hts : ∀ w ∈ wsL_law, w.before #[Value.ref b9] s = true := fun w h => hts0 w (wsL_law_in w h)
  have hK := hE0.1
  have hIv := hLV.1
  have hbd := hIv.bd
  have hn := hIv.1
  have hb5 := hIv.2.1
  refine lv_iconst (v := 1) hx hb dL_law_905 (by decide) ?_
  refine lv_iload hx hb dL_law_906 (lv_at hl 11 rfl) ?_
  refine lv_sipush (v := 3000) hx hb dL_law_908 (by decide) ?_
  refine lv_irem hx hb dL_law_911 (by decide) ?_
  rw [nI_md (a := z) (c := 3000) (k := 3000) rfl (by omega) (by omega) (by omega)]
  refine lv_iadd hx hb dL_law_912 ?_
  rw [show (1 : Int32) + nI (z % 3000) = nI (1 + (z % 3000)) from nI_add 1 _]
  refine lv_istore (lv' := [(15, .int (nI (1 + (z % 3000)))), (0, .ref b9), (1, .ref o), (2, .ref (adL 0)), (3, .ref (adL 1)), (4, .ref (adL 2)), (5, .int (nI n)), (6, .int (nI b)), (7, .int (g 1)), (8, .int (g 0)), (9, .int 1), (10, .int (nI k9)), (12, .int (nI z)), (14, .int (nI kk))]) hx hb dL_law_913 hl (by decide) rfl (fun ls hl => ?_)
  refine lv_aload_n hx hb dL_law_915 rfl (lv_at hl 2 rfl) ?_
  refine lv_iload hx hb dL_law_916 (lv_at hl 0 rfl) ?_
  by_cases h : g 1 < nI (1 + z % 3000)
  ·
    have hkt := kTake_24 (g := g) (a := 1 + z % 3000) (by omega) (by omega)
    refine vx_calli (vx_runSX (hh := [(0, 5, 6, 15), (0, 5, 10, 17)]) (As := [.ref o, .int (nI (1 + (z % 3000)))]) (rest := []) ⟨hx, hb, hml, hown, hts⟩ (c_L_take_2 l hst D cs (AC s.heap.size AL) z0 sa o g L B n b hn hb5 (nI (1 + (z % 3000))) (hkt.trans (if_pos h))) (vx_cwSW 2 hts gL_law_L_take rfl rfl rfl (by decide +kernel) ⟨Nat.le_of_ble_eq_true rfl, Nat.le_of_ble_eq_true rfl⟩) ⟨pR_fb, fun U hU hV => ⟨rfl, hE0.law hS hsz hAL hV hU, by rw [hU]; exact hR, hnc.1.moved hV.alike, hnc.2.1.moved hV.alike, hnc.2.2.moved hV.alike⟩⟩ rfl rfl hl.1 rfl (lv_room (Nat.le_of_ble_eq_true rfl)) dL_law_918 ⟨by show _ ≤ (664879 : Nat); omega, by show _ ≤ (7106988 : Nat); omega⟩) hS (fun q _ h => h.1) (fun q h => h.1) (fun _ _ h => h.elim) (fun E9 ce9 q9 u9 t9 H9 locs9 ht9 hvm9 hpx9 hbx9 hz9 hk9 hS9 hc9 hv9 hl9 => hpx9.elim) (fun r_1 u t9 H locs ht hvm hw hB hz1 hk1 hS => ?_)
    rw [ht] at hB
    have hR : RC D cs (AC s.heap.size AL) z0 o g L B n b H := hB
    have hsz := Nat.le_trans hsz hz1
    have hA := hA.keptA (A1 := (AC s.heap.size AL)) (fun q hq z => z.2 hq) hk1
    obtain rfl : r_1 = (-103) := hw
    refine lv_iload hx hb dL_law_921 (lv_at hl 8 rfl) ?_
    refine lv_iload hx hb dL_law_923 (lv_at hl 0 rfl) ?_
    refine lv_icmp_lt (tgt := 936) hx hb dL_law_925 (by decide) (fun c_2 => ?_) (fun c_2 => ?_)
    · -- g 1 lt nI (1 + (z % 3000)) : True
      refine lv_bipush (v := (-103)) hx hb dL_law_936 (by decide) ?_
      refine lv_icmp_ne (tgt := 945) hx hb dL_law_938 (by decide) (fun c_3 => ?_) (fun c_3 => ?_)
      · -- (-103) ne (-103) : True
        exact absurd c_3 (by decide)
      · -- (-103) ne (-103) : False
        refine lv_iconst (v := 1) hx hb dL_law_941 (by decide) ?_
        refine lv_goto (tgt := 946) hx hb dL_law_942 (by decide) ?_
        refine lv_istore (lv' := [(9, .int 1), (15, .int (nI (1 + (z % 3000)))), (0, .ref b9), (1, .ref o), (2, .ref (adL 0)), (3, .ref (adL 1)), (4, .ref (adL 2)), (5, .int (nI n)), (6, .int (nI b)), (7, .int (g 1)), (8, .int (g 0)), (10, .int (nI k9)), (12, .int (nI z)), (14, .int (nI kk))]) hx hb dL_law_946 hl (by decide) rfl (fun ls hl => ?_)
        refine lv_iload hx hb dL_law_948 (lv_at hl 9 rfl) ?_
        refine lv_iload hx hb dL_law_950 (lv_at hl 9 rfl) ?_
        refine lv_iload hx hb dL_law_952 (lv_at hl 1 rfl) ?_
        refine lv_icmp_lt (tgt := 962) hx hb dL_law_954 (by decide) (fun c_4 => ?_) (fun c_4 => ?_)
        · -- g 1 lt nI (1 + (z % 3000)) : True
          refine lv_iconst (v := 0) hx hb dL_law_962 (by decide) ?_
          refine lv_isub hx hb dL_law_963 ?_
          rw [show ((g 1) - 0 : Int32) = g 1 from by grind]
          refine lv_istore (lv' := [(7, .int (g 1)), (9, .int 1), (15, .int (nI (1 + (z % 3000)))), (0, .ref b9), (1, .ref o), (2, .ref (adL 0)), (3, .ref (adL 1)), (4, .ref (adL 2)), (5, .int (nI n)), (6, .int (nI b)), (8, .int (g 0)), (10, .int (nI k9)), (12, .int (nI z)), (14, .int (nI kk))]) hx hb dL_law_964 hl (by decide) rfl (fun ls hl => ?_)
          refine lv_goto (tgt := 1237) hx hb dL_law_966 (by decide) ?_
          refine W.widen (k := 1030 + 2000 * k9) (n := 10300 + 20000 * k9) (by omega) (by omega) ?_
          exact KK _ _ _ fa fd fs g L B n b ⟨hR, hA, hsz, hS, (hLV).k⟩ (lv_sub hl [3, 4, 5, 6, 7, 8, 9, 0, 10, 1, 11] rfl)
        · -- g 1 lt nI (1 + (z % 3000)) : False
          exact absurd (h) c_4
    · -- g 1 lt nI (1 + (z % 3000)) : False
      exact absurd (h) c_2
  ·
    have hkt := kTake_24 (g := g) (a := 1 + z % 3000) (by omega) (by omega)
    have hk0 := hkt.trans (if_neg h)
    refine vx_calli (vx_runSX (hh := [(0, 5, 6, 15), (0, 5, 10, 17)]) (As := [.ref o, .int (nI (1 + (z % 3000)))]) (rest := []) ⟨hx, hb, hml, hown, hts⟩ (c_L_take_0 l hst D cs (AC s.heap.size AL) z0 sa o g L B n b hn hb5 (nI (1 + (z % 3000))) hk0) (vx_cwSW 2 hts gL_law_L_take rfl rfl rfl (by decide +kernel) ⟨Nat.le_of_ble_eq_true rfl, Nat.le_of_ble_eq_true rfl⟩) ⟨pR_fb, fun U hU hV => ⟨rfl, hE0.law hS hsz hAL hV hU, by rw [hU]; exact hR, hnc.1.moved hV.alike, hnc.2.1.moved hV.alike, hnc.2.2.moved hV.alike⟩⟩ rfl rfl hl.1 rfl (lv_room (Nat.le_of_ble_eq_true rfl)) dL_law_918 ⟨by show _ ≤ (664879 : Nat); omega, by show _ ≤ (7106988 : Nat); omega⟩) hS (fun q _ h => h.1) (fun q h => h.1) (fun _ _ h => h.elim) (fun E9 ce9 q9 u9 t9 H9 locs9 ht9 hvm9 hpx9 hbx9 hz9 hk9 hS9 hc9 hv9 hl9 => hpx9.elim) (fun r_5 u t9 H locs ht hvm hw hB hz1 hk1 hS => ?_)
    rw [ht] at hB
    have hR : RC D cs (AC s.heap.size AL) z0 o (upd g 1 (g 1 - (nI (1 + (z % 3000))))) L B n b H := hB
    have hsz := Nat.le_trans hsz hz1
    have hA := hA.keptA (A1 := (AC s.heap.size AL)) (fun q hq z => z.2 hq) hk1
    obtain rfl : r_5 = g 1 - (nI (1 + (z % 3000))) := hw
    refine lv_iload hx hb dL_law_921 (lv_at hl 8 rfl) ?_
    refine lv_iload hx hb dL_law_923 (lv_at hl 0 rfl) ?_
    refine lv_icmp_lt (tgt := 936) hx hb dL_law_925 (by decide) (fun c_6 => ?_) (fun c_6 => ?_)
    · -- g 1 lt nI (1 + (z % 3000)) : True
      exact absurd c_6 (h)
    · -- g 1 lt nI (1 + (z % 3000)) : False
      refine lv_iload hx hb dL_law_928 (lv_at hl 8 rfl) ?_
      refine lv_iload hx hb dL_law_930 (lv_at hl 0 rfl) ?_
      refine lv_isub hx hb dL_law_932 ?_
      refine lv_goto (tgt := 938) hx hb dL_law_933 (by decide) ?_
      refine lv_icmp_ne (tgt := 945) hx hb dL_law_938 (by decide) (fun c_7 => ?_) (fun c_7 => ?_)
      · -- g 1 - (nI (1 + (z % 3000))) ne (g 1) - (nI (1 + (z % 3000))) : True
        exact absurd (rfl) c_7
      · -- g 1 - (nI (1 + (z % 3000))) ne (g 1) - (nI (1 + (z % 3000))) : False
        refine lv_iconst (v := 1) hx hb dL_law_941 (by decide) ?_
        refine lv_goto (tgt := 946) hx hb dL_law_942 (by decide) ?_
        refine lv_istore (lv' := [(9, .int 1), (15, .int (nI (1 + (z % 3000)))), (0, .ref b9), (1, .ref o), (2, .ref (adL 0)), (3, .ref (adL 1)), (4, .ref (adL 2)), (5, .int (nI n)), (6, .int (nI b)), (7, .int (g 1)), (8, .int (g 0)), (10, .int (nI k9)), (12, .int (nI z)), (14, .int (nI kk))]) hx hb dL_law_946 hl (by decide) rfl (fun ls hl => ?_)
        refine lv_iload hx hb dL_law_948 (lv_at hl 9 rfl) ?_
        refine lv_iload hx hb dL_law_950 (lv_at hl 9 rfl) ?_
        refine lv_iload hx hb dL_law_952 (lv_at hl 1 rfl) ?_
        refine lv_icmp_lt (tgt := 962) hx hb dL_law_954 (by decide) (fun c_8 => ?_) (fun c_8 => ?_)
        · -- g 1 lt nI (1 + (z % 3000)) : True
          exact absurd c_8 (h)
        · -- g 1 lt nI (1 + (z % 3000)) : False
          refine lv_iload hx hb dL_law_957 (lv_at hl 1 rfl) ?_
          refine lv_goto (tgt := 963) hx hb dL_law_959 (by decide) ?_
          refine lv_isub hx hb dL_law_963 ?_
          refine lv_istore (lv' := [(7, .int ((g 1) - (nI (1 + (z % 3000))))), (9, .int 1), (15, .int (nI (1 + (z % 3000)))), (0, .ref b9), (1, .ref o), (2, .ref (adL 0)), (3, .ref (adL 1)), (4, .ref (adL 2)), (5, .int (nI n)), (6, .int (nI b)), (8, .int (g 0)), (10, .int (nI k9)), (12, .int (nI z)), (14, .int (nI kk))]) hx hb dL_law_964 hl (by decide) rfl (fun ls hl => ?_)
          refine lv_goto (tgt := 1237) hx hb dL_law_966 (by decide) ?_
          refine W.widen (k := 1030 + 2000 * k9) (n := 10300 + 20000 * k9) (by omega) (by omega) ?_
          exact KK _ _ _ fa fd fs (upd g 1 (g 1 - (nI (1 + (z % 3000))))) L B n b ⟨hR, hA, hsz, hS, ((hLV.take hk0)).k⟩ (lv_sub hl [3, 4, 5, 6, 7, 8, 9, 0, 10, 1, 11] rfl)
