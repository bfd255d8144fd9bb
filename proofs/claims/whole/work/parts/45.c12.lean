set_option maxHeartbeats 4000000 in
set_option maxRecDepth 100000 in
theorem c_X3_cash (l : Launch) (D : va_G) (cs : Nat → ClassId) (A : Nat → Prop) (z0 : Nat) (sa : Nat → Nat) (ad : Nat → Nat) (g : Nat → Int32) (L B : Nat → Nat → Int32) (n b : Nat) (y1 y2 : Int32) (N1 N2 : Nat) (nd : Nat → Int32) (gv : Nat → Nat → Int32) (hn : n ≤ 12) (hb5 : b ≤ 5) (hN1 : n ≤ N1 ∧ N1 < 1000) (hN2 : b ≤ N2 ∧ N2 < 1000)  : Met l yX3_cash wsX3_cash ({ frames := 1, cells := 0, slots := 0, locals := 24 } : Room) (va_Pc [.ref (ad 0)] (pC D cs A z0 sa (lvC n b) ad (ctC cs ad z0 g L B n b y1 y2 N1 N2 nd gv))) (va_Qi (fun (r9 : Int32) (_ : Unit) => r9 = g 1) (fun _ _ => True) (fun _ => False)) 0 0 (fun _ => False) := by
  refine Met.ofW (cc := cX3_cash) (maxL := 1) (ret := (some .int)) (by decide) rfl ?_
  intro p e s m args below meth c s₁ BB hml hv
  obtain ⟨rfl, hv⟩ := hv
  obtain ⟨hE, hW⟩ := hv
  have hK := hE.1
  have hx := BB.exec
  have hb := BB.bytes
  have hr := BB.returns
  have hts := atoms_spec (ws := wsX3_cash) BB.pre
  have hown : s.vm.findClass RX3 = some m.cls := findClass_of_methodNamed BB.named
  have hlocks := BB.notSynchronized
  have hS : va_S (fun _ => False) s.heap s.heap [] := va_S.rf
  have hl := lv_entry ([.ref (ad 0)]) (n := 1) (Nat.le_of_ble_eq_true rfl)
  rw [lg_entry_eq]
  generalize (lg_sl ([.ref (ad 0)]) ++ List.replicate (1 - (lg_sl ([.ref (ad 0)])).length) Slot.unset).toArray = ls at hl ⊢
  have hl : lv_has ls 1 [(0, .ref (ad 0))] := hl
  have hf30 := hts (.fieldLink RX3 30 "Coverpool" "cash" "I") (by decide +kernel)
  have hinX3 : ∀ w ∈ u_ws RX3 TX3 8, w ∈ wsX3_cash := by decide +kernel
  refine lv_aload_n hx hb dX3_cash_0 rfl (lv_at hl 0 rfl) ?_
  refine wb_get hx hb hts hinX3 hown hK hW 0 (lvC_0 (by decide)) rfl rfl 4 (by decide) hf30 (fun _ h9 => h9) (v := .int (g 1)) rfl dX3_cash_1 ?_
  exact W.iret (v := g 1) hx hb hr (fun t9 ht9 hW9 => ⟨⟨_, (), rfl, (by rfl), trivial⟩, hS.F ht9⟩) hS.2.2 dX3_cash_4

set_option maxHeartbeats 4000000 in
set_option maxRecDepth 100000 in
theorem law_addLoan {p : Program} {l : Launch} {e : Env} {s : State} {m : MethodId} {below : List Frame} {meth : Method} {c : Code} {b9 L9 : Nat} {xs : Nat → Int32} {D : va_G} {cs : Nat → ClassId} {z0 : Nat} {sa : Nat → Nat} {AM : Nat → Prop} {adM : Nat → Nat} {o oo sz1 : Nat} (hst : l.stackTraces = false) (hL9 : L9 ≤ 2560) (C0 : lw_At p s m meth c b9 L9 xs) (hE0 : Ev D cs (fun q => s.heap.size ≤ q) z0 sa s) (hnc : va_Nc xS xA s ∧ va_Nc xS xI s ∧ va_Nc xA xI s) (hAM : ∀ q, AM q → s.heap.size ≤ q ∧ q < sz1) (hoo : s.heap.size ≤ oo ∧ oo < sz1 ∧ ¬ AM oo) {g : Nat → Int32} {L B : Nat → Nat → Int32} {n b k9 : Nat} {H : Heap} {locs : List Loc} {ls : Array Slot} (hk9 : 5 * k9 + 5 ≤ L9) (hI : LI D cs s AM adM z0 o oo sz1 b9 g L B n b k9 (5 * k9) H locs ls) (KK : ∀ (H1 : Heap) (locs1 : List Loc) (ls1 : Array Slot) (g : Nat → Int32) (L B : Nat → Nat → Int32) (n b : Nat), LI D cs s AM adM z0 o oo sz1 b9 g L B n b (k9 + 1) (5 * k9) H1 locs1 ls1 → W p l e room_1 s m #[Value.ref b9] below meth c H1 locs1 (30 + 2 * (k9 + 1)) (300 + 30 * (k9 + 1)) (lw_Z below #[Value.ref b9] s) (F0 m 1205 ls1 [])) : W p l e room_1 s m #[Value.ref b9] below meth c H locs (30 + 2 * k9) (300 + 30 * k9) (lw_Z below #[Value.ref b9] s) (F0 m 136 ls []) := by
  obtain ⟨hR, ⟨t, hM⟩, hO, hIv, hm9, hsz, hS, hl⟩ := hI
  obtain ⟨hx, hb0, hr, hml, hown0, hts0, hX, hbl, hlocks, hgv⟩ := C0
  have hb : c.code = cL_law := hb0
  have hown : s.vm.findClass RL = some m.cls := hown0
  have hts : ∀ w ∈ wsL_law, w.before #[Value.ref b9] s = true := fun w h => hts0 w (wsL_law_in w h)
  have hbA : ¬ (fun q : Nat => s.heap.size ≤ q) b9 := Nat.not_le.mpr hbl
  have hK := hE0.1
  have hbd := hIv.bd
  have hn := hIv.1
  have hb5 := hIv.2.1
  have dv0 := dv_ok hbd (r := 0) (by decide)
  have dvs := dv_ok hbd hbd.2.2.2.2.2.1
  obtain ⟨ad, y1, y2, N1, N2, nd, gv, ho, hN1, hN2, hW⟩ := hR
  subst ho
  obtain ⟨x, ex⟩ : ∃ x, x = xs (5 * k9 + 1) := ⟨_, rfl⟩
  obtain ⟨y, ey⟩ : ∃ y, y = xs (5 * k9 + 2) := ⟨_, rfl⟩
  obtain ⟨z, ez⟩ : ∃ z, z = xs (5 * k9 + 3) := ⟨_, rfl⟩
  obtain ⟨w, ew⟩ : ∃ w, w = xs (5 * k9 + 4) := ⟨_, rfl⟩
  refine lv_aload_n hx hb dL_law_136 rfl (lv_at hl 1 rfl) ?_
  refine lv_aload_n hx hb dL_law_137 rfl (lv_at hl 0 rfl) ?_
  refine lv_iload hx hb dL_law_138 (lv_at hl 4 rfl) ?_
  refine lv_iconst (v := 1) hx hb dL_law_140 (by decide) ?_
  refine lv_iadd hx hb dL_law_141 ?_
  rw [show nI (5 * k9) + 1 = nI (5 * k9 + 1) from nI_add _ _]
  refine va_sld hx hb hX hbl hbA hS (vp_in_nI (by omega) (by omega)) dL_law_142 ?_
  rw [nI_clamp (by omega), ← ex]
  refine lv_aload_n hx hb dL_law_143 rfl (lv_at hl 0 rfl) ?_
  refine lv_iload hx hb dL_law_144 (lv_at hl 4 rfl) ?_
  refine lv_iconst (v := 2) hx hb dL_law_146 (by decide) ?_
  refine lv_iadd hx hb dL_law_147 ?_
  rw [show nI (5 * k9) + 2 = nI (5 * k9 + 2) from nI_add _ _]
  refine va_sld hx hb hX hbl hbA hS (vp_in_nI (by omega) (by omega)) dL_law_148 ?_
  rw [nI_clamp (by omega), ← ey]
  refine lv_aload_n hx hb dL_law_149 rfl (lv_at hl 0 rfl) ?_
  refine lv_iload hx hb dL_law_150 (lv_at hl 4 rfl) ?_
  refine lv_iconst (v := 3) hx hb dL_law_152 (by decide) ?_
  refine lv_iadd hx hb dL_law_153 ?_
  rw [show nI (5 * k9) + 3 = nI (5 * k9 + 3) from nI_add _ _]
  refine va_sld hx hb hX hbl hbA hS (vp_in_nI (by omega) (by omega)) dL_law_154 ?_
  rw [nI_clamp (by omega), ← ez]
  refine lv_aload_n hx hb dL_law_155 rfl (lv_at hl 0 rfl) ?_
  refine lv_iload hx hb dL_law_156 (lv_at hl 4 rfl) ?_
  refine lv_iconst (v := 4) hx hb dL_law_158 (by decide) ?_
  refine lv_iadd hx hb dL_law_159 ?_
  rw [show nI (5 * k9) + 4 = nI (5 * k9 + 4) from nI_add _ _]
  refine va_sld hx hb hX hbl hbA hS (vp_in_nI (by omega) (by omega)) dL_law_160 ?_
  rw [nI_clamp (by omega), ← ew]
  refine lv_aload_n hx hb dL_law_161 rfl (lv_at hl 3 rfl) ?_
  refine vx_calli (vx_runSX (hh := [(0, 14, 17, 13), (0, 14, 21, 15)]) (As := [.ref (ad 0), .int x, .int y, .int z, .int w, .ref oo]) (rest := []) ⟨hx, hb, hml, hown, hts⟩ (c_L_addLoan l hst D cs (AC s.heap.size AM oo) z0 sa ad g L B n b y1 y2 N1 N2 nd gv hn hb5 hN1 hN2 oo (fun h => h.2.2 rfl) x y z w (hIv.2.2.2.2.2.2.2.2.1 n (Nat.le_refl n))) (vx_cwSW 6 hts gL_law_L_addLoan rfl rfl rfl (by decide +kernel) ⟨Nat.le_of_ble_eq_true rfl, Nat.le_of_ble_eq_true rfl⟩) ⟨pH_fb, fun U hU hV => ⟨rfl, ⟨hE0.law hS hsz hAM hoo hV hU, by rw [hU]; exact hW⟩, by rw [hU]; exact hO, hnc.1.moved hV.alike, hnc.2.1.moved hV.alike, hnc.2.2.moved hV.alike⟩⟩ rfl rfl hl.1 rfl (lv_room (Nat.le_of_ble_eq_true rfl)) dL_law_162 ⟨by show _ ≤ (601024 : Nat); omega, by show _ ≤ (7293034 : Nat); omega⟩) hS (fun q _ h => h.elim (fun z => z.1) (fun z => by rw [z]; exact hoo.1)) (fun q h => h.elim (fun z => z.1) (fun z => by rw [z]; exact hoo.1)) (fun _ _ h => h.elim) (fun E9 ce9 q9 u9 t9 H9 locs9 ht9 hvm9 hpx9 hbx9 hz9 hk9 hS9 hc9 hv9 hl9 => hpx9.elim) (fun r_9 u t9 H locs ht hvm hw hB hz1 hk1 hS => ?_)
  rw [ht] at hB
  have hsz := Nat.le_trans hsz hz1
  have hM := hM.keptA (A1 := fun q => (AC s.heap.size AM oo) q ∨ q = oo) (fun q hq z => z.elim (fun w => w.2.1 hq) (fun w => hoo.2.2 (by rw [← w]; exact hq))) hk1
  by_cases hk : kAddLoan g n x y z w = 0
  ·
    obtain rfl : r_9 = 0 := hw.trans hk
    obtain ⟨hR1, f9, hf9, hO1⟩ := hB.1 hk
    refine lv_istore (lv' := [(5, .int 0), (0, .ref b9), (1, .ref (ad 0)), (2, .ref (adM 0)), (3, .ref oo), (4, .int (nI (5 * k9)))]) hx hb dL_law_165 hl (by decide) rfl (fun ls hl => ?_)
    refine lv_aload_n hx hb dL_law_167 rfl (lv_at hl 3 rfl) ?_
    refine lv_aload_n hx hb dL_law_168 rfl (lv_at hl 1 rfl) ?_
    refine lv_iload hx hb dL_law_169 (lv_at hl 5 rfl) ?_
    refine lv_iconst (v := 1) hx hb dL_law_171 (by decide) ?_
    refine lv_iadd hx hb dL_law_172 ?_
    rw [show nI (5 * k9) + 1 = nI (5 * k9 + 1) from nI_add _ _]
    refine va_sld hx hb hX hbl hbA hS (vp_in_nI (by omega) (by omega)) dL_law_173 ?_
    rw [nI_clamp (by omega), ← ex]
    refine lv_aload_n hx hb dL_law_174 rfl (lv_at hl 1 rfl) ?_
    refine lv_iload hx hb dL_law_175 (lv_at hl 5 rfl) ?_
    refine lv_iconst (v := 2) hx hb dL_law_177 (by decide) ?_
    refine lv_iadd hx hb dL_law_178 ?_
    rw [show nI (5 * k9) + 2 = nI (5 * k9 + 2) from nI_add _ _]
    refine va_sld hx hb hX hbl hbA hS (vp_in_nI (by omega) (by omega)) dL_law_179 ?_
    rw [nI_clamp (by omega), ← ey]
    refine lv_aload_n hx hb dL_law_180 rfl (lv_at hl 1 rfl) ?_
    refine lv_iload hx hb dL_law_181 (lv_at hl 5 rfl) ?_
    refine lv_iconst (v := 3) hx hb dL_law_183 (by decide) ?_
    refine lv_iadd hx hb dL_law_184 ?_
    rw [show nI (5 * k9) + 3 = nI (5 * k9 + 3) from nI_add _ _]
    refine va_sld hx hb hX hbl hbA hS (vp_in_nI (by omega) (by omega)) dL_law_185 ?_
    rw [nI_clamp (by omega), ← ez]
    refine lv_aload_n hx hb dL_law_186 rfl (lv_at hl 1 rfl) ?_
    refine lv_iload hx hb dL_law_187 (lv_at hl 5 rfl) ?_
    refine lv_iconst (v := 4) hx hb dL_law_189 (by decide) ?_
    refine lv_iadd hx hb dL_law_190 ?_
    rw [show nI (5 * k9) + 4 = nI (5 * k9 + 4) from nI_add _ _]
    refine va_sld hx hb hX hbl hbA hS (vp_in_nI (by omega) (by omega)) dL_law_191 ?_
    rw [nI_clamp (by omega), ← ew]
    refine va_calli (va_runV (As := [.int x, .int y, .int z, .int w]) (rest := []) ⟨hx, hb, hml, hown, hts⟩ (c_X4_addLoan l D cs AM adM g L B n b t hn hb5 x y z w) (cwV 4 hts gL_law_X4_addLoan rfl rfl rfl (by decide +kernel) ⟨Nat.le_of_ble_eq_true rfl, Nat.le_of_ble_eq_true rfl⟩) ⟨pM_fb, wb_recv hK hM (r := 0) (Nat.le_of_ble_eq_true rfl) (ci := 5) rfl rfl, fun U hU hV => ⟨rfl, pM_of hK hV.alike hU hM⟩⟩ rfl rfl hl.1 rfl (lv_room (Nat.le_of_ble_eq_true rfl)) dL_law_192 ⟨by show _ ≤ (601024 : Nat); omega, by show _ ≤ (7293034 : Nat); omega⟩) hS (fun q _ h => (hAM q h).1) (fun q h => (hAM q h).1) (fun r_8 u8 t8 H locs ht8 hvm8 hw8 hB8 hz8 hk8 hS => ?_)
    rw [ht8] at hB8
    have hsz := Nat.le_trans hsz hz8
    have hR1 := hR1.keptA (A1 := AM) (fun q hq => hq.2.1) hk8
    have hO1 := hO1.keptA (A1 := AM) (fun q hq z => hoo.2.2 (by rw [← hq]; exact z)) hk8
    rw [hk] at hB8
    try simp only [sel_0] at hB8
    have hM : wP D AM lvM adM (ctM cs adM g (addL L n x y z w) B (n + 1) b 0) H := hB8
    obtain rfl : r_8 = nI n := by rw [hw8, hk]; rfl
    refine lv_istore (lv' := [(6, .int (nI n)), (5, .int 0), (0, .ref b9), (1, .ref (ad 0)), (2, .ref (adM 0)), (3, .ref oo), (4, .int (nI (5 * k9)))]) hx hb dL_law_195 hl (by decide) rfl (fun ls hl => ?_)
    refine lv_aload_n hx hb dL_law_197 rfl (lv_at hl 4 rfl) ?_
    refine va_calli (va_runV (As := []) (rest := []) ⟨hx, hb, hml, hown, hts⟩ (c_X4_thrown l D cs AM adM g (addL L n x y z w) B (n + 1) b 0 (kAddLoan_lt hn hk) hb5) (cwV 0 hts gL_law_X4_thrown rfl rfl rfl (by decide +kernel) ⟨Nat.le_of_ble_eq_true rfl, Nat.le_of_ble_eq_true rfl⟩) ⟨pM_fb, wb_recv hK hM (r := 0) (Nat.le_of_ble_eq_true rfl) (ci := 5) rfl rfl, fun U hU hV => ⟨rfl, pM_of hK hV.alike hU hM⟩⟩ rfl rfl hl.1 rfl (lv_room (Nat.le_of_ble_eq_true rfl)) dL_law_198 ⟨by show _ ≤ (601024 : Nat); omega, by show _ ≤ (7293034 : Nat); omega⟩) hS (fun _ _ h => h.elim) (fun _ h => h.elim) (fun r_7 u7 t7 H locs ht7 hvm7 hw7 hB7 hz7 hk7 hS => ?_)
    have hsz := Nat.le_trans hsz hz7
    have hR1 := hR1.keptA (A1 := fun _ => False) (fun _ _ h => h) hk7
    have hM := hM.kept hk7
    have hO1 := hO1.keptA (A1 := fun _ => False) (fun _ _ h => h) hk7
    obtain rfl : r_7 = 0 := hw7
    refine lv_iload hx hb dL_law_201 (lv_at hl 1 rfl) ?_
    refine lv_icmp_eq (tgt := 208) hx hb dL_law_203 (by decide) (fun _ => ?_) (fun hno => absurd rfl hno)
    refine lv_iload hx hb dL_law_208 (lv_at hl 1 rfl) ?_
    refine lv_if_ne (tgt := 225) hx hb dL_law_210 (by decide) (fun hno => absurd rfl hno) (fun _ => ?_)
    refine lv_aload_n hx hb dL_law_213 rfl (lv_at hl 5 rfl) ?_
    refine lv_iconst (v := 0) hx hb dL_law_214 (by decide) ?_
    refine wb_lald hx hb hK hO1 0 rfl 4 rfl rfl rfl 0 nI_0.symm (by decide) (by decide) dL_law_215 ?_
    rw [hf9]
    refine lv_iload hx hb dL_law_216 (lv_at hl 0 rfl) ?_
    refine lv_i2l (v := (nI n).toInt64) hx hb dL_law_218 rfl ?_
    refine W.lcmp hx hb dL_law_219 ?_
    refine lv_if_eq (tgt := 225) hx hb dL_law_220 (by decide) (fun _ => ?_) (fun hno => absurd ((lg0_eq _ _).mpr rfl) hno)
    refine lv_goto (tgt := 1205) hx hb dL_law_225 (by decide) ?_
    refine W.widen (k := 30 + 2 * (k9 + 1)) (n := 300 + 30 * (k9 + 1)) (by omega) (by omega) ?_
    exact KK _ _ _ g (addL L n x y z w) B (n + 1) b ⟨hR1, ⟨_, hM⟩, ⟨f9, trivial, hO1⟩, (hIv.loan hk).1, (by omega), hsz, hS, lv_sub hl [2, 3, 4, 5, 6] rfl⟩
  ·
    have hne9 : ¬ r_9 = 0 := fun z => hk (hw.symm.trans z)
    obtain ⟨hR1, hO2⟩ := hB.2 hk
    refine lv_istore (lv' := [(5, .int r_9), (0, .ref b9), (1, .ref (ad 0)), (2, .ref (adM 0)), (3, .ref oo), (4, .int (nI (5 * k9)))]) hx hb dL_law_165 hl (by decide) rfl (fun ls hl => ?_)
    refine lv_aload_n hx hb dL_law_167 rfl (lv_at hl 3 rfl) ?_
    refine lv_aload_n hx hb dL_law_168 rfl (lv_at hl 1 rfl) ?_
    refine lv_iload hx hb dL_law_169 (lv_at hl 5 rfl) ?_
    refine lv_iconst (v := 1) hx hb dL_law_171 (by decide) ?_
    refine lv_iadd hx hb dL_law_172 ?_
    rw [show nI (5 * k9) + 1 = nI (5 * k9 + 1) from nI_add _ _]
    refine va_sld hx hb hX hbl hbA hS (vp_in_nI (by omega) (by omega)) dL_law_173 ?_
    rw [nI_clamp (by omega), ← ex]
    refine lv_aload_n hx hb dL_law_174 rfl (lv_at hl 1 rfl) ?_
    refine lv_iload hx hb dL_law_175 (lv_at hl 5 rfl) ?_
    refine lv_iconst (v := 2) hx hb dL_law_177 (by decide) ?_
    refine lv_iadd hx hb dL_law_178 ?_
    rw [show nI (5 * k9) + 2 = nI (5 * k9 + 2) from nI_add _ _]
    refine va_sld hx hb hX hbl hbA hS (vp_in_nI (by omega) (by omega)) dL_law_179 ?_
    rw [nI_clamp (by omega), ← ey]
    refine lv_aload_n hx hb dL_law_180 rfl (lv_at hl 1 rfl) ?_
    refine lv_iload hx hb dL_law_181 (lv_at hl 5 rfl) ?_
    refine lv_iconst (v := 3) hx hb dL_law_183 (by decide) ?_
    refine lv_iadd hx hb dL_law_184 ?_
    rw [show nI (5 * k9) + 3 = nI (5 * k9 + 3) from nI_add _ _]
    refine va_sld hx hb hX hbl hbA hS (vp_in_nI (by omega) (by omega)) dL_law_185 ?_
    rw [nI_clamp (by omega), ← ez]
    refine lv_aload_n hx hb dL_law_186 rfl (lv_at hl 1 rfl) ?_
    refine lv_iload hx hb dL_law_187 (lv_at hl 5 rfl) ?_
    refine lv_iconst (v := 4) hx hb dL_law_189 (by decide) ?_
    refine lv_iadd hx hb dL_law_190 ?_
    rw [show nI (5 * k9) + 4 = nI (5 * k9 + 4) from nI_add _ _]
    refine va_sld hx hb hX hbl hbA hS (vp_in_nI (by omega) (by omega)) dL_law_191 ?_
    rw [nI_clamp (by omega), ← ew]
    refine va_calli (va_runV (As := [.int x, .int y, .int z, .int w]) (rest := []) ⟨hx, hb, hml, hown, hts⟩ (c_X4_addLoan l D cs AM adM g L B n b t hn hb5 x y z w) (cwV 4 hts gL_law_X4_addLoan rfl rfl rfl (by decide +kernel) ⟨Nat.le_of_ble_eq_true rfl, Nat.le_of_ble_eq_true rfl⟩) ⟨pM_fb, wb_recv hK hM (r := 0) (Nat.le_of_ble_eq_true rfl) (ci := 5) rfl rfl, fun U hU hV => ⟨rfl, pM_of hK hV.alike hU hM⟩⟩ rfl rfl hl.1 rfl (lv_room (Nat.le_of_ble_eq_true rfl)) dL_law_192 ⟨by show _ ≤ (601024 : Nat); omega, by show _ ≤ (7293034 : Nat); omega⟩) hS (fun q _ h => (hAM q h).1) (fun q h => (hAM q h).1) (fun r_8 u8 t8 H locs ht8 hvm8 hw8 hB8 hz8 hk8 hS => ?_)
    rw [ht8] at hB8
    have hsz := Nat.le_trans hsz hz8
    have hR1 := hR1.keptA (A1 := AM) (fun q hq => hq.2.1) hk8
    have hO2 := hO2.keptA (A1 := AM) hoo.2.2 hk8
    try simp only [sel_n hk] at hB8
    have hM : wP D AM lvM adM (ctM cs adM g L B n b (kAddLoan g n x y z w)) H := hB8
    refine lv_istore (lv' := [(6, .int r_8), (5, .int r_9), (0, .ref b9), (1, .ref (ad 0)), (2, .ref (adM 0)), (3, .ref oo), (4, .int (nI (5 * k9)))]) hx hb dL_law_195 hl (by decide) rfl (fun ls hl => ?_)
    refine lv_aload_n hx hb dL_law_197 rfl (lv_at hl 4 rfl) ?_
    refine va_calli (va_runV (As := []) (rest := []) ⟨hx, hb, hml, hown, hts⟩ (c_X4_thrown l D cs AM adM g L B n b (kAddLoan g n x y z w) hn hb5) (cwV 0 hts gL_law_X4_thrown rfl rfl rfl (by decide +kernel) ⟨Nat.le_of_ble_eq_true rfl, Nat.le_of_ble_eq_true rfl⟩) ⟨pM_fb, wb_recv hK hM (r := 0) (Nat.le_of_ble_eq_true rfl) (ci := 5) rfl rfl, fun U hU hV => ⟨rfl, pM_of hK hV.alike hU hM⟩⟩ rfl rfl hl.1 rfl (lv_room (Nat.le_of_ble_eq_true rfl)) dL_law_198 ⟨by show _ ≤ (601024 : Nat); omega, by show _ ≤ (7293034 : Nat); omega⟩) hS (fun _ _ h => h.elim) (fun _ h => h.elim) (fun r_7 u7 t7 H locs ht7 hvm7 hw7 hB7 hz7 hk7 hS => ?_)
    have hsz := Nat.le_trans hsz hz7
    have hR1 := hR1.keptA (A1 := fun _ => False) (fun _ _ h => h) hk7
    have hM := hM.kept hk7
    have hO2 := hO2.keptA (A1 := fun _ => False) (fun h => h) hk7
    obtain rfl : r_7 = r_9 := hw7.trans hw.symm
    refine lv_iload hx hb dL_law_201 (lv_at hl 1 rfl) ?_
    refine lv_icmp_eq (tgt := 208) hx hb dL_law_203 (by decide) (fun _ => ?_) (fun hno => absurd rfl hno)
    refine lv_iload hx hb dL_law_208 (lv_at hl 1 rfl) ?_
    refine lv_if_ne (tgt := 225) hx hb dL_law_210 (by decide) (fun _ => ?_) (fun hno => absurd hno hne9)
    refine lv_goto (tgt := 1205) hx hb dL_law_225 (by decide) ?_
    refine W.widen (k := 30 + 2 * (k9 + 1)) (n := 300 + 30 * (k9 + 1)) (by omega) (by omega) ?_
    exact KK _ _ _ g L B n b ⟨hR1, ⟨_, hM⟩, hO2, hIv, (by omega), hsz, hS, lv_sub hl [2, 3, 4, 5, 6] rfl⟩

set_option maxHeartbeats 4000000 in
set_option maxRecDepth 100000 in
theorem law_enter {p : Program} {l : Launch} {e : Env} {s : State} {m : MethodId} {below : List Frame} {meth : Method} {c : Code} {b9 L9 : Nat} {xs : Nat → Int32} {D : va_G} {cs : Nat → ClassId} {z0 : Nat} {sa : Nat → Nat} {AM : Nat → Prop} {adM : Nat → Nat} {o oo sz1 : Nat} (hst : l.stackTraces = false) (hL9 : L9 ≤ 2560) (C0 : lw_At p s m meth c b9 L9 xs) (hE0 : Ev D cs (fun q => s.heap.size ≤ q) z0 sa s) (hnc : va_Nc xS xA s ∧ va_Nc xS xI s ∧ va_Nc xA xI s) (hAM : ∀ q, AM q → s.heap.size ≤ q ∧ q < sz1) (hoo : s.heap.size ≤ oo ∧ oo < sz1 ∧ ¬ AM oo) {g : Nat → Int32} {L B : Nat → Nat → Int32} {n b k9 : Nat} {H : Heap} {locs : List Loc} {ls : Array Slot} (hk9 : 5 * k9 + 5 ≤ L9) (hI : LI D cs s AM adM z0 o oo sz1 b9 g L B n b k9 (5 * k9) H locs ls) (KK : ∀ (H1 : Heap) (locs1 : List Loc) (ls1 : Array Slot) (g : Nat → Int32) (L B : Nat → Nat → Int32) (n b : Nat), LI D cs s AM adM z0 o oo sz1 b9 g L B n b (k9 + 1) (5 * k9) H1 locs1 ls1 → W p l e room_1 s m #[Value.ref b9] below meth c H1 locs1 (30 + 2 * (k9 + 1)) (300 + 30 * (k9 + 1)) (lw_Z below #[Value.ref b9] s) (F0 m 1205 ls1 [])) : W p l e room_1 s m #[Value.ref b9] below meth c H locs (30 + 2 * k9) (300 + 30 * k9) (lw_Z below #[Value.ref b9] s) (F0 m 228 ls []) := by
  obtain ⟨hR, ⟨t, hM⟩, hO, hIv, hm9, hsz, hS, hl⟩ := hI
  obtain ⟨hx, hb0, hr, hml, hown0, hts0, hX, hbl, hlocks, hgv⟩ := C0
  have hb : c.code = cL_law := hb0
  have hown : s.vm.findClass RL = some m.cls := hown0
  have hts : ∀ w ∈ wsL_law, w.before #[Value.ref b9] s = true := fun w h => hts0 w (wsL_law_in w h)
  have hbA : ¬ (fun q : Nat => s.heap.size ≤ q) b9 := Nat.not_le.mpr hbl
  have hK := hE0.1
  have hbd := hIv.bd
  have hn := hIv.1
  have hb5 := hIv.2.1
  have dv0 := dv_ok hbd (r := 0) (by decide)
  have dvs := dv_ok hbd hbd.2.2.2.2.2.1
  obtain ⟨ad, y1, y2, N1, N2, nd, gv, ho, hN1, hN2, hW⟩ := hR
  subst ho
  obtain ⟨x, ex⟩ : ∃ x, x = xs (5 * k9 + 1) := ⟨_, rfl⟩
  refine lv_aload_n hx hb dL_law_228 rfl (lv_at hl 1 rfl) ?_
  refine lv_aload_n hx hb dL_law_229 rfl (lv_at hl 0 rfl) ?_
  refine lv_iload hx hb dL_law_230 (lv_at hl 4 rfl) ?_
  refine lv_iconst (v := 1) hx hb dL_law_232 (by decide) ?_
  refine lv_iadd hx hb dL_law_233 ?_
  rw [show nI (5 * k9) + 1 = nI (5 * k9 + 1) from nI_add _ _]
  refine va_sld hx hb hX hbl hbA hS (vp_in_nI (by omega) (by omega)) dL_law_234 ?_
  rw [nI_clamp (by omega), ← ex]
  refine lv_aload_n hx hb dL_law_235 rfl (lv_at hl 3 rfl) ?_
  refine vx_calli (vx_runSX (hh := [(0, 9, 12, 21), (0, 9, 15, 15)]) (As := [.ref (ad 0), .int x, .ref oo]) (rest := []) ⟨hx, hb, hml, hown, hts⟩ (c_L_enter l hst D cs (AC s.heap.size AM oo) z0 sa ad g L B n b y1 y2 N1 N2 nd gv hn hb5 hN1 hN2 oo (fun h => h.2.2 rfl) x) (vx_cwSW 3 hts gL_law_L_enter rfl rfl rfl (by decide +kernel) ⟨Nat.le_of_ble_eq_true rfl, Nat.le_of_ble_eq_true rfl⟩) ⟨pH_fb, fun U hU hV => ⟨rfl, ⟨hE0.law hS hsz hAM hoo hV hU, by rw [hU]; exact hW⟩, by rw [hU]; exact hO, hnc.1.moved hV.alike, hnc.2.1.moved hV.alike, hnc.2.2.moved hV.alike⟩⟩ rfl rfl hl.1 rfl (lv_room (Nat.le_of_ble_eq_true rfl)) dL_law_236 ⟨by show _ ≤ (601024 : Nat); omega, by show _ ≤ (7293034 : Nat); omega⟩) hS (fun q _ h => h.elim (fun z => z.1) (fun z => by rw [z]; exact hoo.1)) (fun q h => h.elim (fun z => z.1) (fun z => by rw [z]; exact hoo.1)) (fun _ _ h => h.elim) (fun E9 ce9 q9 u9 t9 H9 locs9 ht9 hvm9 hpx9 hbx9 hz9 hk9 hS9 hc9 hv9 hl9 => hpx9.elim) (fun r_9 u t9 H locs ht hvm hw hB hz1 hk1 hS => ?_)
  rw [ht] at hB
  have hsz := Nat.le_trans hsz hz1
  have hM := hM.keptA (A1 := fun q => (AC s.heap.size AM oo) q ∨ q = oo) (fun q hq z => z.elim (fun w => w.2.1 hq) (fun w => hoo.2.2 (by rw [← w]; exact hq))) hk1
  by_cases hk : kSt L n 0 x = 0
  ·
    obtain rfl : r_9 = 0 := hw.trans hk
    obtain ⟨hR1, f9, hf9, hO1⟩ := hB.1 hk
    refine lv_istore (lv' := [(5, .int 0), (0, .ref b9), (1, .ref (ad 0)), (2, .ref (adM 0)), (3, .ref oo), (4, .int (nI (5 * k9)))]) hx hb dL_law_239 hl (by decide) rfl (fun ls hl => ?_)
    refine lv_aload_n hx hb dL_law_241 rfl (lv_at hl 3 rfl) ?_
    refine lv_aload_n hx hb dL_law_242 rfl (lv_at hl 1 rfl) ?_
    refine lv_iload hx hb dL_law_243 (lv_at hl 5 rfl) ?_
    refine lv_iconst (v := 1) hx hb dL_law_245 (by decide) ?_
    refine lv_iadd hx hb dL_law_246 ?_
    rw [show nI (5 * k9) + 1 = nI (5 * k9 + 1) from nI_add _ _]
    refine va_sld hx hb hX hbl hbA hS (vp_in_nI (by omega) (by omega)) dL_law_247 ?_
    rw [nI_clamp (by omega), ← ex]
    refine va_calli (va_runV (As := [.int x]) (rest := []) ⟨hx, hb, hml, hown, hts⟩ (c_X4_enter l D cs AM adM g L B n b t hn hb5 x) (cwV 1 hts gL_law_X4_enter rfl rfl rfl (by decide +kernel) ⟨Nat.le_of_ble_eq_true rfl, Nat.le_of_ble_eq_true rfl⟩) ⟨pM_fb, wb_recv hK hM (r := 0) (Nat.le_of_ble_eq_true rfl) (ci := 5) rfl rfl, fun U hU hV => ⟨rfl, pM_of hK hV.alike hU hM⟩⟩ rfl rfl hl.1 rfl (lv_room (Nat.le_of_ble_eq_true rfl)) dL_law_248 ⟨by show _ ≤ (601024 : Nat); omega, by show _ ≤ (7293034 : Nat); omega⟩) hS (fun q _ h => (hAM q h).1) (fun q h => (hAM q h).1) (fun r_8 u8 t8 H locs ht8 hvm8 hw8 hB8 hz8 hk8 hS => ?_)
    rw [ht8] at hB8
    have hsz := Nat.le_trans hsz hz8
    have hR1 := hR1.keptA (A1 := AM) (fun q hq => hq.2.1) hk8
    have hO1 := hO1.keptA (A1 := AM) (fun q hq z => hoo.2.2 (by rw [← hq]; exact z)) hk8
    rw [hk] at hB8
    try simp only [sel_0] at hB8
    have hM : wP D AM lvM adM (ctM cs adM g (updL L 5 (ixN x) 1) B n b 0) H := hB8
    obtain rfl : r_8 = mCount g (updL L 5 (ixN x) 1) (ixN x) := by rw [hw8, hk]; rfl
    refine lv_istore (lv' := [(6, .int (mCount g (updL L 5 (ixN x) 1) (ixN x))), (5, .int 0), (0, .ref b9), (1, .ref (ad 0)), (2, .ref (adM 0)), (3, .ref oo), (4, .int (nI (5 * k9)))]) hx hb dL_law_251 hl (by decide) rfl (fun ls hl => ?_)
    refine lv_aload_n hx hb dL_law_253 rfl (lv_at hl 4 rfl) ?_
    refine va_calli (va_runV (As := []) (rest := []) ⟨hx, hb, hml, hown, hts⟩ (c_X4_thrown l D cs AM adM g (updL L 5 (ixN x) 1) B n b 0 hn hb5) (cwV 0 hts gL_law_X4_thrown rfl rfl rfl (by decide +kernel) ⟨Nat.le_of_ble_eq_true rfl, Nat.le_of_ble_eq_true rfl⟩) ⟨pM_fb, wb_recv hK hM (r := 0) (Nat.le_of_ble_eq_true rfl) (ci := 5) rfl rfl, fun U hU hV => ⟨rfl, pM_of hK hV.alike hU hM⟩⟩ rfl rfl hl.1 rfl (lv_room (Nat.le_of_ble_eq_true rfl)) dL_law_254 ⟨by show _ ≤ (601024 : Nat); omega, by show _ ≤ (7293034 : Nat); omega⟩) hS (fun _ _ h => h.elim) (fun _ h => h.elim) (fun r_7 u7 t7 H locs ht7 hvm7 hw7 hB7 hz7 hk7 hS => ?_)
    have hsz := Nat.le_trans hsz hz7
    have hR1 := hR1.keptA (A1 := fun _ => False) (fun _ _ h => h) hk7
    have hM := hM.kept hk7
    have hO1 := hO1.keptA (A1 := fun _ => False) (fun _ _ h => h) hk7
    obtain rfl : r_7 = 0 := hw7
    refine lv_iload hx hb dL_law_257 (lv_at hl 1 rfl) ?_
    refine lv_icmp_eq (tgt := 264) hx hb dL_law_259 (by decide) (fun _ => ?_) (fun hno => absurd rfl hno)
    refine lv_iload hx hb dL_law_264 (lv_at hl 1 rfl) ?_
    refine lv_if_ne (tgt := 281) hx hb dL_law_266 (by decide) (fun hno => absurd rfl hno) (fun _ => ?_)
    refine lv_aload_n hx hb dL_law_269 rfl (lv_at hl 5 rfl) ?_
    refine lv_iconst (v := 0) hx hb dL_law_270 (by decide) ?_
    refine wb_lald hx hb hK hO1 0 rfl 4 rfl rfl rfl 0 nI_0.symm (by decide) (by decide) dL_law_271 ?_
    rw [hf9]
    refine lv_iload hx hb dL_law_272 (lv_at hl 0 rfl) ?_
    refine lv_i2l (v := (mCount g (updL L 5 (ixN x) 1) (ixN x)).toInt64) hx hb dL_law_274 rfl ?_
    refine W.lcmp hx hb dL_law_275 ?_
    refine lv_if_eq (tgt := 281) hx hb dL_law_276 (by decide) (fun _ => ?_) (fun hno => absurd ((lg0_eq _ _).mpr rfl) hno)
    refine lv_goto (tgt := 1205) hx hb dL_law_281 (by decide) ?_
    refine W.widen (k := 30 + 2 * (k9 + 1)) (n := 300 + 30 * (k9 + 1)) (by omega) (by omega) ?_
    exact KK _ _ _ g (updL L 5 (ixN x) 1) B n b ⟨hR1, ⟨_, hM⟩, ⟨f9, trivial, hO1⟩, hIv.k5 (isIx_lt hn (kSt_0 hk)) 1, (by omega), hsz, hS, lv_sub hl [2, 3, 4, 5, 6] rfl⟩
  ·
    have hne9 : ¬ r_9 = 0 := fun z => hk (hw.symm.trans z)
    obtain ⟨hR1, hO2⟩ := hB.2 hk
    refine lv_istore (lv' := [(5, .int r_9), (0, .ref b9), (1, .ref (ad 0)), (2, .ref (adM 0)), (3, .ref oo), (4, .int (nI (5 * k9)))]) hx hb dL_law_239 hl (by decide) rfl (fun ls hl => ?_)
    refine lv_aload_n hx hb dL_law_241 rfl (lv_at hl 3 rfl) ?_
    refine lv_aload_n hx hb dL_law_242 rfl (lv_at hl 1 rfl) ?_
    refine lv_iload hx hb dL_law_243 (lv_at hl 5 rfl) ?_
    refine lv_iconst (v := 1) hx hb dL_law_245 (by decide) ?_
    refine lv_iadd hx hb dL_law_246 ?_
    rw [show nI (5 * k9) + 1 = nI (5 * k9 + 1) from nI_add _ _]
    refine va_sld hx hb hX hbl hbA hS (vp_in_nI (by omega) (by omega)) dL_law_247 ?_
    rw [nI_clamp (by omega), ← ex]
    refine va_calli (va_runV (As := [.int x]) (rest := []) ⟨hx, hb, hml, hown, hts⟩ (c_X4_enter l D cs AM adM g L B n b t hn hb5 x) (cwV 1 hts gL_law_X4_enter rfl rfl rfl (by decide +kernel) ⟨Nat.le_of_ble_eq_true rfl, Nat.le_of_ble_eq_true rfl⟩) ⟨pM_fb, wb_recv hK hM (r := 0) (Nat.le_of_ble_eq_true rfl) (ci := 5) rfl rfl, fun U hU hV => ⟨rfl, pM_of hK hV.alike hU hM⟩⟩ rfl rfl hl.1 rfl (lv_room (Nat.le_of_ble_eq_true rfl)) dL_law_248 ⟨by show _ ≤ (601024 : Nat); omega, by show _ ≤ (7293034 : Nat); omega⟩) hS (fun q _ h => (hAM q h).1) (fun q h => (hAM q h).1) (fun r_8 u8 t8 H locs ht8 hvm8 hw8 hB8 hz8 hk8 hS => ?_)
    rw [ht8] at hB8
    have hsz := Nat.le_trans hsz hz8
    have hR1 := hR1.keptA (A1 := AM) (fun q hq => hq.2.1) hk8
    have hO2 := hO2.keptA (A1 := AM) hoo.2.2 hk8
    try simp only [sel_n hk] at hB8
    have hM : wP D AM lvM adM (ctM cs adM g L B n b (kSt L n 0 x)) H := hB8
    refine lv_istore (lv' := [(6, .int r_8), (5, .int r_9), (0, .ref b9), (1, .ref (ad 0)), (2, .ref (adM 0)), (3, .ref oo), (4, .int (nI (5 * k9)))]) hx hb dL_law_251 hl (by decide) rfl (fun ls hl => ?_)
    refine lv_aload_n hx hb dL_law_253 rfl (lv_at hl 4 rfl) ?_
    refine va_calli (va_runV (As := []) (rest := []) ⟨hx, hb, hml, hown, hts⟩ (c_X4_thrown l D cs AM adM g L B n b (kSt L n 0 x) hn hb5) (cwV 0 hts gL_law_X4_thrown rfl rfl rfl (by decide +kernel) ⟨Nat.le_of_ble_eq_true rfl, Nat.le_of_ble_eq_true rfl⟩) ⟨pM_fb, wb_recv hK hM (r := 0) (Nat.le_of_ble_eq_true rfl) (ci := 5) rfl rfl, fun U hU hV => ⟨rfl, pM_of hK hV.alike hU hM⟩⟩ rfl rfl hl.1 rfl (lv_room (Nat.le_of_ble_eq_true rfl)) dL_law_254 ⟨by show _ ≤ (601024 : Nat); omega, by show _ ≤ (7293034 : Nat); omega⟩) hS (fun _ _ h => h.elim) (fun _ h => h.elim) (fun r_7 u7 t7 H locs ht7 hvm7 hw7 hB7 hz7 hk7 hS => ?_)
    have hsz := Nat.le_trans hsz hz7
    have hR1 := hR1.keptA (A1 := fun _ => False) (fun _ _ h => h) hk7
    have hM := hM.kept hk7
    have hO2 := hO2.keptA (A1 := fun _ => False) (fun h => h) hk7
    obtain rfl : r_7 = r_9 := hw7.trans hw.symm
    refine lv_iload hx hb dL_law_257 (lv_at hl 1 rfl) ?_
    refine lv_icmp_eq (tgt := 264) hx hb dL_law_259 (by decide) (fun _ => ?_) (fun hno => absurd rfl hno)
    refine lv_iload hx hb dL_law_264 (lv_at hl 1 rfl) ?_
    refine lv_if_ne (tgt := 281) hx hb dL_law_266 (by decide) (fun _ => ?_) (fun hno => absurd hno hne9)
    refine lv_goto (tgt := 1205) hx hb dL_law_281 (by decide) ?_
    refine W.widen (k := 30 + 2 * (k9 + 1)) (n := 300 + 30 * (k9 + 1)) (by omega) (by omega) ?_
    exact KK _ _ _ g L B n b ⟨hR1, ⟨_, hM⟩, hO2, hIv, (by omega), hsz, hS, lv_sub hl [2, 3, 4, 5, 6] rfl⟩

set_option maxHeartbeats 4000000 in
set_option maxRecDepth 100000 in
theorem law_leave {p : Program} {l : Launch} {e : Env} {s : State} {m : MethodId} {below : List Frame} {meth : Method} {c : Code} {b9 L9 : Nat} {xs : Nat → Int32} {D : va_G} {cs : Nat → ClassId} {z0 : Nat} {sa : Nat → Nat} {AM : Nat → Prop} {adM : Nat → Nat} {o oo sz1 : Nat} (hst : l.stackTraces = false) (hL9 : L9 ≤ 2560) (C0 : lw_At p s m meth c b9 L9 xs) (hE0 : Ev D cs (fun q => s.heap.size ≤ q) z0 sa s) (hnc : va_Nc xS xA s ∧ va_Nc xS xI s ∧ va_Nc xA xI s) (hAM : ∀ q, AM q → s.heap.size ≤ q ∧ q < sz1) (hoo : s.heap.size ≤ oo ∧ oo < sz1 ∧ ¬ AM oo) {g : Nat → Int32} {L B : Nat → Nat → Int32} {n b k9 : Nat} {H : Heap} {locs : List Loc} {ls : Array Slot} (hk9 : 5 * k9 + 5 ≤ L9) (hI : LI D cs s AM adM z0 o oo sz1 b9 g L B n b k9 (5 * k9) H locs ls) (KK : ∀ (H1 : Heap) (locs1 : List Loc) (ls1 : Array Slot) (g : Nat → Int32) (L B : Nat → Nat → Int32) (n b : Nat), LI D cs s AM adM z0 o oo sz1 b9 g L B n b (k9 + 1) (5 * k9) H1 locs1 ls1 → W p l e room_1 s m #[Value.ref b9] below meth c H1 locs1 (30 + 2 * (k9 + 1)) (300 + 30 * (k9 + 1)) (lw_Z below #[Value.ref b9] s) (F0 m 1205 ls1 [])) : W p l e room_1 s m #[Value.ref b9] below meth c H locs (30 + 2 * k9) (300 + 30 * k9) (lw_Z below #[Value.ref b9] s) (F0 m 284 ls []) := by
  obtain ⟨hR, ⟨t, hM⟩, hO, hIv, hm9, hsz, hS, hl⟩ := hI
  obtain ⟨hx, hb0, hr, hml, hown0, hts0, hX, hbl, hlocks, hgv⟩ := C0
  have hb : c.code = cL_law := hb0
  have hown : s.vm.findClass RL = some m.cls := hown0
  have hts : ∀ w ∈ wsL_law, w.before #[Value.ref b9] s = true := fun w h => hts0 w (wsL_law_in w h)
  have hbA : ¬ (fun q : Nat => s.heap.size ≤ q) b9 := Nat.not_le.mpr hbl
  have hK := hE0.1
  have hbd := hIv.bd
  have hn := hIv.1
  have hb5 := hIv.2.1
  have dv0 := dv_ok hbd (r := 0) (by decide)
  have dvs := dv_ok hbd hbd.2.2.2.2.2.1
  obtain ⟨ad, y1, y2, N1, N2, nd, gv, ho, hN1, hN2, hW⟩ := hR
  subst ho
  obtain ⟨x, ex⟩ : ∃ x, x = xs (5 * k9 + 1) := ⟨_, rfl⟩
  refine lv_aload_n hx hb dL_law_284 rfl (lv_at hl 1 rfl) ?_
  refine lv_aload_n hx hb dL_law_285 rfl (lv_at hl 0 rfl) ?_
  refine lv_iload hx hb dL_law_286 (lv_at hl 4 rfl) ?_
  refine lv_iconst (v := 1) hx hb dL_law_288 (by decide) ?_
  refine lv_iadd hx hb dL_law_289 ?_
  rw [show nI (5 * k9) + 1 = nI (5 * k9 + 1) from nI_add _ _]
  refine va_sld hx hb hX hbl hbA hS (vp_in_nI (by omega) (by omega)) dL_law_290 ?_
  rw [nI_clamp (by omega), ← ex]
  refine lv_aload_n hx hb dL_law_291 rfl (lv_at hl 3 rfl) ?_
  refine vx_calli (vx_runSX (hh := [(0, 16, 19, 21), (0, 16, 22, 15)]) (As := [.ref (ad 0), .int x, .ref oo]) (rest := []) ⟨hx, hb, hml, hown, hts⟩ (c_L_leave l hst D cs (AC s.heap.size AM oo) z0 sa ad g L B n b y1 y2 N1 N2 nd gv hn hb5 hN1 hN2 oo (fun h => h.2.2 rfl) x hbd) (vx_cwSW 3 hts gL_law_L_leave rfl rfl rfl (by decide +kernel) ⟨Nat.le_of_ble_eq_true rfl, Nat.le_of_ble_eq_true rfl⟩) ⟨pH_fb, fun U hU hV => ⟨rfl, ⟨hE0.law hS hsz hAM hoo hV hU, by rw [hU]; exact hW⟩, by rw [hU]; exact hO, hnc.1.moved hV.alike, hnc.2.1.moved hV.alike, hnc.2.2.moved hV.alike⟩⟩ rfl rfl hl.1 rfl (lv_room (Nat.le_of_ble_eq_true rfl)) dL_law_292 ⟨by show _ ≤ (601024 : Nat); omega, by show _ ≤ (7293034 : Nat); omega⟩) hS (fun q _ h => h.elim (fun z => z.1) (fun z => by rw [z]; exact hoo.1)) (fun q h => h.elim (fun z => z.1) (fun z => by rw [z]; exact hoo.1)) (fun _ _ h => h.elim) (fun E9 ce9 q9 u9 t9 H9 locs9 ht9 hvm9 hpx9 hbx9 hz9 hk9 hS9 hc9 hv9 hl9 => hpx9.elim) (fun r_9 u t9 H locs ht hvm hw hB hz1 hk1 hS => ?_)
  rw [ht] at hB
  have hsz := Nat.le_trans hsz hz1
  have hM := hM.keptA (A1 := fun q => (AC s.heap.size AM oo) q ∨ q = oo) (fun q hq z => z.elim (fun w => w.2.1 hq) (fun w => hoo.2.2 (by rw [← w]; exact hq))) hk1
  by_cases hk : kSt L n 1 x = 0
  ·
    obtain rfl : r_9 = 0 := hw.trans hk
    by_cases hP : mSafe g L B n b (outOf L n x)
    ·
      obtain ⟨hR1, f9, hf9, hO1⟩ := (hB.1 hk).1 hP
      refine lv_istore (lv' := [(5, .int 0), (0, .ref b9), (1, .ref (ad 0)), (2, .ref (adM 0)), (3, .ref oo), (4, .int (nI (5 * k9)))]) hx hb dL_law_295 hl (by decide) rfl (fun ls hl => ?_)
      refine lv_aload_n hx hb dL_law_297 rfl (lv_at hl 3 rfl) ?_
      refine lv_aload_n hx hb dL_law_298 rfl (lv_at hl 1 rfl) ?_
      refine lv_iload hx hb dL_law_299 (lv_at hl 5 rfl) ?_
      refine lv_iconst (v := 1) hx hb dL_law_301 (by decide) ?_
      refine lv_iadd hx hb dL_law_302 ?_
      rw [show nI (5 * k9) + 1 = nI (5 * k9 + 1) from nI_add _ _]
      refine va_sld hx hb hX hbl hbA hS (vp_in_nI (by omega) (by omega)) dL_law_303 ?_
      rw [nI_clamp (by omega), ← ex]
      refine va_calli (va_runV (As := [.int x]) (rest := []) ⟨hx, hb, hml, hown, hts⟩ (c_X4_leave l D cs AM adM g L B n b t hn hb5 x dv0 dvs) (cwV 1 hts gL_law_X4_leave rfl rfl rfl (by decide +kernel) ⟨Nat.le_of_ble_eq_true rfl, Nat.le_of_ble_eq_true rfl⟩) ⟨pM_fb, wb_recv hK hM (r := 0) (Nat.le_of_ble_eq_true rfl) (ci := 5) rfl rfl, fun U hU hV => ⟨rfl, pM_of hK hV.alike hU hM⟩⟩ rfl rfl hl.1 rfl (lv_room (Nat.le_of_ble_eq_true rfl)) dL_law_304 ⟨by show _ ≤ (601024 : Nat); omega, by show _ ≤ (7293034 : Nat); omega⟩) hS (fun q _ h => (hAM q h).1) (fun q h => (hAM q h).1) (fun r_8 u8 t8 H locs ht8 hvm8 hw8 hB8 hz8 hk8 hS => ?_)
      rw [ht8] at hB8
      have hsz := Nat.le_trans hsz hz8
      have hR1 := hR1.keptA (A1 := AM) (fun q hq => hq.2.1) hk8
      have hO1 := hO1.keptA (A1 := AM) (fun q hq z => hoo.2.2 (by rw [← hq]; exact z)) hk8
      rw [hk] at hB8
      try simp only [sel_0] at hB8
      have hM : wP D AM lvM adM (ctM cs adM g (updL L 5 (ixN x) 0) B n b 0) H := pick1 (T := fun L' => wP D AM lvM adM (ctM cs adM g L' B n b 0) H) hB8 hP
      obtain rfl : r_8 = 1 := by rcases hw8 with h | h; exact h.1; exact absurd ⟨hk, hP⟩ h.2
      refine lv_istore (lv' := [(6, .int 1), (5, .int 0), (0, .ref b9), (1, .ref (ad 0)), (2, .ref (adM 0)), (3, .ref oo), (4, .int (nI (5 * k9)))]) hx hb dL_law_307 hl (by decide) rfl (fun ls hl => ?_)
      refine lv_aload_n hx hb dL_law_309 rfl (lv_at hl 4 rfl) ?_
      refine va_calli (va_runV (As := []) (rest := []) ⟨hx, hb, hml, hown, hts⟩ (c_X4_thrown l D cs AM adM g (updL L 5 (ixN x) 0) B n b 0 hn hb5) (cwV 0 hts gL_law_X4_thrown rfl rfl rfl (by decide +kernel) ⟨Nat.le_of_ble_eq_true rfl, Nat.le_of_ble_eq_true rfl⟩) ⟨pM_fb, wb_recv hK hM (r := 0) (Nat.le_of_ble_eq_true rfl) (ci := 5) rfl rfl, fun U hU hV => ⟨rfl, pM_of hK hV.alike hU hM⟩⟩ rfl rfl hl.1 rfl (lv_room (Nat.le_of_ble_eq_true rfl)) dL_law_310 ⟨by show _ ≤ (601024 : Nat); omega, by show _ ≤ (7293034 : Nat); omega⟩) hS (fun _ _ h => h.elim) (fun _ h => h.elim) (fun r_7 u7 t7 H locs ht7 hvm7 hw7 hB7 hz7 hk7 hS => ?_)
      have hsz := Nat.le_trans hsz hz7
      have hR1 := hR1.keptA (A1 := fun _ => False) (fun _ _ h => h) hk7
      have hM := hM.kept hk7
      have hO1 := hO1.keptA (A1 := fun _ => False) (fun _ _ h => h) hk7
      obtain rfl : r_7 = 0 := hw7
      refine lv_iload hx hb dL_law_313 (lv_at hl 1 rfl) ?_
      refine lv_icmp_eq (tgt := 320) hx hb dL_law_315 (by decide) (fun _ => ?_) (fun hno => absurd rfl hno)
      refine lv_iload hx hb dL_law_320 (lv_at hl 1 rfl) ?_
      refine lv_if_ne (tgt := 344) hx hb dL_law_322 (by decide) (fun hno => absurd rfl hno) (fun _ => ?_)
      refine lv_aload_n hx hb dL_law_325 rfl (lv_at hl 5 rfl) ?_
      refine lv_iconst (v := 0) hx hb dL_law_326 (by decide) ?_
      refine wb_lald hx hb hK hO1 0 rfl 4 rfl rfl rfl 0 nI_0.symm (by decide) (by decide) dL_law_327 ?_
      rw [hf9]
      refine lv_iload hx hb dL_law_328 (lv_at hl 0 rfl) ?_
      refine lv_if_eq (tgt := 337) hx hb dL_law_330 (by decide) (fun c_1 => ?_) (fun c_1 => ?_)
      · -- 1 eq 0 : True
        exact absurd c_1 (by decide)
      · -- 1 eq 0 : False
        refine lv_lconst (v := 1) hx hb dL_law_333 (by decide) ?_
        refine lv_goto (tgt := 338) hx hb dL_law_334 (by decide) ?_
        refine W.lcmp hx hb dL_law_338 ?_
        refine lv_if_eq (tgt := 344) hx hb dL_law_339 (by decide) (fun _ => ?_) (fun hno => absurd ((lg0_eq _ _).mpr rfl) hno)
        refine lv_goto (tgt := 1205) hx hb dL_law_344 (by decide) ?_
        refine W.widen (k := 30 + 2 * (k9 + 1)) (n := 300 + 30 * (k9 + 1)) (by omega) (by omega) ?_
        exact KK _ _ _ g (updL L 5 (ixN x) 0) B n b ⟨hR1, ⟨_, hM⟩, ⟨f9, trivial, hO1⟩, hIv.k5 (isIx_lt hn (kSt_0 hk)) 0, (by omega), hsz, hS, lv_sub hl [2, 3, 4, 5, 6] rfl⟩
    ·
      obtain ⟨hR1, f9, hf9, hO1⟩ := (hB.1 hk).2 hP
      refine lv_istore (lv' := [(5, .int 0), (0, .ref b9), (1, .ref (ad 0)), (2, .ref (adM 0)), (3, .ref oo), (4, .int (nI (5 * k9)))]) hx hb dL_law_295 hl (by decide) rfl (fun ls hl => ?_)
      refine lv_aload_n hx hb dL_law_297 rfl (lv_at hl 3 rfl) ?_
      refine lv_aload_n hx hb dL_law_298 rfl (lv_at hl 1 rfl) ?_
      refine lv_iload hx hb dL_law_299 (lv_at hl 5 rfl) ?_
      refine lv_iconst (v := 1) hx hb dL_law_301 (by decide) ?_
      refine lv_iadd hx hb dL_law_302 ?_
      rw [show nI (5 * k9) + 1 = nI (5 * k9 + 1) from nI_add _ _]
      refine va_sld hx hb hX hbl hbA hS (vp_in_nI (by omega) (by omega)) dL_law_303 ?_
      rw [nI_clamp (by omega), ← ex]
      refine va_calli (va_runV (As := [.int x]) (rest := []) ⟨hx, hb, hml, hown, hts⟩ (c_X4_leave l D cs AM adM g L B n b t hn hb5 x dv0 dvs) (cwV 1 hts gL_law_X4_leave rfl rfl rfl (by decide +kernel) ⟨Nat.le_of_ble_eq_true rfl, Nat.le_of_ble_eq_true rfl⟩) ⟨pM_fb, wb_recv hK hM (r := 0) (Nat.le_of_ble_eq_true rfl) (ci := 5) rfl rfl, fun U hU hV => ⟨rfl, pM_of hK hV.alike hU hM⟩⟩ rfl rfl hl.1 rfl (lv_room (Nat.le_of_ble_eq_true rfl)) dL_law_304 ⟨by show _ ≤ (601024 : Nat); omega, by show _ ≤ (7293034 : Nat); omega⟩) hS (fun q _ h => (hAM q h).1) (fun q h => (hAM q h).1) (fun r_8 u8 t8 H locs ht8 hvm8 hw8 hB8 hz8 hk8 hS => ?_)
      rw [ht8] at hB8
      have hsz := Nat.le_trans hsz hz8
      have hR1 := hR1.keptA (A1 := AM) (fun q hq => hq.2.1) hk8
      have hO1 := hO1.keptA (A1 := AM) (fun q hq z => hoo.2.2 (by rw [← hq]; exact z)) hk8
      rw [hk] at hB8
      try simp only [sel_0] at hB8
      have hM : wP D AM lvM adM (ctM cs adM g L B n b 0) H := pick2 (T := fun L' => wP D AM lvM adM (ctM cs adM g L' B n b 0) H) hB8 hP
      obtain rfl : r_8 = 0 := by rcases hw8 with h | h; exact absurd h.2.2 hP; exact h.1
      refine lv_istore (lv' := [(6, .int 0), (5, .int 0), (0, .ref b9), (1, .ref (ad 0)), (2, .ref (adM 0)), (3, .ref oo), (4, .int (nI (5 * k9)))]) hx hb dL_law_307 hl (by decide) rfl (fun ls hl => ?_)
      refine lv_aload_n hx hb dL_law_309 rfl (lv_at hl 4 rfl) ?_
      refine va_calli (va_runV (As := []) (rest := []) ⟨hx, hb, hml, hown, hts⟩ (c_X4_thrown l D cs AM adM g L B n b 0 hn hb5) (cwV 0 hts gL_law_X4_thrown rfl rfl rfl (by decide +kernel) ⟨Nat.le_of_ble_eq_true rfl, Nat.le_of_ble_eq_true rfl⟩) ⟨pM_fb, wb_recv hK hM (r := 0) (Nat.le_of_ble_eq_true rfl) (ci := 5) rfl rfl, fun U hU hV => ⟨rfl, pM_of hK hV.alike hU hM⟩⟩ rfl rfl hl.1 rfl (lv_room (Nat.le_of_ble_eq_true rfl)) dL_law_310 ⟨by show _ ≤ (601024 : Nat); omega, by show _ ≤ (7293034 : Nat); omega⟩) hS (fun _ _ h => h.elim) (fun _ h => h.elim) (fun r_7 u7 t7 H locs ht7 hvm7 hw7 hB7 hz7 hk7 hS => ?_)
      have hsz := Nat.le_trans hsz hz7
      have hR1 := hR1.keptA (A1 := fun _ => False) (fun _ _ h => h) hk7
      have hM := hM.kept hk7
      have hO1 := hO1.keptA (A1 := fun _ => False) (fun _ _ h => h) hk7
      obtain rfl : r_7 = 0 := hw7
      refine lv_iload hx hb dL_law_313 (lv_at hl 1 rfl) ?_
      refine lv_icmp_eq (tgt := 320) hx hb dL_law_315 (by decide) (fun _ => ?_) (fun hno => absurd rfl hno)
      refine lv_iload hx hb dL_law_320 (lv_at hl 1 rfl) ?_
      refine lv_if_ne (tgt := 344) hx hb dL_law_322 (by decide) (fun hno => absurd rfl hno) (fun _ => ?_)
      refine lv_aload_n hx hb dL_law_325 rfl (lv_at hl 5 rfl) ?_
      refine lv_iconst (v := 0) hx hb dL_law_326 (by decide) ?_
      refine wb_lald hx hb hK hO1 0 rfl 4 rfl rfl rfl 0 nI_0.symm (by decide) (by decide) dL_law_327 ?_
      rw [hf9]
      refine lv_iload hx hb dL_law_328 (lv_at hl 0 rfl) ?_
      refine lv_if_eq (tgt := 337) hx hb dL_law_330 (by decide) (fun c_2 => ?_) (fun c_2 => ?_)
      · -- 0 eq 0 : True
        refine lv_lconst (v := 0) hx hb dL_law_337 (by decide) ?_
        refine W.lcmp hx hb dL_law_338 ?_
        refine lv_if_eq (tgt := 344) hx hb dL_law_339 (by decide) (fun _ => ?_) (fun hno => absurd ((lg0_eq _ _).mpr rfl) hno)
        refine lv_goto (tgt := 1205) hx hb dL_law_344 (by decide) ?_
        refine W.widen (k := 30 + 2 * (k9 + 1)) (n := 300 + 30 * (k9 + 1)) (by omega) (by omega) ?_
        exact KK _ _ _ g L B n b ⟨hR1, ⟨_, hM⟩, ⟨f9, trivial, hO1⟩, hIv, (by omega), hsz, hS, lv_sub hl [2, 3, 4, 5, 6] rfl⟩
      · -- 0 eq 0 : False
        exact absurd c_2 (by decide)
  ·
    have hne9 : ¬ r_9 = 0 := fun z => hk (hw.symm.trans z)
    obtain ⟨hR1, hO2⟩ := hB.2 hk
    refine lv_istore (lv' := [(5, .int r_9), (0, .ref b9), (1, .ref (ad 0)), (2, .ref (adM 0)), (3, .ref oo), (4, .int (nI (5 * k9)))]) hx hb dL_law_295 hl (by decide) rfl (fun ls hl => ?_)
    refine lv_aload_n hx hb dL_law_297 rfl (lv_at hl 3 rfl) ?_
    refine lv_aload_n hx hb dL_law_298 rfl (lv_at hl 1 rfl) ?_
    refine lv_iload hx hb dL_law_299 (lv_at hl 5 rfl) ?_
    refine lv_iconst (v := 1) hx hb dL_law_301 (by decide) ?_
    refine lv_iadd hx hb dL_law_302 ?_
    rw [show nI (5 * k9) + 1 = nI (5 * k9 + 1) from nI_add _ _]
    refine va_sld hx hb hX hbl hbA hS (vp_in_nI (by omega) (by omega)) dL_law_303 ?_
    rw [nI_clamp (by omega), ← ex]
    refine va_calli (va_runV (As := [.int x]) (rest := []) ⟨hx, hb, hml, hown, hts⟩ (c_X4_leave l D cs AM adM g L B n b t hn hb5 x dv0 dvs) (cwV 1 hts gL_law_X4_leave rfl rfl rfl (by decide +kernel) ⟨Nat.le_of_ble_eq_true rfl, Nat.le_of_ble_eq_true rfl⟩) ⟨pM_fb, wb_recv hK hM (r := 0) (Nat.le_of_ble_eq_true rfl) (ci := 5) rfl rfl, fun U hU hV => ⟨rfl, pM_of hK hV.alike hU hM⟩⟩ rfl rfl hl.1 rfl (lv_room (Nat.le_of_ble_eq_true rfl)) dL_law_304 ⟨by show _ ≤ (601024 : Nat); omega, by show _ ≤ (7293034 : Nat); omega⟩) hS (fun q _ h => (hAM q h).1) (fun q h => (hAM q h).1) (fun r_8 u8 t8 H locs ht8 hvm8 hw8 hB8 hz8 hk8 hS => ?_)
    rw [ht8] at hB8
    have hsz := Nat.le_trans hsz hz8
    have hR1 := hR1.keptA (A1 := AM) (fun q hq => hq.2.1) hk8
    have hO2 := hO2.keptA (A1 := AM) hoo.2.2 hk8
    try simp only [sel_n hk] at hB8
    have hM : wP D AM lvM adM (ctM cs adM g L B n b (kSt L n 1 x)) H := hB8
    refine lv_istore (lv' := [(6, .int r_8), (5, .int r_9), (0, .ref b9), (1, .ref (ad 0)), (2, .ref (adM 0)), (3, .ref oo), (4, .int (nI (5 * k9)))]) hx hb dL_law_307 hl (by decide) rfl (fun ls hl => ?_)
    refine lv_aload_n hx hb dL_law_309 rfl (lv_at hl 4 rfl) ?_
    refine va_calli (va_runV (As := []) (rest := []) ⟨hx, hb, hml, hown, hts⟩ (c_X4_thrown l D cs AM adM g L B n b (kSt L n 1 x) hn hb5) (cwV 0 hts gL_law_X4_thrown rfl rfl rfl (by decide +kernel) ⟨Nat.le_of_ble_eq_true rfl, Nat.le_of_ble_eq_true rfl⟩) ⟨pM_fb, wb_recv hK hM (r := 0) (Nat.le_of_ble_eq_true rfl) (ci := 5) rfl rfl, fun U hU hV => ⟨rfl, pM_of hK hV.alike hU hM⟩⟩ rfl rfl hl.1 rfl (lv_room (Nat.le_of_ble_eq_true rfl)) dL_law_310 ⟨by show _ ≤ (601024 : Nat); omega, by show _ ≤ (7293034 : Nat); omega⟩) hS (fun _ _ h => h.elim) (fun _ h => h.elim) (fun r_7 u7 t7 H locs ht7 hvm7 hw7 hB7 hz7 hk7 hS => ?_)
    have hsz := Nat.le_trans hsz hz7
    have hR1 := hR1.keptA (A1 := fun _ => False) (fun _ _ h => h) hk7
    have hM := hM.kept hk7
    have hO2 := hO2.keptA (A1 := fun _ => False) (fun h => h) hk7
    obtain rfl : r_7 = r_9 := hw7.trans hw.symm
    refine lv_iload hx hb dL_law_313 (lv_at hl 1 rfl) ?_
    refine lv_icmp_eq (tgt := 320) hx hb dL_law_315 (by decide) (fun _ => ?_) (fun hno => absurd rfl hno)
    refine lv_iload hx hb dL_law_320 (lv_at hl 1 rfl) ?_
    refine lv_if_ne (tgt := 344) hx hb dL_law_322 (by decide) (fun _ => ?_) (fun hno => absurd hno hne9)
    refine lv_goto (tgt := 1205) hx hb dL_law_344 (by decide) ?_
    refine W.widen (k := 30 + 2 * (k9 + 1)) (n := 300 + 30 * (k9 + 1)) (by omega) (by omega) ?_
    exact KK _ _ _ g L B n b ⟨hR1, ⟨_, hM⟩, hO2, hIv, (by omega), hsz, hS, lv_sub hl [2, 3, 4, 5, 6] rfl⟩

set_option maxHeartbeats 4000000 in
set_option maxRecDepth 100000 in
theorem law_swap {p : Program} {l : Launch} {e : Env} {s : State} {m : MethodId} {below : List Frame} {meth : Method} {c : Code} {b9 L9 : Nat} {xs : Nat → Int32} {D : va_G} {cs : Nat → ClassId} {z0 : Nat} {sa : Nat → Nat} {AM : Nat → Prop} {adM : Nat → Nat} {o oo sz1 : Nat} (hst : l.stackTraces = false) (hL9 : L9 ≤ 2560) (C0 : lw_At p s m meth c b9 L9 xs) (hE0 : Ev D cs (fun q => s.heap.size ≤ q) z0 sa s) (hnc : va_Nc xS xA s ∧ va_Nc xS xI s ∧ va_Nc xA xI s) (hAM : ∀ q, AM q → s.heap.size ≤ q ∧ q < sz1) (hoo : s.heap.size ≤ oo ∧ oo < sz1 ∧ ¬ AM oo) {g : Nat → Int32} {L B : Nat → Nat → Int32} {n b k9 : Nat} {H : Heap} {locs : List Loc} {ls : Array Slot} (hk9 : 5 * k9 + 5 ≤ L9) (hI : LI D cs s AM adM z0 o oo sz1 b9 g L B n b k9 (5 * k9) H locs ls) (KK : ∀ (H1 : Heap) (locs1 : List Loc) (ls1 : Array Slot) (g : Nat → Int32) (L B : Nat → Nat → Int32) (n b : Nat), LI D cs s AM adM z0 o oo sz1 b9 g L B n b (k9 + 1) (5 * k9) H1 locs1 ls1 → W p l e room_1 s m #[Value.ref b9] below meth c H1 locs1 (30 + 2 * (k9 + 1)) (300 + 30 * (k9 + 1)) (lw_Z below #[Value.ref b9] s) (F0 m 1205 ls1 [])) : W p l e room_1 s m #[Value.ref b9] below meth c H locs (30 + 2 * k9) (300 + 30 * k9) (lw_Z below #[Value.ref b9] s) (F0 m 347 ls []) := by
  obtain ⟨hR, ⟨t, hM⟩, hO, hIv, hm9, hsz, hS, hl⟩ := hI
  obtain ⟨hx, hb0, hr, hml, hown0, hts0, hX, hbl, hlocks, hgv⟩ := C0
  have hb : c.code = cL_law := hb0
  have hown : s.vm.findClass RL = some m.cls := hown0
  have hts : ∀ w ∈ wsL_law, w.before #[Value.ref b9] s = true := fun w h => hts0 w (wsL_law_in w h)
  have hbA : ¬ (fun q : Nat => s.heap.size ≤ q) b9 := Nat.not_le.mpr hbl
  have hK := hE0.1
  have hbd := hIv.bd
  have hn := hIv.1
  have hb5 := hIv.2.1
  have dv0 := dv_ok hbd (r := 0) (by decide)
  have dvs := dv_ok hbd hbd.2.2.2.2.2.1
  obtain ⟨ad, y1, y2, N1, N2, nd, gv, ho, hN1, hN2, hW⟩ := hR
  subst ho
  obtain ⟨x, ex⟩ : ∃ x, x = xs (5 * k9 + 1) := ⟨_, rfl⟩
  obtain ⟨y, ey⟩ : ∃ y, y = xs (5 * k9 + 2) := ⟨_, rfl⟩
  refine lv_aload_n hx hb dL_law_347 rfl (lv_at hl 1 rfl) ?_
  refine lv_aload_n hx hb dL_law_348 rfl (lv_at hl 0 rfl) ?_
  refine lv_iload hx hb dL_law_349 (lv_at hl 4 rfl) ?_
  refine lv_iconst (v := 1) hx hb dL_law_351 (by decide) ?_
  refine lv_iadd hx hb dL_law_352 ?_
  rw [show nI (5 * k9) + 1 = nI (5 * k9 + 1) from nI_add _ _]
  refine va_sld hx hb hX hbl hbA hS (vp_in_nI (by omega) (by omega)) dL_law_353 ?_
  rw [nI_clamp (by omega), ← ex]
  refine lv_aload_n hx hb dL_law_354 rfl (lv_at hl 0 rfl) ?_
  refine lv_iload hx hb dL_law_355 (lv_at hl 4 rfl) ?_
  refine lv_iconst (v := 2) hx hb dL_law_357 (by decide) ?_
  refine lv_iadd hx hb dL_law_358 ?_
  rw [show nI (5 * k9) + 2 = nI (5 * k9 + 2) from nI_add _ _]
  refine va_sld hx hb hX hbl hbA hS (vp_in_nI (by omega) (by omega)) dL_law_359 ?_
  rw [nI_clamp (by omega), ← ey]
  refine lv_aload_n hx hb dL_law_360 rfl (lv_at hl 3 rfl) ?_
  refine vx_calli (vx_runSX (hh := [(0, 17, 20, 21), (0, 17, 24, 15)]) (As := [.ref (ad 0), .int x, .int y, .ref oo]) (rest := []) ⟨hx, hb, hml, hown, hts⟩ (c_L_swap l hst D cs (AC s.heap.size AM oo) z0 sa ad g L B n b y1 y2 N1 N2 nd gv hn hb5 hN1 hN2 oo (fun h => h.2.2 rfl) x y hbd) (vx_cwSW 4 hts gL_law_L_swap rfl rfl rfl (by decide +kernel) ⟨Nat.le_of_ble_eq_true rfl, Nat.le_of_ble_eq_true rfl⟩) ⟨pH_fb, fun U hU hV => ⟨rfl, ⟨hE0.law hS hsz hAM hoo hV hU, by rw [hU]; exact hW⟩, by rw [hU]; exact hO, hnc.1.moved hV.alike, hnc.2.1.moved hV.alike, hnc.2.2.moved hV.alike⟩⟩ rfl rfl hl.1 rfl (lv_room (Nat.le_of_ble_eq_true rfl)) dL_law_361 ⟨by show _ ≤ (601024 : Nat); omega, by show _ ≤ (7293034 : Nat); omega⟩) hS (fun q _ h => h.elim (fun z => z.1) (fun z => by rw [z]; exact hoo.1)) (fun q h => h.elim (fun z => z.1) (fun z => by rw [z]; exact hoo.1)) (fun _ _ h => h.elim) (fun E9 ce9 q9 u9 t9 H9 locs9 ht9 hvm9 hpx9 hbx9 hz9 hk9 hS9 hc9 hv9 hl9 => hpx9.elim) (fun r_9 u t9 H locs ht hvm hw hB hz1 hk1 hS => ?_)
  rw [ht] at hB
  have hsz := Nat.le_trans hsz hz1
  have hM := hM.keptA (A1 := fun q => (AC s.heap.size AM oo) q ∨ q = oo) (fun q hq z => z.elim (fun w => w.2.1 hq) (fun w => hoo.2.2 (by rw [← w]; exact hq))) hk1
  by_cases hk : kSwap L n x y = 0
  ·
    obtain rfl : r_9 = 0 := hw.trans hk
    by_cases hP : canSwap g L B n b x y
    ·
      obtain ⟨hR1, f9, hf9, hO1⟩ := (hB.1 hk).1 hP
      refine lv_istore (lv' := [(5, .int 0), (0, .ref b9), (1, .ref (ad 0)), (2, .ref (adM 0)), (3, .ref oo), (4, .int (nI (5 * k9)))]) hx hb dL_law_364 hl (by decide) rfl (fun ls hl => ?_)
      refine lv_aload_n hx hb dL_law_366 rfl (lv_at hl 3 rfl) ?_
      refine lv_aload_n hx hb dL_law_367 rfl (lv_at hl 1 rfl) ?_
      refine lv_iload hx hb dL_law_368 (lv_at hl 5 rfl) ?_
      refine lv_iconst (v := 1) hx hb dL_law_370 (by decide) ?_
      refine lv_iadd hx hb dL_law_371 ?_
      rw [show nI (5 * k9) + 1 = nI (5 * k9 + 1) from nI_add _ _]
      refine va_sld hx hb hX hbl hbA hS (vp_in_nI (by omega) (by omega)) dL_law_372 ?_
      rw [nI_clamp (by omega), ← ex]
      refine lv_aload_n hx hb dL_law_373 rfl (lv_at hl 1 rfl) ?_
      refine lv_iload hx hb dL_law_374 (lv_at hl 5 rfl) ?_
      refine lv_iconst (v := 2) hx hb dL_law_376 (by decide) ?_
      refine lv_iadd hx hb dL_law_377 ?_
      rw [show nI (5 * k9) + 2 = nI (5 * k9 + 2) from nI_add _ _]
      refine va_sld hx hb hX hbl hbA hS (vp_in_nI (by omega) (by omega)) dL_law_378 ?_
      rw [nI_clamp (by omega), ← ey]
      refine va_calli (va_runV (As := [.int x, .int y]) (rest := []) ⟨hx, hb, hml, hown, hts⟩ (c_X4_swap l D cs AM adM g L B n b t hn hb5 x y dv0 dvs) (cwV 2 hts gL_law_X4_swap rfl rfl rfl (by decide +kernel) ⟨Nat.le_of_ble_eq_true rfl, Nat.le_of_ble_eq_true rfl⟩) ⟨pM_fb, wb_recv hK hM (r := 0) (Nat.le_of_ble_eq_true rfl) (ci := 5) rfl rfl, fun U hU hV => ⟨rfl, pM_of hK hV.alike hU hM⟩⟩ rfl rfl hl.1 rfl (lv_room (Nat.le_of_ble_eq_true rfl)) dL_law_379 ⟨by show _ ≤ (601024 : Nat); omega, by show _ ≤ (7293034 : Nat); omega⟩) hS (fun q _ h => (hAM q h).1) (fun q h => (hAM q h).1) (fun r_8 u8 t8 H locs ht8 hvm8 hw8 hB8 hz8 hk8 hS => ?_)
      rw [ht8] at hB8
      have hsz := Nat.le_trans hsz hz8
      have hR1 := hR1.keptA (A1 := AM) (fun q hq => hq.2.1) hk8
      have hO1 := hO1.keptA (A1 := AM) (fun q hq z => hoo.2.2 (by rw [← hq]; exact z)) hk8
      rw [hk] at hB8
      try simp only [sel_0] at hB8
      have hM : wP D AM lvM adM (ctM cs adM g (updL (updL L 5 (ixN x) 0) 5 (ixN y) 1) B n b 0) H := pick1 (T := fun L' => wP D AM lvM adM (ctM cs adM g L' B n b 0) H) hB8 hP
      obtain rfl : r_8 = 1 := by rcases hw8 with h | h; exact h.1; exact absurd ⟨hk, hP⟩ h.2
      refine lv_istore (lv' := [(6, .int 1), (5, .int 0), (0, .ref b9), (1, .ref (ad 0)), (2, .ref (adM 0)), (3, .ref oo), (4, .int (nI (5 * k9)))]) hx hb dL_law_382 hl (by decide) rfl (fun ls hl => ?_)
      refine lv_aload_n hx hb dL_law_384 rfl (lv_at hl 4 rfl) ?_
      refine va_calli (va_runV (As := []) (rest := []) ⟨hx, hb, hml, hown, hts⟩ (c_X4_thrown l D cs AM adM g (updL (updL L 5 (ixN x) 0) 5 (ixN y) 1) B n b 0 hn hb5) (cwV 0 hts gL_law_X4_thrown rfl rfl rfl (by decide +kernel) ⟨Nat.le_of_ble_eq_true rfl, Nat.le_of_ble_eq_true rfl⟩) ⟨pM_fb, wb_recv hK hM (r := 0) (Nat.le_of_ble_eq_true rfl) (ci := 5) rfl rfl, fun U hU hV => ⟨rfl, pM_of hK hV.alike hU hM⟩⟩ rfl rfl hl.1 rfl (lv_room (Nat.le_of_ble_eq_true rfl)) dL_law_385 ⟨by show _ ≤ (601024 : Nat); omega, by show _ ≤ (7293034 : Nat); omega⟩) hS (fun _ _ h => h.elim) (fun _ h => h.elim) (fun r_7 u7 t7 H locs ht7 hvm7 hw7 hB7 hz7 hk7 hS => ?_)
      have hsz := Nat.le_trans hsz hz7
      have hR1 := hR1.keptA (A1 := fun _ => False) (fun _ _ h => h) hk7
      have hM := hM.kept hk7
      have hO1 := hO1.keptA (A1 := fun _ => False) (fun _ _ h => h) hk7
      obtain rfl : r_7 = 0 := hw7
      refine lv_iload hx hb dL_law_388 (lv_at hl 1 rfl) ?_
      refine lv_icmp_eq (tgt := 395) hx hb dL_law_390 (by decide) (fun _ => ?_) (fun hno => absurd rfl hno)
      refine lv_iload hx hb dL_law_395 (lv_at hl 1 rfl) ?_
      refine lv_if_ne (tgt := 419) hx hb dL_law_397 (by decide) (fun hno => absurd rfl hno) (fun _ => ?_)
      refine lv_aload_n hx hb dL_law_400 rfl (lv_at hl 5 rfl) ?_
      refine lv_iconst (v := 0) hx hb dL_law_401 (by decide) ?_
      refine wb_lald hx hb hK hO1 0 rfl 4 rfl rfl rfl 0 nI_0.symm (by decide) (by decide) dL_law_402 ?_
      rw [hf9]
      refine lv_iload hx hb dL_law_403 (lv_at hl 0 rfl) ?_
      refine lv_if_eq (tgt := 412) hx hb dL_law_405 (by decide) (fun c_1 => ?_) (fun c_1 => ?_)
      · -- 1 eq 0 : True
        exact absurd c_1 (by decide)
      · -- 1 eq 0 : False
        refine lv_lconst (v := 1) hx hb dL_law_408 (by decide) ?_
        refine lv_goto (tgt := 413) hx hb dL_law_409 (by decide) ?_
        refine W.lcmp hx hb dL_law_413 ?_
        refine lv_if_eq (tgt := 419) hx hb dL_law_414 (by decide) (fun _ => ?_) (fun hno => absurd ((lg0_eq _ _).mpr rfl) hno)
        refine lv_goto (tgt := 1205) hx hb dL_law_419 (by decide) ?_
        refine W.widen (k := 30 + 2 * (k9 + 1)) (n := 300 + 30 * (k9 + 1)) (by omega) (by omega) ?_
        exact KK _ _ _ g (updL (updL L 5 (ixN x) 0) 5 (ixN y) 1) B n b ⟨hR1, ⟨_, hM⟩, ⟨f9, trivial, hO1⟩, (hIv.k5 (isIx_lt hn (kSwap_0 hk).1) 0).k5 (isIx_lt hn (kSwap_0 hk).2) 1, (by omega), hsz, hS, lv_sub hl [2, 3, 4, 5, 6] rfl⟩
    ·
      obtain ⟨hR1, f9, hf9, hO1⟩ := (hB.1 hk).2 hP
      refine lv_istore (lv' := [(5, .int 0), (0, .ref b9), (1, .ref (ad 0)), (2, .ref (adM 0)), (3, .ref oo), (4, .int (nI (5 * k9)))]) hx hb dL_law_364 hl (by decide) rfl (fun ls hl => ?_)
      refine lv_aload_n hx hb dL_law_366 rfl (lv_at hl 3 rfl) ?_
      refine lv_aload_n hx hb dL_law_367 rfl (lv_at hl 1 rfl) ?_
      refine lv_iload hx hb dL_law_368 (lv_at hl 5 rfl) ?_
      refine lv_iconst (v := 1) hx hb dL_law_370 (by decide) ?_
      refine lv_iadd hx hb dL_law_371 ?_
      rw [show nI (5 * k9) + 1 = nI (5 * k9 + 1) from nI_add _ _]
      refine va_sld hx hb hX hbl hbA hS (vp_in_nI (by omega) (by omega)) dL_law_372 ?_
      rw [nI_clamp (by omega), ← ex]
      refine lv_aload_n hx hb dL_law_373 rfl (lv_at hl 1 rfl) ?_
      refine lv_iload hx hb dL_law_374 (lv_at hl 5 rfl) ?_
      refine lv_iconst (v := 2) hx hb dL_law_376 (by decide) ?_
      refine lv_iadd hx hb dL_law_377 ?_
      rw [show nI (5 * k9) + 2 = nI (5 * k9 + 2) from nI_add _ _]
      refine va_sld hx hb hX hbl hbA hS (vp_in_nI (by omega) (by omega)) dL_law_378 ?_
      rw [nI_clamp (by omega), ← ey]
      refine va_calli (va_runV (As := [.int x, .int y]) (rest := []) ⟨hx, hb, hml, hown, hts⟩ (c_X4_swap l D cs AM adM g L B n b t hn hb5 x y dv0 dvs) (cwV 2 hts gL_law_X4_swap rfl rfl rfl (by decide +kernel) ⟨Nat.le_of_ble_eq_true rfl, Nat.le_of_ble_eq_true rfl⟩) ⟨pM_fb, wb_recv hK hM (r := 0) (Nat.le_of_ble_eq_true rfl) (ci := 5) rfl rfl, fun U hU hV => ⟨rfl, pM_of hK hV.alike hU hM⟩⟩ rfl rfl hl.1 rfl (lv_room (Nat.le_of_ble_eq_true rfl)) dL_law_379 ⟨by show _ ≤ (601024 : Nat); omega, by show _ ≤ (7293034 : Nat); omega⟩) hS (fun q _ h => (hAM q h).1) (fun q h => (hAM q h).1) (fun r_8 u8 t8 H locs ht8 hvm8 hw8 hB8 hz8 hk8 hS => ?_)
      rw [ht8] at hB8
      have hsz := Nat.le_trans hsz hz8
      have hR1 := hR1.keptA (A1 := AM) (fun q hq => hq.2.1) hk8
      have hO1 := hO1.keptA (A1 := AM) (fun q hq z => hoo.2.2 (by rw [← hq]; exact z)) hk8
      rw [hk] at hB8
      try simp only [sel_0] at hB8
      have hM : wP D AM lvM adM (ctM cs adM g L B n b 0) H := pick2 (T := fun L' => wP D AM lvM adM (ctM cs adM g L' B n b 0) H) hB8 hP
      obtain rfl : r_8 = 0 := by rcases hw8 with h | h; exact absurd h.2.2 hP; exact h.1
      refine lv_istore (lv' := [(6, .int 0), (5, .int 0), (0, .ref b9), (1, .ref (ad 0)), (2, .ref (adM 0)), (3, .ref oo), (4, .int (nI (5 * k9)))]) hx hb dL_law_382 hl (by decide) rfl (fun ls hl => ?_)
      refine lv_aload_n hx hb dL_law_384 rfl (lv_at hl 4 rfl) ?_
      refine va_calli (va_runV (As := []) (rest := []) ⟨hx, hb, hml, hown, hts⟩ (c_X4_thrown l D cs AM adM g L B n b 0 hn hb5) (cwV 0 hts gL_law_X4_thrown rfl rfl rfl (by decide +kernel) ⟨Nat.le_of_ble_eq_true rfl, Nat.le_of_ble_eq_true rfl⟩) ⟨pM_fb, wb_recv hK hM (r := 0) (Nat.le_of_ble_eq_true rfl) (ci := 5) rfl rfl, fun U hU hV => ⟨rfl, pM_of hK hV.alike hU hM⟩⟩ rfl rfl hl.1 rfl (lv_room (Nat.le_of_ble_eq_true rfl)) dL_law_385 ⟨by show _ ≤ (601024 : Nat); omega, by show _ ≤ (7293034 : Nat); omega⟩) hS (fun _ _ h => h.elim) (fun _ h => h.elim) (fun r_7 u7 t7 H locs ht7 hvm7 hw7 hB7 hz7 hk7 hS => ?_)
      have hsz := Nat.le_trans hsz hz7
      have hR1 := hR1.keptA (A1 := fun _ => False) (fun _ _ h => h) hk7
      have hM := hM.kept hk7
      have hO1 := hO1.keptA (A1 := fun _ => False) (fun _ _ h => h) hk7
      obtain rfl : r_7 = 0 := hw7
      refine lv_iload hx hb dL_law_388 (lv_at hl 1 rfl) ?_
      refine lv_icmp_eq (tgt := 395) hx hb dL_law_390 (by decide) (fun _ => ?_) (fun hno => absurd rfl hno)
      refine lv_iload hx hb dL_law_395 (lv_at hl 1 rfl) ?_
      refine lv_if_ne (tgt := 419) hx hb dL_law_397 (by decide) (fun hno => absurd rfl hno) (fun _ => ?_)
      refine lv_aload_n hx hb dL_law_400 rfl (lv_at hl 5 rfl) ?_
      refine lv_iconst (v := 0) hx hb dL_law_401 (by decide) ?_
      refine wb_lald hx hb hK hO1 0 rfl 4 rfl rfl rfl 0 nI_0.symm (by decide) (by decide) dL_law_402 ?_
      rw [hf9]
      refine lv_iload hx hb dL_law_403 (lv_at hl 0 rfl) ?_
      refine lv_if_eq (tgt := 412) hx hb dL_law_405 (by decide) (fun c_2 => ?_) (fun c_2 => ?_)
      · -- 0 eq 0 : True
        refine lv_lconst (v := 0) hx hb dL_law_412 (by decide) ?_
        refine W.lcmp hx hb dL_law_413 ?_
        refine lv_if_eq (tgt := 419) hx hb dL_law_414 (by decide) (fun _ => ?_) (fun hno => absurd ((lg0_eq _ _).mpr rfl) hno)
        refine lv_goto (tgt := 1205) hx hb dL_law_419 (by decide) ?_
        refine W.widen (k := 30 + 2 * (k9 + 1)) (n := 300 + 30 * (k9 + 1)) (by omega) (by omega) ?_
        exact KK _ _ _ g L B n b ⟨hR1, ⟨_, hM⟩, ⟨f9, trivial, hO1⟩, hIv, (by omega), hsz, hS, lv_sub hl [2, 3, 4, 5, 6] rfl⟩
      · -- 0 eq 0 : False
        exact absurd c_2 (by decide)
  ·
    have hne9 : ¬ r_9 = 0 := fun z => hk (hw.symm.trans z)
    obtain ⟨hR1, hO2⟩ := hB.2 hk
    refine lv_istore (lv' := [(5, .int r_9), (0, .ref b9), (1, .ref (ad 0)), (2, .ref (adM 0)), (3, .ref oo), (4, .int (nI (5 * k9)))]) hx hb dL_law_364 hl (by decide) rfl (fun ls hl => ?_)
    refine lv_aload_n hx hb dL_law_366 rfl (lv_at hl 3 rfl) ?_
    refine lv_aload_n hx hb dL_law_367 rfl (lv_at hl 1 rfl) ?_
    refine lv_iload hx hb dL_law_368 (lv_at hl 5 rfl) ?_
    refine lv_iconst (v := 1) hx hb dL_law_370 (by decide) ?_
    refine lv_iadd hx hb dL_law_371 ?_
    rw [show nI (5 * k9) + 1 = nI (5 * k9 + 1) from nI_add _ _]
    refine va_sld hx hb hX hbl hbA hS (vp_in_nI (by omega) (by omega)) dL_law_372 ?_
    rw [nI_clamp (by omega), ← ex]
    refine lv_aload_n hx hb dL_law_373 rfl (lv_at hl 1 rfl) ?_
    refine lv_iload hx hb dL_law_374 (lv_at hl 5 rfl) ?_
    refine lv_iconst (v := 2) hx hb dL_law_376 (by decide) ?_
    refine lv_iadd hx hb dL_law_377 ?_
    rw [show nI (5 * k9) + 2 = nI (5 * k9 + 2) from nI_add _ _]
    refine va_sld hx hb hX hbl hbA hS (vp_in_nI (by omega) (by omega)) dL_law_378 ?_
    rw [nI_clamp (by omega), ← ey]
    refine va_calli (va_runV (As := [.int x, .int y]) (rest := []) ⟨hx, hb, hml, hown, hts⟩ (c_X4_swap l D cs AM adM g L B n b t hn hb5 x y dv0 dvs) (cwV 2 hts gL_law_X4_swap rfl rfl rfl (by decide +kernel) ⟨Nat.le_of_ble_eq_true rfl, Nat.le_of_ble_eq_true rfl⟩) ⟨pM_fb, wb_recv hK hM (r := 0) (Nat.le_of_ble_eq_true rfl) (ci := 5) rfl rfl, fun U hU hV => ⟨rfl, pM_of hK hV.alike hU hM⟩⟩ rfl rfl hl.1 rfl (lv_room (Nat.le_of_ble_eq_true rfl)) dL_law_379 ⟨by show _ ≤ (601024 : Nat); omega, by show _ ≤ (7293034 : Nat); omega⟩) hS (fun q _ h => (hAM q h).1) (fun q h => (hAM q h).1) (fun r_8 u8 t8 H locs ht8 hvm8 hw8 hB8 hz8 hk8 hS => ?_)
    rw [ht8] at hB8
    have hsz := Nat.le_trans hsz hz8
    have hR1 := hR1.keptA (A1 := AM) (fun q hq => hq.2.1) hk8
    have hO2 := hO2.keptA (A1 := AM) hoo.2.2 hk8
    try simp only [sel_n hk] at hB8
    have hM : wP D AM lvM adM (ctM cs adM g L B n b (kSwap L n x y)) H := hB8
    refine lv_istore (lv' := [(6, .int r_8), (5, .int r_9), (0, .ref b9), (1, .ref (ad 0)), (2, .ref (adM 0)), (3, .ref oo), (4, .int (nI (5 * k9)))]) hx hb dL_law_382 hl (by decide) rfl (fun ls hl => ?_)
    refine lv_aload_n hx hb dL_law_384 rfl (lv_at hl 4 rfl) ?_
    refine va_calli (va_runV (As := []) (rest := []) ⟨hx, hb, hml, hown, hts⟩ (c_X4_thrown l D cs AM adM g L B n b (kSwap L n x y) hn hb5) (cwV 0 hts gL_law_X4_thrown rfl rfl rfl (by decide +kernel) ⟨Nat.le_of_ble_eq_true rfl, Nat.le_of_ble_eq_true rfl⟩) ⟨pM_fb, wb_recv hK hM (r := 0) (Nat.le_of_ble_eq_true rfl) (ci := 5) rfl rfl, fun U hU hV => ⟨rfl, pM_of hK hV.alike hU hM⟩⟩ rfl rfl hl.1 rfl (lv_room (Nat.le_of_ble_eq_true rfl)) dL_law_385 ⟨by show _ ≤ (601024 : Nat); omega, by show _ ≤ (7293034 : Nat); omega⟩) hS (fun _ _ h => h.elim) (fun _ h => h.elim) (fun r_7 u7 t7 H locs ht7 hvm7 hw7 hB7 hz7 hk7 hS => ?_)
    have hsz := Nat.le_trans hsz hz7
    have hR1 := hR1.keptA (A1 := fun _ => False) (fun _ _ h => h) hk7
    have hM := hM.kept hk7
    have hO2 := hO2.keptA (A1 := fun _ => False) (fun h => h) hk7
    obtain rfl : r_7 = r_9 := hw7.trans hw.symm
    refine lv_iload hx hb dL_law_388 (lv_at hl 1 rfl) ?_
    refine lv_icmp_eq (tgt := 395) hx hb dL_law_390 (by decide) (fun _ => ?_) (fun hno => absurd rfl hno)
    refine lv_iload hx hb dL_law_395 (lv_at hl 1 rfl) ?_
    refine lv_if_ne (tgt := 419) hx hb dL_law_397 (by decide) (fun _ => ?_) (fun hno => absurd hno hne9)
    refine lv_goto (tgt := 1205) hx hb dL_law_419 (by decide) ?_
    refine W.widen (k := 30 + 2 * (k9 + 1)) (n := 300 + 30 * (k9 + 1)) (by omega) (by omega) ?_
    exact KK _ _ _ g L B n b ⟨hR1, ⟨_, hM⟩, hO2, hIv, (by omega), hsz, hS, lv_sub hl [2, 3, 4, 5, 6] rfl⟩

set_option maxHeartbeats 4000000 in
set_option maxRecDepth 100000 in
theorem law_setArrears {p : Program} {l : Launch} {e : Env} {s : State} {m : MethodId} {below : List Frame} {meth : Method} {c : Code} {b9 L9 : Nat} {xs : Nat → Int32} {D : va_G} {cs : Nat → ClassId} {z0 : Nat} {sa : Nat → Nat} {AM : Nat → Prop} {adM : Nat → Nat} {o oo sz1 : Nat} (hst : l.stackTraces = false) (hL9 : L9 ≤ 2560) (C0 : lw_At p s m meth c b9 L9 xs) (hE0 : Ev D cs (fun q => s.heap.size ≤ q) z0 sa s) (hnc : va_Nc xS xA s ∧ va_Nc xS xI s ∧ va_Nc xA xI s) (hAM : ∀ q, AM q → s.heap.size ≤ q ∧ q < sz1) (hoo : s.heap.size ≤ oo ∧ oo < sz1 ∧ ¬ AM oo) {g : Nat → Int32} {L B : Nat → Nat → Int32} {n b k9 : Nat} {H : Heap} {locs : List Loc} {ls : Array Slot} (hk9 : 5 * k9 + 5 ≤ L9) (hI : LI D cs s AM adM z0 o oo sz1 b9 g L B n b k9 (5 * k9) H locs ls) (KK : ∀ (H1 : Heap) (locs1 : List Loc) (ls1 : Array Slot) (g : Nat → Int32) (L B : Nat → Nat → Int32) (n b : Nat), LI D cs s AM adM z0 o oo sz1 b9 g L B n b (k9 + 1) (5 * k9) H1 locs1 ls1 → W p l e room_1 s m #[Value.ref b9] below meth c H1 locs1 (30 + 2 * (k9 + 1)) (300 + 30 * (k9 + 1)) (lw_Z below #[Value.ref b9] s) (F0 m 1205 ls1 [])) : W p l e room_1 s m #[Value.ref b9] below meth c H locs (30 + 2 * k9) (300 + 30 * k9) (lw_Z below #[Value.ref b9] s) (F0 m 422 ls []) := by
  obtain ⟨hR, ⟨t, hM⟩, hO, hIv, hm9, hsz, hS, hl⟩ := hI
  obtain ⟨hx, hb0, hr, hml, hown0, hts0, hX, hbl, hlocks, hgv⟩ := C0
  have hb : c.code = cL_law := hb0
  have hown : s.vm.findClass RL = some m.cls := hown0
  have hts : ∀ w ∈ wsL_law, w.before #[Value.ref b9] s = true := fun w h => hts0 w (wsL_law_in w h)
  have hbA : ¬ (fun q : Nat => s.heap.size ≤ q) b9 := Nat.not_le.mpr hbl
  have hK := hE0.1
  have hbd := hIv.bd
  have hn := hIv.1
  have hb5 := hIv.2.1
  have dv0 := dv_ok hbd (r := 0) (by decide)
  have dvs := dv_ok hbd hbd.2.2.2.2.2.1
  obtain ⟨ad, y1, y2, N1, N2, nd, gv, ho, hN1, hN2, hW⟩ := hR
  subst ho
  obtain ⟨x, ex⟩ : ∃ x, x = xs (5 * k9 + 1) := ⟨_, rfl⟩
  obtain ⟨y, ey⟩ : ∃ y, y = xs (5 * k9 + 2) := ⟨_, rfl⟩
  refine lv_aload_n hx hb dL_law_422 rfl (lv_at hl 1 rfl) ?_
  refine lv_aload_n hx hb dL_law_423 rfl (lv_at hl 0 rfl) ?_
  refine lv_iload hx hb dL_law_424 (lv_at hl 4 rfl) ?_
  refine lv_iconst (v := 1) hx hb dL_law_426 (by decide) ?_
  refine lv_iadd hx hb dL_law_427 ?_
  rw [show nI (5 * k9) + 1 = nI (5 * k9 + 1) from nI_add _ _]
  refine va_sld hx hb hX hbl hbA hS (vp_in_nI (by omega) (by omega)) dL_law_428 ?_
  rw [nI_clamp (by omega), ← ex]
  refine lv_aload_n hx hb dL_law_429 rfl (lv_at hl 0 rfl) ?_
  refine lv_iload hx hb dL_law_430 (lv_at hl 4 rfl) ?_
  refine lv_iconst (v := 2) hx hb dL_law_432 (by decide) ?_
  refine lv_iadd hx hb dL_law_433 ?_
  rw [show nI (5 * k9) + 2 = nI (5 * k9 + 2) from nI_add _ _]
  refine va_sld hx hb hX hbl hbA hS (vp_in_nI (by omega) (by omega)) dL_law_434 ?_
  rw [nI_clamp (by omega), ← ey]
  refine lv_aload_n hx hb dL_law_435 rfl (lv_at hl 3 rfl) ?_
  refine vx_calli (vx_runSX (hh := [(0, 10, 13, 21), (0, 10, 17, 13), (0, 10, 21, 15)]) (As := [.ref (ad 0), .int x, .int y, .ref oo]) (rest := []) ⟨hx, hb, hml, hown, hts⟩ (c_L_setArrears l hst D cs (AC s.heap.size AM oo) z0 sa ad g L B n b y1 y2 N1 N2 nd gv hn hb5 hN1 hN2 oo (fun h => h.2.2 rfl) x y) (vx_cwSW 4 hts gL_law_L_setArrears rfl rfl rfl (by decide +kernel) ⟨Nat.le_of_ble_eq_true rfl, Nat.le_of_ble_eq_true rfl⟩) ⟨pH_fb, fun U hU hV => ⟨rfl, ⟨hE0.law hS hsz hAM hoo hV hU, by rw [hU]; exact hW⟩, by rw [hU]; exact hO, hnc.1.moved hV.alike, hnc.2.1.moved hV.alike, hnc.2.2.moved hV.alike⟩⟩ rfl rfl hl.1 rfl (lv_room (Nat.le_of_ble_eq_true rfl)) dL_law_436 ⟨by show _ ≤ (601024 : Nat); omega, by show _ ≤ (7293034 : Nat); omega⟩) hS (fun q _ h => h.elim (fun z => z.1) (fun z => by rw [z]; exact hoo.1)) (fun q h => h.elim (fun z => z.1) (fun z => by rw [z]; exact hoo.1)) (fun _ _ h => h.elim) (fun E9 ce9 q9 u9 t9 H9 locs9 ht9 hvm9 hpx9 hbx9 hz9 hk9 hS9 hc9 hv9 hl9 => hpx9.elim) (fun r_9 u t9 H locs ht hvm hw hB hz1 hk1 hS => ?_)
  rw [ht] at hB
  have hsz := Nat.le_trans hsz hz1
  have hM := hM.keptA (A1 := fun q => (AC s.heap.size AM oo) q ∨ q = oo) (fun q hq z => z.elim (fun w => w.2.1 hq) (fun w => hoo.2.2 (by rw [← w]; exact hq))) hk1
  by_cases hk : kArr L n x y = 0
  ·
    obtain rfl : r_9 = 0 := hw.trans hk
    obtain ⟨hR1, f9, hf9, hO1⟩ := hB.1 hk
    refine lv_istore (lv' := [(5, .int 0), (0, .ref b9), (1, .ref (ad 0)), (2, .ref (adM 0)), (3, .ref oo), (4, .int (nI (5 * k9)))]) hx hb dL_law_439 hl (by decide) rfl (fun ls hl => ?_)
    refine lv_aload_n hx hb dL_law_441 rfl (lv_at hl 3 rfl) ?_
    refine lv_aload_n hx hb dL_law_442 rfl (lv_at hl 1 rfl) ?_
    refine lv_iload hx hb dL_law_443 (lv_at hl 5 rfl) ?_
    refine lv_iconst (v := 1) hx hb dL_law_445 (by decide) ?_
    refine lv_iadd hx hb dL_law_446 ?_
    rw [show nI (5 * k9) + 1 = nI (5 * k9 + 1) from nI_add _ _]
    refine va_sld hx hb hX hbl hbA hS (vp_in_nI (by omega) (by omega)) dL_law_447 ?_
    rw [nI_clamp (by omega), ← ex]
    refine lv_aload_n hx hb dL_law_448 rfl (lv_at hl 1 rfl) ?_
    refine lv_iload hx hb dL_law_449 (lv_at hl 5 rfl) ?_
    refine lv_iconst (v := 2) hx hb dL_law_451 (by decide) ?_
    refine lv_iadd hx hb dL_law_452 ?_
    rw [show nI (5 * k9) + 2 = nI (5 * k9 + 2) from nI_add _ _]
    refine va_sld hx hb hX hbl hbA hS (vp_in_nI (by omega) (by omega)) dL_law_453 ?_
    rw [nI_clamp (by omega), ← ey]
    refine va_calli (va_runV (As := [.int x, .int y]) (rest := []) ⟨hx, hb, hml, hown, hts⟩ (c_X4_setArrears l D cs AM adM g L B n b t hn hb5 x y) (cwV 2 hts gL_law_X4_setArrears rfl rfl rfl (by decide +kernel) ⟨Nat.le_of_ble_eq_true rfl, Nat.le_of_ble_eq_true rfl⟩) ⟨pM_fb, wb_recv hK hM (r := 0) (Nat.le_of_ble_eq_true rfl) (ci := 5) rfl rfl, fun U hU hV => ⟨rfl, pM_of hK hV.alike hU hM⟩⟩ rfl rfl hl.1 rfl (lv_room (Nat.le_of_ble_eq_true rfl)) dL_law_454 ⟨by show _ ≤ (601024 : Nat); omega, by show _ ≤ (7293034 : Nat); omega⟩) hS (fun q _ h => (hAM q h).1) (fun q h => (hAM q h).1) (fun r_8 u8 t8 H locs ht8 hvm8 hw8 hB8 hz8 hk8 hS => ?_)
    rw [ht8] at hB8
    have hsz := Nat.le_trans hsz hz8
    have hR1 := hR1.keptA (A1 := AM) (fun q hq => hq.2.1) hk8
    have hO1 := hO1.keptA (A1 := AM) (fun q hq z => hoo.2.2 (by rw [← hq]; exact z)) hk8
    rw [hk] at hB8
    try simp only [sel_0] at hB8
    have hM : wP D AM lvM adM (ctM cs adM g (updL L 4 (ixN x) y) B n b 0) H := hB8
    obtain rfl : r_8 = L 4 (ixN x) := by rw [hw8, hk]; rfl
    refine lv_istore (lv' := [(6, .int (L 4 (ixN x))), (5, .int 0), (0, .ref b9), (1, .ref (ad 0)), (2, .ref (adM 0)), (3, .ref oo), (4, .int (nI (5 * k9)))]) hx hb dL_law_457 hl (by decide) rfl (fun ls hl => ?_)
    refine lv_aload_n hx hb dL_law_459 rfl (lv_at hl 4 rfl) ?_
    refine va_calli (va_runV (As := []) (rest := []) ⟨hx, hb, hml, hown, hts⟩ (c_X4_thrown l D cs AM adM g (updL L 4 (ixN x) y) B n b 0 hn hb5) (cwV 0 hts gL_law_X4_thrown rfl rfl rfl (by decide +kernel) ⟨Nat.le_of_ble_eq_true rfl, Nat.le_of_ble_eq_true rfl⟩) ⟨pM_fb, wb_recv hK hM (r := 0) (Nat.le_of_ble_eq_true rfl) (ci := 5) rfl rfl, fun U hU hV => ⟨rfl, pM_of hK hV.alike hU hM⟩⟩ rfl rfl hl.1 rfl (lv_room (Nat.le_of_ble_eq_true rfl)) dL_law_460 ⟨by show _ ≤ (601024 : Nat); omega, by show _ ≤ (7293034 : Nat); omega⟩) hS (fun _ _ h => h.elim) (fun _ h => h.elim) (fun r_7 u7 t7 H locs ht7 hvm7 hw7 hB7 hz7 hk7 hS => ?_)
    have hsz := Nat.le_trans hsz hz7
    have hR1 := hR1.keptA (A1 := fun _ => False) (fun _ _ h => h) hk7
    have hM := hM.kept hk7
    have hO1 := hO1.keptA (A1 := fun _ => False) (fun _ _ h => h) hk7
    obtain rfl : r_7 = 0 := hw7
    refine lv_iload hx hb dL_law_463 (lv_at hl 1 rfl) ?_
    refine lv_icmp_eq (tgt := 470) hx hb dL_law_465 (by decide) (fun _ => ?_) (fun hno => absurd rfl hno)
    refine lv_iload hx hb dL_law_470 (lv_at hl 1 rfl) ?_
    refine lv_if_ne (tgt := 487) hx hb dL_law_472 (by decide) (fun hno => absurd rfl hno) (fun _ => ?_)
    refine lv_aload_n hx hb dL_law_475 rfl (lv_at hl 5 rfl) ?_
    refine lv_iconst (v := 0) hx hb dL_law_476 (by decide) ?_
    refine wb_lald hx hb hK hO1 0 rfl 4 rfl rfl rfl 0 nI_0.symm (by decide) (by decide) dL_law_477 ?_
    rw [hf9]
    refine lv_iload hx hb dL_law_478 (lv_at hl 0 rfl) ?_
    refine lv_i2l (v := (L 4 (ixN x)).toInt64) hx hb dL_law_480 rfl ?_
    refine W.lcmp hx hb dL_law_481 ?_
    refine lv_if_eq (tgt := 487) hx hb dL_law_482 (by decide) (fun _ => ?_) (fun hno => absurd ((lg0_eq _ _).mpr rfl) hno)
    refine lv_goto (tgt := 1205) hx hb dL_law_487 (by decide) ?_
    refine W.widen (k := 30 + 2 * (k9 + 1)) (n := 300 + 30 * (k9 + 1)) (by omega) (by omega) ?_
    exact KK _ _ _ g (updL L 4 (ixN x) y) B n b ⟨hR1, ⟨_, hM⟩, ⟨f9, trivial, hO1⟩, hIv.k4 (isIx_lt hn (kArr_0 hk)) y, (by omega), hsz, hS, lv_sub hl [2, 3, 4, 5, 6] rfl⟩
  ·
    have hne9 : ¬ r_9 = 0 := fun z => hk (hw.symm.trans z)
    obtain ⟨hR1, hO2⟩ := hB.2 hk
    refine lv_istore (lv' := [(5, .int r_9), (0, .ref b9), (1, .ref (ad 0)), (2, .ref (adM 0)), (3, .ref oo), (4, .int (nI (5 * k9)))]) hx hb dL_law_439 hl (by decide) rfl (fun ls hl => ?_)
    refine lv_aload_n hx hb dL_law_441 rfl (lv_at hl 3 rfl) ?_
    refine lv_aload_n hx hb dL_law_442 rfl (lv_at hl 1 rfl) ?_
    refine lv_iload hx hb dL_law_443 (lv_at hl 5 rfl) ?_
    refine lv_iconst (v := 1) hx hb dL_law_445 (by decide) ?_
    refine lv_iadd hx hb dL_law_446 ?_
    rw [show nI (5 * k9) + 1 = nI (5 * k9 + 1) from nI_add _ _]
    refine va_sld hx hb hX hbl hbA hS (vp_in_nI (by omega) (by omega)) dL_law_447 ?_
    rw [nI_clamp (by omega), ← ex]
    refine lv_aload_n hx hb dL_law_448 rfl (lv_at hl 1 rfl) ?_
    refine lv_iload hx hb dL_law_449 (lv_at hl 5 rfl) ?_
    refine lv_iconst (v := 2) hx hb dL_law_451 (by decide) ?_
    refine lv_iadd hx hb dL_law_452 ?_
    rw [show nI (5 * k9) + 2 = nI (5 * k9 + 2) from nI_add _ _]
    refine va_sld hx hb hX hbl hbA hS (vp_in_nI (by omega) (by omega)) dL_law_453 ?_
    rw [nI_clamp (by omega), ← ey]
    refine va_calli (va_runV (As := [.int x, .int y]) (rest := []) ⟨hx, hb, hml, hown, hts⟩ (c_X4_setArrears l D cs AM adM g L B n b t hn hb5 x y) (cwV 2 hts gL_law_X4_setArrears rfl rfl rfl (by decide +kernel) ⟨Nat.le_of_ble_eq_true rfl, Nat.le_of_ble_eq_true rfl⟩) ⟨pM_fb, wb_recv hK hM (r := 0) (Nat.le_of_ble_eq_true rfl) (ci := 5) rfl rfl, fun U hU hV => ⟨rfl, pM_of hK hV.alike hU hM⟩⟩ rfl rfl hl.1 rfl (lv_room (Nat.le_of_ble_eq_true rfl)) dL_law_454 ⟨by show _ ≤ (601024 : Nat); omega, by show _ ≤ (7293034 : Nat); omega⟩) hS (fun q _ h => (hAM q h).1) (fun q h => (hAM q h).1) (fun r_8 u8 t8 H locs ht8 hvm8 hw8 hB8 hz8 hk8 hS => ?_)
    rw [ht8] at hB8
    have hsz := Nat.le_trans hsz hz8
    have hR1 := hR1.keptA (A1 := AM) (fun q hq => hq.2.1) hk8
    have hO2 := hO2.keptA (A1 := AM) hoo.2.2 hk8
    try simp only [sel_n hk] at hB8
    have hM : wP D AM lvM adM (ctM cs adM g L B n b (kArr L n x y)) H := hB8
    refine lv_istore (lv' := [(6, .int r_8), (5, .int r_9), (0, .ref b9), (1, .ref (ad 0)), (2, .ref (adM 0)), (3, .ref oo), (4, .int (nI (5 * k9)))]) hx hb dL_law_457 hl (by decide) rfl (fun ls hl => ?_)
    refine lv_aload_n hx hb dL_law_459 rfl (lv_at hl 4 rfl) ?_
    refine va_calli (va_runV (As := []) (rest := []) ⟨hx, hb, hml, hown, hts⟩ (c_X4_thrown l D cs AM adM g L B n b (kArr L n x y) hn hb5) (cwV 0 hts gL_law_X4_thrown rfl rfl rfl (by decide +kernel) ⟨Nat.le_of_ble_eq_true rfl, Nat.le_of_ble_eq_true rfl⟩) ⟨pM_fb, wb_recv hK hM (r := 0) (Nat.le_of_ble_eq_true rfl) (ci := 5) rfl rfl, fun U hU hV => ⟨rfl, pM_of hK hV.alike hU hM⟩⟩ rfl rfl hl.1 rfl (lv_room (Nat.le_of_ble_eq_true rfl)) dL_law_460 ⟨by show _ ≤ (601024 : Nat); omega, by show _ ≤ (7293034 : Nat); omega⟩) hS (fun _ _ h => h.elim) (fun _ h => h.elim) (fun r_7 u7 t7 H locs ht7 hvm7 hw7 hB7 hz7 hk7 hS => ?_)
    have hsz := Nat.le_trans hsz hz7
    have hR1 := hR1.keptA (A1 := fun _ => False) (fun _ _ h => h) hk7
    have hM := hM.kept hk7
    have hO2 := hO2.keptA (A1 := fun _ => False) (fun h => h) hk7
    obtain rfl : r_7 = r_9 := hw7.trans hw.symm
    refine lv_iload hx hb dL_law_463 (lv_at hl 1 rfl) ?_
    refine lv_icmp_eq (tgt := 470) hx hb dL_law_465 (by decide) (fun _ => ?_) (fun hno => absurd rfl hno)
    refine lv_iload hx hb dL_law_470 (lv_at hl 1 rfl) ?_
    refine lv_if_ne (tgt := 487) hx hb dL_law_472 (by decide) (fun _ => ?_) (fun hno => absurd hno hne9)
    refine lv_goto (tgt := 1205) hx hb dL_law_487 (by decide) ?_
    refine W.widen (k := 30 + 2 * (k9 + 1)) (n := 300 + 30 * (k9 + 1)) (by omega) (by omega) ?_
    exact KK _ _ _ g L B n b ⟨hR1, ⟨_, hM⟩, hO2, hIv, (by omega), hsz, hS, lv_sub hl [2, 3, 4, 5, 6] rfl⟩

set_option maxHeartbeats 4000000 in
set_option maxRecDepth 100000 in
theorem law_setWorth {p : Program} {l : Launch} {e : Env} {s : State} {m : MethodId} {below : List Frame} {meth : Method} {c : Code} {b9 L9 : Nat} {xs : Nat → Int32} {D : va_G} {cs : Nat → ClassId} {z0 : Nat} {sa : Nat → Nat} {AM : Nat → Prop} {adM : Nat → Nat} {o oo sz1 : Nat} (hst : l.stackTraces = false) (hL9 : L9 ≤ 2560) (C0 : lw_At p s m meth c b9 L9 xs) (hE0 : Ev D cs (fun q => s.heap.size ≤ q) z0 sa s) (hnc : va_Nc xS xA s ∧ va_Nc xS xI s ∧ va_Nc xA xI s) (hAM : ∀ q, AM q → s.heap.size ≤ q ∧ q < sz1) (hoo : s.heap.size ≤ oo ∧ oo < sz1 ∧ ¬ AM oo) {g : Nat → Int32} {L B : Nat → Nat → Int32} {n b k9 : Nat} {H : Heap} {locs : List Loc} {ls : Array Slot} (hk9 : 5 * k9 + 5 ≤ L9) (hI : LI D cs s AM adM z0 o oo sz1 b9 g L B n b k9 (5 * k9) H locs ls) (KK : ∀ (H1 : Heap) (locs1 : List Loc) (ls1 : Array Slot) (g : Nat → Int32) (L B : Nat → Nat → Int32) (n b : Nat), LI D cs s AM adM z0 o oo sz1 b9 g L B n b (k9 + 1) (5 * k9) H1 locs1 ls1 → W p l e room_1 s m #[Value.ref b9] below meth c H1 locs1 (30 + 2 * (k9 + 1)) (300 + 30 * (k9 + 1)) (lw_Z below #[Value.ref b9] s) (F0 m 1205 ls1 [])) : W p l e room_1 s m #[Value.ref b9] below meth c H locs (30 + 2 * k9) (300 + 30 * k9) (lw_Z below #[Value.ref b9] s) (F0 m 490 ls []) := by
  obtain ⟨hR, ⟨t, hM⟩, hO, hIv, hm9, hsz, hS, hl⟩ := hI
  obtain ⟨hx, hb0, hr, hml, hown0, hts0, hX, hbl, hlocks, hgv⟩ := C0
  have hb : c.code = cL_law := hb0
  have hown : s.vm.findClass RL = some m.cls := hown0
  have hts : ∀ w ∈ wsL_law, w.before #[Value.ref b9] s = true := fun w h => hts0 w (wsL_law_in w h)
  have hbA : ¬ (fun q : Nat => s.heap.size ≤ q) b9 := Nat.not_le.mpr hbl
  have hK := hE0.1
  have hbd := hIv.bd
  have hn := hIv.1
  have hb5 := hIv.2.1
  have dv0 := dv_ok hbd (r := 0) (by decide)
  have dvs := dv_ok hbd hbd.2.2.2.2.2.1
  obtain ⟨ad, y1, y2, N1, N2, nd, gv, ho, hN1, hN2, hW⟩ := hR
  subst ho
  obtain ⟨x, ex⟩ : ∃ x, x = xs (5 * k9 + 1) := ⟨_, rfl⟩
  obtain ⟨y, ey⟩ : ∃ y, y = xs (5 * k9 + 2) := ⟨_, rfl⟩
  refine lv_aload_n hx hb dL_law_490 rfl (lv_at hl 1 rfl) ?_
  refine lv_aload_n hx hb dL_law_491 rfl (lv_at hl 0 rfl) ?_
  refine lv_iload hx hb dL_law_492 (lv_at hl 4 rfl) ?_
  refine lv_iconst (v := 1) hx hb dL_law_494 (by decide) ?_
  refine lv_iadd hx hb dL_law_495 ?_
  rw [show nI (5 * k9) + 1 = nI (5 * k9 + 1) from nI_add _ _]
  refine va_sld hx hb hX hbl hbA hS (vp_in_nI (by omega) (by omega)) dL_law_496 ?_
  rw [nI_clamp (by omega), ← ex]
  refine lv_aload_n hx hb dL_law_497 rfl (lv_at hl 0 rfl) ?_
  refine lv_iload hx hb dL_law_498 (lv_at hl 4 rfl) ?_
  refine lv_iconst (v := 2) hx hb dL_law_500 (by decide) ?_
  refine lv_iadd hx hb dL_law_501 ?_
  rw [show nI (5 * k9) + 2 = nI (5 * k9 + 2) from nI_add _ _]
  refine va_sld hx hb hX hbl hbA hS (vp_in_nI (by omega) (by omega)) dL_law_502 ?_
  rw [nI_clamp (by omega), ← ey]
  refine lv_aload_n hx hb dL_law_503 rfl (lv_at hl 3 rfl) ?_
  refine vx_calli (vx_runSX (hh := [(0, 10, 13, 21), (0, 10, 17, 13)]) (As := [.ref (ad 0), .int x, .int y, .ref oo]) (rest := []) ⟨hx, hb, hml, hown, hts⟩ (c_L_setWorth l hst D cs (AC s.heap.size AM oo) z0 sa ad g L B n b y1 y2 N1 N2 nd gv hn hb5 hN1 hN2 oo (fun h => h.2.2 rfl) x y) (vx_cwSW 4 hts gL_law_L_setWorth rfl rfl rfl (by decide +kernel) ⟨Nat.le_of_ble_eq_true rfl, Nat.le_of_ble_eq_true rfl⟩) ⟨pH_fb, fun U hU hV => ⟨rfl, ⟨hE0.law hS hsz hAM hoo hV hU, by rw [hU]; exact hW⟩, by rw [hU]; exact hO, hnc.1.moved hV.alike, hnc.2.1.moved hV.alike, hnc.2.2.moved hV.alike⟩⟩ rfl rfl hl.1 rfl (lv_room (Nat.le_of_ble_eq_true rfl)) dL_law_504 ⟨by show _ ≤ (601024 : Nat); omega, by show _ ≤ (7293034 : Nat); omega⟩) hS (fun q _ h => h.elim (fun z => z.1) (fun z => by rw [z]; exact hoo.1)) (fun q h => h.elim (fun z => z.1) (fun z => by rw [z]; exact hoo.1)) (fun _ _ h => h.elim) (fun E9 ce9 q9 u9 t9 H9 locs9 ht9 hvm9 hpx9 hbx9 hz9 hk9 hS9 hc9 hv9 hl9 => hpx9.elim) (fun r_9 u t9 H locs ht hvm hw hB hz1 hk1 hS => ?_)
  rw [ht] at hB
  have hsz := Nat.le_trans hsz hz1
  have hM := hM.keptA (A1 := fun q => (AC s.heap.size AM oo) q ∨ q = oo) (fun q hq z => z.elim (fun w => w.2.1 hq) (fun w => hoo.2.2 (by rw [← w]; exact hq))) hk1
  by_cases hk : kWorth n x y = 0
  ·
    obtain rfl : r_9 = 0 := hw.trans hk
    obtain ⟨hR1, f9, hf9, hO1⟩ := hB.1 hk
    refine lv_istore (lv' := [(5, .int 0), (0, .ref b9), (1, .ref (ad 0)), (2, .ref (adM 0)), (3, .ref oo), (4, .int (nI (5 * k9)))]) hx hb dL_law_507 hl (by decide) rfl (fun ls hl => ?_)
    refine lv_aload_n hx hb dL_law_509 rfl (lv_at hl 3 rfl) ?_
    refine lv_aload_n hx hb dL_law_510 rfl (lv_at hl 1 rfl) ?_
    refine lv_iload hx hb dL_law_511 (lv_at hl 5 rfl) ?_
    refine lv_iconst (v := 1) hx hb dL_law_513 (by decide) ?_
    refine lv_iadd hx hb dL_law_514 ?_
    rw [show nI (5 * k9) + 1 = nI (5 * k9 + 1) from nI_add _ _]
    refine va_sld hx hb hX hbl hbA hS (vp_in_nI (by omega) (by omega)) dL_law_515 ?_
    rw [nI_clamp (by omega), ← ex]
    refine lv_aload_n hx hb dL_law_516 rfl (lv_at hl 1 rfl) ?_
    refine lv_iload hx hb dL_law_517 (lv_at hl 5 rfl) ?_
    refine lv_iconst (v := 2) hx hb dL_law_519 (by decide) ?_
    refine lv_iadd hx hb dL_law_520 ?_
    rw [show nI (5 * k9) + 2 = nI (5 * k9 + 2) from nI_add _ _]
    refine va_sld hx hb hX hbl hbA hS (vp_in_nI (by omega) (by omega)) dL_law_521 ?_
    rw [nI_clamp (by omega), ← ey]
    refine va_calli (va_runV (As := [.int x, .int y]) (rest := []) ⟨hx, hb, hml, hown, hts⟩ (c_X4_setWorth l D cs AM adM g L B n b t hn hb5 x y) (cwV 2 hts gL_law_X4_setWorth rfl rfl rfl (by decide +kernel) ⟨Nat.le_of_ble_eq_true rfl, Nat.le_of_ble_eq_true rfl⟩) ⟨pM_fb, wb_recv hK hM (r := 0) (Nat.le_of_ble_eq_true rfl) (ci := 5) rfl rfl, fun U hU hV => ⟨rfl, pM_of hK hV.alike hU hM⟩⟩ rfl rfl hl.1 rfl (lv_room (Nat.le_of_ble_eq_true rfl)) dL_law_522 ⟨by show _ ≤ (601024 : Nat); omega, by show _ ≤ (7293034 : Nat); omega⟩) hS (fun q _ h => (hAM q h).1) (fun q h => (hAM q h).1) (fun r_8 u8 t8 H locs ht8 hvm8 hw8 hB8 hz8 hk8 hS => ?_)
    rw [ht8] at hB8
    have hsz := Nat.le_trans hsz hz8
    have hR1 := hR1.keptA (A1 := AM) (fun q hq => hq.2.1) hk8
    have hO1 := hO1.keptA (A1 := AM) (fun q hq z => hoo.2.2 (by rw [← hq]; exact z)) hk8
    rw [hk] at hB8
    try simp only [sel_0] at hB8
    have hM : wP D AM lvM adM (ctM cs adM g (updL L 1 (ixN x) y) B n b 0) H := hB8
    obtain rfl : r_8 = L 1 (ixN x) := by rw [hw8, hk]; rfl
    refine lv_istore (lv' := [(6, .int (L 1 (ixN x))), (5, .int 0), (0, .ref b9), (1, .ref (ad 0)), (2, .ref (adM 0)), (3, .ref oo), (4, .int (nI (5 * k9)))]) hx hb dL_law_525 hl (by decide) rfl (fun ls hl => ?_)
    refine lv_aload_n hx hb dL_law_527 rfl (lv_at hl 4 rfl) ?_
    refine va_calli (va_runV (As := []) (rest := []) ⟨hx, hb, hml, hown, hts⟩ (c_X4_thrown l D cs AM adM g (updL L 1 (ixN x) y) B n b 0 hn hb5) (cwV 0 hts gL_law_X4_thrown rfl rfl rfl (by decide +kernel) ⟨Nat.le_of_ble_eq_true rfl, Nat.le_of_ble_eq_true rfl⟩) ⟨pM_fb, wb_recv hK hM (r := 0) (Nat.le_of_ble_eq_true rfl) (ci := 5) rfl rfl, fun U hU hV => ⟨rfl, pM_of hK hV.alike hU hM⟩⟩ rfl rfl hl.1 rfl (lv_room (Nat.le_of_ble_eq_true rfl)) dL_law_528 ⟨by show _ ≤ (601024 : Nat); omega, by show _ ≤ (7293034 : Nat); omega⟩) hS (fun _ _ h => h.elim) (fun _ h => h.elim) (fun r_7 u7 t7 H locs ht7 hvm7 hw7 hB7 hz7 hk7 hS => ?_)
    have hsz := Nat.le_trans hsz hz7
    have hR1 := hR1.keptA (A1 := fun _ => False) (fun _ _ h => h) hk7
    have hM := hM.kept hk7
    have hO1 := hO1.keptA (A1 := fun _ => False) (fun _ _ h => h) hk7
    obtain rfl : r_7 = 0 := hw7
    refine lv_iload hx hb dL_law_531 (lv_at hl 1 rfl) ?_
    refine lv_icmp_eq (tgt := 538) hx hb dL_law_533 (by decide) (fun _ => ?_) (fun hno => absurd rfl hno)
    refine lv_iload hx hb dL_law_538 (lv_at hl 1 rfl) ?_
    refine lv_if_ne (tgt := 555) hx hb dL_law_540 (by decide) (fun hno => absurd rfl hno) (fun _ => ?_)
    refine lv_aload_n hx hb dL_law_543 rfl (lv_at hl 5 rfl) ?_
    refine lv_iconst (v := 0) hx hb dL_law_544 (by decide) ?_
    refine wb_lald hx hb hK hO1 0 rfl 4 rfl rfl rfl 0 nI_0.symm (by decide) (by decide) dL_law_545 ?_
    rw [hf9]
    refine lv_iload hx hb dL_law_546 (lv_at hl 0 rfl) ?_
    refine lv_i2l (v := (L 1 (ixN x)).toInt64) hx hb dL_law_548 rfl ?_
    refine W.lcmp hx hb dL_law_549 ?_
    refine lv_if_eq (tgt := 555) hx hb dL_law_550 (by decide) (fun _ => ?_) (fun hno => absurd ((lg0_eq _ _).mpr rfl) hno)
    refine lv_goto (tgt := 1205) hx hb dL_law_555 (by decide) ?_
    refine W.widen (k := 30 + 2 * (k9 + 1)) (n := 300 + 30 * (k9 + 1)) (by omega) (by omega) ?_
    exact KK _ _ _ g (updL L 1 (ixN x) y) B n b ⟨hR1, ⟨_, hM⟩, ⟨f9, trivial, hO1⟩, hIv.worth hk, (by omega), hsz, hS, lv_sub hl [2, 3, 4, 5, 6] rfl⟩
  ·
    have hne9 : ¬ r_9 = 0 := fun z => hk (hw.symm.trans z)
    obtain ⟨hR1, hO2⟩ := hB.2 hk
    refine lv_istore (lv' := [(5, .int r_9), (0, .ref b9), (1, .ref (ad 0)), (2, .ref (adM 0)), (3, .ref oo), (4, .int (nI (5 * k9)))]) hx hb dL_law_507 hl (by decide) rfl (fun ls hl => ?_)
    refine lv_aload_n hx hb dL_law_509 rfl (lv_at hl 3 rfl) ?_
    refine lv_aload_n hx hb dL_law_510 rfl (lv_at hl 1 rfl) ?_
    refine lv_iload hx hb dL_law_511 (lv_at hl 5 rfl) ?_
    refine lv_iconst (v := 1) hx hb dL_law_513 (by decide) ?_
    refine lv_iadd hx hb dL_law_514 ?_
    rw [show nI (5 * k9) + 1 = nI (5 * k9 + 1) from nI_add _ _]
    refine va_sld hx hb hX hbl hbA hS (vp_in_nI (by omega) (by omega)) dL_law_515 ?_
    rw [nI_clamp (by omega), ← ex]
    refine lv_aload_n hx hb dL_law_516 rfl (lv_at hl 1 rfl) ?_
    refine lv_iload hx hb dL_law_517 (lv_at hl 5 rfl) ?_
    refine lv_iconst (v := 2) hx hb dL_law_519 (by decide) ?_
    refine lv_iadd hx hb dL_law_520 ?_
    rw [show nI (5 * k9) + 2 = nI (5 * k9 + 2) from nI_add _ _]
    refine va_sld hx hb hX hbl hbA hS (vp_in_nI (by omega) (by omega)) dL_law_521 ?_
    rw [nI_clamp (by omega), ← ey]
    refine va_calli (va_runV (As := [.int x, .int y]) (rest := []) ⟨hx, hb, hml, hown, hts⟩ (c_X4_setWorth l D cs AM adM g L B n b t hn hb5 x y) (cwV 2 hts gL_law_X4_setWorth rfl rfl rfl (by decide +kernel) ⟨Nat.le_of_ble_eq_true rfl, Nat.le_of_ble_eq_true rfl⟩) ⟨pM_fb, wb_recv hK hM (r := 0) (Nat.le_of_ble_eq_true rfl) (ci := 5) rfl rfl, fun U hU hV => ⟨rfl, pM_of hK hV.alike hU hM⟩⟩ rfl rfl hl.1 rfl (lv_room (Nat.le_of_ble_eq_true rfl)) dL_law_522 ⟨by show _ ≤ (601024 : Nat); omega, by show _ ≤ (7293034 : Nat); omega⟩) hS (fun q _ h => (hAM q h).1) (fun q h => (hAM q h).1) (fun r_8 u8 t8 H locs ht8 hvm8 hw8 hB8 hz8 hk8 hS => ?_)
    rw [ht8] at hB8
    have hsz := Nat.le_trans hsz hz8
    have hR1 := hR1.keptA (A1 := AM) (fun q hq => hq.2.1) hk8
    have hO2 := hO2.keptA (A1 := AM) hoo.2.2 hk8
    try simp only [sel_n hk] at hB8
    have hM : wP D AM lvM adM (ctM cs adM g L B n b (kWorth n x y)) H := hB8
    refine lv_istore (lv' := [(6, .int r_8), (5, .int r_9), (0, .ref b9), (1, .ref (ad 0)), (2, .ref (adM 0)), (3, .ref oo), (4, .int (nI (5 * k9)))]) hx hb dL_law_525 hl (by decide) rfl (fun ls hl => ?_)
    refine lv_aload_n hx hb dL_law_527 rfl (lv_at hl 4 rfl) ?_
    refine va_calli (va_runV (As := []) (rest := []) ⟨hx, hb, hml, hown, hts⟩ (c_X4_thrown l D cs AM adM g L B n b (kWorth n x y) hn hb5) (cwV 0 hts gL_law_X4_thrown rfl rfl rfl (by decide +kernel) ⟨Nat.le_of_ble_eq_true rfl, Nat.le_of_ble_eq_true rfl⟩) ⟨pM_fb, wb_recv hK hM (r := 0) (Nat.le_of_ble_eq_true rfl) (ci := 5) rfl rfl, fun U hU hV => ⟨rfl, pM_of hK hV.alike hU hM⟩⟩ rfl rfl hl.1 rfl (lv_room (Nat.le_of_ble_eq_true rfl)) dL_law_528 ⟨by show _ ≤ (601024 : Nat); omega, by show _ ≤ (7293034 : Nat); omega⟩) hS (fun _ _ h => h.elim) (fun _ h => h.elim) (fun r_7 u7 t7 H locs ht7 hvm7 hw7 hB7 hz7 hk7 hS => ?_)
    have hsz := Nat.le_trans hsz hz7
    have hR1 := hR1.keptA (A1 := fun _ => False) (fun _ _ h => h) hk7
    have hM := hM.kept hk7
    have hO2 := hO2.keptA (A1 := fun _ => False) (fun h => h) hk7
    obtain rfl : r_7 = r_9 := hw7.trans hw.symm
    refine lv_iload hx hb dL_law_531 (lv_at hl 1 rfl) ?_
    refine lv_icmp_eq (tgt := 538) hx hb dL_law_533 (by decide) (fun _ => ?_) (fun hno => absurd rfl hno)
    refine lv_iload hx hb dL_law_538 (lv_at hl 1 rfl) ?_
    refine lv_if_ne (tgt := 555) hx hb dL_law_540 (by decide) (fun _ => ?_) (fun hno => absurd hno hne9)
    refine lv_goto (tgt := 1205) hx hb dL_law_555 (by decide) ?_
    refine W.widen (k := 30 + 2 * (k9 + 1)) (n := 300 + 30 * (k9 + 1)) (by omega) (by omega) ?_
    exact KK _ _ _ g L B n b ⟨hR1, ⟨_, hM⟩, hO2, hIv, (by omega), hsz, hS, lv_sub hl [2, 3, 4, 5, 6] rfl⟩

set_option maxHeartbeats 4000000 in
set_option maxRecDepth 100000 in
theorem law_stateOf {p : Program} {l : Launch} {e : Env} {s : State} {m : MethodId} {below : List Frame} {meth : Method} {c : Code} {b9 L9 : Nat} {xs : Nat → Int32} {D : va_G} {cs : Nat → ClassId} {z0 : Nat} {sa : Nat → Nat} {AM : Nat → Prop} {adM : Nat → Nat} {o oo sz1 : Nat} (hst : l.stackTraces = false) (hL9 : L9 ≤ 2560) (C0 : lw_At p s m meth c b9 L9 xs) (hE0 : Ev D cs (fun q => s.heap.size ≤ q) z0 sa s) (hnc : va_Nc xS xA s ∧ va_Nc xS xI s ∧ va_Nc xA xI s) (hAM : ∀ q, AM q → s.heap.size ≤ q ∧ q < sz1) (hoo : s.heap.size ≤ oo ∧ oo < sz1 ∧ ¬ AM oo) {g : Nat → Int32} {L B : Nat → Nat → Int32} {n b k9 : Nat} {H : Heap} {locs : List Loc} {ls : Array Slot} (hk9 : 5 * k9 + 5 ≤ L9) (hI : LI D cs s AM adM z0 o oo sz1 b9 g L B n b k9 (5 * k9) H locs ls) (KK : ∀ (H1 : Heap) (locs1 : List Loc) (ls1 : Array Slot) (g : Nat → Int32) (L B : Nat → Nat → Int32) (n b : Nat), LI D cs s AM adM z0 o oo sz1 b9 g L B n b (k9 + 1) (5 * k9) H1 locs1 ls1 → W p l e room_1 s m #[Value.ref b9] below meth c H1 locs1 (30 + 2 * (k9 + 1)) (300 + 30 * (k9 + 1)) (lw_Z below #[Value.ref b9] s) (F0 m 1205 ls1 [])) : W p l e room_1 s m #[Value.ref b9] below meth c H locs (30 + 2 * k9) (300 + 30 * k9) (lw_Z below #[Value.ref b9] s) (F0 m 558 ls []) := by
  obtain ⟨hR, ⟨t, hM⟩, hO, hIv, hm9, hsz, hS, hl⟩ := hI
  obtain ⟨hx, hb0, hr, hml, hown0, hts0, hX, hbl, hlocks, hgv⟩ := C0
  have hb : c.code = cL_law := hb0
  have hown : s.vm.findClass RL = some m.cls := hown0
  have hts : ∀ w ∈ wsL_law, w.before #[Value.ref b9] s = true := fun w h => hts0 w (wsL_law_in w h)
  have hbA : ¬ (fun q : Nat => s.heap.size ≤ q) b9 := Nat.not_le.mpr hbl
  have hK := hE0.1
  have hbd := hIv.bd
  have hn := hIv.1
  have hb5 := hIv.2.1
  have dv0 := dv_ok hbd (r := 0) (by decide)
  have dvs := dv_ok hbd hbd.2.2.2.2.2.1
  obtain ⟨ad, y1, y2, N1, N2, nd, gv, ho, hN1, hN2, hW⟩ := hR
  subst ho
  obtain ⟨x, ex⟩ : ∃ x, x = xs (5 * k9 + 1) := ⟨_, rfl⟩
  refine lv_aload_n hx hb dL_law_558 rfl (lv_at hl 1 rfl) ?_
  refine lv_aload_n hx hb dL_law_559 rfl (lv_at hl 0 rfl) ?_
  refine lv_iload hx hb dL_law_560 (lv_at hl 4 rfl) ?_
  refine lv_iconst (v := 1) hx hb dL_law_562 (by decide) ?_
  refine lv_iadd hx hb dL_law_563 ?_
  rw [show nI (5 * k9) + 1 = nI (5 * k9 + 1) from nI_add _ _]
  refine va_sld hx hb hX hbl hbA hS (vp_in_nI (by omega) (by omega)) dL_law_564 ?_
  rw [nI_clamp (by omega), ← ex]
  refine lv_aload_n hx hb dL_law_565 rfl (lv_at hl 3 rfl) ?_
  refine vx_calli (vx_runSX (hh := [(0, 9, 12, 21)]) (As := [.ref (ad 0), .int x, .ref oo]) (rest := []) ⟨hx, hb, hml, hown, hts⟩ (c_L_stateOf l hst D cs (AC s.heap.size AM oo) z0 sa ad g L B n b y1 y2 N1 N2 nd gv hn hb5 hN1 hN2 oo (fun h => h.2.2 rfl) x) (vx_cwSW 3 hts gL_law_L_stateOf rfl rfl rfl (by decide +kernel) ⟨Nat.le_of_ble_eq_true rfl, Nat.le_of_ble_eq_true rfl⟩) ⟨pH_fb, fun U hU hV => ⟨rfl, ⟨hE0.law hS hsz hAM hoo hV hU, by rw [hU]; exact hW⟩, by rw [hU]; exact hO, hnc.1.moved hV.alike, hnc.2.1.moved hV.alike, hnc.2.2.moved hV.alike⟩⟩ rfl rfl hl.1 rfl (lv_room (Nat.le_of_ble_eq_true rfl)) dL_law_566 ⟨by show _ ≤ (601024 : Nat); omega, by show _ ≤ (7293034 : Nat); omega⟩) hS (fun q _ h => h.elim (fun z => z.1) (fun z => by rw [z]; exact hoo.1)) (fun q h => h.elim (fun z => z.1) (fun z => by rw [z]; exact hoo.1)) (fun _ _ h => h.elim) (fun E9 ce9 q9 u9 t9 H9 locs9 ht9 hvm9 hpx9 hbx9 hz9 hk9 hS9 hc9 hv9 hl9 => hpx9.elim) (fun r_9 u t9 H locs ht hvm hw hB hz1 hk1 hS => ?_)
  rw [ht] at hB
  have hsz := Nat.le_trans hsz hz1
  have hM := hM.keptA (A1 := fun q => (AC s.heap.size AM oo) q ∨ q = oo) (fun q hq z => z.elim (fun w => w.2.1 hq) (fun w => hoo.2.2 (by rw [← w]; exact hq))) hk1
  by_cases hk : kIx n x = 0
  ·
    obtain rfl : r_9 = 0 := hw.trans hk
    obtain ⟨hR1, f9, hf9, hO1⟩ := hB.1 hk
    refine lv_istore (lv' := [(5, .int 0), (0, .ref b9), (1, .ref (ad 0)), (2, .ref (adM 0)), (3, .ref oo), (4, .int (nI (5 * k9)))]) hx hb dL_law_569 hl (by decide) rfl (fun ls hl => ?_)
    refine lv_aload_n hx hb dL_law_571 rfl (lv_at hl 3 rfl) ?_
    refine lv_aload_n hx hb dL_law_572 rfl (lv_at hl 1 rfl) ?_
    refine lv_iload hx hb dL_law_573 (lv_at hl 5 rfl) ?_
    refine lv_iconst (v := 1) hx hb dL_law_575 (by decide) ?_
    refine lv_iadd hx hb dL_law_576 ?_
    rw [show nI (5 * k9) + 1 = nI (5 * k9 + 1) from nI_add _ _]
    refine va_sld hx hb hX hbl hbA hS (vp_in_nI (by omega) (by omega)) dL_law_577 ?_
    rw [nI_clamp (by omega), ← ex]
    refine va_calli (va_runV (As := [.int x]) (rest := []) ⟨hx, hb, hml, hown, hts⟩ (c_X4_stateOf l D cs AM adM g L B n b t hn hb5 x) (cwV 1 hts gL_law_X4_stateOf rfl rfl rfl (by decide +kernel) ⟨Nat.le_of_ble_eq_true rfl, Nat.le_of_ble_eq_true rfl⟩) ⟨pM_fb, wb_recv hK hM (r := 0) (Nat.le_of_ble_eq_true rfl) (ci := 5) rfl rfl, fun U hU hV => ⟨rfl, pM_of hK hV.alike hU hM⟩⟩ rfl rfl hl.1 rfl (lv_room (Nat.le_of_ble_eq_true rfl)) dL_law_578 ⟨by show _ ≤ (601024 : Nat); omega, by show _ ≤ (7293034 : Nat); omega⟩) hS (fun q _ h => (hAM q h).1) (fun q h => (hAM q h).1) (fun r_8 u8 t8 H locs ht8 hvm8 hw8 hB8 hz8 hk8 hS => ?_)
    rw [ht8] at hB8
    have hsz := Nat.le_trans hsz hz8
    have hR1 := hR1.keptA (A1 := AM) (fun q hq => hq.2.1) hk8
    have hO1 := hO1.keptA (A1 := AM) (fun q hq z => hoo.2.2 (by rw [← hq]; exact z)) hk8
    rw [hk] at hB8
    try simp only [sel_0] at hB8
    have hM : wP D AM lvM adM (ctM cs adM g L B n b 0) H := hB8
    obtain rfl : r_8 = L 5 (ixN x) := by rw [hw8, hk]; rfl
    refine lv_istore (lv' := [(6, .int (L 5 (ixN x))), (5, .int 0), (0, .ref b9), (1, .ref (ad 0)), (2, .ref (adM 0)), (3, .ref oo), (4, .int (nI (5 * k9)))]) hx hb dL_law_581 hl (by decide) rfl (fun ls hl => ?_)
    refine lv_aload_n hx hb dL_law_583 rfl (lv_at hl 4 rfl) ?_
    refine va_calli (va_runV (As := []) (rest := []) ⟨hx, hb, hml, hown, hts⟩ (c_X4_thrown l D cs AM adM g L B n b 0 hn hb5) (cwV 0 hts gL_law_X4_thrown rfl rfl rfl (by decide +kernel) ⟨Nat.le_of_ble_eq_true rfl, Nat.le_of_ble_eq_true rfl⟩) ⟨pM_fb, wb_recv hK hM (r := 0) (Nat.le_of_ble_eq_true rfl) (ci := 5) rfl rfl, fun U hU hV => ⟨rfl, pM_of hK hV.alike hU hM⟩⟩ rfl rfl hl.1 rfl (lv_room (Nat.le_of_ble_eq_true rfl)) dL_law_584 ⟨by show _ ≤ (601024 : Nat); omega, by show _ ≤ (7293034 : Nat); omega⟩) hS (fun _ _ h => h.elim) (fun _ h => h.elim) (fun r_7 u7 t7 H locs ht7 hvm7 hw7 hB7 hz7 hk7 hS => ?_)
    have hsz := Nat.le_trans hsz hz7
    have hR1 := hR1.keptA (A1 := fun _ => False) (fun _ _ h => h) hk7
    have hM := hM.kept hk7
    have hO1 := hO1.keptA (A1 := fun _ => False) (fun _ _ h => h) hk7
    obtain rfl : r_7 = 0 := hw7
    refine lv_iload hx hb dL_law_587 (lv_at hl 1 rfl) ?_
    refine lv_icmp_eq (tgt := 594) hx hb dL_law_589 (by decide) (fun _ => ?_) (fun hno => absurd rfl hno)
    refine lv_iload hx hb dL_law_594 (lv_at hl 1 rfl) ?_
    refine lv_if_ne (tgt := 611) hx hb dL_law_596 (by decide) (fun hno => absurd rfl hno) (fun _ => ?_)
    refine lv_aload_n hx hb dL_law_599 rfl (lv_at hl 5 rfl) ?_
    refine lv_iconst (v := 0) hx hb dL_law_600 (by decide) ?_
    refine wb_lald hx hb hK hO1 0 rfl 4 rfl rfl rfl 0 nI_0.symm (by decide) (by decide) dL_law_601 ?_
    rw [hf9]
    refine lv_iload hx hb dL_law_602 (lv_at hl 0 rfl) ?_
    refine lv_i2l (v := (L 5 (ixN x)).toInt64) hx hb dL_law_604 rfl ?_
    refine W.lcmp hx hb dL_law_605 ?_
    refine lv_if_eq (tgt := 611) hx hb dL_law_606 (by decide) (fun _ => ?_) (fun hno => absurd ((lg0_eq _ _).mpr rfl) hno)
    refine lv_goto (tgt := 1205) hx hb dL_law_611 (by decide) ?_
    refine W.widen (k := 30 + 2 * (k9 + 1)) (n := 300 + 30 * (k9 + 1)) (by omega) (by omega) ?_
    exact KK _ _ _ g L B n b ⟨hR1, ⟨_, hM⟩, ⟨f9, trivial, hO1⟩, hIv, (by omega), hsz, hS, lv_sub hl [2, 3, 4, 5, 6] rfl⟩
  ·
    have hne9 : ¬ r_9 = 0 := fun z => hk (hw.symm.trans z)
    obtain ⟨hR1, hO2⟩ := hB.2 hk
    refine lv_istore (lv' := [(5, .int r_9), (0, .ref b9), (1, .ref (ad 0)), (2, .ref (adM 0)), (3, .ref oo), (4, .int (nI (5 * k9)))]) hx hb dL_law_569 hl (by decide) rfl (fun ls hl => ?_)
    refine lv_aload_n hx hb dL_law_571 rfl (lv_at hl 3 rfl) ?_
    refine lv_aload_n hx hb dL_law_572 rfl (lv_at hl 1 rfl) ?_
    refine lv_iload hx hb dL_law_573 (lv_at hl 5 rfl) ?_
    refine lv_iconst (v := 1) hx hb dL_law_575 (by decide) ?_
    refine lv_iadd hx hb dL_law_576 ?_
    rw [show nI (5 * k9) + 1 = nI (5 * k9 + 1) from nI_add _ _]
    refine va_sld hx hb hX hbl hbA hS (vp_in_nI (by omega) (by omega)) dL_law_577 ?_
    rw [nI_clamp (by omega), ← ex]
    refine va_calli (va_runV (As := [.int x]) (rest := []) ⟨hx, hb, hml, hown, hts⟩ (c_X4_stateOf l D cs AM adM g L B n b t hn hb5 x) (cwV 1 hts gL_law_X4_stateOf rfl rfl rfl (by decide +kernel) ⟨Nat.le_of_ble_eq_true rfl, Nat.le_of_ble_eq_true rfl⟩) ⟨pM_fb, wb_recv hK hM (r := 0) (Nat.le_of_ble_eq_true rfl) (ci := 5) rfl rfl, fun U hU hV => ⟨rfl, pM_of hK hV.alike hU hM⟩⟩ rfl rfl hl.1 rfl (lv_room (Nat.le_of_ble_eq_true rfl)) dL_law_578 ⟨by show _ ≤ (601024 : Nat); omega, by show _ ≤ (7293034 : Nat); omega⟩) hS (fun q _ h => (hAM q h).1) (fun q h => (hAM q h).1) (fun r_8 u8 t8 H locs ht8 hvm8 hw8 hB8 hz8 hk8 hS => ?_)
    rw [ht8] at hB8
    have hsz := Nat.le_trans hsz hz8
    have hR1 := hR1.keptA (A1 := AM) (fun q hq => hq.2.1) hk8
    have hO2 := hO2.keptA (A1 := AM) hoo.2.2 hk8
    try simp only [sel_n hk] at hB8
    have hM : wP D AM lvM adM (ctM cs adM g L B n b (kIx n x)) H := hB8
    refine lv_istore (lv' := [(6, .int r_8), (5, .int r_9), (0, .ref b9), (1, .ref (ad 0)), (2, .ref (adM 0)), (3, .ref oo), (4, .int (nI (5 * k9)))]) hx hb dL_law_581 hl (by decide) rfl (fun ls hl => ?_)
    refine lv_aload_n hx hb dL_law_583 rfl (lv_at hl 4 rfl) ?_
    refine va_calli (va_runV (As := []) (rest := []) ⟨hx, hb, hml, hown, hts⟩ (c_X4_thrown l D cs AM adM g L B n b (kIx n x) hn hb5) (cwV 0 hts gL_law_X4_thrown rfl rfl rfl (by decide +kernel) ⟨Nat.le_of_ble_eq_true rfl, Nat.le_of_ble_eq_true rfl⟩) ⟨pM_fb, wb_recv hK hM (r := 0) (Nat.le_of_ble_eq_true rfl) (ci := 5) rfl rfl, fun U hU hV => ⟨rfl, pM_of hK hV.alike hU hM⟩⟩ rfl rfl hl.1 rfl (lv_room (Nat.le_of_ble_eq_true rfl)) dL_law_584 ⟨by show _ ≤ (601024 : Nat); omega, by show _ ≤ (7293034 : Nat); omega⟩) hS (fun _ _ h => h.elim) (fun _ h => h.elim) (fun r_7 u7 t7 H locs ht7 hvm7 hw7 hB7 hz7 hk7 hS => ?_)
    have hsz := Nat.le_trans hsz hz7
    have hR1 := hR1.keptA (A1 := fun _ => False) (fun _ _ h => h) hk7
    have hM := hM.kept hk7
    have hO2 := hO2.keptA (A1 := fun _ => False) (fun h => h) hk7
    obtain rfl : r_7 = r_9 := hw7.trans hw.symm
    refine lv_iload hx hb dL_law_587 (lv_at hl 1 rfl) ?_
    refine lv_icmp_eq (tgt := 594) hx hb dL_law_589 (by decide) (fun _ => ?_) (fun hno => absurd rfl hno)
    refine lv_iload hx hb dL_law_594 (lv_at hl 1 rfl) ?_
    refine lv_if_ne (tgt := 611) hx hb dL_law_596 (by decide) (fun _ => ?_) (fun hno => absurd hno hne9)
    refine lv_goto (tgt := 1205) hx hb dL_law_611 (by decide) ?_
    refine W.widen (k := 30 + 2 * (k9 + 1)) (n := 300 + 30 * (k9 + 1)) (by omega) (by omega) ?_
    exact KK _ _ _ g L B n b ⟨hR1, ⟨_, hM⟩, hO2, hIv, (by omega), hsz, hS, lv_sub hl [2, 3, 4, 5, 6] rfl⟩

set_option maxHeartbeats 4000000 in
set_option maxRecDepth 100000 in
theorem law_counts {p : Program} {l : Launch} {e : Env} {s : State} {m : MethodId} {below : List Frame} {meth : Method} {c : Code} {b9 L9 : Nat} {xs : Nat → Int32} {D : va_G} {cs : Nat → ClassId} {z0 : Nat} {sa : Nat → Nat} {AM : Nat → Prop} {adM : Nat → Nat} {o oo sz1 : Nat} (hst : l.stackTraces = false) (hL9 : L9 ≤ 2560) (C0 : lw_At p s m meth c b9 L9 xs) (hE0 : Ev D cs (fun q => s.heap.size ≤ q) z0 sa s) (hnc : va_Nc xS xA s ∧ va_Nc xS xI s ∧ va_Nc xA xI s) (hAM : ∀ q, AM q → s.heap.size ≤ q ∧ q < sz1) (hoo : s.heap.size ≤ oo ∧ oo < sz1 ∧ ¬ AM oo) {g : Nat → Int32} {L B : Nat → Nat → Int32} {n b k9 : Nat} {H : Heap} {locs : List Loc} {ls : Array Slot} (hk9 : 5 * k9 + 5 ≤ L9) (hI : LI D cs s AM adM z0 o oo sz1 b9 g L B n b k9 (5 * k9) H locs ls) (KK : ∀ (H1 : Heap) (locs1 : List Loc) (ls1 : Array Slot) (g : Nat → Int32) (L B : Nat → Nat → Int32) (n b : Nat), LI D cs s AM adM z0 o oo sz1 b9 g L B n b (k9 + 1) (5 * k9) H1 locs1 ls1 → W p l e room_1 s m #[Value.ref b9] below meth c H1 locs1 (30 + 2 * (k9 + 1)) (300 + 30 * (k9 + 1)) (lw_Z below #[Value.ref b9] s) (F0 m 1205 ls1 [])) : W p l e room_1 s m #[Value.ref b9] below meth c H locs (30 + 2 * k9) (300 + 30 * k9) (lw_Z below #[Value.ref b9] s) (F0 m 614 ls []) := by
  obtain ⟨hR, ⟨t, hM⟩, hO, hIv, hm9, hsz, hS, hl⟩ := hI
  obtain ⟨hx, hb0, hr, hml, hown0, hts0, hX, hbl, hlocks, hgv⟩ := C0
  have hb : c.code = cL_law := hb0
  have hown : s.vm.findClass RL = some m.cls := hown0
  have hts : ∀ w ∈ wsL_law, w.before #[Value.ref b9] s = true := fun w h => hts0 w (wsL_law_in w h)
  have hbA : ¬ (fun q : Nat => s.heap.size ≤ q) b9 := Nat.not_le.mpr hbl
  have hK := hE0.1
  have hbd := hIv.bd
  have hn := hIv.1
  have hb5 := hIv.2.1
  have dv0 := dv_ok hbd (r := 0) (by decide)
  have dvs := dv_ok hbd hbd.2.2.2.2.2.1
  obtain ⟨ad, y1, y2, N1, N2, nd, gv, ho, hN1, hN2, hW⟩ := hR
  subst ho
  obtain ⟨x, ex⟩ : ∃ x, x = xs (5 * k9 + 1) := ⟨_, rfl⟩
  refine lv_aload_n hx hb dL_law_614 rfl (lv_at hl 1 rfl) ?_
  refine lv_aload_n hx hb dL_law_615 rfl (lv_at hl 0 rfl) ?_
  refine lv_iload hx hb dL_law_616 (lv_at hl 4 rfl) ?_
  refine lv_iconst (v := 1) hx hb dL_law_618 (by decide) ?_
  refine lv_iadd hx hb dL_law_619 ?_
  rw [show nI (5 * k9) + 1 = nI (5 * k9 + 1) from nI_add _ _]
  refine va_sld hx hb hX hbl hbA hS (vp_in_nI (by omega) (by omega)) dL_law_620 ?_
  rw [nI_clamp (by omega), ← ex]
  refine lv_aload_n hx hb dL_law_621 rfl (lv_at hl 3 rfl) ?_
  refine vx_calli (vx_runSX (hh := [(0, 9, 12, 21)]) (As := [.ref (ad 0), .int x, .ref oo]) (rest := []) ⟨hx, hb, hml, hown, hts⟩ (c_L_counts l hst D cs (AC s.heap.size AM oo) z0 sa ad g L B n b y1 y2 N1 N2 nd gv hn hb5 hN1 hN2 oo (fun h => h.2.2 rfl) x) (vx_cwSW 3 hts gL_law_L_counts rfl rfl rfl (by decide +kernel) ⟨Nat.le_of_ble_eq_true rfl, Nat.le_of_ble_eq_true rfl⟩) ⟨pH_fb, fun U hU hV => ⟨rfl, ⟨hE0.law hS hsz hAM hoo hV hU, by rw [hU]; exact hW⟩, by rw [hU]; exact hO, hnc.1.moved hV.alike, hnc.2.1.moved hV.alike, hnc.2.2.moved hV.alike⟩⟩ rfl rfl hl.1 rfl (lv_room (Nat.le_of_ble_eq_true rfl)) dL_law_622 ⟨by show _ ≤ (601024 : Nat); omega, by show _ ≤ (7293034 : Nat); omega⟩) hS (fun q _ h => h.elim (fun z => z.1) (fun z => by rw [z]; exact hoo.1)) (fun q h => h.elim (fun z => z.1) (fun z => by rw [z]; exact hoo.1)) (fun _ _ h => h.elim) (fun E9 ce9 q9 u9 t9 H9 locs9 ht9 hvm9 hpx9 hbx9 hz9 hk9 hS9 hc9 hv9 hl9 => hpx9.elim) (fun r_9 u t9 H locs ht hvm hw hB hz1 hk1 hS => ?_)
  rw [ht] at hB
  have hsz := Nat.le_trans hsz hz1
  have hM := hM.keptA (A1 := fun q => (AC s.heap.size AM oo) q ∨ q = oo) (fun q hq z => z.elim (fun w => w.2.1 hq) (fun w => hoo.2.2 (by rw [← w]; exact hq))) hk1
  by_cases hk : kIx n x = 0
  ·
    obtain rfl : r_9 = 0 := hw.trans hk
    obtain ⟨hR1, f9, hf9, hO1⟩ := hB.1 hk
    refine lv_istore (lv' := [(5, .int 0), (0, .ref b9), (1, .ref (ad 0)), (2, .ref (adM 0)), (3, .ref oo), (4, .int (nI (5 * k9)))]) hx hb dL_law_625 hl (by decide) rfl (fun ls hl => ?_)
    refine lv_aload_n hx hb dL_law_627 rfl (lv_at hl 3 rfl) ?_
    refine lv_aload_n hx hb dL_law_628 rfl (lv_at hl 1 rfl) ?_
    refine lv_iload hx hb dL_law_629 (lv_at hl 5 rfl) ?_
    refine lv_iconst (v := 1) hx hb dL_law_631 (by decide) ?_
    refine lv_iadd hx hb dL_law_632 ?_
    rw [show nI (5 * k9) + 1 = nI (5 * k9 + 1) from nI_add _ _]
    refine va_sld hx hb hX hbl hbA hS (vp_in_nI (by omega) (by omega)) dL_law_633 ?_
    rw [nI_clamp (by omega), ← ex]
    refine va_calli (va_runV (As := [.int x]) (rest := []) ⟨hx, hb, hml, hown, hts⟩ (c_X4_counts l D cs AM adM g L B n b t hn hb5 x) (cwV 1 hts gL_law_X4_counts rfl rfl rfl (by decide +kernel) ⟨Nat.le_of_ble_eq_true rfl, Nat.le_of_ble_eq_true rfl⟩) ⟨pM_fb, wb_recv hK hM (r := 0) (Nat.le_of_ble_eq_true rfl) (ci := 5) rfl rfl, fun U hU hV => ⟨rfl, pM_of hK hV.alike hU hM⟩⟩ rfl rfl hl.1 rfl (lv_room (Nat.le_of_ble_eq_true rfl)) dL_law_634 ⟨by show _ ≤ (601024 : Nat); omega, by show _ ≤ (7293034 : Nat); omega⟩) hS (fun q _ h => (hAM q h).1) (fun q h => (hAM q h).1) (fun r_8 u8 t8 H locs ht8 hvm8 hw8 hB8 hz8 hk8 hS => ?_)
    rw [ht8] at hB8
    have hsz := Nat.le_trans hsz hz8
    have hR1 := hR1.keptA (A1 := AM) (fun q hq => hq.2.1) hk8
    have hO1 := hO1.keptA (A1 := AM) (fun q hq z => hoo.2.2 (by rw [← hq]; exact z)) hk8
    rw [hk] at hB8
    try simp only [sel_0] at hB8
    have hM : wP D AM lvM adM (ctM cs adM g L B n b 0) H := hB8
    obtain rfl : r_8 = mCount g L (ixN x) := by rw [hw8, hk]; rfl
    refine lv_istore (lv' := [(6, .int (mCount g L (ixN x))), (5, .int 0), (0, .ref b9), (1, .ref (ad 0)), (2, .ref (adM 0)), (3, .ref oo), (4, .int (nI (5 * k9)))]) hx hb dL_law_637 hl (by decide) rfl (fun ls hl => ?_)
    refine lv_aload_n hx hb dL_law_639 rfl (lv_at hl 4 rfl) ?_
    refine va_calli (va_runV (As := []) (rest := []) ⟨hx, hb, hml, hown, hts⟩ (c_X4_thrown l D cs AM adM g L B n b 0 hn hb5) (cwV 0 hts gL_law_X4_thrown rfl rfl rfl (by decide +kernel) ⟨Nat.le_of_ble_eq_true rfl, Nat.le_of_ble_eq_true rfl⟩) ⟨pM_fb, wb_recv hK hM (r := 0) (Nat.le_of_ble_eq_true rfl) (ci := 5) rfl rfl, fun U hU hV => ⟨rfl, pM_of hK hV.alike hU hM⟩⟩ rfl rfl hl.1 rfl (lv_room (Nat.le_of_ble_eq_true rfl)) dL_law_640 ⟨by show _ ≤ (601024 : Nat); omega, by show _ ≤ (7293034 : Nat); omega⟩) hS (fun _ _ h => h.elim) (fun _ h => h.elim) (fun r_7 u7 t7 H locs ht7 hvm7 hw7 hB7 hz7 hk7 hS => ?_)
    have hsz := Nat.le_trans hsz hz7
    have hR1 := hR1.keptA (A1 := fun _ => False) (fun _ _ h => h) hk7
    have hM := hM.kept hk7
    have hO1 := hO1.keptA (A1 := fun _ => False) (fun _ _ h => h) hk7
    obtain rfl : r_7 = 0 := hw7
    refine lv_iload hx hb dL_law_643 (lv_at hl 1 rfl) ?_
    refine lv_icmp_eq (tgt := 650) hx hb dL_law_645 (by decide) (fun _ => ?_) (fun hno => absurd rfl hno)
    refine lv_iload hx hb dL_law_650 (lv_at hl 1 rfl) ?_
    refine lv_if_ne (tgt := 667) hx hb dL_law_652 (by decide) (fun hno => absurd rfl hno) (fun _ => ?_)
    refine lv_aload_n hx hb dL_law_655 rfl (lv_at hl 5 rfl) ?_
    refine lv_iconst (v := 0) hx hb dL_law_656 (by decide) ?_
    refine wb_lald hx hb hK hO1 0 rfl 4 rfl rfl rfl 0 nI_0.symm (by decide) (by decide) dL_law_657 ?_
    rw [hf9]
    refine lv_iload hx hb dL_law_658 (lv_at hl 0 rfl) ?_
    refine lv_i2l (v := (mCount g L (ixN x)).toInt64) hx hb dL_law_660 rfl ?_
    refine W.lcmp hx hb dL_law_661 ?_
    refine lv_if_eq (tgt := 667) hx hb dL_law_662 (by decide) (fun _ => ?_) (fun hno => absurd ((lg0_eq _ _).mpr rfl) hno)
    refine lv_goto (tgt := 1205) hx hb dL_law_667 (by decide) ?_
    refine W.widen (k := 30 + 2 * (k9 + 1)) (n := 300 + 30 * (k9 + 1)) (by omega) (by omega) ?_
    exact KK _ _ _ g L B n b ⟨hR1, ⟨_, hM⟩, ⟨f9, trivial, hO1⟩, hIv, (by omega), hsz, hS, lv_sub hl [2, 3, 4, 5, 6] rfl⟩
  ·
    have hne9 : ¬ r_9 = 0 := fun z => hk (hw.symm.trans z)
    obtain ⟨hR1, hO2⟩ := hB.2 hk
    refine lv_istore (lv' := [(5, .int r_9), (0, .ref b9), (1, .ref (ad 0)), (2, .ref (adM 0)), (3, .ref oo), (4, .int (nI (5 * k9)))]) hx hb dL_law_625 hl (by decide) rfl (fun ls hl => ?_)
    refine lv_aload_n hx hb dL_law_627 rfl (lv_at hl 3 rfl) ?_
    refine lv_aload_n hx hb dL_law_628 rfl (lv_at hl 1 rfl) ?_
    refine lv_iload hx hb dL_law_629 (lv_at hl 5 rfl) ?_
    refine lv_iconst (v := 1) hx hb dL_law_631 (by decide) ?_
    refine lv_iadd hx hb dL_law_632 ?_
    rw [show nI (5 * k9) + 1 = nI (5 * k9 + 1) from nI_add _ _]
    refine va_sld hx hb hX hbl hbA hS (vp_in_nI (by omega) (by omega)) dL_law_633 ?_
    rw [nI_clamp (by omega), ← ex]
    refine va_calli (va_runV (As := [.int x]) (rest := []) ⟨hx, hb, hml, hown, hts⟩ (c_X4_counts l D cs AM adM g L B n b t hn hb5 x) (cwV 1 hts gL_law_X4_counts rfl rfl rfl (by decide +kernel) ⟨Nat.le_of_ble_eq_true rfl, Nat.le_of_ble_eq_true rfl⟩) ⟨pM_fb, wb_recv hK hM (r := 0) (Nat.le_of_ble_eq_true rfl) (ci := 5) rfl rfl, fun U hU hV => ⟨rfl, pM_of hK hV.alike hU hM⟩⟩ rfl rfl hl.1 rfl (lv_room (Nat.le_of_ble_eq_true rfl)) dL_law_634 ⟨by show _ ≤ (601024 : Nat); omega, by show _ ≤ (7293034 : Nat); omega⟩) hS (fun q _ h => (hAM q h).1) (fun q h => (hAM q h).1) (fun r_8 u8 t8 H locs ht8 hvm8 hw8 hB8 hz8 hk8 hS => ?_)
    rw [ht8] at hB8
    have hsz := Nat.le_trans hsz hz8
    have hR1 := hR1.keptA (A1 := AM) (fun q hq => hq.2.1) hk8
    have hO2 := hO2.keptA (A1 := AM) hoo.2.2 hk8
    try simp only [sel_n hk] at hB8
    have hM : wP D AM lvM adM (ctM cs adM g L B n b (kIx n x)) H := hB8
    refine lv_istore (lv' := [(6, .int r_8), (5, .int r_9), (0, .ref b9), (1, .ref (ad 0)), (2, .ref (adM 0)), (3, .ref oo), (4, .int (nI (5 * k9)))]) hx hb dL_law_637 hl (by decide) rfl (fun ls hl => ?_)
    refine lv_aload_n hx hb dL_law_639 rfl (lv_at hl 4 rfl) ?_
    refine va_calli (va_runV (As := []) (rest := []) ⟨hx, hb, hml, hown, hts⟩ (c_X4_thrown l D cs AM adM g L B n b (kIx n x) hn hb5) (cwV 0 hts gL_law_X4_thrown rfl rfl rfl (by decide +kernel) ⟨Nat.le_of_ble_eq_true rfl, Nat.le_of_ble_eq_true rfl⟩) ⟨pM_fb, wb_recv hK hM (r := 0) (Nat.le_of_ble_eq_true rfl) (ci := 5) rfl rfl, fun U hU hV => ⟨rfl, pM_of hK hV.alike hU hM⟩⟩ rfl rfl hl.1 rfl (lv_room (Nat.le_of_ble_eq_true rfl)) dL_law_640 ⟨by show _ ≤ (601024 : Nat); omega, by show _ ≤ (7293034 : Nat); omega⟩) hS (fun _ _ h => h.elim) (fun _ h => h.elim) (fun r_7 u7 t7 H locs ht7 hvm7 hw7 hB7 hz7 hk7 hS => ?_)
    have hsz := Nat.le_trans hsz hz7
    have hR1 := hR1.keptA (A1 := fun _ => False) (fun _ _ h => h) hk7
    have hM := hM.kept hk7
    have hO2 := hO2.keptA (A1 := fun _ => False) (fun h => h) hk7
    obtain rfl : r_7 = r_9 := hw7.trans hw.symm
    refine lv_iload hx hb dL_law_643 (lv_at hl 1 rfl) ?_
    refine lv_icmp_eq (tgt := 650) hx hb dL_law_645 (by decide) (fun _ => ?_) (fun hno => absurd rfl hno)
    refine lv_iload hx hb dL_law_650 (lv_at hl 1 rfl) ?_
    refine lv_if_ne (tgt := 667) hx hb dL_law_652 (by decide) (fun _ => ?_) (fun hno => absurd hno hne9)
    refine lv_goto (tgt := 1205) hx hb dL_law_667 (by decide) ?_
    refine W.widen (k := 30 + 2 * (k9 + 1)) (n := 300 + 30 * (k9 + 1)) (by omega) (by omega) ?_
    exact KK _ _ _ g L B n b ⟨hR1, ⟨_, hM⟩, hO2, hIv, (by omega), hsz, hS, lv_sub hl [2, 3, 4, 5, 6] rfl⟩

set_option maxHeartbeats 4000000 in
set_option maxRecDepth 100000 in
theorem law_addBond {p : Program} {l : Launch} {e : Env} {s : State} {m : MethodId} {below : List Frame} {meth : Method} {c : Code} {b9 L9 : Nat} {xs : Nat → Int32} {D : va_G} {cs : Nat → ClassId} {z0 : Nat} {sa : Nat → Nat} {AM : Nat → Prop} {adM : Nat → Nat} {o oo sz1 : Nat} (hst : l.stackTraces = false) (hL9 : L9 ≤ 2560) (C0 : lw_At p s m meth c b9 L9 xs) (hE0 : Ev D cs (fun q => s.heap.size ≤ q) z0 sa s) (hnc : va_Nc xS xA s ∧ va_Nc xS xI s ∧ va_Nc xA xI s) (hAM : ∀ q, AM q → s.heap.size ≤ q ∧ q < sz1) (hoo : s.heap.size ≤ oo ∧ oo < sz1 ∧ ¬ AM oo) {g : Nat → Int32} {L B : Nat → Nat → Int32} {n b k9 : Nat} {H : Heap} {locs : List Loc} {ls : Array Slot} (hk9 : 5 * k9 + 5 ≤ L9) (hI : LI D cs s AM adM z0 o oo sz1 b9 g L B n b k9 (5 * k9) H locs ls) (KK : ∀ (H1 : Heap) (locs1 : List Loc) (ls1 : Array Slot) (g : Nat → Int32) (L B : Nat → Nat → Int32) (n b : Nat), LI D cs s AM adM z0 o oo sz1 b9 g L B n b (k9 + 1) (5 * k9) H1 locs1 ls1 → W p l e room_1 s m #[Value.ref b9] below meth c H1 locs1 (30 + 2 * (k9 + 1)) (300 + 30 * (k9 + 1)) (lw_Z below #[Value.ref b9] s) (F0 m 1205 ls1 [])) : W p l e room_1 s m #[Value.ref b9] below meth c H locs (30 + 2 * k9) (300 + 30 * k9) (lw_Z below #[Value.ref b9] s) (F0 m 670 ls []) := by
  obtain ⟨hR, ⟨t, hM⟩, hO, hIv, hm9, hsz, hS, hl⟩ := hI
  obtain ⟨hx, hb0, hr, hml, hown0, hts0, hX, hbl, hlocks, hgv⟩ := C0
  have hb : c.code = cL_law := hb0
  have hown : s.vm.findClass RL = some m.cls := hown0
  have hts : ∀ w ∈ wsL_law, w.before #[Value.ref b9] s = true := fun w h => hts0 w (wsL_law_in w h)
  have hbA : ¬ (fun q : Nat => s.heap.size ≤ q) b9 := Nat.not_le.mpr hbl
  have hK := hE0.1
  have hbd := hIv.bd
  have hn := hIv.1
  have hb5 := hIv.2.1
  have dv0 := dv_ok hbd (r := 0) (by decide)
  have dvs := dv_ok hbd hbd.2.2.2.2.2.1
  obtain ⟨ad, y1, y2, N1, N2, nd, gv, ho, hN1, hN2, hW⟩ := hR
  subst ho
  obtain ⟨x, ex⟩ : ∃ x, x = xs (5 * k9 + 1) := ⟨_, rfl⟩
  obtain ⟨y, ey⟩ : ∃ y, y = xs (5 * k9 + 2) := ⟨_, rfl⟩
  refine lv_aload_n hx hb dL_law_670 rfl (lv_at hl 1 rfl) ?_
  refine lv_aload_n hx hb dL_law_671 rfl (lv_at hl 0 rfl) ?_
  refine lv_iload hx hb dL_law_672 (lv_at hl 4 rfl) ?_
  refine lv_iconst (v := 1) hx hb dL_law_674 (by decide) ?_
  refine lv_iadd hx hb dL_law_675 ?_
  rw [show nI (5 * k9) + 1 = nI (5 * k9 + 1) from nI_add _ _]
  refine va_sld hx hb hX hbl hbA hS (vp_in_nI (by omega) (by omega)) dL_law_676 ?_
  rw [nI_clamp (by omega), ← ex]
  refine lv_aload_n hx hb dL_law_677 rfl (lv_at hl 0 rfl) ?_
  refine lv_iload hx hb dL_law_678 (lv_at hl 4 rfl) ?_
  refine lv_iconst (v := 2) hx hb dL_law_680 (by decide) ?_
  refine lv_iadd hx hb dL_law_681 ?_
  rw [show nI (5 * k9) + 2 = nI (5 * k9 + 2) from nI_add _ _]
  refine va_sld hx hb hX hbl hbA hS (vp_in_nI (by omega) (by omega)) dL_law_682 ?_
  rw [nI_clamp (by omega), ← ey]
  refine lv_aload_n hx hb dL_law_683 rfl (lv_at hl 3 rfl) ?_
  refine vx_calli (vx_runSX (hh := [(0, 10, 13, 13), (0, 10, 17, 15)]) (As := [.ref (ad 0), .int x, .int y, .ref oo]) (rest := []) ⟨hx, hb, hml, hown, hts⟩ (c_L_addBond l hst D cs (AC s.heap.size AM oo) z0 sa ad g L B n b y1 y2 N1 N2 nd gv hn hb5 hN1 hN2 oo (fun h => h.2.2 rfl) x y (hIv.2.2.2.2.2.2.2.2.2 b (Nat.le_refl b))) (vx_cwSW 4 hts gL_law_L_addBond rfl rfl rfl (by decide +kernel) ⟨Nat.le_of_ble_eq_true rfl, Nat.le_of_ble_eq_true rfl⟩) ⟨pH_fb, fun U hU hV => ⟨rfl, ⟨hE0.law hS hsz hAM hoo hV hU, by rw [hU]; exact hW⟩, by rw [hU]; exact hO, hnc.1.moved hV.alike, hnc.2.1.moved hV.alike, hnc.2.2.moved hV.alike⟩⟩ rfl rfl hl.1 rfl (lv_room (Nat.le_of_ble_eq_true rfl)) dL_law_684 ⟨by show _ ≤ (601024 : Nat); omega, by show _ ≤ (7293034 : Nat); omega⟩) hS (fun q _ h => h.elim (fun z => z.1) (fun z => by rw [z]; exact hoo.1)) (fun q h => h.elim (fun z => z.1) (fun z => by rw [z]; exact hoo.1)) (fun _ _ h => h.elim) (fun E9 ce9 q9 u9 t9 H9 locs9 ht9 hvm9 hpx9 hbx9 hz9 hk9 hS9 hc9 hv9 hl9 => hpx9.elim) (fun r_9 u t9 H locs ht hvm hw hB hz1 hk1 hS => ?_)
  rw [ht] at hB
  have hsz := Nat.le_trans hsz hz1
  have hM := hM.keptA (A1 := fun q => (AC s.heap.size AM oo) q ∨ q = oo) (fun q hq z => z.elim (fun w => w.2.1 hq) (fun w => hoo.2.2 (by rw [← w]; exact hq))) hk1
  by_cases hk : kAddBond g b x y = 0
  ·
    obtain rfl : r_9 = 0 := hw.trans hk
    obtain ⟨hR1, f9, hf9, hO1⟩ := hB.1 hk
    refine lv_istore (lv' := [(5, .int 0), (0, .ref b9), (1, .ref (ad 0)), (2, .ref (adM 0)), (3, .ref oo), (4, .int (nI (5 * k9)))]) hx hb dL_law_687 hl (by decide) rfl (fun ls hl => ?_)
    refine lv_aload_n hx hb dL_law_689 rfl (lv_at hl 3 rfl) ?_
    refine lv_aload_n hx hb dL_law_690 rfl (lv_at hl 1 rfl) ?_
    refine lv_iload hx hb dL_law_691 (lv_at hl 5 rfl) ?_
    refine lv_iconst (v := 1) hx hb dL_law_693 (by decide) ?_
    refine lv_iadd hx hb dL_law_694 ?_
    rw [show nI (5 * k9) + 1 = nI (5 * k9 + 1) from nI_add _ _]
    refine va_sld hx hb hX hbl hbA hS (vp_in_nI (by omega) (by omega)) dL_law_695 ?_
    rw [nI_clamp (by omega), ← ex]
    refine lv_aload_n hx hb dL_law_696 rfl (lv_at hl 1 rfl) ?_
    refine lv_iload hx hb dL_law_697 (lv_at hl 5 rfl) ?_
    refine lv_iconst (v := 2) hx hb dL_law_699 (by decide) ?_
    refine lv_iadd hx hb dL_law_700 ?_
    rw [show nI (5 * k9) + 2 = nI (5 * k9 + 2) from nI_add _ _]
    refine va_sld hx hb hX hbl hbA hS (vp_in_nI (by omega) (by omega)) dL_law_701 ?_
    rw [nI_clamp (by omega), ← ey]
    refine va_calli (va_runV (As := [.int x, .int y]) (rest := []) ⟨hx, hb, hml, hown, hts⟩ (c_X4_addBond l D cs AM adM g L B n b t hn hb5 x y) (cwV 2 hts gL_law_X4_addBond rfl rfl rfl (by decide +kernel) ⟨Nat.le_of_ble_eq_true rfl, Nat.le_of_ble_eq_true rfl⟩) ⟨pM_fb, wb_recv hK hM (r := 0) (Nat.le_of_ble_eq_true rfl) (ci := 5) rfl rfl, fun U hU hV => ⟨rfl, pM_of hK hV.alike hU hM⟩⟩ rfl rfl hl.1 rfl (lv_room (Nat.le_of_ble_eq_true rfl)) dL_law_702 ⟨by show _ ≤ (601024 : Nat); omega, by show _ ≤ (7293034 : Nat); omega⟩) hS (fun q _ h => (hAM q h).1) (fun q h => (hAM q h).1) (fun r_8 u8 t8 H locs ht8 hvm8 hw8 hB8 hz8 hk8 hS => ?_)
    rw [ht8] at hB8
    have hsz := Nat.le_trans hsz hz8
    have hR1 := hR1.keptA (A1 := AM) (fun q hq => hq.2.1) hk8
    have hO1 := hO1.keptA (A1 := AM) (fun q hq z => hoo.2.2 (by rw [← hq]; exact z)) hk8
    rw [hk] at hB8
    try simp only [sel_0] at hB8
    have hM : wP D AM lvM adM (ctM cs adM (upd g 1 (g 1 + x)) L (addB B b x y) n (b + 1) 0) H := hB8
    obtain rfl : r_8 = nI b := by rw [hw8, hk]; rfl
    refine lv_istore (lv' := [(6, .int (nI b)), (5, .int 0), (0, .ref b9), (1, .ref (ad 0)), (2, .ref (adM 0)), (3, .ref oo), (4, .int (nI (5 * k9)))]) hx hb dL_law_705 hl (by decide) rfl (fun ls hl => ?_)
    refine lv_aload_n hx hb dL_law_707 rfl (lv_at hl 4 rfl) ?_
    refine va_calli (va_runV (As := []) (rest := []) ⟨hx, hb, hml, hown, hts⟩ (c_X4_thrown l D cs AM adM (upd g 1 (g 1 + x)) L (addB B b x y) n (b + 1) 0 hn (kAddBond_lt hb5 hk)) (cwV 0 hts gL_law_X4_thrown rfl rfl rfl (by decide +kernel) ⟨Nat.le_of_ble_eq_true rfl, Nat.le_of_ble_eq_true rfl⟩) ⟨pM_fb, wb_recv hK hM (r := 0) (Nat.le_of_ble_eq_true rfl) (ci := 5) rfl rfl, fun U hU hV => ⟨rfl, pM_of hK hV.alike hU hM⟩⟩ rfl rfl hl.1 rfl (lv_room (Nat.le_of_ble_eq_true rfl)) dL_law_708 ⟨by show _ ≤ (601024 : Nat); omega, by show _ ≤ (7293034 : Nat); omega⟩) hS (fun _ _ h => h.elim) (fun _ h => h.elim) (fun r_7 u7 t7 H locs ht7 hvm7 hw7 hB7 hz7 hk7 hS => ?_)
    have hsz := Nat.le_trans hsz hz7
    have hR1 := hR1.keptA (A1 := fun _ => False) (fun _ _ h => h) hk7
    have hM := hM.kept hk7
    have hO1 := hO1.keptA (A1 := fun _ => False) (fun _ _ h => h) hk7
    obtain rfl : r_7 = 0 := hw7
    refine lv_iload hx hb dL_law_711 (lv_at hl 1 rfl) ?_
    refine lv_icmp_eq (tgt := 718) hx hb dL_law_713 (by decide) (fun _ => ?_) (fun hno => absurd rfl hno)
    refine lv_iload hx hb dL_law_718 (lv_at hl 1 rfl) ?_
    refine lv_if_ne (tgt := 735) hx hb dL_law_720 (by decide) (fun hno => absurd rfl hno) (fun _ => ?_)
    refine lv_aload_n hx hb dL_law_723 rfl (lv_at hl 5 rfl) ?_
    refine lv_iconst (v := 0) hx hb dL_law_724 (by decide) ?_
    refine wb_lald hx hb hK hO1 0 rfl 4 rfl rfl rfl 0 nI_0.symm (by decide) (by decide) dL_law_725 ?_
    rw [hf9]
    refine lv_iload hx hb dL_law_726 (lv_at hl 0 rfl) ?_
    refine lv_i2l (v := (nI b).toInt64) hx hb dL_law_728 rfl ?_
    refine W.lcmp hx hb dL_law_729 ?_
    refine lv_if_eq (tgt := 735) hx hb dL_law_730 (by decide) (fun _ => ?_) (fun hno => absurd ((lg0_eq _ _).mpr rfl) hno)
    refine lv_goto (tgt := 1205) hx hb dL_law_735 (by decide) ?_
    refine W.widen (k := 30 + 2 * (k9 + 1)) (n := 300 + 30 * (k9 + 1)) (by omega) (by omega) ?_
    exact KK _ _ _ (upd g 1 (g 1 + x)) L (addB B b x y) n (b + 1) ⟨hR1, ⟨_, hM⟩, ⟨f9, trivial, hO1⟩, (hIv.bond hk).1, (by rw [upd_ne (by decide)]; omega), hsz, hS, lv_sub hl [2, 3, 4, 5, 6] rfl⟩
  ·
    have hne9 : ¬ r_9 = 0 := fun z => hk (hw.symm.trans z)
    obtain ⟨hR1, hO2⟩ := hB.2 hk
    refine lv_istore (lv' := [(5, .int r_9), (0, .ref b9), (1, .ref (ad 0)), (2, .ref (adM 0)), (3, .ref oo), (4, .int (nI (5 * k9)))]) hx hb dL_law_687 hl (by decide) rfl (fun ls hl => ?_)
    refine lv_aload_n hx hb dL_law_689 rfl (lv_at hl 3 rfl) ?_
    refine lv_aload_n hx hb dL_law_690 rfl (lv_at hl 1 rfl) ?_
    refine lv_iload hx hb dL_law_691 (lv_at hl 5 rfl) ?_
    refine lv_iconst (v := 1) hx hb dL_law_693 (by decide) ?_
    refine lv_iadd hx hb dL_law_694 ?_
    rw [show nI (5 * k9) + 1 = nI (5 * k9 + 1) from nI_add _ _]
    refine va_sld hx hb hX hbl hbA hS (vp_in_nI (by omega) (by omega)) dL_law_695 ?_
    rw [nI_clamp (by omega), ← ex]
    refine lv_aload_n hx hb dL_law_696 rfl (lv_at hl 1 rfl) ?_
    refine lv_iload hx hb dL_law_697 (lv_at hl 5 rfl) ?_
    refine lv_iconst (v := 2) hx hb dL_law_699 (by decide) ?_
    refine lv_iadd hx hb dL_law_700 ?_
    rw [show nI (5 * k9) + 2 = nI (5 * k9 + 2) from nI_add _ _]
    refine va_sld hx hb hX hbl hbA hS (vp_in_nI (by omega) (by omega)) dL_law_701 ?_
    rw [nI_clamp (by omega), ← ey]
    refine va_calli (va_runV (As := [.int x, .int y]) (rest := []) ⟨hx, hb, hml, hown, hts⟩ (c_X4_addBond l D cs AM adM g L B n b t hn hb5 x y) (cwV 2 hts gL_law_X4_addBond rfl rfl rfl (by decide +kernel) ⟨Nat.le_of_ble_eq_true rfl, Nat.le_of_ble_eq_true rfl⟩) ⟨pM_fb, wb_recv hK hM (r := 0) (Nat.le_of_ble_eq_true rfl) (ci := 5) rfl rfl, fun U hU hV => ⟨rfl, pM_of hK hV.alike hU hM⟩⟩ rfl rfl hl.1 rfl (lv_room (Nat.le_of_ble_eq_true rfl)) dL_law_702 ⟨by show _ ≤ (601024 : Nat); omega, by show _ ≤ (7293034 : Nat); omega⟩) hS (fun q _ h => (hAM q h).1) (fun q h => (hAM q h).1) (fun r_8 u8 t8 H locs ht8 hvm8 hw8 hB8 hz8 hk8 hS => ?_)
    rw [ht8] at hB8
    have hsz := Nat.le_trans hsz hz8
    have hR1 := hR1.keptA (A1 := AM) (fun q hq => hq.2.1) hk8
    have hO2 := hO2.keptA (A1 := AM) hoo.2.2 hk8
    try simp only [sel_n hk] at hB8
    have hM : wP D AM lvM adM (ctM cs adM g L B n b (kAddBond g b x y)) H := hB8
    refine lv_istore (lv' := [(6, .int r_8), (5, .int r_9), (0, .ref b9), (1, .ref (ad 0)), (2, .ref (adM 0)), (3, .ref oo), (4, .int (nI (5 * k9)))]) hx hb dL_law_705 hl (by decide) rfl (fun ls hl => ?_)
    refine lv_aload_n hx hb dL_law_707 rfl (lv_at hl 4 rfl) ?_
    refine va_calli (va_runV (As := []) (rest := []) ⟨hx, hb, hml, hown, hts⟩ (c_X4_thrown l D cs AM adM g L B n b (kAddBond g b x y) hn hb5) (cwV 0 hts gL_law_X4_thrown rfl rfl rfl (by decide +kernel) ⟨Nat.le_of_ble_eq_true rfl, Nat.le_of_ble_eq_true rfl⟩) ⟨pM_fb, wb_recv hK hM (r := 0) (Nat.le_of_ble_eq_true rfl) (ci := 5) rfl rfl, fun U hU hV => ⟨rfl, pM_of hK hV.alike hU hM⟩⟩ rfl rfl hl.1 rfl (lv_room (Nat.le_of_ble_eq_true rfl)) dL_law_708 ⟨by show _ ≤ (601024 : Nat); omega, by show _ ≤ (7293034 : Nat); omega⟩) hS (fun _ _ h => h.elim) (fun _ h => h.elim) (fun r_7 u7 t7 H locs ht7 hvm7 hw7 hB7 hz7 hk7 hS => ?_)
    have hsz := Nat.le_trans hsz hz7
    have hR1 := hR1.keptA (A1 := fun _ => False) (fun _ _ h => h) hk7
    have hM := hM.kept hk7
    have hO2 := hO2.keptA (A1 := fun _ => False) (fun h => h) hk7
    obtain rfl : r_7 = r_9 := hw7.trans hw.symm
    refine lv_iload hx hb dL_law_711 (lv_at hl 1 rfl) ?_
    refine lv_icmp_eq (tgt := 718) hx hb dL_law_713 (by decide) (fun _ => ?_) (fun hno => absurd rfl hno)
    refine lv_iload hx hb dL_law_718 (lv_at hl 1 rfl) ?_
    refine lv_if_ne (tgt := 735) hx hb dL_law_720 (by decide) (fun _ => ?_) (fun hno => absurd hno hne9)
    refine lv_goto (tgt := 1205) hx hb dL_law_735 (by decide) ?_
    refine W.widen (k := 30 + 2 * (k9 + 1)) (n := 300 + 30 * (k9 + 1)) (by omega) (by omega) ?_
    exact KK _ _ _ g L B n b ⟨hR1, ⟨_, hM⟩, hO2, hIv, (by omega), hsz, hS, lv_sub hl [2, 3, 4, 5, 6] rfl⟩

set_option maxHeartbeats 4000000 in
set_option maxRecDepth 100000 in
theorem law_takeCash {p : Program} {l : Launch} {e : Env} {s : State} {m : MethodId} {below : List Frame} {meth : Method} {c : Code} {b9 L9 : Nat} {xs : Nat → Int32} {D : va_G} {cs : Nat → ClassId} {z0 : Nat} {sa : Nat → Nat} {AM : Nat → Prop} {adM : Nat → Nat} {o oo sz1 : Nat} (hst : l.stackTraces = false) (hL9 : L9 ≤ 2560) (C0 : lw_At p s m meth c b9 L9 xs) (hE0 : Ev D cs (fun q => s.heap.size ≤ q) z0 sa s) (hnc : va_Nc xS xA s ∧ va_Nc xS xI s ∧ va_Nc xA xI s) (hAM : ∀ q, AM q → s.heap.size ≤ q ∧ q < sz1) (hoo : s.heap.size ≤ oo ∧ oo < sz1 ∧ ¬ AM oo) {g : Nat → Int32} {L B : Nat → Nat → Int32} {n b k9 : Nat} {H : Heap} {locs : List Loc} {ls : Array Slot} (hk9 : 5 * k9 + 5 ≤ L9) (hI : LI D cs s AM adM z0 o oo sz1 b9 g L B n b k9 (5 * k9) H locs ls) (KK : ∀ (H1 : Heap) (locs1 : List Loc) (ls1 : Array Slot) (g : Nat → Int32) (L B : Nat → Nat → Int32) (n b : Nat), LI D cs s AM adM z0 o oo sz1 b9 g L B n b (k9 + 1) (5 * k9) H1 locs1 ls1 → W p l e room_1 s m #[Value.ref b9] below meth c H1 locs1 (30 + 2 * (k9 + 1)) (300 + 30 * (k9 + 1)) (lw_Z below #[Value.ref b9] s) (F0 m 1205 ls1 [])) : W p l e room_1 s m #[Value.ref b9] below meth c H locs (30 + 2 * k9) (300 + 30 * k9) (lw_Z below #[Value.ref b9] s) (F0 m 738 ls []) := by
  obtain ⟨hR, ⟨t, hM⟩, hO, hIv, hm9, hsz, hS, hl⟩ := hI
  obtain ⟨hx, hb0, hr, hml, hown0, hts0, hX, hbl, hlocks, hgv⟩ := C0
  have hb : c.code = cL_law := hb0
  have hown : s.vm.findClass RL = some m.cls := hown0
  have hts : ∀ w ∈ wsL_law, w.before #[Value.ref b9] s = true := fun w h => hts0 w (wsL_law_in w h)
  have hbA : ¬ (fun q : Nat => s.heap.size ≤ q) b9 := Nat.not_le.mpr hbl
  have hK := hE0.1
  have hbd := hIv.bd
  have hn := hIv.1
  have hb5 := hIv.2.1
  have dv0 := dv_ok hbd (r := 0) (by decide)
  have dvs := dv_ok hbd hbd.2.2.2.2.2.1
  obtain ⟨ad, y1, y2, N1, N2, nd, gv, ho, hN1, hN2, hW⟩ := hR
  subst ho
  obtain ⟨x, ex⟩ : ∃ x, x = xs (5 * k9 + 1) := ⟨_, rfl⟩
  refine lv_aload_n hx hb dL_law_738 rfl (lv_at hl 1 rfl) ?_
  refine lv_aload_n hx hb dL_law_739 rfl (lv_at hl 0 rfl) ?_
  refine lv_iload hx hb dL_law_740 (lv_at hl 4 rfl) ?_
  refine lv_iconst (v := 1) hx hb dL_law_742 (by decide) ?_
  refine lv_iadd hx hb dL_law_743 ?_
  rw [show nI (5 * k9) + 1 = nI (5 * k9 + 1) from nI_add _ _]
  refine va_sld hx hb hX hbl hbA hS (vp_in_nI (by omega) (by omega)) dL_law_744 ?_
  rw [nI_clamp (by omega), ← ex]
  refine lv_aload_n hx hb dL_law_745 rfl (lv_at hl 3 rfl) ?_
  refine vx_calli (vx_runSX (hh := [(0, 9, 12, 13), (0, 9, 15, 15)]) (As := [.ref (ad 0), .int x, .ref oo]) (rest := []) ⟨hx, hb, hml, hown, hts⟩ (c_L_takeCash l hst D cs (AC s.heap.size AM oo) z0 sa ad g L B n b y1 y2 N1 N2 nd gv hn hb5 hN1 hN2 oo (fun h => h.2.2 rfl) x) (vx_cwSW 3 hts gL_law_L_takeCash rfl rfl rfl (by decide +kernel) ⟨Nat.le_of_ble_eq_true rfl, Nat.le_of_ble_eq_true rfl⟩) ⟨pH_fb, fun U hU hV => ⟨rfl, ⟨hE0.law hS hsz hAM hoo hV hU, by rw [hU]; exact hW⟩, by rw [hU]; exact hO, hnc.1.moved hV.alike, hnc.2.1.moved hV.alike, hnc.2.2.moved hV.alike⟩⟩ rfl rfl hl.1 rfl (lv_room (Nat.le_of_ble_eq_true rfl)) dL_law_746 ⟨by show _ ≤ (601024 : Nat); omega, by show _ ≤ (7293034 : Nat); omega⟩) hS (fun q _ h => h.elim (fun z => z.1) (fun z => by rw [z]; exact hoo.1)) (fun q h => h.elim (fun z => z.1) (fun z => by rw [z]; exact hoo.1)) (fun _ _ h => h.elim) (fun E9 ce9 q9 u9 t9 H9 locs9 ht9 hvm9 hpx9 hbx9 hz9 hk9 hS9 hc9 hv9 hl9 => hpx9.elim) (fun r_9 u t9 H locs ht hvm hw hB hz1 hk1 hS => ?_)
  rw [ht] at hB
  have hsz := Nat.le_trans hsz hz1
  have hM := hM.keptA (A1 := fun q => (AC s.heap.size AM oo) q ∨ q = oo) (fun q hq z => z.elim (fun w => w.2.1 hq) (fun w => hoo.2.2 (by rw [← w]; exact hq))) hk1
  by_cases hk : kTake g x = 0
  ·
    obtain rfl : r_9 = 0 := hw.trans hk
    obtain ⟨hR1, f9, hf9, hO1⟩ := hB.1 hk
    refine lv_istore (lv' := [(5, .int 0), (0, .ref b9), (1, .ref (ad 0)), (2, .ref (adM 0)), (3, .ref oo), (4, .int (nI (5 * k9)))]) hx hb dL_law_749 hl (by decide) rfl (fun ls hl => ?_)
    refine lv_aload_n hx hb dL_law_751 rfl (lv_at hl 3 rfl) ?_
    refine lv_aload_n hx hb dL_law_752 rfl (lv_at hl 1 rfl) ?_
    refine lv_iload hx hb dL_law_753 (lv_at hl 5 rfl) ?_
    refine lv_iconst (v := 1) hx hb dL_law_755 (by decide) ?_
    refine lv_iadd hx hb dL_law_756 ?_
    rw [show nI (5 * k9) + 1 = nI (5 * k9 + 1) from nI_add _ _]
    refine va_sld hx hb hX hbl hbA hS (vp_in_nI (by omega) (by omega)) dL_law_757 ?_
    rw [nI_clamp (by omega), ← ex]
    refine va_calli (va_runV (As := [.int x]) (rest := []) ⟨hx, hb, hml, hown, hts⟩ (c_X4_takeCash l D cs AM adM g L B n b t hn hb5 x) (cwV 1 hts gL_law_X4_takeCash rfl rfl rfl (by decide +kernel) ⟨Nat.le_of_ble_eq_true rfl, Nat.le_of_ble_eq_true rfl⟩) ⟨pM_fb, wb_recv hK hM (r := 0) (Nat.le_of_ble_eq_true rfl) (ci := 5) rfl rfl, fun U hU hV => ⟨rfl, pM_of hK hV.alike hU hM⟩⟩ rfl rfl hl.1 rfl (lv_room (Nat.le_of_ble_eq_true rfl)) dL_law_758 ⟨by show _ ≤ (601024 : Nat); omega, by show _ ≤ (7293034 : Nat); omega⟩) hS (fun q _ h => (hAM q h).1) (fun q h => (hAM q h).1) (fun r_8 u8 t8 H locs ht8 hvm8 hw8 hB8 hz8 hk8 hS => ?_)
    rw [ht8] at hB8
    have hsz := Nat.le_trans hsz hz8
    have hR1 := hR1.keptA (A1 := AM) (fun q hq => hq.2.1) hk8
    have hO1 := hO1.keptA (A1 := AM) (fun q hq z => hoo.2.2 (by rw [← hq]; exact z)) hk8
    rw [hk] at hB8
    try simp only [sel_0] at hB8
    have hM : wP D AM lvM adM (ctM cs adM (upd g 1 (g 1 - x)) L B n b 0) H := hB8
    obtain rfl : r_8 = g 1 - x := by rw [hw8, hk]; rfl
    refine lv_istore (lv' := [(6, .int (g 1 - x)), (5, .int 0), (0, .ref b9), (1, .ref (ad 0)), (2, .ref (adM 0)), (3, .ref oo), (4, .int (nI (5 * k9)))]) hx hb dL_law_761 hl (by decide) rfl (fun ls hl => ?_)
    refine lv_aload_n hx hb dL_law_763 rfl (lv_at hl 4 rfl) ?_
    refine va_calli (va_runV (As := []) (rest := []) ⟨hx, hb, hml, hown, hts⟩ (c_X4_thrown l D cs AM adM (upd g 1 (g 1 - x)) L B n b 0 hn hb5) (cwV 0 hts gL_law_X4_thrown rfl rfl rfl (by decide +kernel) ⟨Nat.le_of_ble_eq_true rfl, Nat.le_of_ble_eq_true rfl⟩) ⟨pM_fb, wb_recv hK hM (r := 0) (Nat.le_of_ble_eq_true rfl) (ci := 5) rfl rfl, fun U hU hV => ⟨rfl, pM_of hK hV.alike hU hM⟩⟩ rfl rfl hl.1 rfl (lv_room (Nat.le_of_ble_eq_true rfl)) dL_law_764 ⟨by show _ ≤ (601024 : Nat); omega, by show _ ≤ (7293034 : Nat); omega⟩) hS (fun _ _ h => h.elim) (fun _ h => h.elim) (fun r_7 u7 t7 H locs ht7 hvm7 hw7 hB7 hz7 hk7 hS => ?_)
    have hsz := Nat.le_trans hsz hz7
    have hR1 := hR1.keptA (A1 := fun _ => False) (fun _ _ h => h) hk7
    have hM := hM.kept hk7
    have hO1 := hO1.keptA (A1 := fun _ => False) (fun _ _ h => h) hk7
    obtain rfl : r_7 = 0 := hw7
    refine lv_iload hx hb dL_law_767 (lv_at hl 1 rfl) ?_
    refine lv_icmp_eq (tgt := 774) hx hb dL_law_769 (by decide) (fun _ => ?_) (fun hno => absurd rfl hno)
    refine lv_iload hx hb dL_law_774 (lv_at hl 1 rfl) ?_
    refine lv_if_ne (tgt := 791) hx hb dL_law_776 (by decide) (fun hno => absurd rfl hno) (fun _ => ?_)
    refine lv_aload_n hx hb dL_law_779 rfl (lv_at hl 5 rfl) ?_
    refine lv_iconst (v := 0) hx hb dL_law_780 (by decide) ?_
    refine wb_lald hx hb hK hO1 0 rfl 4 rfl rfl rfl 0 nI_0.symm (by decide) (by decide) dL_law_781 ?_
    rw [hf9]
    refine lv_iload hx hb dL_law_782 (lv_at hl 0 rfl) ?_
    refine lv_i2l (v := (g 1 - x).toInt64) hx hb dL_law_784 rfl ?_
    refine W.lcmp hx hb dL_law_785 ?_
    refine lv_if_eq (tgt := 791) hx hb dL_law_786 (by decide) (fun _ => ?_) (fun hno => absurd ((lg0_eq _ _).mpr rfl) hno)
    refine lv_goto (tgt := 1205) hx hb dL_law_791 (by decide) ?_
    refine W.widen (k := 30 + 2 * (k9 + 1)) (n := 300 + 30 * (k9 + 1)) (by omega) (by omega) ?_
    exact KK _ _ _ (upd g 1 (g 1 - x)) L B n b ⟨hR1, ⟨_, hM⟩, ⟨f9, trivial, hO1⟩, hIv.take hk, (by rw [upd_ne (by decide)]; omega), hsz, hS, lv_sub hl [2, 3, 4, 5, 6] rfl⟩
  ·
    have hne9 : ¬ r_9 = 0 := fun z => hk (hw.symm.trans z)
    obtain ⟨hR1, hO2⟩ := hB.2 hk
    refine lv_istore (lv' := [(5, .int r_9), (0, .ref b9), (1, .ref (ad 0)), (2, .ref (adM 0)), (3, .ref oo), (4, .int (nI (5 * k9)))]) hx hb dL_law_749 hl (by decide) rfl (fun ls hl => ?_)
    refine lv_aload_n hx hb dL_law_751 rfl (lv_at hl 3 rfl) ?_
    refine lv_aload_n hx hb dL_law_752 rfl (lv_at hl 1 rfl) ?_
    refine lv_iload hx hb dL_law_753 (lv_at hl 5 rfl) ?_
    refine lv_iconst (v := 1) hx hb dL_law_755 (by decide) ?_
    refine lv_iadd hx hb dL_law_756 ?_
    rw [show nI (5 * k9) + 1 = nI (5 * k9 + 1) from nI_add _ _]
    refine va_sld hx hb hX hbl hbA hS (vp_in_nI (by omega) (by omega)) dL_law_757 ?_
    rw [nI_clamp (by omega), ← ex]
    refine va_calli (va_runV (As := [.int x]) (rest := []) ⟨hx, hb, hml, hown, hts⟩ (c_X4_takeCash l D cs AM adM g L B n b t hn hb5 x) (cwV 1 hts gL_law_X4_takeCash rfl rfl rfl (by decide +kernel) ⟨Nat.le_of_ble_eq_true rfl, Nat.le_of_ble_eq_true rfl⟩) ⟨pM_fb, wb_recv hK hM (r := 0) (Nat.le_of_ble_eq_true rfl) (ci := 5) rfl rfl, fun U hU hV => ⟨rfl, pM_of hK hV.alike hU hM⟩⟩ rfl rfl hl.1 rfl (lv_room (Nat.le_of_ble_eq_true rfl)) dL_law_758 ⟨by show _ ≤ (601024 : Nat); omega, by show _ ≤ (7293034 : Nat); omega⟩) hS (fun q _ h => (hAM q h).1) (fun q h => (hAM q h).1) (fun r_8 u8 t8 H locs ht8 hvm8 hw8 hB8 hz8 hk8 hS => ?_)
    rw [ht8] at hB8
    have hsz := Nat.le_trans hsz hz8
    have hR1 := hR1.keptA (A1 := AM) (fun q hq => hq.2.1) hk8
    have hO2 := hO2.keptA (A1 := AM) hoo.2.2 hk8
    try simp only [sel_n hk] at hB8
    have hM : wP D AM lvM adM (ctM cs adM g L B n b (kTake g x)) H := hB8
    refine lv_istore (lv' := [(6, .int r_8), (5, .int r_9), (0, .ref b9), (1, .ref (ad 0)), (2, .ref (adM 0)), (3, .ref oo), (4, .int (nI (5 * k9)))]) hx hb dL_law_761 hl (by decide) rfl (fun ls hl => ?_)
    refine lv_aload_n hx hb dL_law_763 rfl (lv_at hl 4 rfl) ?_
    refine va_calli (va_runV (As := []) (rest := []) ⟨hx, hb, hml, hown, hts⟩ (c_X4_thrown l D cs AM adM g L B n b (kTake g x) hn hb5) (cwV 0 hts gL_law_X4_thrown rfl rfl rfl (by decide +kernel) ⟨Nat.le_of_ble_eq_true rfl, Nat.le_of_ble_eq_true rfl⟩) ⟨pM_fb, wb_recv hK hM (r := 0) (Nat.le_of_ble_eq_true rfl) (ci := 5) rfl rfl, fun U hU hV => ⟨rfl, pM_of hK hV.alike hU hM⟩⟩ rfl rfl hl.1 rfl (lv_room (Nat.le_of_ble_eq_true rfl)) dL_law_764 ⟨by show _ ≤ (601024 : Nat); omega, by show _ ≤ (7293034 : Nat); omega⟩) hS (fun _ _ h => h.elim) (fun _ h => h.elim) (fun r_7 u7 t7 H locs ht7 hvm7 hw7 hB7 hz7 hk7 hS => ?_)
    have hsz := Nat.le_trans hsz hz7
    have hR1 := hR1.keptA (A1 := fun _ => False) (fun _ _ h => h) hk7
    have hM := hM.kept hk7
    have hO2 := hO2.keptA (A1 := fun _ => False) (fun h => h) hk7
    obtain rfl : r_7 = r_9 := hw7.trans hw.symm
    refine lv_iload hx hb dL_law_767 (lv_at hl 1 rfl) ?_
    refine lv_icmp_eq (tgt := 774) hx hb dL_law_769 (by decide) (fun _ => ?_) (fun hno => absurd rfl hno)
    refine lv_iload hx hb dL_law_774 (lv_at hl 1 rfl) ?_
    refine lv_if_ne (tgt := 791) hx hb dL_law_776 (by decide) (fun _ => ?_) (fun hno => absurd hno hne9)
    refine lv_goto (tgt := 1205) hx hb dL_law_791 (by decide) ?_
    refine W.widen (k := 30 + 2 * (k9 + 1)) (n := 300 + 30 * (k9 + 1)) (by omega) (by omega) ?_
    exact KK _ _ _ g L B n b ⟨hR1, ⟨_, hM⟩, hO2, hIv, (by omega), hsz, hS, lv_sub hl [2, 3, 4, 5, 6] rfl⟩

set_option maxHeartbeats 4000000 in
set_option maxRecDepth 100000 in
theorem law_setRules {p : Program} {l : Launch} {e : Env} {s : State} {m : MethodId} {below : List Frame} {meth : Method} {c : Code} {b9 L9 : Nat} {xs : Nat → Int32} {D : va_G} {cs : Nat → ClassId} {z0 : Nat} {sa : Nat → Nat} {AM : Nat → Prop} {adM : Nat → Nat} {o oo sz1 : Nat} (hst : l.stackTraces = false) (hL9 : L9 ≤ 2560) (C0 : lw_At p s m meth c b9 L9 xs) (hE0 : Ev D cs (fun q => s.heap.size ≤ q) z0 sa s) (hnc : va_Nc xS xA s ∧ va_Nc xS xI s ∧ va_Nc xA xI s) (hAM : ∀ q, AM q → s.heap.size ≤ q ∧ q < sz1) (hoo : s.heap.size ≤ oo ∧ oo < sz1 ∧ ¬ AM oo) {g : Nat → Int32} {L B : Nat → Nat → Int32} {n b k9 : Nat} {H : Heap} {locs : List Loc} {ls : Array Slot} (hk9 : 5 * k9 + 5 ≤ L9) (hI : LI D cs s AM adM z0 o oo sz1 b9 g L B n b k9 (5 * k9) H locs ls) (KK : ∀ (H1 : Heap) (locs1 : List Loc) (ls1 : Array Slot) (g : Nat → Int32) (L B : Nat → Nat → Int32) (n b : Nat), LI D cs s AM adM z0 o oo sz1 b9 g L B n b (k9 + 1) (5 * k9) H1 locs1 ls1 → W p l e room_1 s m #[Value.ref b9] below meth c H1 locs1 (30 + 2 * (k9 + 1)) (300 + 30 * (k9 + 1)) (lw_Z below #[Value.ref b9] s) (F0 m 1205 ls1 [])) : W p l e room_1 s m #[Value.ref b9] below meth c H locs (30 + 2 * k9) (300 + 30 * k9) (lw_Z below #[Value.ref b9] s) (F0 m 794 ls []) := by
  obtain ⟨hR, ⟨t, hM⟩, hO, hIv, hm9, hsz, hS, hl⟩ := hI
  obtain ⟨hx, hb0, hr, hml, hown0, hts0, hX, hbl, hlocks, hgv⟩ := C0
  have hb : c.code = cL_law := hb0
  have hown : s.vm.findClass RL = some m.cls := hown0
  have hts : ∀ w ∈ wsL_law, w.before #[Value.ref b9] s = true := fun w h => hts0 w (wsL_law_in w h)
  have hbA : ¬ (fun q : Nat => s.heap.size ≤ q) b9 := Nat.not_le.mpr hbl
  have hK := hE0.1
  have hbd := hIv.bd
  have hn := hIv.1
  have hb5 := hIv.2.1
  have dv0 := dv_ok hbd (r := 0) (by decide)
  have dvs := dv_ok hbd hbd.2.2.2.2.2.1
  obtain ⟨ad, y1, y2, N1, N2, nd, gv, ho, hN1, hN2, hW⟩ := hR
  subst ho
  obtain ⟨x, ex⟩ : ∃ x, x = xs (5 * k9 + 1) := ⟨_, rfl⟩
  obtain ⟨y, ey⟩ : ∃ y, y = xs (5 * k9 + 2) := ⟨_, rfl⟩
  obtain ⟨z, ez⟩ : ∃ z, z = xs (5 * k9 + 3) := ⟨_, rfl⟩
  refine lv_aload_n hx hb dL_law_794 rfl (lv_at hl 1 rfl) ?_
  refine lv_aload_n hx hb dL_law_795 rfl (lv_at hl 0 rfl) ?_
  refine lv_iload hx hb dL_law_796 (lv_at hl 4 rfl) ?_
  refine lv_iconst (v := 1) hx hb dL_law_798 (by decide) ?_
  refine lv_iadd hx hb dL_law_799 ?_
  rw [show nI (5 * k9) + 1 = nI (5 * k9 + 1) from nI_add _ _]
  refine va_sld hx hb hX hbl hbA hS (vp_in_nI (by omega) (by omega)) dL_law_800 ?_
  rw [nI_clamp (by omega), ← ex]
  refine lv_aload_n hx hb dL_law_801 rfl (lv_at hl 0 rfl) ?_
  refine lv_iload hx hb dL_law_802 (lv_at hl 4 rfl) ?_
  refine lv_iconst (v := 2) hx hb dL_law_804 (by decide) ?_
  refine lv_iadd hx hb dL_law_805 ?_
  rw [show nI (5 * k9) + 2 = nI (5 * k9 + 2) from nI_add _ _]
  refine va_sld hx hb hX hbl hbA hS (vp_in_nI (by omega) (by omega)) dL_law_806 ?_
  rw [nI_clamp (by omega), ← ey]
  refine lv_aload_n hx hb dL_law_807 rfl (lv_at hl 0 rfl) ?_
  refine lv_iload hx hb dL_law_808 (lv_at hl 4 rfl) ?_
  refine lv_iconst (v := 3) hx hb dL_law_810 (by decide) ?_
  refine lv_iadd hx hb dL_law_811 ?_
  rw [show nI (5 * k9) + 3 = nI (5 * k9 + 3) from nI_add _ _]
  refine va_sld hx hb hX hbl hbA hS (vp_in_nI (by omega) (by omega)) dL_law_812 ?_
  rw [nI_clamp (by omega), ← ez]
  refine vx_calli (vx_runSX (hh := [(0, 7, 10, 13)]) (As := [.ref (ad 0), .int x, .int y, .int z]) (rest := []) ⟨hx, hb, hml, hown, hts⟩ (c_L_setRules l hst D cs (AC s.heap.size AM oo) z0 sa ad g L B n b y1 y2 N1 N2 nd gv hn hb5 hN1 hN2 oo (fun h => h.2.2 rfl) x y z) (vx_cwSW 4 hts gL_law_L_setRules rfl rfl rfl (by decide +kernel) ⟨Nat.le_of_ble_eq_true rfl, Nat.le_of_ble_eq_true rfl⟩) ⟨pH_fb, fun U hU hV => ⟨rfl, ⟨hE0.law hS hsz hAM hoo hV hU, by rw [hU]; exact hW⟩, by rw [hU]; exact hO, hnc.1.moved hV.alike, hnc.2.1.moved hV.alike, hnc.2.2.moved hV.alike⟩⟩ rfl rfl hl.1 rfl (lv_room (Nat.le_of_ble_eq_true rfl)) dL_law_813 ⟨by show _ ≤ (601024 : Nat); omega, by show _ ≤ (7293034 : Nat); omega⟩) hS (fun q _ h => h.elim (fun z => z.1) (fun z => by rw [z]; exact hoo.1)) (fun q h => h.elim (fun z => z.1) (fun z => by rw [z]; exact hoo.1)) (fun _ _ h => h.elim) (fun E9 ce9 q9 u9 t9 H9 locs9 ht9 hvm9 hpx9 hbx9 hz9 hk9 hS9 hc9 hv9 hl9 => hpx9.elim) (fun r_9 u t9 H locs ht hvm hw hB hz1 hk1 hS => ?_)
  rw [ht] at hB
  have hsz := Nat.le_trans hsz hz1
  have hM := hM.keptA (A1 := fun q => (AC s.heap.size AM oo) q ∨ q = oo) (fun q hq z => z.elim (fun w => w.2.1 hq) (fun w => hoo.2.2 (by rw [← w]; exact hq))) hk1
  by_cases hk : kRules x y z = 0
  ·
    obtain rfl : r_9 = 0 := hw.trans hk
    obtain ⟨hR1, hO2⟩ := hB.1 hk
    refine lv_istore (lv' := [(5, .int 0), (0, .ref b9), (1, .ref (ad 0)), (2, .ref (adM 0)), (3, .ref oo), (4, .int (nI (5 * k9)))]) hx hb dL_law_816 hl (by decide) rfl (fun ls hl => ?_)
    refine lv_aload_n hx hb dL_law_818 rfl (lv_at hl 3 rfl) ?_
    refine lv_aload_n hx hb dL_law_819 rfl (lv_at hl 1 rfl) ?_
    refine lv_iload hx hb dL_law_820 (lv_at hl 5 rfl) ?_
    refine lv_iconst (v := 1) hx hb dL_law_822 (by decide) ?_
    refine lv_iadd hx hb dL_law_823 ?_
    rw [show nI (5 * k9) + 1 = nI (5 * k9 + 1) from nI_add _ _]
    refine va_sld hx hb hX hbl hbA hS (vp_in_nI (by omega) (by omega)) dL_law_824 ?_
    rw [nI_clamp (by omega), ← ex]
    refine lv_aload_n hx hb dL_law_825 rfl (lv_at hl 1 rfl) ?_
    refine lv_iload hx hb dL_law_826 (lv_at hl 5 rfl) ?_
    refine lv_iconst (v := 2) hx hb dL_law_828 (by decide) ?_
    refine lv_iadd hx hb dL_law_829 ?_
    rw [show nI (5 * k9) + 2 = nI (5 * k9 + 2) from nI_add _ _]
    refine va_sld hx hb hX hbl hbA hS (vp_in_nI (by omega) (by omega)) dL_law_830 ?_
    rw [nI_clamp (by omega), ← ey]
    refine lv_aload_n hx hb dL_law_831 rfl (lv_at hl 1 rfl) ?_
    refine lv_iload hx hb dL_law_832 (lv_at hl 5 rfl) ?_
    refine lv_iconst (v := 3) hx hb dL_law_834 (by decide) ?_
    refine lv_iadd hx hb dL_law_835 ?_
    rw [show nI (5 * k9) + 3 = nI (5 * k9 + 3) from nI_add _ _]
    refine va_sld hx hb hX hbl hbA hS (vp_in_nI (by omega) (by omega)) dL_law_836 ?_
    rw [nI_clamp (by omega), ← ez]
    refine va_callv (va_runV (As := [.int x, .int y, .int z]) (rest := []) ⟨hx, hb, hml, hown, hts⟩ (c_X4_setRules l D cs AM adM g L B n b t hn hb5 x y z) (cwV 3 hts gL_law_X4_setRules rfl rfl rfl (by decide +kernel) ⟨Nat.le_of_ble_eq_true rfl, Nat.le_of_ble_eq_true rfl⟩) ⟨pM_fb, wb_recv hK hM (r := 0) (Nat.le_of_ble_eq_true rfl) (ci := 5) rfl rfl, fun U hU hV => ⟨rfl, pM_of hK hV.alike hU hM⟩⟩ rfl rfl hl.1 rfl (lv_room (Nat.le_of_ble_eq_true rfl)) dL_law_837 ⟨by show _ ≤ (601024 : Nat); omega, by show _ ≤ (7293034 : Nat); omega⟩) hS (fun q _ h => (hAM q h).1) (fun q h => (hAM q h).1) (fun u8 t8 H locs ht8 hvm8 hw8 hB8 hz8 hk8 hS => ?_)
    rw [ht8] at hB8
    have hsz := Nat.le_trans hsz hz8
    have hR1 := hR1.keptA (A1 := AM) (fun q hq => hq.2.1) hk8
    have hO2 := hO2.keptA (A1 := AM) hoo.2.2 hk8
    rw [hk] at hB8
    try simp only [sel_0] at hB8
    have hM : wP D AM lvM adM (ctM cs adM (rulesG g x y z) L B n b 0) H := hB8
    refine lv_aload_n hx hb dL_law_840 rfl (lv_at hl 3 rfl) ?_
    refine va_calli (va_runV (As := []) (rest := []) ⟨hx, hb, hml, hown, hts⟩ (c_X4_thrown l D cs AM adM (rulesG g x y z) L B n b 0 hn hb5) (cwV 0 hts gL_law_X4_thrown rfl rfl rfl (by decide +kernel) ⟨Nat.le_of_ble_eq_true rfl, Nat.le_of_ble_eq_true rfl⟩) ⟨pM_fb, wb_recv hK hM (r := 0) (Nat.le_of_ble_eq_true rfl) (ci := 5) rfl rfl, fun U hU hV => ⟨rfl, pM_of hK hV.alike hU hM⟩⟩ rfl rfl hl.1 rfl (lv_room (Nat.le_of_ble_eq_true rfl)) dL_law_841 ⟨by show _ ≤ (601024 : Nat); omega, by show _ ≤ (7293034 : Nat); omega⟩) hS (fun _ _ h => h.elim) (fun _ h => h.elim) (fun r_7 u7 t7 H locs ht7 hvm7 hw7 hB7 hz7 hk7 hS => ?_)
    have hsz := Nat.le_trans hsz hz7
    have hR1 := hR1.keptA (A1 := fun _ => False) (fun _ _ h => h) hk7
    have hM := hM.kept hk7
    have hO2 := hO2.keptA (A1 := fun _ => False) (fun h => h) hk7
    obtain rfl : r_7 = 0 := hw7
    refine lv_iload hx hb dL_law_844 (lv_at hl 0 rfl) ?_
    refine lv_icmp_eq (tgt := 851) hx hb dL_law_846 (by decide) (fun _ => ?_) (fun hno => absurd rfl hno)
    refine lv_goto (tgt := 1205) hx hb dL_law_851 (by decide) ?_
    refine W.widen (k := 30 + 2 * (k9 + 1)) (n := 300 + 30 * (k9 + 1)) (by omega) (by omega) ?_
    exact KK _ _ _ (rulesG g x y z) L B n b ⟨hR1, ⟨_, hM⟩, hO2, hIv.rules hk, (by unfold rulesG; rw [upd_ne (by decide), upd_ne (by decide), upd_ne (by decide)]; omega), hsz, hS, lv_sub hl [1, 2, 3, 4, 5] rfl⟩
  ·
    have hne9 : ¬ r_9 = 0 := fun z => hk (hw.symm.trans z)
    obtain ⟨hR1, hO2⟩ := hB.2 hk
    refine lv_istore (lv' := [(5, .int r_9), (0, .ref b9), (1, .ref (ad 0)), (2, .ref (adM 0)), (3, .ref oo), (4, .int (nI (5 * k9)))]) hx hb dL_law_816 hl (by decide) rfl (fun ls hl => ?_)
    refine lv_aload_n hx hb dL_law_818 rfl (lv_at hl 3 rfl) ?_
    refine lv_aload_n hx hb dL_law_819 rfl (lv_at hl 1 rfl) ?_
    refine lv_iload hx hb dL_law_820 (lv_at hl 5 rfl) ?_
    refine lv_iconst (v := 1) hx hb dL_law_822 (by decide) ?_
    refine lv_iadd hx hb dL_law_823 ?_
    rw [show nI (5 * k9) + 1 = nI (5 * k9 + 1) from nI_add _ _]
    refine va_sld hx hb hX hbl hbA hS (vp_in_nI (by omega) (by omega)) dL_law_824 ?_
    rw [nI_clamp (by omega), ← ex]
    refine lv_aload_n hx hb dL_law_825 rfl (lv_at hl 1 rfl) ?_
    refine lv_iload hx hb dL_law_826 (lv_at hl 5 rfl) ?_
    refine lv_iconst (v := 2) hx hb dL_law_828 (by decide) ?_
    refine lv_iadd hx hb dL_law_829 ?_
    rw [show nI (5 * k9) + 2 = nI (5 * k9 + 2) from nI_add _ _]
    refine va_sld hx hb hX hbl hbA hS (vp_in_nI (by omega) (by omega)) dL_law_830 ?_
    rw [nI_clamp (by omega), ← ey]
    refine lv_aload_n hx hb dL_law_831 rfl (lv_at hl 1 rfl) ?_
    refine lv_iload hx hb dL_law_832 (lv_at hl 5 rfl) ?_
    refine lv_iconst (v := 3) hx hb dL_law_834 (by decide) ?_
    refine lv_iadd hx hb dL_law_835 ?_
    rw [show nI (5 * k9) + 3 = nI (5 * k9 + 3) from nI_add _ _]
    refine va_sld hx hb hX hbl hbA hS (vp_in_nI (by omega) (by omega)) dL_law_836 ?_
    rw [nI_clamp (by omega), ← ez]
    refine va_callv (va_runV (As := [.int x, .int y, .int z]) (rest := []) ⟨hx, hb, hml, hown, hts⟩ (c_X4_setRules l D cs AM adM g L B n b t hn hb5 x y z) (cwV 3 hts gL_law_X4_setRules rfl rfl rfl (by decide +kernel) ⟨Nat.le_of_ble_eq_true rfl, Nat.le_of_ble_eq_true rfl⟩) ⟨pM_fb, wb_recv hK hM (r := 0) (Nat.le_of_ble_eq_true rfl) (ci := 5) rfl rfl, fun U hU hV => ⟨rfl, pM_of hK hV.alike hU hM⟩⟩ rfl rfl hl.1 rfl (lv_room (Nat.le_of_ble_eq_true rfl)) dL_law_837 ⟨by show _ ≤ (601024 : Nat); omega, by show _ ≤ (7293034 : Nat); omega⟩) hS (fun q _ h => (hAM q h).1) (fun q h => (hAM q h).1) (fun u8 t8 H locs ht8 hvm8 hw8 hB8 hz8 hk8 hS => ?_)
    rw [ht8] at hB8
    have hsz := Nat.le_trans hsz hz8
    have hR1 := hR1.keptA (A1 := AM) (fun q hq => hq.2.1) hk8
    have hO2 := hO2.keptA (A1 := AM) hoo.2.2 hk8
    try simp only [sel_n hk] at hB8
    have hM : wP D AM lvM adM (ctM cs adM g L B n b (kRules x y z)) H := hB8
    refine lv_aload_n hx hb dL_law_840 rfl (lv_at hl 3 rfl) ?_
    refine va_calli (va_runV (As := []) (rest := []) ⟨hx, hb, hml, hown, hts⟩ (c_X4_thrown l D cs AM adM g L B n b (kRules x y z) hn hb5) (cwV 0 hts gL_law_X4_thrown rfl rfl rfl (by decide +kernel) ⟨Nat.le_of_ble_eq_true rfl, Nat.le_of_ble_eq_true rfl⟩) ⟨pM_fb, wb_recv hK hM (r := 0) (Nat.le_of_ble_eq_true rfl) (ci := 5) rfl rfl, fun U hU hV => ⟨rfl, pM_of hK hV.alike hU hM⟩⟩ rfl rfl hl.1 rfl (lv_room (Nat.le_of_ble_eq_true rfl)) dL_law_841 ⟨by show _ ≤ (601024 : Nat); omega, by show _ ≤ (7293034 : Nat); omega⟩) hS (fun _ _ h => h.elim) (fun _ h => h.elim) (fun r_7 u7 t7 H locs ht7 hvm7 hw7 hB7 hz7 hk7 hS => ?_)
    have hsz := Nat.le_trans hsz hz7
    have hR1 := hR1.keptA (A1 := fun _ => False) (fun _ _ h => h) hk7
    have hM := hM.kept hk7
    have hO2 := hO2.keptA (A1 := fun _ => False) (fun h => h) hk7
    obtain rfl : r_7 = r_9 := hw7.trans hw.symm
    refine lv_iload hx hb dL_law_844 (lv_at hl 0 rfl) ?_
    refine lv_icmp_eq (tgt := 851) hx hb dL_law_846 (by decide) (fun _ => ?_) (fun hno => absurd rfl hno)
    refine lv_goto (tgt := 1205) hx hb dL_law_851 (by decide) ?_
    refine W.widen (k := 30 + 2 * (k9 + 1)) (n := 300 + 30 * (k9 + 1)) (by omega) (by omega) ?_
    exact KK _ _ _ g L B n b ⟨hR1, ⟨_, hM⟩, hO2, hIv, (by omega), hsz, hS, lv_sub hl [1, 2, 3, 4, 5] rfl⟩

set_option maxHeartbeats 4000000 in
set_option maxRecDepth 100000 in
theorem law_bondState {p : Program} {l : Launch} {e : Env} {s : State} {m : MethodId} {below : List Frame} {meth : Method} {c : Code} {b9 L9 : Nat} {xs : Nat → Int32} {D : va_G} {cs : Nat → ClassId} {z0 : Nat} {sa : Nat → Nat} {AM : Nat → Prop} {adM : Nat → Nat} {o oo sz1 : Nat} (hst : l.stackTraces = false) (hL9 : L9 ≤ 2560) (C0 : lw_At p s m meth c b9 L9 xs) (hE0 : Ev D cs (fun q => s.heap.size ≤ q) z0 sa s) (hnc : va_Nc xS xA s ∧ va_Nc xS xI s ∧ va_Nc xA xI s) (hAM : ∀ q, AM q → s.heap.size ≤ q ∧ q < sz1) (hoo : s.heap.size ≤ oo ∧ oo < sz1 ∧ ¬ AM oo) {g : Nat → Int32} {L B : Nat → Nat → Int32} {n b k9 : Nat} {H : Heap} {locs : List Loc} {ls : Array Slot} (hk9 : 5 * k9 + 5 ≤ L9) (hI : LI D cs s AM adM z0 o oo sz1 b9 g L B n b k9 (5 * k9) H locs ls) (KK : ∀ (H1 : Heap) (locs1 : List Loc) (ls1 : Array Slot) (g : Nat → Int32) (L B : Nat → Nat → Int32) (n b : Nat), LI D cs s AM adM z0 o oo sz1 b9 g L B n b (k9 + 1) (5 * k9) H1 locs1 ls1 → W p l e room_1 s m #[Value.ref b9] below meth c H1 locs1 (30 + 2 * (k9 + 1)) (300 + 30 * (k9 + 1)) (lw_Z below #[Value.ref b9] s) (F0 m 1205 ls1 [])) : W p l e room_1 s m #[Value.ref b9] below meth c H locs (30 + 2 * k9) (300 + 30 * k9) (lw_Z below #[Value.ref b9] s) (F0 m 854 ls []) := by
  obtain ⟨hR, ⟨t, hM⟩, hO, hIv, hm9, hsz, hS, hl⟩ := hI
  obtain ⟨hx, hb0, hr, hml, hown0, hts0, hX, hbl, hlocks, hgv⟩ := C0
  have hb : c.code = cL_law := hb0
  have hown : s.vm.findClass RL = some m.cls := hown0
  have hts : ∀ w ∈ wsL_law, w.before #[Value.ref b9] s = true := fun w h => hts0 w (wsL_law_in w h)
  have hbA : ¬ (fun q : Nat => s.heap.size ≤ q) b9 := Nat.not_le.mpr hbl
  have hK := hE0.1
  have hbd := hIv.bd
  have hn := hIv.1
  have hb5 := hIv.2.1
  have dv0 := dv_ok hbd (r := 0) (by decide)
  have dvs := dv_ok hbd hbd.2.2.2.2.2.1
  obtain ⟨ad, y1, y2, N1, N2, nd, gv, ho, hN1, hN2, hW⟩ := hR
  subst ho
  obtain ⟨x, ex⟩ : ∃ x, x = xs (5 * k9 + 1) := ⟨_, rfl⟩
  refine lv_aload_n hx hb dL_law_854 rfl (lv_at hl 1 rfl) ?_
  refine lv_aload_n hx hb dL_law_855 rfl (lv_at hl 0 rfl) ?_
  refine lv_iload hx hb dL_law_856 (lv_at hl 4 rfl) ?_
  refine lv_iconst (v := 1) hx hb dL_law_858 (by decide) ?_
  refine lv_iadd hx hb dL_law_859 ?_
  rw [show nI (5 * k9) + 1 = nI (5 * k9 + 1) from nI_add _ _]
  refine va_sld hx hb hX hbl hbA hS (vp_in_nI (by omega) (by omega)) dL_law_860 ?_
  rw [nI_clamp (by omega), ← ex]
  refine lv_aload_n hx hb dL_law_861 rfl (lv_at hl 3 rfl) ?_
  refine vx_calli (vx_runSX (hh := [(0, 9, 12, 21)]) (As := [.ref (ad 0), .int x, .ref oo]) (rest := []) ⟨hx, hb, hml, hown, hts⟩ (c_L_bondState l hst D cs (AC s.heap.size AM oo) z0 sa ad g L B n b y1 y2 N1 N2 nd gv hn hb5 hN1 hN2 oo (fun h => h.2.2 rfl) x) (vx_cwSW 3 hts gL_law_L_bondState rfl rfl rfl (by decide +kernel) ⟨Nat.le_of_ble_eq_true rfl, Nat.le_of_ble_eq_true rfl⟩) ⟨pH_fb, fun U hU hV => ⟨rfl, ⟨hE0.law hS hsz hAM hoo hV hU, by rw [hU]; exact hW⟩, by rw [hU]; exact hO, hnc.1.moved hV.alike, hnc.2.1.moved hV.alike, hnc.2.2.moved hV.alike⟩⟩ rfl rfl hl.1 rfl (lv_room (Nat.le_of_ble_eq_true rfl)) dL_law_862 ⟨by show _ ≤ (601024 : Nat); omega, by show _ ≤ (7293034 : Nat); omega⟩) hS (fun q _ h => h.elim (fun z => z.1) (fun z => by rw [z]; exact hoo.1)) (fun q h => h.elim (fun z => z.1) (fun z => by rw [z]; exact hoo.1)) (fun _ _ h => h.elim) (fun E9 ce9 q9 u9 t9 H9 locs9 ht9 hvm9 hpx9 hbx9 hz9 hk9 hS9 hc9 hv9 hl9 => hpx9.elim) (fun r_9 u t9 H locs ht hvm hw hB hz1 hk1 hS => ?_)
  rw [ht] at hB
  have hsz := Nat.le_trans hsz hz1
  have hM := hM.keptA (A1 := fun q => (AC s.heap.size AM oo) q ∨ q = oo) (fun q hq z => z.elim (fun w => w.2.1 hq) (fun w => hoo.2.2 (by rw [← w]; exact hq))) hk1
  by_cases hk : kIx b x = 0
  ·
    obtain rfl : r_9 = 0 := hw.trans hk
    obtain ⟨hR1, f9, hf9, hO1⟩ := hB.1 hk
    refine lv_istore (lv' := [(5, .int 0), (0, .ref b9), (1, .ref (ad 0)), (2, .ref (adM 0)), (3, .ref oo), (4, .int (nI (5 * k9)))]) hx hb dL_law_865 hl (by decide) rfl (fun ls hl => ?_)
    refine lv_aload_n hx hb dL_law_867 rfl (lv_at hl 3 rfl) ?_
    refine lv_aload_n hx hb dL_law_868 rfl (lv_at hl 1 rfl) ?_
    refine lv_iload hx hb dL_law_869 (lv_at hl 5 rfl) ?_
    refine lv_iconst (v := 1) hx hb dL_law_871 (by decide) ?_
    refine lv_iadd hx hb dL_law_872 ?_
    rw [show nI (5 * k9) + 1 = nI (5 * k9 + 1) from nI_add _ _]
    refine va_sld hx hb hX hbl hbA hS (vp_in_nI (by omega) (by omega)) dL_law_873 ?_
    rw [nI_clamp (by omega), ← ex]
    refine va_calli (va_runV (As := [.int x]) (rest := []) ⟨hx, hb, hml, hown, hts⟩ (c_X4_bondState l D cs AM adM g L B n b t hn hb5 x) (cwV 1 hts gL_law_X4_bondState rfl rfl rfl (by decide +kernel) ⟨Nat.le_of_ble_eq_true rfl, Nat.le_of_ble_eq_true rfl⟩) ⟨pM_fb, wb_recv hK hM (r := 0) (Nat.le_of_ble_eq_true rfl) (ci := 5) rfl rfl, fun U hU hV => ⟨rfl, pM_of hK hV.alike hU hM⟩⟩ rfl rfl hl.1 rfl (lv_room (Nat.le_of_ble_eq_true rfl)) dL_law_874 ⟨by show _ ≤ (601024 : Nat); omega, by show _ ≤ (7293034 : Nat); omega⟩) hS (fun q _ h => (hAM q h).1) (fun q h => (hAM q h).1) (fun r_8 u8 t8 H locs ht8 hvm8 hw8 hB8 hz8 hk8 hS => ?_)
    rw [ht8] at hB8
    have hsz := Nat.le_trans hsz hz8
    have hR1 := hR1.keptA (A1 := AM) (fun q hq => hq.2.1) hk8
    have hO1 := hO1.keptA (A1 := AM) (fun q hq z => hoo.2.2 (by rw [← hq]; exact z)) hk8
    rw [hk] at hB8
    try simp only [sel_0] at hB8
    have hM : wP D AM lvM adM (ctM cs adM g L B n b 0) H := hB8
    obtain rfl : r_8 = B 2 (ixN x) := by rw [hw8, hk]; rfl
    refine lv_istore (lv' := [(6, .int (B 2 (ixN x))), (5, .int 0), (0, .ref b9), (1, .ref (ad 0)), (2, .ref (adM 0)), (3, .ref oo), (4, .int (nI (5 * k9)))]) hx hb dL_law_877 hl (by decide) rfl (fun ls hl => ?_)
    refine lv_aload_n hx hb dL_law_879 rfl (lv_at hl 4 rfl) ?_
    refine va_calli (va_runV (As := []) (rest := []) ⟨hx, hb, hml, hown, hts⟩ (c_X4_thrown l D cs AM adM g L B n b 0 hn hb5) (cwV 0 hts gL_law_X4_thrown rfl rfl rfl (by decide +kernel) ⟨Nat.le_of_ble_eq_true rfl, Nat.le_of_ble_eq_true rfl⟩) ⟨pM_fb, wb_recv hK hM (r := 0) (Nat.le_of_ble_eq_true rfl) (ci := 5) rfl rfl, fun U hU hV => ⟨rfl, pM_of hK hV.alike hU hM⟩⟩ rfl rfl hl.1 rfl (lv_room (Nat.le_of_ble_eq_true rfl)) dL_law_880 ⟨by show _ ≤ (601024 : Nat); omega, by show _ ≤ (7293034 : Nat); omega⟩) hS (fun _ _ h => h.elim) (fun _ h => h.elim) (fun r_7 u7 t7 H locs ht7 hvm7 hw7 hB7 hz7 hk7 hS => ?_)
    have hsz := Nat.le_trans hsz hz7
    have hR1 := hR1.keptA (A1 := fun _ => False) (fun _ _ h => h) hk7
    have hM := hM.kept hk7
    have hO1 := hO1.keptA (A1 := fun _ => False) (fun _ _ h => h) hk7
    obtain rfl : r_7 = 0 := hw7
    refine lv_iload hx hb dL_law_883 (lv_at hl 1 rfl) ?_
    refine lv_icmp_eq (tgt := 890) hx hb dL_law_885 (by decide) (fun _ => ?_) (fun hno => absurd rfl hno)
    refine lv_iload hx hb dL_law_890 (lv_at hl 1 rfl) ?_
    refine lv_if_ne (tgt := 907) hx hb dL_law_892 (by decide) (fun hno => absurd rfl hno) (fun _ => ?_)
    refine lv_aload_n hx hb dL_law_895 rfl (lv_at hl 5 rfl) ?_
    refine lv_iconst (v := 0) hx hb dL_law_896 (by decide) ?_
    refine wb_lald hx hb hK hO1 0 rfl 4 rfl rfl rfl 0 nI_0.symm (by decide) (by decide) dL_law_897 ?_
    rw [hf9]
    refine lv_iload hx hb dL_law_898 (lv_at hl 0 rfl) ?_
    refine lv_i2l (v := (B 2 (ixN x)).toInt64) hx hb dL_law_900 rfl ?_
    refine W.lcmp hx hb dL_law_901 ?_
    refine lv_if_eq (tgt := 907) hx hb dL_law_902 (by decide) (fun _ => ?_) (fun hno => absurd ((lg0_eq _ _).mpr rfl) hno)
    refine lv_goto (tgt := 1205) hx hb dL_law_907 (by decide) ?_
    refine W.widen (k := 30 + 2 * (k9 + 1)) (n := 300 + 30 * (k9 + 1)) (by omega) (by omega) ?_
    exact KK _ _ _ g L B n b ⟨hR1, ⟨_, hM⟩, ⟨f9, trivial, hO1⟩, hIv, (by omega), hsz, hS, lv_sub hl [2, 3, 4, 5, 6] rfl⟩
  ·
    have hne9 : ¬ r_9 = 0 := fun z => hk (hw.symm.trans z)
    obtain ⟨hR1, hO2⟩ := hB.2 hk
    refine lv_istore (lv' := [(5, .int r_9), (0, .ref b9), (1, .ref (ad 0)), (2, .ref (adM 0)), (3, .ref oo), (4, .int (nI (5 * k9)))]) hx hb dL_law_865 hl (by decide) rfl (fun ls hl => ?_)
    refine lv_aload_n hx hb dL_law_867 rfl (lv_at hl 3 rfl) ?_
    refine lv_aload_n hx hb dL_law_868 rfl (lv_at hl 1 rfl) ?_
    refine lv_iload hx hb dL_law_869 (lv_at hl 5 rfl) ?_
    refine lv_iconst (v := 1) hx hb dL_law_871 (by decide) ?_
    refine lv_iadd hx hb dL_law_872 ?_
    rw [show nI (5 * k9) + 1 = nI (5 * k9 + 1) from nI_add _ _]
    refine va_sld hx hb hX hbl hbA hS (vp_in_nI (by omega) (by omega)) dL_law_873 ?_
    rw [nI_clamp (by omega), ← ex]
    refine va_calli (va_runV (As := [.int x]) (rest := []) ⟨hx, hb, hml, hown, hts⟩ (c_X4_bondState l D cs AM adM g L B n b t hn hb5 x) (cwV 1 hts gL_law_X4_bondState rfl rfl rfl (by decide +kernel) ⟨Nat.le_of_ble_eq_true rfl, Nat.le_of_ble_eq_true rfl⟩) ⟨pM_fb, wb_recv hK hM (r := 0) (Nat.le_of_ble_eq_true rfl) (ci := 5) rfl rfl, fun U hU hV => ⟨rfl, pM_of hK hV.alike hU hM⟩⟩ rfl rfl hl.1 rfl (lv_room (Nat.le_of_ble_eq_true rfl)) dL_law_874 ⟨by show _ ≤ (601024 : Nat); omega, by show _ ≤ (7293034 : Nat); omega⟩) hS (fun q _ h => (hAM q h).1) (fun q h => (hAM q h).1) (fun r_8 u8 t8 H locs ht8 hvm8 hw8 hB8 hz8 hk8 hS => ?_)
    rw [ht8] at hB8
    have hsz := Nat.le_trans hsz hz8
    have hR1 := hR1.keptA (A1 := AM) (fun q hq => hq.2.1) hk8
    have hO2 := hO2.keptA (A1 := AM) hoo.2.2 hk8
    try simp only [sel_n hk] at hB8
    have hM : wP D AM lvM adM (ctM cs adM g L B n b (kIx b x)) H := hB8
    refine lv_istore (lv' := [(6, .int r_8), (5, .int r_9), (0, .ref b9), (1, .ref (ad 0)), (2, .ref (adM 0)), (3, .ref oo), (4, .int (nI (5 * k9)))]) hx hb dL_law_877 hl (by decide) rfl (fun ls hl => ?_)
    refine lv_aload_n hx hb dL_law_879 rfl (lv_at hl 4 rfl) ?_
    refine va_calli (va_runV (As := []) (rest := []) ⟨hx, hb, hml, hown, hts⟩ (c_X4_thrown l D cs AM adM g L B n b (kIx b x) hn hb5) (cwV 0 hts gL_law_X4_thrown rfl rfl rfl (by decide +kernel) ⟨Nat.le_of_ble_eq_true rfl, Nat.le_of_ble_eq_true rfl⟩) ⟨pM_fb, wb_recv hK hM (r := 0) (Nat.le_of_ble_eq_true rfl) (ci := 5) rfl rfl, fun U hU hV => ⟨rfl, pM_of hK hV.alike hU hM⟩⟩ rfl rfl hl.1 rfl (lv_room (Nat.le_of_ble_eq_true rfl)) dL_law_880 ⟨by show _ ≤ (601024 : Nat); omega, by show _ ≤ (7293034 : Nat); omega⟩) hS (fun _ _ h => h.elim) (fun _ h => h.elim) (fun r_7 u7 t7 H locs ht7 hvm7 hw7 hB7 hz7 hk7 hS => ?_)
    have hsz := Nat.le_trans hsz hz7
    have hR1 := hR1.keptA (A1 := fun _ => False) (fun _ _ h => h) hk7
    have hM := hM.kept hk7
    have hO2 := hO2.keptA (A1 := fun _ => False) (fun h => h) hk7
    obtain rfl : r_7 = r_9 := hw7.trans hw.symm
    refine lv_iload hx hb dL_law_883 (lv_at hl 1 rfl) ?_
    refine lv_icmp_eq (tgt := 890) hx hb dL_law_885 (by decide) (fun _ => ?_) (fun hno => absurd rfl hno)
    refine lv_iload hx hb dL_law_890 (lv_at hl 1 rfl) ?_
    refine lv_if_ne (tgt := 907) hx hb dL_law_892 (by decide) (fun _ => ?_) (fun hno => absurd hno hne9)
    refine lv_goto (tgt := 1205) hx hb dL_law_907 (by decide) ?_
    refine W.widen (k := 30 + 2 * (k9 + 1)) (n := 300 + 30 * (k9 + 1)) (by omega) (by omega) ?_
    exact KK _ _ _ g L B n b ⟨hR1, ⟨_, hM⟩, hO2, hIv, (by omega), hsz, hS, lv_sub hl [2, 3, 4, 5, 6] rfl⟩

set_option maxHeartbeats 4000000 in
set_option maxRecDepth 100000 in
theorem law_dueOf {p : Program} {l : Launch} {e : Env} {s : State} {m : MethodId} {below : List Frame} {meth : Method} {c : Code} {b9 L9 : Nat} {xs : Nat → Int32} {D : va_G} {cs : Nat → ClassId} {z0 : Nat} {sa : Nat → Nat} {AM : Nat → Prop} {adM : Nat → Nat} {o oo sz1 : Nat} (hst : l.stackTraces = false) (hL9 : L9 ≤ 2560) (C0 : lw_At p s m meth c b9 L9 xs) (hE0 : Ev D cs (fun q => s.heap.size ≤ q) z0 sa s) (hnc : va_Nc xS xA s ∧ va_Nc xS xI s ∧ va_Nc xA xI s) (hAM : ∀ q, AM q → s.heap.size ≤ q ∧ q < sz1) (hoo : s.heap.size ≤ oo ∧ oo < sz1 ∧ ¬ AM oo) {g : Nat → Int32} {L B : Nat → Nat → Int32} {n b k9 : Nat} {H : Heap} {locs : List Loc} {ls : Array Slot} (hk9 : 5 * k9 + 5 ≤ L9) (hI : LI D cs s AM adM z0 o oo sz1 b9 g L B n b k9 (5 * k9) H locs ls) (KK : ∀ (H1 : Heap) (locs1 : List Loc) (ls1 : Array Slot) (g : Nat → Int32) (L B : Nat → Nat → Int32) (n b : Nat), LI D cs s AM adM z0 o oo sz1 b9 g L B n b (k9 + 1) (5 * k9) H1 locs1 ls1 → W p l e room_1 s m #[Value.ref b9] below meth c H1 locs1 (30 + 2 * (k9 + 1)) (300 + 30 * (k9 + 1)) (lw_Z below #[Value.ref b9] s) (F0 m 1205 ls1 [])) : W p l e room_1 s m #[Value.ref b9] below meth c H locs (30 + 2 * k9) (300 + 30 * k9) (lw_Z below #[Value.ref b9] s) (F0 m 910 ls []) := by
  obtain ⟨hR, ⟨t, hM⟩, hO, hIv, hm9, hsz, hS, hl⟩ := hI
  obtain ⟨hx, hb0, hr, hml, hown0, hts0, hX, hbl, hlocks, hgv⟩ := C0
  have hb : c.code = cL_law := hb0
  have hown : s.vm.findClass RL = some m.cls := hown0
  have hts : ∀ w ∈ wsL_law, w.before #[Value.ref b9] s = true := fun w h => hts0 w (wsL_law_in w h)
  have hbA : ¬ (fun q : Nat => s.heap.size ≤ q) b9 := Nat.not_le.mpr hbl
  have hK := hE0.1
  have hbd := hIv.bd
  have hn := hIv.1
  have hb5 := hIv.2.1
  have dv0 := dv_ok hbd (r := 0) (by decide)
  have dvs := dv_ok hbd hbd.2.2.2.2.2.1
  obtain ⟨ad, y1, y2, N1, N2, nd, gv, ho, hN1, hN2, hW⟩ := hR
  subst ho
  obtain ⟨x, ex⟩ : ∃ x, x = xs (5 * k9 + 1) := ⟨_, rfl⟩
  refine lv_aload_n hx hb dL_law_910 rfl (lv_at hl 1 rfl) ?_
  refine lv_aload_n hx hb dL_law_911 rfl (lv_at hl 0 rfl) ?_
  refine lv_iload hx hb dL_law_912 (lv_at hl 4 rfl) ?_
  refine lv_iconst (v := 1) hx hb dL_law_914 (by decide) ?_
  refine lv_iadd hx hb dL_law_915 ?_
  rw [show nI (5 * k9) + 1 = nI (5 * k9 + 1) from nI_add _ _]
  refine va_sld hx hb hX hbl hbA hS (vp_in_nI (by omega) (by omega)) dL_law_916 ?_
  rw [nI_clamp (by omega), ← ex]
  refine lv_aload_n hx hb dL_law_917 rfl (lv_at hl 3 rfl) ?_
  refine vx_calli (vx_runSX (hh := [(0, 9, 12, 21)]) (As := [.ref (ad 0), .int x, .ref oo]) (rest := []) ⟨hx, hb, hml, hown, hts⟩ (c_L_dueOf l hst D cs (AC s.heap.size AM oo) z0 sa ad g L B n b y1 y2 N1 N2 nd gv hn hb5 hN1 hN2 oo (fun h => h.2.2 rfl) x) (vx_cwSW 3 hts gL_law_L_dueOf rfl rfl rfl (by decide +kernel) ⟨Nat.le_of_ble_eq_true rfl, Nat.le_of_ble_eq_true rfl⟩) ⟨pH_fb, fun U hU hV => ⟨rfl, ⟨hE0.law hS hsz hAM hoo hV hU, by rw [hU]; exact hW⟩, by rw [hU]; exact hO, hnc.1.moved hV.alike, hnc.2.1.moved hV.alike, hnc.2.2.moved hV.alike⟩⟩ rfl rfl hl.1 rfl (lv_room (Nat.le_of_ble_eq_true rfl)) dL_law_918 ⟨by show _ ≤ (601024 : Nat); omega, by show _ ≤ (7293034 : Nat); omega⟩) hS (fun q _ h => h.elim (fun z => z.1) (fun z => by rw [z]; exact hoo.1)) (fun q h => h.elim (fun z => z.1) (fun z => by rw [z]; exact hoo.1)) (fun _ _ h => h.elim) (fun E9 ce9 q9 u9 t9 H9 locs9 ht9 hvm9 hpx9 hbx9 hz9 hk9 hS9 hc9 hv9 hl9 => hpx9.elim) (fun r_9 u t9 H locs ht hvm hw hB hz1 hk1 hS => ?_)
  rw [ht] at hB
  have hsz := Nat.le_trans hsz hz1
  have hM := hM.keptA (A1 := fun q => (AC s.heap.size AM oo) q ∨ q = oo) (fun q hq z => z.elim (fun w => w.2.1 hq) (fun w => hoo.2.2 (by rw [← w]; exact hq))) hk1
  by_cases hk : kIx b x = 0
  ·
    obtain rfl : r_9 = 0 := hw.trans hk
    obtain ⟨hR1, f9, hf9, hO1⟩ := hB.1 hk
    refine lv_istore (lv' := [(5, .int 0), (0, .ref b9), (1, .ref (ad 0)), (2, .ref (adM 0)), (3, .ref oo), (4, .int (nI (5 * k9)))]) hx hb dL_law_921 hl (by decide) rfl (fun ls hl => ?_)
    refine lv_aload_n hx hb dL_law_923 rfl (lv_at hl 3 rfl) ?_
    refine lv_aload_n hx hb dL_law_924 rfl (lv_at hl 1 rfl) ?_
    refine lv_iload hx hb dL_law_925 (lv_at hl 5 rfl) ?_
    refine lv_iconst (v := 1) hx hb dL_law_927 (by decide) ?_
    refine lv_iadd hx hb dL_law_928 ?_
    rw [show nI (5 * k9) + 1 = nI (5 * k9 + 1) from nI_add _ _]
    refine va_sld hx hb hX hbl hbA hS (vp_in_nI (by omega) (by omega)) dL_law_929 ?_
    rw [nI_clamp (by omega), ← ex]
    refine va_calli (va_runV (As := [.int x]) (rest := []) ⟨hx, hb, hml, hown, hts⟩ (c_X4_dueOf l D cs AM adM g L B n b t hn hb5 x) (cwV 1 hts gL_law_X4_dueOf rfl rfl rfl (by decide +kernel) ⟨Nat.le_of_ble_eq_true rfl, Nat.le_of_ble_eq_true rfl⟩) ⟨pM_fb, wb_recv hK hM (r := 0) (Nat.le_of_ble_eq_true rfl) (ci := 5) rfl rfl, fun U hU hV => ⟨rfl, pM_of hK hV.alike hU hM⟩⟩ rfl rfl hl.1 rfl (lv_room (Nat.le_of_ble_eq_true rfl)) dL_law_930 ⟨by show _ ≤ (601024 : Nat); omega, by show _ ≤ (7293034 : Nat); omega⟩) hS (fun q _ h => (hAM q h).1) (fun q h => (hAM q h).1) (fun r_8 u8 t8 H locs ht8 hvm8 hw8 hB8 hz8 hk8 hS => ?_)
    rw [ht8] at hB8
    have hsz := Nat.le_trans hsz hz8
    have hR1 := hR1.keptA (A1 := AM) (fun q hq => hq.2.1) hk8
    have hO1 := hO1.keptA (A1 := AM) (fun q hq z => hoo.2.2 (by rw [← hq]; exact z)) hk8
    rw [hk] at hB8
    try simp only [sel_0] at hB8
    have hM : wP D AM lvM adM (ctM cs adM g L B n b 0) H := hB8
    obtain rfl : r_8 = B 1 (ixN x) := by rw [hw8, hk]; rfl
    refine lv_istore (lv' := [(6, .int (B 1 (ixN x))), (5, .int 0), (0, .ref b9), (1, .ref (ad 0)), (2, .ref (adM 0)), (3, .ref oo), (4, .int (nI (5 * k9)))]) hx hb dL_law_933 hl (by decide) rfl (fun ls hl => ?_)
    refine lv_aload_n hx hb dL_law_935 rfl (lv_at hl 4 rfl) ?_
    refine va_calli (va_runV (As := []) (rest := []) ⟨hx, hb, hml, hown, hts⟩ (c_X4_thrown l D cs AM adM g L B n b 0 hn hb5) (cwV 0 hts gL_law_X4_thrown rfl rfl rfl (by decide +kernel) ⟨Nat.le_of_ble_eq_true rfl, Nat.le_of_ble_eq_true rfl⟩) ⟨pM_fb, wb_recv hK hM (r := 0) (Nat.le_of_ble_eq_true rfl) (ci := 5) rfl rfl, fun U hU hV => ⟨rfl, pM_of hK hV.alike hU hM⟩⟩ rfl rfl hl.1 rfl (lv_room (Nat.le_of_ble_eq_true rfl)) dL_law_936 ⟨by show _ ≤ (601024 : Nat); omega, by show _ ≤ (7293034 : Nat); omega⟩) hS (fun _ _ h => h.elim) (fun _ h => h.elim) (fun r_7 u7 t7 H locs ht7 hvm7 hw7 hB7 hz7 hk7 hS => ?_)
    have hsz := Nat.le_trans hsz hz7
    have hR1 := hR1.keptA (A1 := fun _ => False) (fun _ _ h => h) hk7
    have hM := hM.kept hk7
    have hO1 := hO1.keptA (A1 := fun _ => False) (fun _ _ h => h) hk7
    obtain rfl : r_7 = 0 := hw7
    refine lv_iload hx hb dL_law_939 (lv_at hl 1 rfl) ?_
    refine lv_icmp_eq (tgt := 946) hx hb dL_law_941 (by decide) (fun _ => ?_) (fun hno => absurd rfl hno)
    refine lv_iload hx hb dL_law_946 (lv_at hl 1 rfl) ?_
    refine lv_if_ne (tgt := 963) hx hb dL_law_948 (by decide) (fun hno => absurd rfl hno) (fun _ => ?_)
    refine lv_aload_n hx hb dL_law_951 rfl (lv_at hl 5 rfl) ?_
    refine lv_iconst (v := 0) hx hb dL_law_952 (by decide) ?_
    refine wb_lald hx hb hK hO1 0 rfl 4 rfl rfl rfl 0 nI_0.symm (by decide) (by decide) dL_law_953 ?_
    rw [hf9]
    refine lv_iload hx hb dL_law_954 (lv_at hl 0 rfl) ?_
    refine lv_i2l (v := (B 1 (ixN x)).toInt64) hx hb dL_law_956 rfl ?_
    refine W.lcmp hx hb dL_law_957 ?_
    refine lv_if_eq (tgt := 963) hx hb dL_law_958 (by decide) (fun _ => ?_) (fun hno => absurd ((lg0_eq _ _).mpr rfl) hno)
    refine lv_goto (tgt := 1205) hx hb dL_law_963 (by decide) ?_
    refine W.widen (k := 30 + 2 * (k9 + 1)) (n := 300 + 30 * (k9 + 1)) (by omega) (by omega) ?_
    exact KK _ _ _ g L B n b ⟨hR1, ⟨_, hM⟩, ⟨f9, trivial, hO1⟩, hIv, (by omega), hsz, hS, lv_sub hl [2, 3, 4, 5, 6] rfl⟩
  ·
    have hne9 : ¬ r_9 = 0 := fun z => hk (hw.symm.trans z)
    obtain ⟨hR1, hO2⟩ := hB.2 hk
    refine lv_istore (lv' := [(5, .int r_9), (0, .ref b9), (1, .ref (ad 0)), (2, .ref (adM 0)), (3, .ref oo), (4, .int (nI (5 * k9)))]) hx hb dL_law_921 hl (by decide) rfl (fun ls hl => ?_)
    refine lv_aload_n hx hb dL_law_923 rfl (lv_at hl 3 rfl) ?_
    refine lv_aload_n hx hb dL_law_924 rfl (lv_at hl 1 rfl) ?_
    refine lv_iload hx hb dL_law_925 (lv_at hl 5 rfl) ?_
    refine lv_iconst (v := 1) hx hb dL_law_927 (by decide) ?_
    refine lv_iadd hx hb dL_law_928 ?_
    rw [show nI (5 * k9) + 1 = nI (5 * k9 + 1) from nI_add _ _]
    refine va_sld hx hb hX hbl hbA hS (vp_in_nI (by omega) (by omega)) dL_law_929 ?_
    rw [nI_clamp (by omega), ← ex]
    refine va_calli (va_runV (As := [.int x]) (rest := []) ⟨hx, hb, hml, hown, hts⟩ (c_X4_dueOf l D cs AM adM g L B n b t hn hb5 x) (cwV 1 hts gL_law_X4_dueOf rfl rfl rfl (by decide +kernel) ⟨Nat.le_of_ble_eq_true rfl, Nat.le_of_ble_eq_true rfl⟩) ⟨pM_fb, wb_recv hK hM (r := 0) (Nat.le_of_ble_eq_true rfl) (ci := 5) rfl rfl, fun U hU hV => ⟨rfl, pM_of hK hV.alike hU hM⟩⟩ rfl rfl hl.1 rfl (lv_room (Nat.le_of_ble_eq_true rfl)) dL_law_930 ⟨by show _ ≤ (601024 : Nat); omega, by show _ ≤ (7293034 : Nat); omega⟩) hS (fun q _ h => (hAM q h).1) (fun q h => (hAM q h).1) (fun r_8 u8 t8 H locs ht8 hvm8 hw8 hB8 hz8 hk8 hS => ?_)
    rw [ht8] at hB8
    have hsz := Nat.le_trans hsz hz8
    have hR1 := hR1.keptA (A1 := AM) (fun q hq => hq.2.1) hk8
    have hO2 := hO2.keptA (A1 := AM) hoo.2.2 hk8
    try simp only [sel_n hk] at hB8
    have hM : wP D AM lvM adM (ctM cs adM g L B n b (kIx b x)) H := hB8
    refine lv_istore (lv' := [(6, .int r_8), (5, .int r_9), (0, .ref b9), (1, .ref (ad 0)), (2, .ref (adM 0)), (3, .ref oo), (4, .int (nI (5 * k9)))]) hx hb dL_law_933 hl (by decide) rfl (fun ls hl => ?_)
    refine lv_aload_n hx hb dL_law_935 rfl (lv_at hl 4 rfl) ?_
    refine va_calli (va_runV (As := []) (rest := []) ⟨hx, hb, hml, hown, hts⟩ (c_X4_thrown l D cs AM adM g L B n b (kIx b x) hn hb5) (cwV 0 hts gL_law_X4_thrown rfl rfl rfl (by decide +kernel) ⟨Nat.le_of_ble_eq_true rfl, Nat.le_of_ble_eq_true rfl⟩) ⟨pM_fb, wb_recv hK hM (r := 0) (Nat.le_of_ble_eq_true rfl) (ci := 5) rfl rfl, fun U hU hV => ⟨rfl, pM_of hK hV.alike hU hM⟩⟩ rfl rfl hl.1 rfl (lv_room (Nat.le_of_ble_eq_true rfl)) dL_law_936 ⟨by show _ ≤ (601024 : Nat); omega, by show _ ≤ (7293034 : Nat); omega⟩) hS (fun _ _ h => h.elim) (fun _ h => h.elim) (fun r_7 u7 t7 H locs ht7 hvm7 hw7 hB7 hz7 hk7 hS => ?_)
    have hsz := Nat.le_trans hsz hz7
    have hR1 := hR1.keptA (A1 := fun _ => False) (fun _ _ h => h) hk7
    have hM := hM.kept hk7
    have hO2 := hO2.keptA (A1 := fun _ => False) (fun h => h) hk7
    obtain rfl : r_7 = r_9 := hw7.trans hw.symm
    refine lv_iload hx hb dL_law_939 (lv_at hl 1 rfl) ?_
    refine lv_icmp_eq (tgt := 946) hx hb dL_law_941 (by decide) (fun _ => ?_) (fun hno => absurd rfl hno)
    refine lv_iload hx hb dL_law_946 (lv_at hl 1 rfl) ?_
    refine lv_if_ne (tgt := 963) hx hb dL_law_948 (by decide) (fun _ => ?_) (fun hno => absurd hno hne9)
    refine lv_goto (tgt := 1205) hx hb dL_law_963 (by decide) ?_
    refine W.widen (k := 30 + 2 * (k9 + 1)) (n := 300 + 30 * (k9 + 1)) (by omega) (by omega) ?_
    exact KK _ _ _ g L B n b ⟨hR1, ⟨_, hM⟩, hO2, hIv, (by omega), hsz, hS, lv_sub hl [2, 3, 4, 5, 6] rfl⟩

set_option maxHeartbeats 4000000 in
set_option maxRecDepth 100000 in
theorem law_cash {p : Program} {l : Launch} {e : Env} {s : State} {m : MethodId} {below : List Frame} {meth : Method} {c : Code} {b9 L9 : Nat} {xs : Nat → Int32} {D : va_G} {cs : Nat → ClassId} {z0 : Nat} {sa : Nat → Nat} {AM : Nat → Prop} {adM : Nat → Nat} {o oo sz1 : Nat} (hst : l.stackTraces = false) (hL9 : L9 ≤ 2560) (C0 : lw_At p s m meth c b9 L9 xs) (hE0 : Ev D cs (fun q => s.heap.size ≤ q) z0 sa s) (hnc : va_Nc xS xA s ∧ va_Nc xS xI s ∧ va_Nc xA xI s) (hAM : ∀ q, AM q → s.heap.size ≤ q ∧ q < sz1) (hoo : s.heap.size ≤ oo ∧ oo < sz1 ∧ ¬ AM oo) {g : Nat → Int32} {L B : Nat → Nat → Int32} {n b k9 : Nat} {H : Heap} {locs : List Loc} {ls : Array Slot} (hk9 : 5 * k9 + 5 ≤ L9) (hI : LI D cs s AM adM z0 o oo sz1 b9 g L B n b k9 (5 * k9) H locs ls) (KK : ∀ (H1 : Heap) (locs1 : List Loc) (ls1 : Array Slot) (g : Nat → Int32) (L B : Nat → Nat → Int32) (n b : Nat), LI D cs s AM adM z0 o oo sz1 b9 g L B n b (k9 + 1) (5 * k9) H1 locs1 ls1 → W p l e room_1 s m #[Value.ref b9] below meth c H1 locs1 (30 + 2 * (k9 + 1)) (300 + 30 * (k9 + 1)) (lw_Z below #[Value.ref b9] s) (F0 m 1205 ls1 [])) : W p l e room_1 s m #[Value.ref b9] below meth c H locs (30 + 2 * k9) (300 + 30 * k9) (lw_Z below #[Value.ref b9] s) (F0 m 966 ls []) := by
  obtain ⟨hR, ⟨t, hM⟩, hO, hIv, hm9, hsz, hS, hl⟩ := hI
  obtain ⟨hx, hb0, hr, hml, hown0, hts0, hX, hbl, hlocks, hgv⟩ := C0
  have hb : c.code = cL_law := hb0
  have hown : s.vm.findClass RL = some m.cls := hown0
  have hts : ∀ w ∈ wsL_law, w.before #[Value.ref b9] s = true := fun w h => hts0 w (wsL_law_in w h)
  have hbA : ¬ (fun q : Nat => s.heap.size ≤ q) b9 := Nat.not_le.mpr hbl
  have hK := hE0.1
  have hbd := hIv.bd
  have hn := hIv.1
  have hb5 := hIv.2.1
  have dv0 := dv_ok hbd (r := 0) (by decide)
  have dvs := dv_ok hbd hbd.2.2.2.2.2.1
  obtain ⟨ad, y1, y2, N1, N2, nd, gv, ho, hN1, hN2, hW⟩ := hR
  subst ho
  refine lv_aload_n hx hb dL_law_966 rfl (lv_at hl 1 rfl) ?_
  refine va_calli (va_runV (As := []) (rest := []) ⟨hx, hb, hml, hown, hts⟩ (c_X3_cash l D cs (AC s.heap.size AM oo) z0 sa ad g L B n b y1 y2 N1 N2 nd gv hn hb5 hN1 hN2) (cwV 0 hts gL_law_X3_cash rfl rfl rfl (by decide +kernel) ⟨Nat.le_of_ble_eq_true rfl, Nat.le_of_ble_eq_true rfl⟩) ⟨pC_fb, wb_recv hK hW (r := 0) (lvC_0 (by decide)) (ci := 4) rfl rfl, fun U hU hV => ⟨rfl, hE0.law hS hsz hAM hoo hV hU, by rw [hU]; exact hW⟩⟩ rfl rfl hl.1 rfl (lv_room (Nat.le_of_ble_eq_true rfl)) dL_law_967 ⟨by show _ ≤ (601024 : Nat); omega, by show _ ≤ (7293034 : Nat); omega⟩) hS (fun _ _ h => h.elim) (fun _ h => h.elim) (fun r_9 u t9 H locs ht hvm hw hB hz1 hk1 hS => ?_)
  have hsz := Nat.le_trans hsz hz1
  have hR1 : RC D cs (AC s.heap.size AM oo) z0 (ad 0) g L B n b H := ⟨ad, y1, y2, N1, N2, nd, gv, rfl, hN1, hN2, hW.kept hk1⟩
  have hM := hM.kept hk1
  have hO2 := hO.keptA (A1 := fun _ => False) (fun h => h) hk1
  obtain rfl : r_9 = g 1 := hw
  refine lv_aload_n hx hb dL_law_970 rfl (lv_at hl 2 rfl) ?_
  refine va_calli (va_runV (As := []) (rest := [.int (g 1)]) ⟨hx, hb, hml, hown, hts⟩ (c_X4_cash l D cs AM adM g L B n b t hn hb5) (cwV 0 hts gL_law_X4_cash rfl rfl rfl (by decide +kernel) ⟨Nat.le_of_ble_eq_true rfl, Nat.le_of_ble_eq_true rfl⟩) ⟨pM_fb, wb_recv hK hM (r := 0) (Nat.le_of_ble_eq_true rfl) (ci := 5) rfl rfl, fun U hU hV => ⟨rfl, pM_of hK hV.alike hU hM⟩⟩ rfl rfl hl.1 rfl (lv_room (Nat.le_of_ble_eq_true rfl)) dL_law_971 ⟨by show _ ≤ (601024 : Nat); omega, by show _ ≤ (7293034 : Nat); omega⟩) hS (fun q _ h => (hAM q h).1) (fun q h => (hAM q h).1) (fun r_8 u8 t8 H locs ht8 hvm8 hw8 hB8 hz8 hk8 hS => ?_)
  rw [ht8] at hB8
  have hsz := Nat.le_trans hsz hz8
  have hR1 := hR1.keptA (A1 := AM) (fun q hq => hq.2.1) hk8
  have hO2 := hO2.keptA (A1 := AM) hoo.2.2 hk8
  have hM : wP D AM lvM adM (ctM cs adM g L B n b 0) H := hB8
  obtain rfl : r_8 = g 1 := hw8
  refine lv_icmp_eq (tgt := 1205) hx hb dL_law_974 (by decide) (fun _ => ?_) (fun hno => absurd rfl hno)
  refine W.widen (k := 30 + 2 * (k9 + 1)) (n := 300 + 30 * (k9 + 1)) (by omega) (by omega) ?_
  exact KK _ _ _ g L B n b ⟨hR1, ⟨_, hM⟩, hO2, hIv, (by omega), hsz, hS, lv_sub hl [0, 1, 2, 3, 4] rfl⟩

set_option maxHeartbeats 4000000 in
set_option maxRecDepth 100000 in
theorem law_debt {p : Program} {l : Launch} {e : Env} {s : State} {m : MethodId} {below : List Frame} {meth : Method} {c : Code} {b9 L9 : Nat} {xs : Nat → Int32} {D : va_G} {cs : Nat → ClassId} {z0 : Nat} {sa : Nat → Nat} {AM : Nat → Prop} {adM : Nat → Nat} {o oo sz1 : Nat} (hst : l.stackTraces = false) (hL9 : L9 ≤ 2560) (C0 : lw_At p s m meth c b9 L9 xs) (hE0 : Ev D cs (fun q => s.heap.size ≤ q) z0 sa s) (hnc : va_Nc xS xA s ∧ va_Nc xS xI s ∧ va_Nc xA xI s) (hAM : ∀ q, AM q → s.heap.size ≤ q ∧ q < sz1) (hoo : s.heap.size ≤ oo ∧ oo < sz1 ∧ ¬ AM oo) {g : Nat → Int32} {L B : Nat → Nat → Int32} {n b k9 : Nat} {H : Heap} {locs : List Loc} {ls : Array Slot} (hk9 : 5 * k9 + 5 ≤ L9) (hI : LI D cs s AM adM z0 o oo sz1 b9 g L B n b k9 (5 * k9) H locs ls) (KK : ∀ (H1 : Heap) (locs1 : List Loc) (ls1 : Array Slot) (g : Nat → Int32) (L B : Nat → Nat → Int32) (n b : Nat), LI D cs s AM adM z0 o oo sz1 b9 g L B n b (k9 + 1) (5 * k9) H1 locs1 ls1 → W p l e room_1 s m #[Value.ref b9] below meth c H1 locs1 (30 + 2 * (k9 + 1)) (300 + 30 * (k9 + 1)) (lw_Z below #[Value.ref b9] s) (F0 m 1205 ls1 [])) : W p l e room_1 s m #[Value.ref b9] below meth c H locs (30 + 2 * k9) (300 + 30 * k9) (lw_Z below #[Value.ref b9] s) (F0 m 979 ls []) := by
  obtain ⟨hR, ⟨t, hM⟩, hO, hIv, hm9, hsz, hS, hl⟩ := hI
  obtain ⟨hx, hb0, hr, hml, hown0, hts0, hX, hbl, hlocks, hgv⟩ := C0
  have hb : c.code = cL_law := hb0
  have hown : s.vm.findClass RL = some m.cls := hown0
  have hts : ∀ w ∈ wsL_law, w.before #[Value.ref b9] s = true := fun w h => hts0 w (wsL_law_in w h)
  have hbA : ¬ (fun q : Nat => s.heap.size ≤ q) b9 := Nat.not_le.mpr hbl
  have hK := hE0.1
  have hbd := hIv.bd
  have hn := hIv.1
  have hb5 := hIv.2.1
  have dv0 := dv_ok hbd (r := 0) (by decide)
  have dvs := dv_ok hbd hbd.2.2.2.2.2.1
  obtain ⟨ad, y1, y2, N1, N2, nd, gv, ho, hN1, hN2, hW⟩ := hR
  subst ho
  refine lv_aload_n hx hb dL_law_979 rfl (lv_at hl 1 rfl) ?_
  refine va_calli (va_runV (As := []) (rest := []) ⟨hx, hb, hml, hown, hts⟩ (c_X3_debt l D cs (AC s.heap.size AM oo) z0 sa ad g L B n b y1 y2 N1 N2 nd gv hn hb5 hN1 hN2) (cwV 0 hts gL_law_X3_debt rfl rfl rfl (by decide +kernel) ⟨Nat.le_of_ble_eq_true rfl, Nat.le_of_ble_eq_true rfl⟩) ⟨pC_fb, wb_recv hK hW (r := 0) (lvC_0 (by decide)) (ci := 4) rfl rfl, fun U hU hV => ⟨rfl, hE0.law hS hsz hAM hoo hV hU, by rw [hU]; exact hW⟩⟩ rfl rfl hl.1 rfl (lv_room (Nat.le_of_ble_eq_true rfl)) dL_law_980 ⟨by show _ ≤ (601024 : Nat); omega, by show _ ≤ (7293034 : Nat); omega⟩) hS (fun _ _ h => h.elim) (fun _ h => h.elim) (fun r_9 u t9 H locs ht hvm hw hB hz1 hk1 hS => ?_)
  have hsz := Nat.le_trans hsz hz1
  have hR1 : RC D cs (AC s.heap.size AM oo) z0 (ad 0) g L B n b H := ⟨ad, y1, y2, N1, N2, nd, gv, rfl, hN1, hN2, hW.kept hk1⟩
  have hM := hM.kept hk1
  have hO2 := hO.keptA (A1 := fun _ => False) (fun h => h) hk1
  obtain rfl : r_9 = mOwed B b := hw
  refine lv_aload_n hx hb dL_law_983 rfl (lv_at hl 2 rfl) ?_
  refine va_calli (va_runV (As := []) (rest := [.int (mOwed B b)]) ⟨hx, hb, hml, hown, hts⟩ (c_X4_debt l D cs AM adM g L B n b t hn hb5) (cwV 0 hts gL_law_X4_debt rfl rfl rfl (by decide +kernel) ⟨Nat.le_of_ble_eq_true rfl, Nat.le_of_ble_eq_true rfl⟩) ⟨pM_fb, wb_recv hK hM (r := 0) (Nat.le_of_ble_eq_true rfl) (ci := 5) rfl rfl, fun U hU hV => ⟨rfl, pM_of hK hV.alike hU hM⟩⟩ rfl rfl hl.1 rfl (lv_room (Nat.le_of_ble_eq_true rfl)) dL_law_984 ⟨by show _ ≤ (601024 : Nat); omega, by show _ ≤ (7293034 : Nat); omega⟩) hS (fun q _ h => (hAM q h).1) (fun q h => (hAM q h).1) (fun r_8 u8 t8 H locs ht8 hvm8 hw8 hB8 hz8 hk8 hS => ?_)
  rw [ht8] at hB8
  have hsz := Nat.le_trans hsz hz8
  have hR1 := hR1.keptA (A1 := AM) (fun q hq => hq.2.1) hk8
  have hO2 := hO2.keptA (A1 := AM) hoo.2.2 hk8
  have hM : wP D AM lvM adM (ctM cs adM g L B n b 0) H := hB8
  obtain rfl : r_8 = mOwed B b := hw8
  refine lv_icmp_eq (tgt := 1205) hx hb dL_law_987 (by decide) (fun _ => ?_) (fun hno => absurd rfl hno)
  refine W.widen (k := 30 + 2 * (k9 + 1)) (n := 300 + 30 * (k9 + 1)) (by omega) (by omega) ?_
  exact KK _ _ _ g L B n b ⟨hR1, ⟨_, hM⟩, hO2, hIv, (by omega), hsz, hS, lv_sub hl [0, 1, 2, 3, 4] rfl⟩

set_option maxHeartbeats 4000000 in
set_option maxRecDepth 100000 in
theorem law_substitutes {p : Program} {l : Launch} {e : Env} {s : State} {m : MethodId} {below : List Frame} {meth : Method} {c : Code} {b9 L9 : Nat} {xs : Nat → Int32} {D : va_G} {cs : Nat → ClassId} {z0 : Nat} {sa : Nat → Nat} {AM : Nat → Prop} {adM : Nat → Nat} {o oo sz1 : Nat} (hst : l.stackTraces = false) (hL9 : L9 ≤ 2560) (C0 : lw_At p s m meth c b9 L9 xs) (hE0 : Ev D cs (fun q => s.heap.size ≤ q) z0 sa s) (hnc : va_Nc xS xA s ∧ va_Nc xS xI s ∧ va_Nc xA xI s) (hAM : ∀ q, AM q → s.heap.size ≤ q ∧ q < sz1) (hoo : s.heap.size ≤ oo ∧ oo < sz1 ∧ ¬ AM oo) {g : Nat → Int32} {L B : Nat → Nat → Int32} {n b k9 : Nat} {H : Heap} {locs : List Loc} {ls : Array Slot} (hk9 : 5 * k9 + 5 ≤ L9) (hI : LI D cs s AM adM z0 o oo sz1 b9 g L B n b k9 (5 * k9) H locs ls) (KK : ∀ (H1 : Heap) (locs1 : List Loc) (ls1 : Array Slot) (g : Nat → Int32) (L B : Nat → Nat → Int32) (n b : Nat), LI D cs s AM adM z0 o oo sz1 b9 g L B n b (k9 + 1) (5 * k9) H1 locs1 ls1 → W p l e room_1 s m #[Value.ref b9] below meth c H1 locs1 (30 + 2 * (k9 + 1)) (300 + 30 * (k9 + 1)) (lw_Z below #[Value.ref b9] s) (F0 m 1205 ls1 [])) : W p l e room_1 s m #[Value.ref b9] below meth c H locs (30 + 2 * k9) (300 + 30 * k9) (lw_Z below #[Value.ref b9] s) (F0 m 992 ls []) := by
  obtain ⟨hR, ⟨t, hM⟩, hO, hIv, hm9, hsz, hS, hl⟩ := hI
  obtain ⟨hx, hb0, hr, hml, hown0, hts0, hX, hbl, hlocks, hgv⟩ := C0
  have hb : c.code = cL_law := hb0
  have hown : s.vm.findClass RL = some m.cls := hown0
  have hts : ∀ w ∈ wsL_law, w.before #[Value.ref b9] s = true := fun w h => hts0 w (wsL_law_in w h)
  have hbA : ¬ (fun q : Nat => s.heap.size ≤ q) b9 := Nat.not_le.mpr hbl
  have hK := hE0.1
  have hbd := hIv.bd
  have hn := hIv.1
  have hb5 := hIv.2.1
  have dv0 := dv_ok hbd (r := 0) (by decide)
  have dvs := dv_ok hbd hbd.2.2.2.2.2.1
  obtain ⟨ad, y1, y2, N1, N2, nd, gv, ho, hN1, hN2, hW⟩ := hR
  subst ho
  refine lv_aload_n hx hb dL_law_992 rfl (lv_at hl 1 rfl) ?_
  refine va_calli (va_runV (As := []) (rest := []) ⟨hx, hb, hml, hown, hts⟩ (c_X3_substitutes l D cs (AC s.heap.size AM oo) z0 sa ad g L B n b y1 y2 N1 N2 nd gv hn hb5 hN1 hN2) (cwV 0 hts gL_law_X3_substitutes rfl rfl rfl (by decide +kernel) ⟨Nat.le_of_ble_eq_true rfl, Nat.le_of_ble_eq_true rfl⟩) ⟨pC_fb, wb_recv hK hW (r := 0) (lvC_0 (by decide)) (ci := 4) rfl rfl, fun U hU hV => ⟨rfl, hE0.law hS hsz hAM hoo hV hU, by rw [hU]; exact hW⟩⟩ rfl rfl hl.1 rfl (lv_room (Nat.le_of_ble_eq_true rfl)) dL_law_993 ⟨by show _ ≤ (601024 : Nat); omega, by show _ ≤ (7293034 : Nat); omega⟩) hS (fun _ _ h => h.elim) (fun _ h => h.elim) (fun r_9 u t9 H locs ht hvm hw hB hz1 hk1 hS => ?_)
  have hsz := Nat.le_trans hsz hz1
  have hR1 : RC D cs (AC s.heap.size AM oo) z0 (ad 0) g L B n b H := ⟨ad, y1, y2, N1, N2, nd, gv, rfl, hN1, hN2, hW.kept hk1⟩
  have hM := hM.kept hk1
  have hO2 := hO.keptA (A1 := fun _ => False) (fun h => h) hk1
  obtain rfl : r_9 = mBeside g B b := hw
  refine lv_aload_n hx hb dL_law_996 rfl (lv_at hl 2 rfl) ?_
  refine va_calli (va_runV (As := []) (rest := [.int (mBeside g B b)]) ⟨hx, hb, hml, hown, hts⟩ (c_X4_substitutes l D cs AM adM g L B n b t hn hb5) (cwV 0 hts gL_law_X4_substitutes rfl rfl rfl (by decide +kernel) ⟨Nat.le_of_ble_eq_true rfl, Nat.le_of_ble_eq_true rfl⟩) ⟨pM_fb, wb_recv hK hM (r := 0) (Nat.le_of_ble_eq_true rfl) (ci := 5) rfl rfl, fun U hU hV => ⟨rfl, pM_of hK hV.alike hU hM⟩⟩ rfl rfl hl.1 rfl (lv_room (Nat.le_of_ble_eq_true rfl)) dL_law_997 ⟨by show _ ≤ (601024 : Nat); omega, by show _ ≤ (7293034 : Nat); omega⟩) hS (fun q _ h => (hAM q h).1) (fun q h => (hAM q h).1) (fun r_8 u8 t8 H locs ht8 hvm8 hw8 hB8 hz8 hk8 hS => ?_)
  rw [ht8] at hB8
  have hsz := Nat.le_trans hsz hz8
  have hR1 := hR1.keptA (A1 := AM) (fun q hq => hq.2.1) hk8
  have hO2 := hO2.keptA (A1 := AM) hoo.2.2 hk8
  have hM : wP D AM lvM adM (ctM cs adM g L B n b 0) H := hB8
  obtain rfl : r_8 = mBeside g B b := hw8
  refine lv_icmp_eq (tgt := 1205) hx hb dL_law_1000 (by decide) (fun _ => ?_) (fun hno => absurd rfl hno)
  refine W.widen (k := 30 + 2 * (k9 + 1)) (n := 300 + 30 * (k9 + 1)) (by omega) (by omega) ?_
  exact KK _ _ _ g L B n b ⟨hR1, ⟨_, hM⟩, hO2, hIv, (by omega), hsz, hS, lv_sub hl [0, 1, 2, 3, 4] rfl⟩

set_option maxHeartbeats 4000000 in
set_option maxRecDepth 100000 in
theorem law_pass {p : Program} {l : Launch} {e : Env} {s : State} {m : MethodId} {below : List Frame} {meth : Method} {c : Code} {b9 L9 : Nat} {xs : Nat → Int32} {D : va_G} {cs : Nat → ClassId} {z0 : Nat} {sa : Nat → Nat} {AM : Nat → Prop} {adM : Nat → Nat} {o oo sz1 : Nat} (hst : l.stackTraces = false) (hL9 : L9 ≤ 2560) (C0 : lw_At p s m meth c b9 L9 xs) (hE0 : Ev D cs (fun q => s.heap.size ≤ q) z0 sa s) (hnc : va_Nc xS xA s ∧ va_Nc xS xI s ∧ va_Nc xA xI s) (hAM : ∀ q, AM q → s.heap.size ≤ q ∧ q < sz1) (hoo : s.heap.size ≤ oo ∧ oo < sz1 ∧ ¬ AM oo) {g : Nat → Int32} {L B : Nat → Nat → Int32} {n b k9 : Nat} {H : Heap} {locs : List Loc} {ls : Array Slot} (hk9 : 5 * k9 + 5 ≤ L9) (hI : LI D cs s AM adM z0 o oo sz1 b9 g L B n b k9 (5 * k9) H locs ls) (KK : ∀ (H1 : Heap) (locs1 : List Loc) (ls1 : Array Slot) (g : Nat → Int32) (L B : Nat → Nat → Int32) (n b : Nat), LI D cs s AM adM z0 o oo sz1 b9 g L B n b (k9 + 1) (5 * k9) H1 locs1 ls1 → W p l e room_1 s m #[Value.ref b9] below meth c H1 locs1 (30 + 2 * (k9 + 1)) (300 + 30 * (k9 + 1)) (lw_Z below #[Value.ref b9] s) (F0 m 1205 ls1 [])) : W p l e room_1 s m #[Value.ref b9] below meth c H locs (30 + 2 * k9) (300 + 30 * k9) (lw_Z below #[Value.ref b9] s) (F0 m 1005 ls []) := by
  obtain ⟨hR, ⟨t, hM⟩, hO, hIv, hm9, hsz, hS, hl⟩ := hI
  obtain ⟨hx, hb0, hr, hml, hown0, hts0, hX, hbl, hlocks, hgv⟩ := C0
  have hb : c.code = cL_law := hb0
  have hown : s.vm.findClass RL = some m.cls := hown0
  have hts : ∀ w ∈ wsL_law, w.before #[Value.ref b9] s = true := fun w h => hts0 w (wsL_law_in w h)
  have hbA : ¬ (fun q : Nat => s.heap.size ≤ q) b9 := Nat.not_le.mpr hbl
  have hK := hE0.1
  have hbd := hIv.bd
  have hn := hIv.1
  have hb5 := hIv.2.1
  have dv0 := dv_ok hbd (r := 0) (by decide)
  have dvs := dv_ok hbd hbd.2.2.2.2.2.1
  obtain ⟨ad, y1, y2, N1, N2, nd, gv, ho, hN1, hN2, hW⟩ := hR
  subst ho
  have hmp : (g 0).toInt + 24 ≤ 12288 := by omega
  obtain ⟨x, ex⟩ : ∃ x, x = xs (5 * k9 + 1) := ⟨_, rfl⟩
  refine lv_aload_n hx hb dL_law_1005 rfl (lv_at hl 1 rfl) ?_
  refine lv_aload_n hx hb dL_law_1006 rfl (lv_at hl 0 rfl) ?_
  refine lv_iload hx hb dL_law_1007 (lv_at hl 4 rfl) ?_
  refine lv_iconst (v := 1) hx hb dL_law_1009 (by decide) ?_
  refine lv_iadd hx hb dL_law_1010 ?_
  rw [show nI (5 * k9) + 1 = nI (5 * k9 + 1) from nI_add _ _]
  refine va_sld hx hb hX hbl hbA hS (vp_in_nI (by omega) (by omega)) dL_law_1011 ?_
  rw [nI_clamp (by omega), ← ex]
  refine lv_aload_n hx hb dL_law_1012 rfl (lv_at hl 3 rfl) ?_
  refine vx_calli (vx_runSX (hh := [(0, 9, 12, 13)]) (As := [.ref (ad 0), .int x, .ref oo]) (rest := []) ⟨hx, hb, hml, hown, hts⟩ (c_L_pass l hst D cs (AC s.heap.size AM oo) z0 sa ad g L B n b y1 y2 N1 N2 nd gv hn hb5 hN1 hN2 oo (fun h => h.2.2 rfl) x) (vx_cwSW 3 hts gL_law_L_pass rfl rfl rfl (by decide +kernel) ⟨Nat.le_of_ble_eq_true rfl, Nat.le_of_ble_eq_true rfl⟩) ⟨pH_fb, fun U hU hV => ⟨rfl, ⟨hE0.law hS hsz hAM hoo hV hU, by rw [hU]; exact hW⟩, by rw [hU]; exact hO, hnc.1.moved hV.alike, hnc.2.1.moved hV.alike, hnc.2.2.moved hV.alike⟩⟩ rfl rfl hl.1 rfl (lv_room (Nat.le_of_ble_eq_true rfl)) dL_law_1013 ⟨by show _ ≤ (601024 : Nat); omega, by show _ ≤ (7293034 : Nat); omega⟩) hS (fun q _ h => h.elim (fun z => z.1) (fun z => by rw [z]; exact hoo.1)) (fun q h => h.elim (fun z => z.1) (fun z => by rw [z]; exact hoo.1)) (fun _ _ h => h.elim) (fun E9 ce9 q9 u9 t9 H9 locs9 ht9 hvm9 hpx9 hbx9 hz9 hk9 hS9 hc9 hv9 hl9 => hpx9.elim) (fun r_9 u t9 H locs ht hvm hw hB hz1 hk1 hS => ?_)
  rw [ht] at hB
  have hsz := Nat.le_trans hsz hz1
  have hM := hM.keptA (A1 := fun q => (AC s.heap.size AM oo) q ∨ q = oo) (fun q hq z => z.elim (fun w => w.2.1 hq) (fun w => hoo.2.2 (by rw [← w]; exact hq))) hk1
  by_cases hk : kIn 1 24 x = 0
  ·
    obtain rfl : r_9 = 0 := hw.trans hk
    obtain ⟨hR1, f9, hf9, hO1⟩ := hB.1 hk
    refine lv_istore (lv' := [(5, .int 0), (0, .ref b9), (1, .ref (ad 0)), (2, .ref (adM 0)), (3, .ref oo), (4, .int (nI (5 * k9)))]) hx hb dL_law_1016 hl (by decide) rfl (fun ls hl => ?_)
    refine lv_aload_n hx hb dL_law_1018 rfl (lv_at hl 3 rfl) ?_
    refine lv_aload_n hx hb dL_law_1019 rfl (lv_at hl 1 rfl) ?_
    refine lv_iload hx hb dL_law_1020 (lv_at hl 5 rfl) ?_
    refine lv_iconst (v := 1) hx hb dL_law_1022 (by decide) ?_
    refine lv_iadd hx hb dL_law_1023 ?_
    rw [show nI (5 * k9) + 1 = nI (5 * k9 + 1) from nI_add _ _]
    refine va_sld hx hb hX hbl hbA hS (vp_in_nI (by omega) (by omega)) dL_law_1024 ?_
    rw [nI_clamp (by omega), ← ex]
    refine va_calli (va_runV (As := [.int x]) (rest := []) ⟨hx, hb, hml, hown, hts⟩ (c_X4_pass l D cs AM adM g L B n b t hn hb5 x) (cwV 1 hts gL_law_X4_pass rfl rfl rfl (by decide +kernel) ⟨Nat.le_of_ble_eq_true rfl, Nat.le_of_ble_eq_true rfl⟩) ⟨pM_fb, wb_recv hK hM (r := 0) (Nat.le_of_ble_eq_true rfl) (ci := 5) rfl rfl, fun U hU hV => ⟨rfl, pM_of hK hV.alike hU hM⟩⟩ rfl rfl hl.1 rfl (lv_room (Nat.le_of_ble_eq_true rfl)) dL_law_1025 ⟨by show _ ≤ (601024 : Nat); omega, by show _ ≤ (7293034 : Nat); omega⟩) hS (fun q _ h => (hAM q h).1) (fun q h => (hAM q h).1) (fun r_8 u8 t8 H locs ht8 hvm8 hw8 hB8 hz8 hk8 hS => ?_)
    rw [ht8] at hB8
    have hsz := Nat.le_trans hsz hz8
    have hR1 := hR1.keptA (A1 := AM) (fun q hq => hq.2.1) hk8
    have hO1 := hO1.keptA (A1 := AM) (fun q hq z => hoo.2.2 (by rw [← hq]; exact z)) hk8
    rw [hk] at hB8
    try simp only [sel_0] at hB8
    have hM : wP D AM lvM adM (ctM cs adM ((lvMany n b (g, L, B) (ixN x)).1) ((lvMany n b (g, L, B) (ixN x)).2.1) ((lvMany n b (g, L, B) (ixN x)).2.2) n b 0) H := hB8
    obtain rfl : r_8 = (lvMany n b (g, L, B) (ixN x)).1 0 := by rw [hw8, hk]; rfl
    refine lv_istore (lv' := [(6, .int ((lvMany n b (g, L, B) (ixN x)).1 0)), (5, .int 0), (0, .ref b9), (1, .ref (ad 0)), (2, .ref (adM 0)), (3, .ref oo), (4, .int (nI (5 * k9)))]) hx hb dL_law_1028 hl (by decide) rfl (fun ls hl => ?_)
    refine lv_aload_n hx hb dL_law_1030 rfl (lv_at hl 4 rfl) ?_
    refine va_calli (va_runV (As := []) (rest := []) ⟨hx, hb, hml, hown, hts⟩ (c_X4_thrown l D cs AM adM ((lvMany n b (g, L, B) (ixN x)).1) ((lvMany n b (g, L, B) (ixN x)).2.1) ((lvMany n b (g, L, B) (ixN x)).2.2) n b 0 hn hb5) (cwV 0 hts gL_law_X4_thrown rfl rfl rfl (by decide +kernel) ⟨Nat.le_of_ble_eq_true rfl, Nat.le_of_ble_eq_true rfl⟩) ⟨pM_fb, wb_recv hK hM (r := 0) (Nat.le_of_ble_eq_true rfl) (ci := 5) rfl rfl, fun U hU hV => ⟨rfl, pM_of hK hV.alike hU hM⟩⟩ rfl rfl hl.1 rfl (lv_room (Nat.le_of_ble_eq_true rfl)) dL_law_1031 ⟨by show _ ≤ (601024 : Nat); omega, by show _ ≤ (7293034 : Nat); omega⟩) hS (fun _ _ h => h.elim) (fun _ h => h.elim) (fun r_7 u7 t7 H locs ht7 hvm7 hw7 hB7 hz7 hk7 hS => ?_)
    have hsz := Nat.le_trans hsz hz7
    have hR1 := hR1.keptA (A1 := fun _ => False) (fun _ _ h => h) hk7
    have hM := hM.kept hk7
    have hO1 := hO1.keptA (A1 := fun _ => False) (fun _ _ h => h) hk7
    obtain rfl : r_7 = 0 := hw7
    refine lv_iload hx hb dL_law_1034 (lv_at hl 1 rfl) ?_
    refine lv_icmp_eq (tgt := 1041) hx hb dL_law_1036 (by decide) (fun _ => ?_) (fun hno => absurd rfl hno)
    refine lv_iload hx hb dL_law_1041 (lv_at hl 1 rfl) ?_
    refine lv_if_ne (tgt := 1058) hx hb dL_law_1043 (by decide) (fun hno => absurd rfl hno) (fun _ => ?_)
    refine lv_aload_n hx hb dL_law_1046 rfl (lv_at hl 5 rfl) ?_
    refine lv_iconst (v := 0) hx hb dL_law_1047 (by decide) ?_
    refine wb_lald hx hb hK hO1 0 rfl 4 rfl rfl rfl 0 nI_0.symm (by decide) (by decide) dL_law_1048 ?_
    rw [hf9]
    refine lv_iload hx hb dL_law_1049 (lv_at hl 0 rfl) ?_
    refine lv_i2l (v := ((lvMany n b (g, L, B) (ixN x)).1 0).toInt64) hx hb dL_law_1051 rfl ?_
    refine W.lcmp hx hb dL_law_1052 ?_
    refine lv_if_eq (tgt := 1058) hx hb dL_law_1053 (by decide) (fun _ => ?_) (fun hno => absurd ((lg0_eq _ _).mpr rfl) hno)
    refine lv_goto (tgt := 1205) hx hb dL_law_1058 (by decide) ?_
    refine W.widen (k := 30 + 2 * (k9 + 1)) (n := 300 + 30 * (k9 + 1)) (by omega) (by omega) ?_
    exact KK _ _ _ ((lvMany n b (g, L, B) (ixN x)).1) ((lvMany n b (g, L, B) (ixN x)).2.1) ((lvMany n b (g, L, B) (ixN x)).2.2) n b ⟨hR1, ⟨_, hM⟩, ⟨f9, trivial, hO1⟩, (hIv.pass hk hmp).1, (by have := (hIv.pass hk hmp).2; omega), hsz, hS, lv_sub hl [2, 3, 4, 5, 6] rfl⟩
  ·
    have hne9 : ¬ r_9 = 0 := fun z => hk (hw.symm.trans z)
    obtain ⟨hR1, hO2⟩ := hB.2 hk
    refine lv_istore (lv' := [(5, .int r_9), (0, .ref b9), (1, .ref (ad 0)), (2, .ref (adM 0)), (3, .ref oo), (4, .int (nI (5 * k9)))]) hx hb dL_law_1016 hl (by decide) rfl (fun ls hl => ?_)
    refine lv_aload_n hx hb dL_law_1018 rfl (lv_at hl 3 rfl) ?_
    refine lv_aload_n hx hb dL_law_1019 rfl (lv_at hl 1 rfl) ?_
    refine lv_iload hx hb dL_law_1020 (lv_at hl 5 rfl) ?_
    refine lv_iconst (v := 1) hx hb dL_law_1022 (by decide) ?_
    refine lv_iadd hx hb dL_law_1023 ?_
    rw [show nI (5 * k9) + 1 = nI (5 * k9 + 1) from nI_add _ _]
    refine va_sld hx hb hX hbl hbA hS (vp_in_nI (by omega) (by omega)) dL_law_1024 ?_
    rw [nI_clamp (by omega), ← ex]
    refine va_calli (va_runV (As := [.int x]) (rest := []) ⟨hx, hb, hml, hown, hts⟩ (c_X4_pass l D cs AM adM g L B n b t hn hb5 x) (cwV 1 hts gL_law_X4_pass rfl rfl rfl (by decide +kernel) ⟨Nat.le_of_ble_eq_true rfl, Nat.le_of_ble_eq_true rfl⟩) ⟨pM_fb, wb_recv hK hM (r := 0) (Nat.le_of_ble_eq_true rfl) (ci := 5) rfl rfl, fun U hU hV => ⟨rfl, pM_of hK hV.alike hU hM⟩⟩ rfl rfl hl.1 rfl (lv_room (Nat.le_of_ble_eq_true rfl)) dL_law_1025 ⟨by show _ ≤ (601024 : Nat); omega, by show _ ≤ (7293034 : Nat); omega⟩) hS (fun q _ h => (hAM q h).1) (fun q h => (hAM q h).1) (fun r_8 u8 t8 H locs ht8 hvm8 hw8 hB8 hz8 hk8 hS => ?_)
    rw [ht8] at hB8
    have hsz := Nat.le_trans hsz hz8
    have hR1 := hR1.keptA (A1 := AM) (fun q hq => hq.2.1) hk8
    have hO2 := hO2.keptA (A1 := AM) hoo.2.2 hk8
    try simp only [sel_n hk] at hB8
    have hM : wP D AM lvM adM (ctM cs adM g L B n b (kIn 1 24 x)) H := hB8
    refine lv_istore (lv' := [(6, .int r_8), (5, .int r_9), (0, .ref b9), (1, .ref (ad 0)), (2, .ref (adM 0)), (3, .ref oo), (4, .int (nI (5 * k9)))]) hx hb dL_law_1028 hl (by decide) rfl (fun ls hl => ?_)
    refine lv_aload_n hx hb dL_law_1030 rfl (lv_at hl 4 rfl) ?_
    refine va_calli (va_runV (As := []) (rest := []) ⟨hx, hb, hml, hown, hts⟩ (c_X4_thrown l D cs AM adM g L B n b (kIn 1 24 x) hn hb5) (cwV 0 hts gL_law_X4_thrown rfl rfl rfl (by decide +kernel) ⟨Nat.le_of_ble_eq_true rfl, Nat.le_of_ble_eq_true rfl⟩) ⟨pM_fb, wb_recv hK hM (r := 0) (Nat.le_of_ble_eq_true rfl) (ci := 5) rfl rfl, fun U hU hV => ⟨rfl, pM_of hK hV.alike hU hM⟩⟩ rfl rfl hl.1 rfl (lv_room (Nat.le_of_ble_eq_true rfl)) dL_law_1031 ⟨by show _ ≤ (601024 : Nat); omega, by show _ ≤ (7293034 : Nat); omega⟩) hS (fun _ _ h => h.elim) (fun _ h => h.elim) (fun r_7 u7 t7 H locs ht7 hvm7 hw7 hB7 hz7 hk7 hS => ?_)
    have hsz := Nat.le_trans hsz hz7
    have hR1 := hR1.keptA (A1 := fun _ => False) (fun _ _ h => h) hk7
    have hM := hM.kept hk7
    have hO2 := hO2.keptA (A1 := fun _ => False) (fun h => h) hk7
    obtain rfl : r_7 = r_9 := hw7.trans hw.symm
    refine lv_iload hx hb dL_law_1034 (lv_at hl 1 rfl) ?_
    refine lv_icmp_eq (tgt := 1041) hx hb dL_law_1036 (by decide) (fun _ => ?_) (fun hno => absurd rfl hno)
    refine lv_iload hx hb dL_law_1041 (lv_at hl 1 rfl) ?_
    refine lv_if_ne (tgt := 1058) hx hb dL_law_1043 (by decide) (fun _ => ?_) (fun hno => absurd hno hne9)
    refine lv_goto (tgt := 1205) hx hb dL_law_1058 (by decide) ?_
    refine W.widen (k := 30 + 2 * (k9 + 1)) (n := 300 + 30 * (k9 + 1)) (by omega) (by omega) ?_
    exact KK _ _ _ g L B n b ⟨hR1, ⟨_, hM⟩, hO2, hIv, (by omega), hsz, hS, lv_sub hl [2, 3, 4, 5, 6] rfl⟩

set_option maxHeartbeats 4000000 in
set_option maxRecDepth 100000 in
theorem law_holds {p : Program} {l : Launch} {e : Env} {s : State} {m : MethodId} {below : List Frame} {meth : Method} {c : Code} {b9 L9 : Nat} {xs : Nat → Int32} {D : va_G} {cs : Nat → ClassId} {z0 : Nat} {sa : Nat → Nat} {AM : Nat → Prop} {adM : Nat → Nat} {o oo sz1 : Nat} (hst : l.stackTraces = false) (hL9 : L9 ≤ 2560) (C0 : lw_At p s m meth c b9 L9 xs) (hE0 : Ev D cs (fun q => s.heap.size ≤ q) z0 sa s) (hnc : va_Nc xS xA s ∧ va_Nc xS xI s ∧ va_Nc xA xI s) (hAM : ∀ q, AM q → s.heap.size ≤ q ∧ q < sz1) (hoo : s.heap.size ≤ oo ∧ oo < sz1 ∧ ¬ AM oo) {g : Nat → Int32} {L B : Nat → Nat → Int32} {n b k9 : Nat} {H : Heap} {locs : List Loc} {ls : Array Slot} (hk9 : 5 * k9 + 5 ≤ L9) (hI : LI D cs s AM adM z0 o oo sz1 b9 g L B n b k9 (5 * k9) H locs ls) (KK : ∀ (H1 : Heap) (locs1 : List Loc) (ls1 : Array Slot) (g : Nat → Int32) (L B : Nat → Nat → Int32) (n b : Nat), LI D cs s AM adM z0 o oo sz1 b9 g L B n b (k9 + 1) (5 * k9) H1 locs1 ls1 → W p l e room_1 s m #[Value.ref b9] below meth c H1 locs1 (30 + 2 * (k9 + 1)) (300 + 30 * (k9 + 1)) (lw_Z below #[Value.ref b9] s) (F0 m 1205 ls1 [])) : W p l e room_1 s m #[Value.ref b9] below meth c H locs (30 + 2 * k9) (300 + 30 * k9) (lw_Z below #[Value.ref b9] s) (F0 m 1061 ls []) := by
  obtain ⟨hR, ⟨t, hM⟩, hO, hIv, hm9, hsz, hS, hl⟩ := hI
  obtain ⟨hx, hb0, hr, hml, hown0, hts0, hX, hbl, hlocks, hgv⟩ := C0
  have hb : c.code = cL_law := hb0
  have hown : s.vm.findClass RL = some m.cls := hown0
  have hts : ∀ w ∈ wsL_law, w.before #[Value.ref b9] s = true := fun w h => hts0 w (wsL_law_in w h)
  have hbA : ¬ (fun q : Nat => s.heap.size ≤ q) b9 := Nat.not_le.mpr hbl
  have hK := hE0.1
  have hbd := hIv.bd
  have hn := hIv.1
  have hb5 := hIv.2.1
  have dv0 := dv_ok hbd (r := 0) (by decide)
  have dvs := dv_ok hbd hbd.2.2.2.2.2.1
  obtain ⟨ad, y1, y2, N1, N2, nd, gv, ho, hN1, hN2, hW⟩ := hR
  subst ho
  obtain ⟨x, ex⟩ : ∃ x, x = xs (5 * k9 + 1) := ⟨_, rfl⟩
  refine lv_aload_n hx hb dL_law_1061 rfl (lv_at hl 1 rfl) ?_
  refine lv_aload_n hx hb dL_law_1062 rfl (lv_at hl 0 rfl) ?_
  refine lv_iload hx hb dL_law_1063 (lv_at hl 4 rfl) ?_
  refine lv_iconst (v := 1) hx hb dL_law_1065 (by decide) ?_
  refine lv_iadd hx hb dL_law_1066 ?_
  rw [show nI (5 * k9) + 1 = nI (5 * k9 + 1) from nI_add _ _]
  refine va_sld hx hb hX hbl hbA hS (vp_in_nI (by omega) (by omega)) dL_law_1067 ?_
  rw [nI_clamp (by omega), ← ex]
  refine lv_aload_n hx hb dL_law_1068 rfl (lv_at hl 3 rfl) ?_
  refine vx_calli (vx_runSX (hh := [(0, 16, 19, 13)]) (As := [.ref (ad 0), .int x, .ref oo]) (rest := []) ⟨hx, hb, hml, hown, hts⟩ (c_L_holds l hst D cs (AC s.heap.size AM oo) z0 sa ad g L B n b y1 y2 N1 N2 nd gv hn hb5 hN1 hN2 oo (fun h => h.2.2 rfl) x hbd) (vx_cwSW 3 hts gL_law_L_holds rfl rfl rfl (by decide +kernel) ⟨Nat.le_of_ble_eq_true rfl, Nat.le_of_ble_eq_true rfl⟩) ⟨pH_fb, fun U hU hV => ⟨rfl, ⟨hE0.law hS hsz hAM hoo hV hU, by rw [hU]; exact hW⟩, by rw [hU]; exact hO, hnc.1.moved hV.alike, hnc.2.1.moved hV.alike, hnc.2.2.moved hV.alike⟩⟩ rfl rfl hl.1 rfl (lv_room (Nat.le_of_ble_eq_true rfl)) dL_law_1069 ⟨by show _ ≤ (601024 : Nat); omega, by show _ ≤ (7293034 : Nat); omega⟩) hS (fun q _ h => h.elim (fun z => z.1) (fun z => by rw [z]; exact hoo.1)) (fun q h => h.elim (fun z => z.1) (fun z => by rw [z]; exact hoo.1)) (fun _ _ h => h.elim) (fun E9 ce9 q9 u9 t9 H9 locs9 ht9 hvm9 hpx9 hbx9 hz9 hk9 hS9 hc9 hv9 hl9 => hpx9.elim) (fun r_9 u t9 H locs ht hvm hw hB hz1 hk1 hS => ?_)
  rw [ht] at hB
  have hsz := Nat.le_trans hsz hz1
  have hM := hM.keptA (A1 := fun q => (AC s.heap.size AM oo) q ∨ q = oo) (fun q hq z => z.elim (fun w => w.2.1 hq) (fun w => hoo.2.2 (by rw [← w]; exact hq))) hk1
  by_cases hk : kIn 0 2 x = 0
  ·
    obtain rfl : r_9 = 0 := hw.trans hk
    by_cases hP : mLack g L B n b x (mPool L 1 n) = 0
    ·
      obtain ⟨hR1, f9, hf9, hO1⟩ := (hB.1 hk).1 hP
      refine lv_istore (lv' := [(5, .int 0), (0, .ref b9), (1, .ref (ad 0)), (2, .ref (adM 0)), (3, .ref oo), (4, .int (nI (5 * k9)))]) hx hb dL_law_1072 hl (by decide) rfl (fun ls hl => ?_)
      refine lv_aload_n hx hb dL_law_1074 rfl (lv_at hl 3 rfl) ?_
      refine lv_aload_n hx hb dL_law_1075 rfl (lv_at hl 1 rfl) ?_
      refine lv_iload hx hb dL_law_1076 (lv_at hl 5 rfl) ?_
      refine lv_iconst (v := 1) hx hb dL_law_1078 (by decide) ?_
      refine lv_iadd hx hb dL_law_1079 ?_
      rw [show nI (5 * k9) + 1 = nI (5 * k9 + 1) from nI_add _ _]
      refine va_sld hx hb hX hbl hbA hS (vp_in_nI (by omega) (by omega)) dL_law_1080 ?_
      rw [nI_clamp (by omega), ← ex]
      refine va_calli (va_runV (As := [.int x]) (rest := []) ⟨hx, hb, hml, hown, hts⟩ (c_X4_holds l D cs AM adM g L B n b t hn hb5 x dv0 dvs) (cwV 1 hts gL_law_X4_holds rfl rfl rfl (by decide +kernel) ⟨Nat.le_of_ble_eq_true rfl, Nat.le_of_ble_eq_true rfl⟩) ⟨pM_fb, wb_recv hK hM (r := 0) (Nat.le_of_ble_eq_true rfl) (ci := 5) rfl rfl, fun U hU hV => ⟨rfl, pM_of hK hV.alike hU hM⟩⟩ rfl rfl hl.1 rfl (lv_room (Nat.le_of_ble_eq_true rfl)) dL_law_1081 ⟨by show _ ≤ (601024 : Nat); omega, by show _ ≤ (7293034 : Nat); omega⟩) hS (fun q _ h => (hAM q h).1) (fun q h => (hAM q h).1) (fun r_8 u8 t8 H locs ht8 hvm8 hw8 hB8 hz8 hk8 hS => ?_)
      rw [ht8] at hB8
      have hsz := Nat.le_trans hsz hz8
      have hR1 := hR1.keptA (A1 := AM) (fun q hq => hq.2.1) hk8
      have hO1 := hO1.keptA (A1 := AM) (fun q hq z => hoo.2.2 (by rw [← hq]; exact z)) hk8
      rw [hk] at hB8
      try simp only [sel_0] at hB8
      have hM : wP D AM lvM adM (ctM cs adM g L B n b 0) H := hB8
      obtain rfl : r_8 = 1 := by rcases hw8 with h | h; exact h.1; exact absurd ⟨hk, hP⟩ h.2
      refine lv_istore (lv' := [(6, .int 1), (5, .int 0), (0, .ref b9), (1, .ref (ad 0)), (2, .ref (adM 0)), (3, .ref oo), (4, .int (nI (5 * k9)))]) hx hb dL_law_1084 hl (by decide) rfl (fun ls hl => ?_)
      refine lv_aload_n hx hb dL_law_1086 rfl (lv_at hl 4 rfl) ?_
      refine va_calli (va_runV (As := []) (rest := []) ⟨hx, hb, hml, hown, hts⟩ (c_X4_thrown l D cs AM adM g L B n b 0 hn hb5) (cwV 0 hts gL_law_X4_thrown rfl rfl rfl (by decide +kernel) ⟨Nat.le_of_ble_eq_true rfl, Nat.le_of_ble_eq_true rfl⟩) ⟨pM_fb, wb_recv hK hM (r := 0) (Nat.le_of_ble_eq_true rfl) (ci := 5) rfl rfl, fun U hU hV => ⟨rfl, pM_of hK hV.alike hU hM⟩⟩ rfl rfl hl.1 rfl (lv_room (Nat.le_of_ble_eq_true rfl)) dL_law_1087 ⟨by show _ ≤ (601024 : Nat); omega, by show _ ≤ (7293034 : Nat); omega⟩) hS (fun _ _ h => h.elim) (fun _ h => h.elim) (fun r_7 u7 t7 H locs ht7 hvm7 hw7 hB7 hz7 hk7 hS => ?_)
      have hsz := Nat.le_trans hsz hz7
      have hR1 := hR1.keptA (A1 := fun _ => False) (fun _ _ h => h) hk7
      have hM := hM.kept hk7
      have hO1 := hO1.keptA (A1 := fun _ => False) (fun _ _ h => h) hk7
      obtain rfl : r_7 = 0 := hw7
      refine lv_iload hx hb dL_law_1090 (lv_at hl 1 rfl) ?_
      refine lv_icmp_eq (tgt := 1097) hx hb dL_law_1092 (by decide) (fun _ => ?_) (fun hno => absurd rfl hno)
      refine lv_iload hx hb dL_law_1097 (lv_at hl 1 rfl) ?_
      refine lv_if_ne (tgt := 1121) hx hb dL_law_1099 (by decide) (fun hno => absurd rfl hno) (fun _ => ?_)
      refine lv_aload_n hx hb dL_law_1102 rfl (lv_at hl 5 rfl) ?_
      refine lv_iconst (v := 0) hx hb dL_law_1103 (by decide) ?_
      refine wb_lald hx hb hK hO1 0 rfl 4 rfl rfl rfl 0 nI_0.symm (by decide) (by decide) dL_law_1104 ?_
      rw [hf9]
      refine lv_iload hx hb dL_law_1105 (lv_at hl 0 rfl) ?_
      refine lv_if_eq (tgt := 1114) hx hb dL_law_1107 (by decide) (fun c_1 => ?_) (fun c_1 => ?_)
      · -- 1 eq 0 : True
        exact absurd c_1 (by decide)
      · -- 1 eq 0 : False
        refine lv_lconst (v := 1) hx hb dL_law_1110 (by decide) ?_
        refine lv_goto (tgt := 1115) hx hb dL_law_1111 (by decide) ?_
        refine W.lcmp hx hb dL_law_1115 ?_
        refine lv_if_eq (tgt := 1121) hx hb dL_law_1116 (by decide) (fun _ => ?_) (fun hno => absurd ((lg0_eq _ _).mpr rfl) hno)
        refine lv_goto (tgt := 1205) hx hb dL_law_1121 (by decide) ?_
        refine W.widen (k := 30 + 2 * (k9 + 1)) (n := 300 + 30 * (k9 + 1)) (by omega) (by omega) ?_
        exact KK _ _ _ g L B n b ⟨hR1, ⟨_, hM⟩, ⟨f9, trivial, hO1⟩, hIv, (by omega), hsz, hS, lv_sub hl [2, 3, 4, 5, 6] rfl⟩
    ·
      obtain ⟨hR1, f9, hf9, hO1⟩ := (hB.1 hk).2 hP
      refine lv_istore (lv' := [(5, .int 0), (0, .ref b9), (1, .ref (ad 0)), (2, .ref (adM 0)), (3, .ref oo), (4, .int (nI (5 * k9)))]) hx hb dL_law_1072 hl (by decide) rfl (fun ls hl => ?_)
      refine lv_aload_n hx hb dL_law_1074 rfl (lv_at hl 3 rfl) ?_
      refine lv_aload_n hx hb dL_law_1075 rfl (lv_at hl 1 rfl) ?_
      refine lv_iload hx hb dL_law_1076 (lv_at hl 5 rfl) ?_
      refine lv_iconst (v := 1) hx hb dL_law_1078 (by decide) ?_
      refine lv_iadd hx hb dL_law_1079 ?_
      rw [show nI (5 * k9) + 1 = nI (5 * k9 + 1) from nI_add _ _]
      refine va_sld hx hb hX hbl hbA hS (vp_in_nI (by omega) (by omega)) dL_law_1080 ?_
      rw [nI_clamp (by omega), ← ex]
      refine va_calli (va_runV (As := [.int x]) (rest := []) ⟨hx, hb, hml, hown, hts⟩ (c_X4_holds l D cs AM adM g L B n b t hn hb5 x dv0 dvs) (cwV 1 hts gL_law_X4_holds rfl rfl rfl (by decide +kernel) ⟨Nat.le_of_ble_eq_true rfl, Nat.le_of_ble_eq_true rfl⟩) ⟨pM_fb, wb_recv hK hM (r := 0) (Nat.le_of_ble_eq_true rfl) (ci := 5) rfl rfl, fun U hU hV => ⟨rfl, pM_of hK hV.alike hU hM⟩⟩ rfl rfl hl.1 rfl (lv_room (Nat.le_of_ble_eq_true rfl)) dL_law_1081 ⟨by show _ ≤ (601024 : Nat); omega, by show _ ≤ (7293034 : Nat); omega⟩) hS (fun q _ h => (hAM q h).1) (fun q h => (hAM q h).1) (fun r_8 u8 t8 H locs ht8 hvm8 hw8 hB8 hz8 hk8 hS => ?_)
      rw [ht8] at hB8
      have hsz := Nat.le_trans hsz hz8
      have hR1 := hR1.keptA (A1 := AM) (fun q hq => hq.2.1) hk8
      have hO1 := hO1.keptA (A1 := AM) (fun q hq z => hoo.2.2 (by rw [← hq]; exact z)) hk8
      rw [hk] at hB8
      try simp only [sel_0] at hB8
      have hM : wP D AM lvM adM (ctM cs adM g L B n b 0) H := hB8
      obtain rfl : r_8 = 0 := by rcases hw8 with h | h; exact absurd h.2.2 hP; exact h.1
      refine lv_istore (lv' := [(6, .int 0), (5, .int 0), (0, .ref b9), (1, .ref (ad 0)), (2, .ref (adM 0)), (3, .ref oo), (4, .int (nI (5 * k9)))]) hx hb dL_law_1084 hl (by decide) rfl (fun ls hl => ?_)
      refine lv_aload_n hx hb dL_law_1086 rfl (lv_at hl 4 rfl) ?_
      refine va_calli (va_runV (As := []) (rest := []) ⟨hx, hb, hml, hown, hts⟩ (c_X4_thrown l D cs AM adM g L B n b 0 hn hb5) (cwV 0 hts gL_law_X4_thrown rfl rfl rfl (by decide +kernel) ⟨Nat.le_of_ble_eq_true rfl, Nat.le_of_ble_eq_true rfl⟩) ⟨pM_fb, wb_recv hK hM (r := 0) (Nat.le_of_ble_eq_true rfl) (ci := 5) rfl rfl, fun U hU hV => ⟨rfl, pM_of hK hV.alike hU hM⟩⟩ rfl rfl hl.1 rfl (lv_room (Nat.le_of_ble_eq_true rfl)) dL_law_1087 ⟨by show _ ≤ (601024 : Nat); omega, by show _ ≤ (7293034 : Nat); omega⟩) hS (fun _ _ h => h.elim) (fun _ h => h.elim) (fun r_7 u7 t7 H locs ht7 hvm7 hw7 hB7 hz7 hk7 hS => ?_)
      have hsz := Nat.le_trans hsz hz7
      have hR1 := hR1.keptA (A1 := fun _ => False) (fun _ _ h => h) hk7
      have hM := hM.kept hk7
      have hO1 := hO1.keptA (A1 := fun _ => False) (fun _ _ h => h) hk7
      obtain rfl : r_7 = 0 := hw7
      refine lv_iload hx hb dL_law_1090 (lv_at hl 1 rfl) ?_
      refine lv_icmp_eq (tgt := 1097) hx hb dL_law_1092 (by decide) (fun _ => ?_) (fun hno => absurd rfl hno)
      refine lv_iload hx hb dL_law_1097 (lv_at hl 1 rfl) ?_
      refine lv_if_ne (tgt := 1121) hx hb dL_law_1099 (by decide) (fun hno => absurd rfl hno) (fun _ => ?_)
      refine lv_aload_n hx hb dL_law_1102 rfl (lv_at hl 5 rfl) ?_
      refine lv_iconst (v := 0) hx hb dL_law_1103 (by decide) ?_
      refine wb_lald hx hb hK hO1 0 rfl 4 rfl rfl rfl 0 nI_0.symm (by decide) (by decide) dL_law_1104 ?_
      rw [hf9]
      refine lv_iload hx hb dL_law_1105 (lv_at hl 0 rfl) ?_
      refine lv_if_eq (tgt := 1114) hx hb dL_law_1107 (by decide) (fun c_2 => ?_) (fun c_2 => ?_)
      · -- 0 eq 0 : True
        refine lv_lconst (v := 0) hx hb dL_law_1114 (by decide) ?_
        refine W.lcmp hx hb dL_law_1115 ?_
        refine lv_if_eq (tgt := 1121) hx hb dL_law_1116 (by decide) (fun _ => ?_) (fun hno => absurd ((lg0_eq _ _).mpr rfl) hno)
        refine lv_goto (tgt := 1205) hx hb dL_law_1121 (by decide) ?_
        refine W.widen (k := 30 + 2 * (k9 + 1)) (n := 300 + 30 * (k9 + 1)) (by omega) (by omega) ?_
        exact KK _ _ _ g L B n b ⟨hR1, ⟨_, hM⟩, ⟨f9, trivial, hO1⟩, hIv, (by omega), hsz, hS, lv_sub hl [2, 3, 4, 5, 6] rfl⟩
      · -- 0 eq 0 : False
        exact absurd c_2 (by decide)
  ·
    have hne9 : ¬ r_9 = 0 := fun z => hk (hw.symm.trans z)
    obtain ⟨hR1, hO2⟩ := hB.2 hk
    refine lv_istore (lv' := [(5, .int r_9), (0, .ref b9), (1, .ref (ad 0)), (2, .ref (adM 0)), (3, .ref oo), (4, .int (nI (5 * k9)))]) hx hb dL_law_1072 hl (by decide) rfl (fun ls hl => ?_)
    refine lv_aload_n hx hb dL_law_1074 rfl (lv_at hl 3 rfl) ?_
    refine lv_aload_n hx hb dL_law_1075 rfl (lv_at hl 1 rfl) ?_
    refine lv_iload hx hb dL_law_1076 (lv_at hl 5 rfl) ?_
    refine lv_iconst (v := 1) hx hb dL_law_1078 (by decide) ?_
    refine lv_iadd hx hb dL_law_1079 ?_
    rw [show nI (5 * k9) + 1 = nI (5 * k9 + 1) from nI_add _ _]
    refine va_sld hx hb hX hbl hbA hS (vp_in_nI (by omega) (by omega)) dL_law_1080 ?_
    rw [nI_clamp (by omega), ← ex]
    refine va_calli (va_runV (As := [.int x]) (rest := []) ⟨hx, hb, hml, hown, hts⟩ (c_X4_holds l D cs AM adM g L B n b t hn hb5 x dv0 dvs) (cwV 1 hts gL_law_X4_holds rfl rfl rfl (by decide +kernel) ⟨Nat.le_of_ble_eq_true rfl, Nat.le_of_ble_eq_true rfl⟩) ⟨pM_fb, wb_recv hK hM (r := 0) (Nat.le_of_ble_eq_true rfl) (ci := 5) rfl rfl, fun U hU hV => ⟨rfl, pM_of hK hV.alike hU hM⟩⟩ rfl rfl hl.1 rfl (lv_room (Nat.le_of_ble_eq_true rfl)) dL_law_1081 ⟨by show _ ≤ (601024 : Nat); omega, by show _ ≤ (7293034 : Nat); omega⟩) hS (fun q _ h => (hAM q h).1) (fun q h => (hAM q h).1) (fun r_8 u8 t8 H locs ht8 hvm8 hw8 hB8 hz8 hk8 hS => ?_)
    rw [ht8] at hB8
    have hsz := Nat.le_trans hsz hz8
    have hR1 := hR1.keptA (A1 := AM) (fun q hq => hq.2.1) hk8
    have hO2 := hO2.keptA (A1 := AM) hoo.2.2 hk8
    try simp only [sel_n hk] at hB8
    have hM : wP D AM lvM adM (ctM cs adM g L B n b (kIn 0 2 x)) H := hB8
    refine lv_istore (lv' := [(6, .int r_8), (5, .int r_9), (0, .ref b9), (1, .ref (ad 0)), (2, .ref (adM 0)), (3, .ref oo), (4, .int (nI (5 * k9)))]) hx hb dL_law_1084 hl (by decide) rfl (fun ls hl => ?_)
    refine lv_aload_n hx hb dL_law_1086 rfl (lv_at hl 4 rfl) ?_
    refine va_calli (va_runV (As := []) (rest := []) ⟨hx, hb, hml, hown, hts⟩ (c_X4_thrown l D cs AM adM g L B n b (kIn 0 2 x) hn hb5) (cwV 0 hts gL_law_X4_thrown rfl rfl rfl (by decide +kernel) ⟨Nat.le_of_ble_eq_true rfl, Nat.le_of_ble_eq_true rfl⟩) ⟨pM_fb, wb_recv hK hM (r := 0) (Nat.le_of_ble_eq_true rfl) (ci := 5) rfl rfl, fun U hU hV => ⟨rfl, pM_of hK hV.alike hU hM⟩⟩ rfl rfl hl.1 rfl (lv_room (Nat.le_of_ble_eq_true rfl)) dL_law_1087 ⟨by show _ ≤ (601024 : Nat); omega, by show _ ≤ (7293034 : Nat); omega⟩) hS (fun _ _ h => h.elim) (fun _ h => h.elim) (fun r_7 u7 t7 H locs ht7 hvm7 hw7 hB7 hz7 hk7 hS => ?_)
    have hsz := Nat.le_trans hsz hz7
    have hR1 := hR1.keptA (A1 := fun _ => False) (fun _ _ h => h) hk7
    have hM := hM.kept hk7
    have hO2 := hO2.keptA (A1 := fun _ => False) (fun h => h) hk7
    obtain rfl : r_7 = r_9 := hw7.trans hw.symm
    refine lv_iload hx hb dL_law_1090 (lv_at hl 1 rfl) ?_
    refine lv_icmp_eq (tgt := 1097) hx hb dL_law_1092 (by decide) (fun _ => ?_) (fun hno => absurd rfl hno)
    refine lv_iload hx hb dL_law_1097 (lv_at hl 1 rfl) ?_
    refine lv_if_ne (tgt := 1121) hx hb dL_law_1099 (by decide) (fun _ => ?_) (fun hno => absurd hno hne9)
    refine lv_goto (tgt := 1205) hx hb dL_law_1121 (by decide) ?_
    refine W.widen (k := 30 + 2 * (k9 + 1)) (n := 300 + 30 * (k9 + 1)) (by omega) (by omega) ?_
    exact KK _ _ _ g L B n b ⟨hR1, ⟨_, hM⟩, hO2, hIv, (by omega), hsz, hS, lv_sub hl [2, 3, 4, 5, 6] rfl⟩

set_option maxHeartbeats 4000000 in
set_option maxRecDepth 100000 in
theorem law_lacking {p : Program} {l : Launch} {e : Env} {s : State} {m : MethodId} {below : List Frame} {meth : Method} {c : Code} {b9 L9 : Nat} {xs : Nat → Int32} {D : va_G} {cs : Nat → ClassId} {z0 : Nat} {sa : Nat → Nat} {AM : Nat → Prop} {adM : Nat → Nat} {o oo sz1 : Nat} (hst : l.stackTraces = false) (hL9 : L9 ≤ 2560) (C0 : lw_At p s m meth c b9 L9 xs) (hE0 : Ev D cs (fun q => s.heap.size ≤ q) z0 sa s) (hnc : va_Nc xS xA s ∧ va_Nc xS xI s ∧ va_Nc xA xI s) (hAM : ∀ q, AM q → s.heap.size ≤ q ∧ q < sz1) (hoo : s.heap.size ≤ oo ∧ oo < sz1 ∧ ¬ AM oo) {g : Nat → Int32} {L B : Nat → Nat → Int32} {n b k9 : Nat} {H : Heap} {locs : List Loc} {ls : Array Slot} (hk9 : 5 * k9 + 5 ≤ L9) (hI : LI D cs s AM adM z0 o oo sz1 b9 g L B n b k9 (5 * k9) H locs ls) (KK : ∀ (H1 : Heap) (locs1 : List Loc) (ls1 : Array Slot) (g : Nat → Int32) (L B : Nat → Nat → Int32) (n b : Nat), LI D cs s AM adM z0 o oo sz1 b9 g L B n b (k9 + 1) (5 * k9) H1 locs1 ls1 → W p l e room_1 s m #[Value.ref b9] below meth c H1 locs1 (30 + 2 * (k9 + 1)) (300 + 30 * (k9 + 1)) (lw_Z below #[Value.ref b9] s) (F0 m 1205 ls1 [])) : W p l e room_1 s m #[Value.ref b9] below meth c H locs (30 + 2 * k9) (300 + 30 * k9) (lw_Z below #[Value.ref b9] s) (F0 m 1124 ls []) := by
  obtain ⟨hR, ⟨t, hM⟩, hO, hIv, hm9, hsz, hS, hl⟩ := hI
  obtain ⟨hx, hb0, hr, hml, hown0, hts0, hX, hbl, hlocks, hgv⟩ := C0
  have hb : c.code = cL_law := hb0
  have hown : s.vm.findClass RL = some m.cls := hown0
  have hts : ∀ w ∈ wsL_law, w.before #[Value.ref b9] s = true := fun w h => hts0 w (wsL_law_in w h)
  have hbA : ¬ (fun q : Nat => s.heap.size ≤ q) b9 := Nat.not_le.mpr hbl
  have hK := hE0.1
  have hbd := hIv.bd
  have hn := hIv.1
  have hb5 := hIv.2.1
  have dv0 := dv_ok hbd (r := 0) (by decide)
  have dvs := dv_ok hbd hbd.2.2.2.2.2.1
  obtain ⟨ad, y1, y2, N1, N2, nd, gv, ho, hN1, hN2, hW⟩ := hR
  subst ho
  obtain ⟨x, ex⟩ : ∃ x, x = xs (5 * k9 + 1) := ⟨_, rfl⟩
  refine lv_aload_n hx hb dL_law_1124 rfl (lv_at hl 1 rfl) ?_
  refine lv_aload_n hx hb dL_law_1125 rfl (lv_at hl 0 rfl) ?_
  refine lv_iload hx hb dL_law_1126 (lv_at hl 4 rfl) ?_
  refine lv_iconst (v := 1) hx hb dL_law_1128 (by decide) ?_
  refine lv_iadd hx hb dL_law_1129 ?_
  rw [show nI (5 * k9) + 1 = nI (5 * k9 + 1) from nI_add _ _]
  refine va_sld hx hb hX hbl hbA hS (vp_in_nI (by omega) (by omega)) dL_law_1130 ?_
  rw [nI_clamp (by omega), ← ex]
  refine lv_aload_n hx hb dL_law_1131 rfl (lv_at hl 3 rfl) ?_
  refine vx_calli (vx_runSX (hh := [(0, 8, 11, 13)]) (As := [.ref (ad 0), .int x, .ref oo]) (rest := []) ⟨hx, hb, hml, hown, hts⟩ (c_L_lacking l hst D cs (AC s.heap.size AM oo) z0 sa ad g L B n b y1 y2 N1 N2 nd gv hn hb5 hN1 hN2 oo (fun h => h.2.2 rfl) x hbd) (vx_cwSW 3 hts gL_law_L_lacking rfl rfl rfl (by decide +kernel) ⟨Nat.le_of_ble_eq_true rfl, Nat.le_of_ble_eq_true rfl⟩) ⟨pH_fb, fun U hU hV => ⟨rfl, ⟨hE0.law hS hsz hAM hoo hV hU, by rw [hU]; exact hW⟩, by rw [hU]; exact hO, hnc.1.moved hV.alike, hnc.2.1.moved hV.alike, hnc.2.2.moved hV.alike⟩⟩ rfl rfl hl.1 rfl (lv_room (Nat.le_of_ble_eq_true rfl)) dL_law_1132 ⟨by show _ ≤ (601024 : Nat); omega, by show _ ≤ (7293034 : Nat); omega⟩) hS (fun q _ h => h.elim (fun z => z.1) (fun z => by rw [z]; exact hoo.1)) (fun q h => h.elim (fun z => z.1) (fun z => by rw [z]; exact hoo.1)) (fun _ _ h => h.elim) (fun E9 ce9 q9 u9 t9 H9 locs9 ht9 hvm9 hpx9 hbx9 hz9 hk9 hS9 hc9 hv9 hl9 => hpx9.elim) (fun r_9 u t9 H locs ht hvm hw hB hz1 hk1 hS => ?_)
  rw [ht] at hB
  have hsz := Nat.le_trans hsz hz1
  have hM := hM.keptA (A1 := fun q => (AC s.heap.size AM oo) q ∨ q = oo) (fun q hq z => z.elim (fun w => w.2.1 hq) (fun w => hoo.2.2 (by rw [← w]; exact hq))) hk1
  by_cases hk : kIn 0 2 x = 0
  ·
    obtain rfl : r_9 = 0 := hw.trans hk
    obtain ⟨hR1, f9, hf9, hO1⟩ := hB.1 hk
    refine lv_istore (lv' := [(5, .int 0), (0, .ref b9), (1, .ref (ad 0)), (2, .ref (adM 0)), (3, .ref oo), (4, .int (nI (5 * k9)))]) hx hb dL_law_1135 hl (by decide) rfl (fun ls hl => ?_)
    refine lv_aload_n hx hb dL_law_1137 rfl (lv_at hl 3 rfl) ?_
    refine lv_aload_n hx hb dL_law_1138 rfl (lv_at hl 1 rfl) ?_
    refine lv_iload hx hb dL_law_1139 (lv_at hl 5 rfl) ?_
    refine lv_iconst (v := 1) hx hb dL_law_1141 (by decide) ?_
    refine lv_iadd hx hb dL_law_1142 ?_
    rw [show nI (5 * k9) + 1 = nI (5 * k9 + 1) from nI_add _ _]
    refine va_sld hx hb hX hbl hbA hS (vp_in_nI (by omega) (by omega)) dL_law_1143 ?_
    rw [nI_clamp (by omega), ← ex]
    refine va_calll (va_runV (As := [.int x]) (rest := []) ⟨hx, hb, hml, hown, hts⟩ (c_X4_lacking l D cs AM adM g L B n b t hn hb5 x dv0 dvs) (cwV 1 hts gL_law_X4_lacking rfl rfl rfl (by decide +kernel) ⟨Nat.le_of_ble_eq_true rfl, Nat.le_of_ble_eq_true rfl⟩) ⟨pM_fb, wb_recv hK hM (r := 0) (Nat.le_of_ble_eq_true rfl) (ci := 5) rfl rfl, fun U hU hV => ⟨rfl, pM_of hK hV.alike hU hM⟩⟩ rfl rfl hl.1 rfl (lv_room (Nat.le_of_ble_eq_true rfl)) dL_law_1144 ⟨by show _ ≤ (601024 : Nat); omega, by show _ ≤ (7293034 : Nat); omega⟩) hS (fun q _ h => (hAM q h).1) (fun q h => (hAM q h).1) (fun r_8 u8 t8 H locs ht8 hvm8 hw8 hB8 hz8 hk8 hS => ?_)
    rw [ht8] at hB8
    have hsz := Nat.le_trans hsz hz8
    have hR1 := hR1.keptA (A1 := AM) (fun q hq => hq.2.1) hk8
    have hO1 := hO1.keptA (A1 := AM) (fun q hq z => hoo.2.2 (by rw [← hq]; exact z)) hk8
    rw [hk] at hB8
    try simp only [sel_0] at hB8
    have hM : wP D AM lvM adM (ctM cs adM g L B n b 0) H := hB8
    obtain rfl : r_8 = mLack g L B n b x (mPool L 1 n) := by rw [hw8, hk]; rfl
    refine lv_lstore (lv' := [(6, .long (mLack g L B n b x (mPool L 1 n))), (5, .int 0), (0, .ref b9), (1, .ref (ad 0)), (2, .ref (adM 0)), (3, .ref oo), (4, .int (nI (5 * k9)))]) hx hb dL_law_1147 hl (by decide) rfl (fun ls hl => ?_)
    refine lv_aload_n hx hb dL_law_1149 rfl (lv_at hl 4 rfl) ?_
    refine va_calli (va_runV (As := []) (rest := []) ⟨hx, hb, hml, hown, hts⟩ (c_X4_thrown l D cs AM adM g L B n b 0 hn hb5) (cwV 0 hts gL_law_X4_thrown rfl rfl rfl (by decide +kernel) ⟨Nat.le_of_ble_eq_true rfl, Nat.le_of_ble_eq_true rfl⟩) ⟨pM_fb, wb_recv hK hM (r := 0) (Nat.le_of_ble_eq_true rfl) (ci := 5) rfl rfl, fun U hU hV => ⟨rfl, pM_of hK hV.alike hU hM⟩⟩ rfl rfl hl.1 rfl (lv_room (Nat.le_of_ble_eq_true rfl)) dL_law_1150 ⟨by show _ ≤ (601024 : Nat); omega, by show _ ≤ (7293034 : Nat); omega⟩) hS (fun _ _ h => h.elim) (fun _ h => h.elim) (fun r_7 u7 t7 H locs ht7 hvm7 hw7 hB7 hz7 hk7 hS => ?_)
    have hsz := Nat.le_trans hsz hz7
    have hR1 := hR1.keptA (A1 := fun _ => False) (fun _ _ h => h) hk7
    have hM := hM.kept hk7
    have hO1 := hO1.keptA (A1 := fun _ => False) (fun _ _ h => h) hk7
    obtain rfl : r_7 = 0 := hw7
    refine lv_iload hx hb dL_law_1153 (lv_at hl 1 rfl) ?_
    refine lv_icmp_eq (tgt := 1160) hx hb dL_law_1155 (by decide) (fun _ => ?_) (fun hno => absurd rfl hno)
    refine lv_iload hx hb dL_law_1160 (lv_at hl 1 rfl) ?_
    refine lv_if_ne (tgt := 1176) hx hb dL_law_1162 (by decide) (fun hno => absurd rfl hno) (fun _ => ?_)
    refine lv_aload_n hx hb dL_law_1165 rfl (lv_at hl 5 rfl) ?_
    refine lv_iconst (v := 0) hx hb dL_law_1166 (by decide) ?_
    refine wb_lald hx hb hK hO1 0 rfl 4 rfl rfl rfl 0 nI_0.symm (by decide) (by decide) dL_law_1167 ?_
    rw [hf9]
    refine lv_lload hx hb dL_law_1168 (lv_at hl 0 rfl) ?_
    refine W.lcmp hx hb dL_law_1170 ?_
    refine lv_if_eq (tgt := 1176) hx hb dL_law_1171 (by decide) (fun _ => ?_) (fun hno => absurd ((lg0_eq _ _).mpr rfl) hno)
    refine lv_goto (tgt := 1205) hx hb dL_law_1176 (by decide) ?_
    refine W.widen (k := 30 + 2 * (k9 + 1)) (n := 300 + 30 * (k9 + 1)) (by omega) (by omega) ?_
    exact KK _ _ _ g L B n b ⟨hR1, ⟨_, hM⟩, ⟨f9, trivial, hO1⟩, hIv, (by omega), hsz, hS, lv_sub hl [2, 3, 4, 5, 6] rfl⟩
  ·
    have hne9 : ¬ r_9 = 0 := fun z => hk (hw.symm.trans z)
    obtain ⟨hR1, hO2⟩ := hB.2 hk
    refine lv_istore (lv' := [(5, .int r_9), (0, .ref b9), (1, .ref (ad 0)), (2, .ref (adM 0)), (3, .ref oo), (4, .int (nI (5 * k9)))]) hx hb dL_law_1135 hl (by decide) rfl (fun ls hl => ?_)
    refine lv_aload_n hx hb dL_law_1137 rfl (lv_at hl 3 rfl) ?_
    refine lv_aload_n hx hb dL_law_1138 rfl (lv_at hl 1 rfl) ?_
    refine lv_iload hx hb dL_law_1139 (lv_at hl 5 rfl) ?_
    refine lv_iconst (v := 1) hx hb dL_law_1141 (by decide) ?_
    refine lv_iadd hx hb dL_law_1142 ?_
    rw [show nI (5 * k9) + 1 = nI (5 * k9 + 1) from nI_add _ _]
    refine va_sld hx hb hX hbl hbA hS (vp_in_nI (by omega) (by omega)) dL_law_1143 ?_
    rw [nI_clamp (by omega), ← ex]
    refine va_calll (va_runV (As := [.int x]) (rest := []) ⟨hx, hb, hml, hown, hts⟩ (c_X4_lacking l D cs AM adM g L B n b t hn hb5 x dv0 dvs) (cwV 1 hts gL_law_X4_lacking rfl rfl rfl (by decide +kernel) ⟨Nat.le_of_ble_eq_true rfl, Nat.le_of_ble_eq_true rfl⟩) ⟨pM_fb, wb_recv hK hM (r := 0) (Nat.le_of_ble_eq_true rfl) (ci := 5) rfl rfl, fun U hU hV => ⟨rfl, pM_of hK hV.alike hU hM⟩⟩ rfl rfl hl.1 rfl (lv_room (Nat.le_of_ble_eq_true rfl)) dL_law_1144 ⟨by show _ ≤ (601024 : Nat); omega, by show _ ≤ (7293034 : Nat); omega⟩) hS (fun q _ h => (hAM q h).1) (fun q h => (hAM q h).1) (fun r_8 u8 t8 H locs ht8 hvm8 hw8 hB8 hz8 hk8 hS => ?_)
    rw [ht8] at hB8
    have hsz := Nat.le_trans hsz hz8
    have hR1 := hR1.keptA (A1 := AM) (fun q hq => hq.2.1) hk8
    have hO2 := hO2.keptA (A1 := AM) hoo.2.2 hk8
    try simp only [sel_n hk] at hB8
    have hM : wP D AM lvM adM (ctM cs adM g L B n b (kIn 0 2 x)) H := hB8
    refine lv_lstore (lv' := [(6, .long r_8), (5, .int r_9), (0, .ref b9), (1, .ref (ad 0)), (2, .ref (adM 0)), (3, .ref oo), (4, .int (nI (5 * k9)))]) hx hb dL_law_1147 hl (by decide) rfl (fun ls hl => ?_)
    refine lv_aload_n hx hb dL_law_1149 rfl (lv_at hl 4 rfl) ?_
    refine va_calli (va_runV (As := []) (rest := []) ⟨hx, hb, hml, hown, hts⟩ (c_X4_thrown l D cs AM adM g L B n b (kIn 0 2 x) hn hb5) (cwV 0 hts gL_law_X4_thrown rfl rfl rfl (by decide +kernel) ⟨Nat.le_of_ble_eq_true rfl, Nat.le_of_ble_eq_true rfl⟩) ⟨pM_fb, wb_recv hK hM (r := 0) (Nat.le_of_ble_eq_true rfl) (ci := 5) rfl rfl, fun U hU hV => ⟨rfl, pM_of hK hV.alike hU hM⟩⟩ rfl rfl hl.1 rfl (lv_room (Nat.le_of_ble_eq_true rfl)) dL_law_1150 ⟨by show _ ≤ (601024 : Nat); omega, by show _ ≤ (7293034 : Nat); omega⟩) hS (fun _ _ h => h.elim) (fun _ h => h.elim) (fun r_7 u7 t7 H locs ht7 hvm7 hw7 hB7 hz7 hk7 hS => ?_)
    have hsz := Nat.le_trans hsz hz7
    have hR1 := hR1.keptA (A1 := fun _ => False) (fun _ _ h => h) hk7
    have hM := hM.kept hk7
    have hO2 := hO2.keptA (A1 := fun _ => False) (fun h => h) hk7
    obtain rfl : r_7 = r_9 := hw7.trans hw.symm
    refine lv_iload hx hb dL_law_1153 (lv_at hl 1 rfl) ?_
    refine lv_icmp_eq (tgt := 1160) hx hb dL_law_1155 (by decide) (fun _ => ?_) (fun hno => absurd rfl hno)
    refine lv_iload hx hb dL_law_1160 (lv_at hl 1 rfl) ?_
    refine lv_if_ne (tgt := 1176) hx hb dL_law_1162 (by decide) (fun _ => ?_) (fun hno => absurd hno hne9)
    refine lv_goto (tgt := 1205) hx hb dL_law_1176 (by decide) ?_
    refine W.widen (k := 30 + 2 * (k9 + 1)) (n := 300 + 30 * (k9 + 1)) (by omega) (by omega) ?_
    exact KK _ _ _ g L B n b ⟨hR1, ⟨_, hM⟩, hO2, hIv, (by omega), hsz, hS, lv_sub hl [2, 3, 4, 5, 6] rfl⟩

set_option maxHeartbeats 4000000 in
set_option maxRecDepth 100000 in
theorem law_leastToAdd {p : Program} {l : Launch} {e : Env} {s : State} {m : MethodId} {below : List Frame} {meth : Method} {c : Code} {b9 L9 : Nat} {xs : Nat → Int32} {D : va_G} {cs : Nat → ClassId} {z0 : Nat} {sa : Nat → Nat} {AM : Nat → Prop} {adM : Nat → Nat} {o oo sz1 : Nat} (hst : l.stackTraces = false) (hL9 : L9 ≤ 2560) (C0 : lw_At p s m meth c b9 L9 xs) (hE0 : Ev D cs (fun q => s.heap.size ≤ q) z0 sa s) (hnc : va_Nc xS xA s ∧ va_Nc xS xI s ∧ va_Nc xA xI s) (hAM : ∀ q, AM q → s.heap.size ≤ q ∧ q < sz1) (hoo : s.heap.size ≤ oo ∧ oo < sz1 ∧ ¬ AM oo) {g : Nat → Int32} {L B : Nat → Nat → Int32} {n b k9 : Nat} {H : Heap} {locs : List Loc} {ls : Array Slot} (hk9 : 5 * k9 + 5 ≤ L9) (hI : LI D cs s AM adM z0 o oo sz1 b9 g L B n b k9 (5 * k9) H locs ls) (KK : ∀ (H1 : Heap) (locs1 : List Loc) (ls1 : Array Slot) (g : Nat → Int32) (L B : Nat → Nat → Int32) (n b : Nat), LI D cs s AM adM z0 o oo sz1 b9 g L B n b (k9 + 1) (5 * k9) H1 locs1 ls1 → W p l e room_1 s m #[Value.ref b9] below meth c H1 locs1 (30 + 2 * (k9 + 1)) (300 + 30 * (k9 + 1)) (lw_Z below #[Value.ref b9] s) (F0 m 1205 ls1 [])) : W p l e room_1 s m #[Value.ref b9] below meth c H locs (30 + 2 * k9) (300 + 30 * k9) (lw_Z below #[Value.ref b9] s) (F0 m 1179 ls []) := by
  obtain ⟨hR, ⟨t, hM⟩, hO, hIv, hm9, hsz, hS, hl⟩ := hI
  obtain ⟨hx, hb0, hr, hml, hown0, hts0, hX, hbl, hlocks, hgv⟩ := C0
  have hb : c.code = cL_law := hb0
  have hown : s.vm.findClass RL = some m.cls := hown0
  have hts : ∀ w ∈ wsL_law, w.before #[Value.ref b9] s = true := fun w h => hts0 w (wsL_law_in w h)
  have hbA : ¬ (fun q : Nat => s.heap.size ≤ q) b9 := Nat.not_le.mpr hbl
  have hK := hE0.1
  have hbd := hIv.bd
  have hn := hIv.1
  have hb5 := hIv.2.1
  have dv0 := dv_ok hbd (r := 0) (by decide)
  have dvs := dv_ok hbd hbd.2.2.2.2.2.1
  obtain ⟨ad, y1, y2, N1, N2, nd, gv, ho, hN1, hN2, hW⟩ := hR
  subst ho
  refine lv_aload_n hx hb dL_law_1179 rfl (lv_at hl 1 rfl) ?_
  refine va_calli (va_runV (As := []) (rest := []) ⟨hx, hb, hml, hown, hts⟩ (c_X3_leastToAdd l D cs (AC s.heap.size AM oo) z0 sa ad g L B n b y1 y2 N1 N2 nd gv hn hb5 hN1 hN2) (cwV 0 hts gL_law_X3_leastToAdd rfl rfl rfl (by decide +kernel) ⟨Nat.le_of_ble_eq_true rfl, Nat.le_of_ble_eq_true rfl⟩) ⟨pC_fb, wb_recv hK hW (r := 0) (lvC_0 (by decide)) (ci := 4) rfl rfl, fun U hU hV => ⟨rfl, hE0.law hS hsz hAM hoo hV hU, by rw [hU]; exact hW⟩⟩ rfl rfl hl.1 rfl (lv_room (Nat.le_of_ble_eq_true rfl)) dL_law_1180 ⟨by show _ ≤ (601024 : Nat); omega, by show _ ≤ (7293034 : Nat); omega⟩) hS (fun q _ h => h.1) (fun q h => h.1) (fun r_9 u t9 H locs ht hvm hw hB hz1 hk1 hS => ?_)
  have hsz := Nat.le_trans hsz hz1
  rw [ht] at hB
  have hR1 := hB
  have hM := hM.keptA (A1 := (AC s.heap.size AM oo)) (fun q hq z => z.2.1 hq) hk1
  have hO2 := hO.keptA (A1 := (AC s.heap.size AM oo)) (fun z => z.2.2 rfl) hk1
  obtain rfl : r_9 = mFound g L B n b (2 ^ n) := hw.trans (cLW_eq hbd nd gv)
  refine lv_aload_n hx hb dL_law_1183 rfl (lv_at hl 2 rfl) ?_
  refine va_calli (va_runV (As := []) (rest := [.int (mFound g L B n b (2 ^ n))]) ⟨hx, hb, hml, hown, hts⟩ (c_X4_leastToAdd l D cs AM adM g L B n b t hn hb5 dv0 dvs) (cwV 0 hts gL_law_X4_leastToAdd rfl rfl rfl (by decide +kernel) ⟨Nat.le_of_ble_eq_true rfl, Nat.le_of_ble_eq_true rfl⟩) ⟨pM_fb, wb_recv hK hM (r := 0) (Nat.le_of_ble_eq_true rfl) (ci := 5) rfl rfl, fun U hU hV => ⟨rfl, pM_of hK hV.alike hU hM⟩⟩ rfl rfl hl.1 rfl (lv_room (Nat.le_of_ble_eq_true rfl)) dL_law_1184 ⟨by show _ ≤ (601024 : Nat); omega, by show _ ≤ (7293034 : Nat); omega⟩) hS (fun q _ h => (hAM q h).1) (fun q h => (hAM q h).1) (fun r_8 u8 t8 H locs ht8 hvm8 hw8 hB8 hz8 hk8 hS => ?_)
  rw [ht8] at hB8
  have hsz := Nat.le_trans hsz hz8
  have hR1 := hR1.keptA (A1 := AM) (fun q hq => hq.2.1) hk8
  have hO2 := hO2.keptA (A1 := AM) hoo.2.2 hk8
  have hM : wP D AM lvM adM (ctM cs adM g L B n b 0) H := hB8
  obtain rfl : r_8 = mFound g L B n b (2 ^ n) := hw8
  refine lv_icmp_eq (tgt := 1205) hx hb dL_law_1187 (by decide) (fun _ => ?_) (fun hno => absurd rfl hno)
  refine W.widen (k := 30 + 2 * (k9 + 1)) (n := 300 + 30 * (k9 + 1)) (by omega) (by omega) ?_
  exact KK _ _ _ g L B n b ⟨hR1, ⟨_, hM⟩, hO2, hIv, (by omega), hsz, hS, lv_sub hl [0, 1, 2, 3, 4] rfl⟩

set_option maxHeartbeats 4000000 in
set_option maxRecDepth 100000 in
theorem law_leastToAddByAll {p : Program} {l : Launch} {e : Env} {s : State} {m : MethodId} {below : List Frame} {meth : Method} {c : Code} {b9 L9 : Nat} {xs : Nat → Int32} {D : va_G} {cs : Nat → ClassId} {z0 : Nat} {sa : Nat → Nat} {AM : Nat → Prop} {adM : Nat → Nat} {o oo sz1 : Nat} (hst : l.stackTraces = false) (hL9 : L9 ≤ 2560) (C0 : lw_At p s m meth c b9 L9 xs) (hE0 : Ev D cs (fun q => s.heap.size ≤ q) z0 sa s) (hnc : va_Nc xS xA s ∧ va_Nc xS xI s ∧ va_Nc xA xI s) (hAM : ∀ q, AM q → s.heap.size ≤ q ∧ q < sz1) (hoo : s.heap.size ≤ oo ∧ oo < sz1 ∧ ¬ AM oo) {g : Nat → Int32} {L B : Nat → Nat → Int32} {n b k9 : Nat} {H : Heap} {locs : List Loc} {ls : Array Slot} (hk9 : 5 * k9 + 5 ≤ L9) (hI : LI D cs s AM adM z0 o oo sz1 b9 g L B n b k9 (5 * k9) H locs ls) (KK : ∀ (H1 : Heap) (locs1 : List Loc) (ls1 : Array Slot) (g : Nat → Int32) (L B : Nat → Nat → Int32) (n b : Nat), LI D cs s AM adM z0 o oo sz1 b9 g L B n b (k9 + 1) (5 * k9) H1 locs1 ls1 → W p l e room_1 s m #[Value.ref b9] below meth c H1 locs1 (30 + 2 * (k9 + 1)) (300 + 30 * (k9 + 1)) (lw_Z below #[Value.ref b9] s) (F0 m 1205 ls1 [])) : W p l e room_1 s m #[Value.ref b9] below meth c H locs (30 + 2 * k9) (300 + 30 * k9) (lw_Z below #[Value.ref b9] s) (F0 m 1192 ls []) := by
  obtain ⟨hR, ⟨t, hM⟩, hO, hIv, hm9, hsz, hS, hl⟩ := hI
  obtain ⟨hx, hb0, hr, hml, hown0, hts0, hX, hbl, hlocks, hgv⟩ := C0
  have hb : c.code = cL_law := hb0
  have hown : s.vm.findClass RL = some m.cls := hown0
  have hts : ∀ w ∈ wsL_law, w.before #[Value.ref b9] s = true := fun w h => hts0 w (wsL_law_in w h)
  have hbA : ¬ (fun q : Nat => s.heap.size ≤ q) b9 := Nat.not_le.mpr hbl
  have hK := hE0.1
  have hbd := hIv.bd
  have hn := hIv.1
  have hb5 := hIv.2.1
  have dv0 := dv_ok hbd (r := 0) (by decide)
  have dvs := dv_ok hbd hbd.2.2.2.2.2.1
  obtain ⟨ad, y1, y2, N1, N2, nd, gv, ho, hN1, hN2, hW⟩ := hR
  subst ho
  refine lv_aload_n hx hb dL_law_1192 rfl (lv_at hl 1 rfl) ?_
  refine va_calli (va_runV (As := []) (rest := []) ⟨hx, hb, hml, hown, hts⟩ (c_X3_leastToAddByAll l D cs (AC s.heap.size AM oo) z0 sa ad g L B n b y1 y2 N1 N2 nd gv hn hb5 hN1 hN2) (cwV 0 hts gL_law_X3_leastToAddByAll rfl rfl rfl (by decide +kernel) ⟨Nat.le_of_ble_eq_true rfl, Nat.le_of_ble_eq_true rfl⟩) ⟨pC_fb, wb_recv hK hW (r := 0) (lvC_0 (by decide)) (ci := 4) rfl rfl, fun U hU hV => ⟨rfl, hE0.law hS hsz hAM hoo hV hU, by rw [hU]; exact hW⟩⟩ rfl rfl hl.1 rfl (lv_room (Nat.le_of_ble_eq_true rfl)) dL_law_1193 ⟨by show _ ≤ (601024 : Nat); omega, by show _ ≤ (7293034 : Nat); omega⟩) hS (fun q _ h => h.1) (fun q h => h.1) (fun r_9 u t9 H locs ht hvm hw hB hz1 hk1 hS => ?_)
  have hsz := Nat.le_trans hsz hz1
  rw [ht] at hB
  have hR1 := hB
  have hM := hM.keptA (A1 := (AC s.heap.size AM oo)) (fun q hq z => z.2.1 hq) hk1
  have hO2 := hO.keptA (A1 := (AC s.heap.size AM oo)) (fun z => z.2.2 rfl) hk1
  obtain rfl : r_9 = mFound g L B n b (2 ^ n) := hw.trans (cFound_eq hbd nd gv (2 ^ n) (Nat.le_refl _))
  refine lv_aload_n hx hb dL_law_1196 rfl (lv_at hl 2 rfl) ?_
  refine va_calli (va_runV (As := []) (rest := [.int (mFound g L B n b (2 ^ n))]) ⟨hx, hb, hml, hown, hts⟩ (c_X4_leastToAddByAll l D cs AM adM g L B n b t hn hb5 dv0 dvs) (cwV 0 hts gL_law_X4_leastToAddByAll rfl rfl rfl (by decide +kernel) ⟨Nat.le_of_ble_eq_true rfl, Nat.le_of_ble_eq_true rfl⟩) ⟨pM_fb, wb_recv hK hM (r := 0) (Nat.le_of_ble_eq_true rfl) (ci := 5) rfl rfl, fun U hU hV => ⟨rfl, pM_of hK hV.alike hU hM⟩⟩ rfl rfl hl.1 rfl (lv_room (Nat.le_of_ble_eq_true rfl)) dL_law_1197 ⟨by show _ ≤ (601024 : Nat); omega, by show _ ≤ (7293034 : Nat); omega⟩) hS (fun q _ h => (hAM q h).1) (fun q h => (hAM q h).1) (fun r_8 u8 t8 H locs ht8 hvm8 hw8 hB8 hz8 hk8 hS => ?_)
  rw [ht8] at hB8
  have hsz := Nat.le_trans hsz hz8
  have hR1 := hR1.keptA (A1 := AM) (fun q hq => hq.2.1) hk8
  have hO2 := hO2.keptA (A1 := AM) hoo.2.2 hk8
  have hM : wP D AM lvM adM (ctM cs adM g L B n b 0) H := hB8
  obtain rfl : r_8 = mFound g L B n b (2 ^ n) := hw8
  refine lv_icmp_eq (tgt := 1205) hx hb dL_law_1200 (by decide) (fun _ => ?_) (fun hno => absurd rfl hno)
  refine W.widen (k := 30 + 2 * (k9 + 1)) (n := 300 + 30 * (k9 + 1)) (by omega) (by omega) ?_
  exact KK _ _ _ g L B n b ⟨hR1, ⟨_, hM⟩, hO2, hIv, (by omega), hsz, hS, lv_sub hl [0, 1, 2, 3, 4] rfl⟩
