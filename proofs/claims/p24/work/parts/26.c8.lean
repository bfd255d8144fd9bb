set_option maxHeartbeats 4000000 in
set_option maxRecDepth 100000 in
theorem c_X1_init (l : Launch) (D : va_G) (cs : Nat → ClassId) (A : Nat → Prop) (z0 : Nat) (sa : Nat → Nat) (lv : Nat → Prop) (ad : Nat → Nat) (ct : Nat → va_E) (ro : Nat) (x : Int32) (y : Int32) (z : Int32) (w : Int32) (hro : lv ro) (hco : ct ro = .inr (2, [.int 0, .int 0, .int 0, .int 0, .int 0, .int 0])) : Met l yX1_init wsX1_init ({ frames := 1, cells := 0, slots := 0, locals := 24 } : Room) (va_Pc [.ref (ad ro), .int x, .int y, .int z, .int w] (pC D cs A z0 sa lv ad ct)) (va_Qv (fun (_ : Unit) => True) (fun _ t9 => wP D A lv ad (va_up ct ro (.inr (2, [.int x, .int z, .int w, .int y, .int 0, .int 0]))) t9.heap) A) 0 0 A := by
  refine Met.ofW (cc := cX1_init) (maxL := 5) (ret := none) (by decide) rfl ?_
  intro p e s m args below meth c s₁ BB hml hv
  obtain ⟨rfl, hv⟩ := hv
  obtain ⟨hE, hW⟩ := hv
  have hK := hE.1
  have hx := BB.exec
  have hb := BB.bytes
  have hr := BB.returns
  have hts := atoms_spec (ws := wsX1_init) BB.pre
  have hown : s.vm.findClass RX1 = some m.cls := findClass_of_methodNamed BB.named
  have hlocks := BB.notSynchronized
  have hS : va_S A s.heap s.heap [] := va_S.rf
  have hl := lv_entry ([.ref (ad ro), .int x, .int y, .int z, .int w]) (n := 5) (Nat.le_of_ble_eq_true rfl)
  rw [lg_entry_eq]
  generalize (lg_sl ([.ref (ad ro), .int x, .int y, .int z, .int w]) ++ List.replicate (5 - (lg_sl ([.ref (ad ro), .int x, .int y, .int z, .int w])).length) Slot.unset).toArray = ls at hl ⊢
  have hl : lv_has ls 5 [(0, .ref (ad ro)), (1, .int x), (2, .int y), (3, .int z), (4, .int w)] := hl
  have hf9 := hts (.fieldLink RX1 9 "Coverpool$Loan" "arrears" "I") (by decide +kernel)
  have hf15 := hts (.fieldLink RX1 15 "Coverpool$Loan" "state" "I") (by decide +kernel)
  have hf18 := hts (.fieldLink RX1 18 "Coverpool$Loan" "amount" "I") (by decide +kernel)
  have hf21 := hts (.fieldLink RX1 21 "Coverpool$Loan" "worth" "I") (by decide +kernel)
  have hf24 := hts (.fieldLink RX1 24 "Coverpool$Loan" "rank" "I") (by decide +kernel)
  have hf27 := hts (.fieldLink RX1 27 "Coverpool$Loan" "due" "I") (by decide +kernel)
  have hinX1 : ∀ w ∈ u_ws RX1 TX1 6, w ∈ wsX1_init := by decide +kernel
  have hin : meth.name = "<init>" := (name_of_methodNamed BB.named BB.method).1
  refine lv_aload_n hx hb dX1_init_0 rfl (lv_at hl 0 rfl) ?_
  refine W.objInit hx hb hown (hts (.methodLink RX1 3 objectInit) (by decide +kernel)) (hts (.instanceMethod objectInit) (by decide +kernel)) (hts (.code objectInit ⟨#[0xb1]⟩ 1 none) (by decide +kernel)) rfl (by rw [hml]; exact hl.1) rfl dX1_init_1 (Nat.le_of_ble_eq_true rfl) (Nat.le_of_ble_eq_true rfl) ?_
  refine W.eq (g2 := F0 m 4 ls []) rfl ?_
  refine lv_aload_n hx hb dX1_init_4 rfl (lv_at hl 0 rfl) ?_
  refine lv_iconst (v := 0) hx hb dX1_init_5 (by decide) ?_
  refine wb_putE (fs := [.int 0, .int 0, .int 0, .int 0, .int 0, .int 0]) (v := .int 0) (ty := .int) hx hb hts hinX1 tyX1 tyX1_ok nmX1 hown hK hW hS ro rfl hro hco rfl 4 (by decide) hf9 (fun _ h9 => h9) rfl (by decide +kernel) rfl rfl (Nat.le_of_ble_eq_true rfl) dX1_init_6 (fun H locs hW hS => ?_)
  have hW : wP D A lv ad (va_up ct ro (.inr (2, [.int 0, .int 0, .int 0, .int 0, .int 0, .int 0]))) H := hW
  refine lv_aload_n hx hb dX1_init_9 rfl (lv_at hl 0 rfl) ?_
  refine lv_iconst (v := 0) hx hb dX1_init_10 (by decide) ?_
  refine wb_putE (fs := [.int 0, .int 0, .int 0, .int 0, .int 0, .int 0]) (v := .int 0) (ty := .int) hx hb hts hinX1 tyX1 tyX1_ok nmX1 hown hK hW hS ro rfl hro (va_up_self _ _ _) rfl 5 (by decide) hf15 (fun _ h9 => h9) rfl (by decide +kernel) rfl rfl (Nat.le_of_ble_eq_true rfl) dX1_init_11 (fun H locs hW hS => ?_)
  have hW : wP D A lv ad (va_up ct ro (.inr (2, [.int 0, .int 0, .int 0, .int 0, .int 0, .int 0]))) H := by rw [up_up] at hW; exact hW
  refine lv_aload_n hx hb dX1_init_14 rfl (lv_at hl 0 rfl) ?_
  refine lv_iload_n hx hb dX1_init_15 rfl (lv_at hl 1 rfl) ?_
  refine wb_putFE (fs := [.int 0, .int 0, .int 0, .int 0, .int 0, .int 0]) (v := .int x) (ty := .int) hx hb hts hinX1 tyX1 tyX1_ok nmX1 hown hK hW hS ro rfl hro (va_up_self _ _ _) rfl 0 (by decide) hf18 (fun _ h9 => h9) rfl hin rfl (by decide +kernel) rfl rfl (Nat.le_of_ble_eq_true rfl) dX1_init_16 (fun H locs hW hS => ?_)
  have hW : wP D A lv ad (va_up ct ro (.inr (2, [.int x, .int 0, .int 0, .int 0, .int 0, .int 0]))) H := by rw [up_up] at hW; exact hW
  refine lv_aload_n hx hb dX1_init_19 rfl (lv_at hl 0 rfl) ?_
  refine lv_iload_n hx hb dX1_init_20 rfl (lv_at hl 2 rfl) ?_
  refine wb_putE (fs := [.int x, .int 0, .int 0, .int 0, .int 0, .int 0]) (v := .int y) (ty := .int) hx hb hts hinX1 tyX1 tyX1_ok nmX1 hown hK hW hS ro rfl hro (va_up_self _ _ _) rfl 3 (by decide) hf21 (fun _ h9 => h9) rfl (by decide +kernel) rfl rfl (Nat.le_of_ble_eq_true rfl) dX1_init_21 (fun H locs hW hS => ?_)
  have hW : wP D A lv ad (va_up ct ro (.inr (2, [.int x, .int 0, .int 0, .int y, .int 0, .int 0]))) H := by rw [up_up] at hW; exact hW
  refine lv_aload_n hx hb dX1_init_24 rfl (lv_at hl 0 rfl) ?_
  refine lv_iload_n hx hb dX1_init_25 rfl (lv_at hl 3 rfl) ?_
  refine wb_putFE (fs := [.int x, .int 0, .int 0, .int y, .int 0, .int 0]) (v := .int z) (ty := .int) hx hb hts hinX1 tyX1 tyX1_ok nmX1 hown hK hW hS ro rfl hro (va_up_self _ _ _) rfl 1 (by decide) hf24 (fun _ h9 => h9) rfl hin rfl (by decide +kernel) rfl rfl (Nat.le_of_ble_eq_true rfl) dX1_init_26 (fun H locs hW hS => ?_)
  have hW : wP D A lv ad (va_up ct ro (.inr (2, [.int x, .int z, .int 0, .int y, .int 0, .int 0]))) H := by rw [up_up] at hW; exact hW
  refine lv_aload_n hx hb dX1_init_29 rfl (lv_at hl 0 rfl) ?_
  refine lv_iload hx hb dX1_init_30 (lv_at hl 4 rfl) ?_
  refine wb_putFE (fs := [.int x, .int z, .int 0, .int y, .int 0, .int 0]) (v := .int w) (ty := .int) hx hb hts hinX1 tyX1 tyX1_ok nmX1 hown hK hW hS ro rfl hro (va_up_self _ _ _) rfl 2 (by decide) hf27 (fun _ h9 => h9) rfl hin rfl (by decide +kernel) rfl rfl (Nat.le_of_ble_eq_true rfl) dX1_init_32 (fun H locs hW hS => ?_)
  have hW : wP D A lv ad (va_up ct ro (.inr (2, [.int x, .int z, .int w, .int y, .int 0, .int 0]))) H := by rw [up_up] at hW; exact hW
  exact W.vret hx hb hr (fun t8 ht8 hW8 => ⟨⟨(), rfl, trivial, by dsimp only; rw [ht8]; exact hW⟩, hS.F ht8⟩) hS.2.2 dX1_init_35

set_option maxHeartbeats 4000000 in
set_option maxRecDepth 100000 in
theorem c_X0_init (l : Launch) (D : va_G) (cs : Nat → ClassId) (A : Nat → Prop) (z0 : Nat) (sa : Nat → Nat) (lv : Nat → Prop) (ad : Nat → Nat) (ct : Nat → va_E) (ro : Nat) (x : Int32) (y : Int32) (hro : lv ro) (hco : ct ro = .inr (1, [.int 0, .int 0, .int 0, .int 0])) : Met l yX0_init wsX0_init ({ frames := 1, cells := 0, slots := 0, locals := 24 } : Room) (va_Pc [.ref (ad ro), .int x, .int y] (pC D cs A z0 sa lv ad ct)) (va_Qv (fun (_ : Unit) => True) (fun _ t9 => wP D A lv ad (va_up ct ro (.inr (1, [.int x, .int y, .int 0, .int 0]))) t9.heap) A) 0 0 A := by
  refine Met.ofW (cc := cX0_init) (maxL := 3) (ret := none) (by decide) rfl ?_
  intro p e s m args below meth c s₁ BB hml hv
  obtain ⟨rfl, hv⟩ := hv
  obtain ⟨hE, hW⟩ := hv
  have hK := hE.1
  have hx := BB.exec
  have hb := BB.bytes
  have hr := BB.returns
  have hts := atoms_spec (ws := wsX0_init) BB.pre
  have hown : s.vm.findClass RX0 = some m.cls := findClass_of_methodNamed BB.named
  have hlocks := BB.notSynchronized
  have hS : va_S A s.heap s.heap [] := va_S.rf
  have hl := lv_entry ([.ref (ad ro), .int x, .int y]) (n := 3) (Nat.le_of_ble_eq_true rfl)
  rw [lg_entry_eq]
  generalize (lg_sl ([.ref (ad ro), .int x, .int y]) ++ List.replicate (3 - (lg_sl ([.ref (ad ro), .int x, .int y])).length) Slot.unset).toArray = ls at hl ⊢
  have hl : lv_has ls 3 [(0, .ref (ad ro)), (1, .int x), (2, .int y)] := hl
  have hf9 := hts (.fieldLink RX0 9 "Coverpool$Bond" "state" "I") (by decide +kernel)
  have hf15 := hts (.fieldLink RX0 15 "Coverpool$Bond" "wasPutOff" "Z") (by decide +kernel)
  have hf19 := hts (.fieldLink RX0 19 "Coverpool$Bond" "amount" "I") (by decide +kernel)
  have hf22 := hts (.fieldLink RX0 22 "Coverpool$Bond" "due" "I") (by decide +kernel)
  have hinX0 : ∀ w ∈ u_ws RX0 TX0 4, w ∈ wsX0_init := by decide +kernel
  have hin : meth.name = "<init>" := (name_of_methodNamed BB.named BB.method).1
  refine lv_aload_n hx hb dX0_init_0 rfl (lv_at hl 0 rfl) ?_
  refine W.objInit hx hb hown (hts (.methodLink RX0 3 objectInit) (by decide +kernel)) (hts (.instanceMethod objectInit) (by decide +kernel)) (hts (.code objectInit ⟨#[0xb1]⟩ 1 none) (by decide +kernel)) rfl (by rw [hml]; exact hl.1) rfl dX0_init_1 (Nat.le_of_ble_eq_true rfl) (Nat.le_of_ble_eq_true rfl) ?_
  refine W.eq (g2 := F0 m 4 ls []) rfl ?_
  refine lv_aload_n hx hb dX0_init_4 rfl (lv_at hl 0 rfl) ?_
  refine lv_iconst (v := 0) hx hb dX0_init_5 (by decide) ?_
  refine wb_putE (fs := [.int 0, .int 0, .int 0, .int 0]) (v := .int 0) (ty := .int) hx hb hts hinX0 tyX0 tyX0_ok nmX0 hown hK hW hS ro rfl hro hco rfl 2 (by decide) hf9 (fun _ h9 => h9) rfl (by decide +kernel) rfl rfl (Nat.le_of_ble_eq_true rfl) dX0_init_6 (fun H locs hW hS => ?_)
  have hW : wP D A lv ad (va_up ct ro (.inr (1, [.int 0, .int 0, .int 0, .int 0]))) H := hW
  refine lv_aload_n hx hb dX0_init_9 rfl (lv_at hl 0 rfl) ?_
  refine lv_iconst (v := 0) hx hb dX0_init_10 (by decide) ?_
  refine wb_putE (fs := [.int 0, .int 0, .int 0, .int 0]) (v := .int 0) (ty := .boolean) hx hb hts hinX0 tyX0 tyX0_ok nmX0 hown hK hW hS ro rfl hro (va_up_self _ _ _) rfl 3 (by decide) hf15 (fun _ h9 => h9) rfl (by decide +kernel) (by decide) (by decide) (Nat.le_of_ble_eq_true rfl) dX0_init_11 (fun H locs hW hS => ?_)
  have hW : wP D A lv ad (va_up ct ro (.inr (1, [.int 0, .int 0, .int 0, .int 0]))) H := by rw [up_up] at hW; exact hW
  refine lv_aload_n hx hb dX0_init_14 rfl (lv_at hl 0 rfl) ?_
  refine lv_iload_n hx hb dX0_init_15 rfl (lv_at hl 1 rfl) ?_
  refine wb_putFE (fs := [.int 0, .int 0, .int 0, .int 0]) (v := .int x) (ty := .int) hx hb hts hinX0 tyX0 tyX0_ok nmX0 hown hK hW hS ro rfl hro (va_up_self _ _ _) rfl 0 (by decide) hf19 (fun _ h9 => h9) rfl hin rfl (by decide +kernel) rfl rfl (Nat.le_of_ble_eq_true rfl) dX0_init_16 (fun H locs hW hS => ?_)
  have hW : wP D A lv ad (va_up ct ro (.inr (1, [.int x, .int 0, .int 0, .int 0]))) H := by rw [up_up] at hW; exact hW
  refine lv_aload_n hx hb dX0_init_19 rfl (lv_at hl 0 rfl) ?_
  refine lv_iload_n hx hb dX0_init_20 rfl (lv_at hl 2 rfl) ?_
  refine wb_putE (fs := [.int x, .int 0, .int 0, .int 0]) (v := .int y) (ty := .int) hx hb hts hinX0 tyX0 tyX0_ok nmX0 hown hK hW hS ro rfl hro (va_up_self _ _ _) rfl 1 (by decide) hf22 (fun _ h9 => h9) rfl (by decide +kernel) rfl rfl (Nat.le_of_ble_eq_true rfl) dX0_init_21 (fun H locs hW hS => ?_)
  have hW : wP D A lv ad (va_up ct ro (.inr (1, [.int x, .int y, .int 0, .int 0]))) H := by rw [up_up] at hW; exact hW
  exact W.vret hx hb hr (fun t8 ht8 hW8 => ⟨⟨(), rfl, trivial, by dsimp only; rw [ht8]; exact hW⟩, hS.F ht8⟩) hS.2.2 dX0_init_24
