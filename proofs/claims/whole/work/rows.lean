section
-- ===== PART A: goes FIRST, ahead of the names: the tables' words, and 'selects' of the private methods out of them =====
/-- a private method of a class that the tables say can be made, by its rows of tables_1 -/
def lw_okq (q : MethodName × Nat) : Prop := (q.1.cls ≠ "java/lang/invoke/MethodHandle" ∧ q.1.cls ≠ "java/lang/invoke/VarHandle") ∧ Cond.instantiable q.1.cls q.2 ∈ tables_1 ∧ Cond.privateMethod q.1 ∈ tables_1 ∧ Cond.instanceMethod q.1 ∈ tables_1
theorem lw_p0 : lw_okq (⟨"Coverpool", "fillSheet", "()V"⟩, 8) := ⟨⟨by decide +kernel, by decide +kernel⟩, List.mem_of_getElem? (i := 23) (by decide +kernel), List.mem_of_getElem? (i := 139) (by decide +kernel), List.mem_of_getElem? (i := 140) (by decide +kernel)⟩
theorem lw_p1 : lw_okq (⟨"Coverpool", "countOf", "(LCoverpool$Loan;)I"⟩, 8) := ⟨⟨by decide +kernel, by decide +kernel⟩, List.mem_of_getElem? (i := 23) (by decide +kernel), List.mem_of_getElem? (i := 144) (by decide +kernel), List.mem_of_getElem? (i := 145) (by decide +kernel)⟩
theorem lw_p2 : lw_okq (⟨"Coverpool", "fillRow", "([III)V"⟩, 8) := ⟨⟨by decide +kernel, by decide +kernel⟩, List.mem_of_getElem? (i := 23) (by decide +kernel), List.mem_of_getElem? (i := 148) (by decide +kernel), List.mem_of_getElem? (i := 149) (by decide +kernel)⟩
theorem lw_p3 : lw_okq (⟨"Coverpool", "worthNow", "(II)I"⟩, 8) := ⟨⟨by decide +kernel, by decide +kernel⟩, List.mem_of_getElem? (i := 23) (by decide +kernel), List.mem_of_getElem? (i := 152) (by decide +kernel), List.mem_of_getElem? (i := 153) (by decide +kernel)⟩
theorem lw_p4 : lw_okq (⟨"Coverpool", "startWithCashAndSubstitutes", "([I)V"⟩, 8) := ⟨⟨by decide +kernel, by decide +kernel⟩, List.mem_of_getElem? (i := 23) (by decide +kernel), List.mem_of_getElem? (i := 159) (by decide +kernel), List.mem_of_getElem? (i := 160) (by decide +kernel)⟩
theorem lw_p5 : lw_okq (⟨"Coverpool", "addBondTo", "([ILCoverpool$Bond;)V"⟩, 8) := ⟨⟨by decide +kernel, by decide +kernel⟩, List.mem_of_getElem? (i := 23) (by decide +kernel), List.mem_of_getElem? (i := 164) (by decide +kernel), List.mem_of_getElem? (i := 165) (by decide +kernel)⟩
theorem lw_p6 : lw_okq (⟨"Coverpool", "loansThatAre", "(I)I"⟩, 8) := ⟨⟨by decide +kernel, by decide +kernel⟩, List.mem_of_getElem? (i := 23) (by decide +kernel), List.mem_of_getElem? (i := 168) (by decide +kernel), List.mem_of_getElem? (i := 169) (by decide +kernel)⟩
theorem lw_p7 : lw_okq (⟨"Coverpool$Sheet", "missing", "(II)I"⟩, 2) := ⟨⟨by decide +kernel, by decide +kernel⟩, List.mem_of_getElem? (i := 57) (by decide +kernel), List.mem_of_getElem? (i := 188) (by decide +kernel), List.mem_of_getElem? (i := 189) (by decide +kernel)⟩
theorem lw_p8 : lw_okq (⟨"java/lang/Throwable", "fillInStackTrace", "(I)Ljava/lang/Throwable;"⟩, 6) := ⟨⟨by decide +kernel, by decide +kernel⟩, List.mem_of_getElem? (i := 246) (by decide +kernel), List.mem_of_getElem? (i := 244) (by decide +kernel), List.mem_of_getElem? (i := 245) (by decide +kernel)⟩
theorem lw_p9 : lw_okq (⟨"Coverpool", "requireDueAhead", "(I)V"⟩, 8) := ⟨⟨by decide +kernel, by decide +kernel⟩, List.mem_of_getElem? (i := 23) (by decide +kernel), List.mem_of_getElem? (i := 276) (by decide +kernel), List.mem_of_getElem? (i := 277) (by decide +kernel)⟩
theorem lw_p10 : lw_okq (⟨"java/util/ArrayList", "add", "(Ljava/lang/Object;[Ljava/lang/Object;I)V"⟩, 3) := ⟨⟨by decide +kernel, by decide +kernel⟩, List.mem_of_getElem? (i := 31) (by decide +kernel), List.mem_of_getElem? (i := 331) (by decide +kernel), List.mem_of_getElem? (i := 332) (by decide +kernel)⟩
theorem lw_p11 : lw_okq (⟨"java/util/ArrayList", "grow", "()[Ljava/lang/Object;"⟩, 3) := ⟨⟨by decide +kernel, by decide +kernel⟩, List.mem_of_getElem? (i := 31) (by decide +kernel), List.mem_of_getElem? (i := 335) (by decide +kernel), List.mem_of_getElem? (i := 336) (by decide +kernel)⟩
theorem lw_p12 : lw_okq (⟨"java/util/ArrayList", "grow", "(I)[Ljava/lang/Object;"⟩, 3) := ⟨⟨by decide +kernel, by decide +kernel⟩, List.mem_of_getElem? (i := 31) (by decide +kernel), List.mem_of_getElem? (i := 339) (by decide +kernel), List.mem_of_getElem? (i := 340) (by decide +kernel)⟩
theorem lw_p13 : lw_okq (⟨"Coverpool", "loanAt", "(I)LCoverpool$Loan;"⟩, 8) := ⟨⟨by decide +kernel, by decide +kernel⟩, List.mem_of_getElem? (i := 23) (by decide +kernel), List.mem_of_getElem? (i := 387) (by decide +kernel), List.mem_of_getElem? (i := 388) (by decide +kernel)⟩
theorem lw_p14 : lw_okq (⟨"Coverpool", "bondAt", "(I)LCoverpool$Bond;"⟩, 8) := ⟨⟨by decide +kernel, by decide +kernel⟩, List.mem_of_getElem? (i := 23) (by decide +kernel), List.mem_of_getElem? (i := 516) (by decide +kernel), List.mem_of_getElem? (i := 517) (by decide +kernel)⟩
theorem lw_p15 : lw_okq (⟨"Coverpool", "receiveDueLoans", "()V"⟩, 8) := ⟨⟨by decide +kernel, by decide +kernel⟩, List.mem_of_getElem? (i := 23) (by decide +kernel), List.mem_of_getElem? (i := 535) (by decide +kernel), List.mem_of_getElem? (i := 536) (by decide +kernel)⟩
def lw_privs_1 : List (MethodName × Nat) := [(⟨"Coverpool", "fillSheet", "()V"⟩, 8), (⟨"Coverpool", "countOf", "(LCoverpool$Loan;)I"⟩, 8), (⟨"Coverpool", "fillRow", "([III)V"⟩, 8), (⟨"Coverpool", "worthNow", "(II)I"⟩, 8), (⟨"Coverpool", "startWithCashAndSubstitutes", "([I)V"⟩, 8), (⟨"Coverpool", "addBondTo", "([ILCoverpool$Bond;)V"⟩, 8), (⟨"Coverpool", "loansThatAre", "(I)I"⟩, 8), (⟨"Coverpool$Sheet", "missing", "(II)I"⟩, 2), (⟨"java/lang/Throwable", "fillInStackTrace", "(I)Ljava/lang/Throwable;"⟩, 6), (⟨"Coverpool", "requireDueAhead", "(I)V"⟩, 8), (⟨"java/util/ArrayList", "add", "(Ljava/lang/Object;[Ljava/lang/Object;I)V"⟩, 3), (⟨"java/util/ArrayList", "grow", "()[Ljava/lang/Object;"⟩, 3), (⟨"java/util/ArrayList", "grow", "(I)[Ljava/lang/Object;"⟩, 3), (⟨"Coverpool", "loanAt", "(I)LCoverpool$Loan;"⟩, 8), (⟨"Coverpool", "bondAt", "(I)LCoverpool$Bond;"⟩, 8), (⟨"Coverpool", "receiveDueLoans", "()V"⟩, 8)]
theorem lw_r1 : ∀ q ∈ lw_privs_1, lw_okq q := List.forall_mem_cons.mpr ⟨lw_p0, List.forall_mem_cons.mpr ⟨lw_p1, List.forall_mem_cons.mpr ⟨lw_p2, List.forall_mem_cons.mpr ⟨lw_p3, List.forall_mem_cons.mpr ⟨lw_p4, List.forall_mem_cons.mpr ⟨lw_p5, List.forall_mem_cons.mpr ⟨lw_p6, List.forall_mem_cons.mpr ⟨lw_p7, List.forall_mem_cons.mpr ⟨lw_p8, List.forall_mem_cons.mpr ⟨lw_p9, List.forall_mem_cons.mpr ⟨lw_p10, List.forall_mem_cons.mpr ⟨lw_p11, List.forall_mem_cons.mpr ⟨lw_p12, List.forall_mem_cons.mpr ⟨lw_p13, List.forall_mem_cons.mpr ⟨lw_p14, List.forall_mem_cons.mpr ⟨lw_p15, fun _ h => absurd h List.not_mem_nil⟩⟩⟩⟩⟩⟩⟩⟩⟩⟩⟩⟩⟩⟩⟩⟩
theorem lw_p16 : lw_okq (⟨"Coverpool", "settleDueBonds", "()V"⟩, 8) := ⟨⟨by decide +kernel, by decide +kernel⟩, List.mem_of_getElem? (i := 23) (by decide +kernel), List.mem_of_getElem? (i := 539) (by decide +kernel), List.mem_of_getElem? (i := 540) (by decide +kernel)⟩
theorem lw_p17 : lw_okq (⟨"Coverpool", "settle", "(LCoverpool$Bond;)V"⟩, 8) := ⟨⟨by decide +kernel, by decide +kernel⟩, List.mem_of_getElem? (i := 23) (by decide +kernel), List.mem_of_getElem? (i := 543) (by decide +kernel), List.mem_of_getElem? (i := 544) (by decide +kernel)⟩
theorem lw_p18 : lw_okq (⟨"CoverpoolModel", "goes", "(ZZZ)Z"⟩, 18) := ⟨⟨by decide +kernel, by decide +kernel⟩, List.mem_of_getElem? (i := 562) (by decide +kernel), List.mem_of_getElem? (i := 635) (by decide +kernel), List.mem_of_getElem? (i := 636) (by decide +kernel)⟩
theorem lw_p19 : lw_okq (⟨"CoverpoolModel", "isLoan", "(I)Z"⟩, 18) := ⟨⟨by decide +kernel, by decide +kernel⟩, List.mem_of_getElem? (i := 562) (by decide +kernel), List.mem_of_getElem? (i := 643) (by decide +kernel), List.mem_of_getElem? (i := 644) (by decide +kernel)⟩
theorem lw_p20 : lw_okq (⟨"CoverpoolModel", "countOf", "(I)I"⟩, 18) := ⟨⟨by decide +kernel, by decide +kernel⟩, List.mem_of_getElem? (i := 562) (by decide +kernel), List.mem_of_getElem? (i := 647) (by decide +kernel), List.mem_of_getElem? (i := 648) (by decide +kernel)⟩
theorem lw_p21 : lw_okq (⟨"CoverpoolModel", "pool", "()I"⟩, 18) := ⟨⟨by decide +kernel, by decide +kernel⟩, List.mem_of_getElem? (i := 562) (by decide +kernel), List.mem_of_getElem? (i := 655) (by decide +kernel), List.mem_of_getElem? (i := 656) (by decide +kernel)⟩
theorem lw_p22 : lw_okq (⟨"CoverpoolModel", "isSafe", "(I)Z"⟩, 18) := ⟨⟨by decide +kernel, by decide +kernel⟩, List.mem_of_getElem? (i := 562) (by decide +kernel), List.mem_of_getElem? (i := 659) (by decide +kernel), List.mem_of_getElem? (i := 660) (by decide +kernel)⟩
theorem lw_p23 : lw_okq (⟨"CoverpoolModel", "lack", "(II)J"⟩, 18) := ⟨⟨by decide +kernel, by decide +kernel⟩, List.mem_of_getElem? (i := 562) (by decide +kernel), List.mem_of_getElem? (i := 663) (by decide +kernel), List.mem_of_getElem? (i := 664) (by decide +kernel)⟩
theorem lw_p24 : lw_okq (⟨"CoverpoolModel", "lackOfFace", "(I)J"⟩, 18) := ⟨⟨by decide +kernel, by decide +kernel⟩, List.mem_of_getElem? (i := 562) (by decide +kernel), List.mem_of_getElem? (i := 667) (by decide +kernel), List.mem_of_getElem? (i := 668) (by decide +kernel)⟩
theorem lw_p25 : lw_okq (⟨"CoverpoolModel", "beside", "()I"⟩, 18) := ⟨⟨by decide +kernel, by decide +kernel⟩, List.mem_of_getElem? (i := 562) (by decide +kernel), List.mem_of_getElem? (i := 671) (by decide +kernel), List.mem_of_getElem? (i := 672) (by decide +kernel)⟩
theorem lw_p26 : lw_okq (⟨"CoverpoolModel", "owed", "()I"⟩, 18) := ⟨⟨by decide +kernel, by decide +kernel⟩, List.mem_of_getElem? (i := 562) (by decide +kernel), List.mem_of_getElem? (i := 675) (by decide +kernel), List.mem_of_getElem? (i := 676) (by decide +kernel)⟩
theorem lw_p27 : lw_okq (⟨"CoverpoolModel", "lackOfMoney", "(I)J"⟩, 18) := ⟨⟨by decide +kernel, by decide +kernel⟩, List.mem_of_getElem? (i := 562) (by decide +kernel), List.mem_of_getElem? (i := 680) (by decide +kernel), List.mem_of_getElem? (i := 681) (by decide +kernel)⟩
theorem lw_p28 : lw_okq (⟨"CoverpoolModel", "lackOfWorth", "(II)J"⟩, 18) := ⟨⟨by decide +kernel, by decide +kernel⟩, List.mem_of_getElem? (i := 562) (by decide +kernel), List.mem_of_getElem? (i := 684) (by decide +kernel), List.mem_of_getElem? (i := 685) (by decide +kernel)⟩
theorem lw_p29 : lw_okq (⟨"CoverpoolModel", "valued", "(III)I"⟩, 18) := ⟨⟨by decide +kernel, by decide +kernel⟩, List.mem_of_getElem? (i := 562) (by decide +kernel), List.mem_of_getElem? (i := 688) (by decide +kernel), List.mem_of_getElem? (i := 689) (by decide +kernel)⟩
theorem lw_p30 : lw_okq (⟨"CoverpoolModel", "isBond", "(I)Z"⟩, 18) := ⟨⟨by decide +kernel, by decide +kernel⟩, List.mem_of_getElem? (i := 562) (by decide +kernel), List.mem_of_getElem? (i := 730) (by decide +kernel), List.mem_of_getElem? (i := 731) (by decide +kernel)⟩
theorem lw_p31 : lw_okq (⟨"CoverpoolModel", "lives", "()V"⟩, 18) := ⟨⟨by decide +kernel, by decide +kernel⟩, List.mem_of_getElem? (i := 562) (by decide +kernel), List.mem_of_getElem? (i := 754) (by decide +kernel), List.mem_of_getElem? (i := 755) (by decide +kernel)⟩
def lw_privs_2 : List (MethodName × Nat) := [(⟨"Coverpool", "settleDueBonds", "()V"⟩, 8), (⟨"Coverpool", "settle", "(LCoverpool$Bond;)V"⟩, 8), (⟨"CoverpoolModel", "goes", "(ZZZ)Z"⟩, 18), (⟨"CoverpoolModel", "isLoan", "(I)Z"⟩, 18), (⟨"CoverpoolModel", "countOf", "(I)I"⟩, 18), (⟨"CoverpoolModel", "pool", "()I"⟩, 18), (⟨"CoverpoolModel", "isSafe", "(I)Z"⟩, 18), (⟨"CoverpoolModel", "lack", "(II)J"⟩, 18), (⟨"CoverpoolModel", "lackOfFace", "(I)J"⟩, 18), (⟨"CoverpoolModel", "beside", "()I"⟩, 18), (⟨"CoverpoolModel", "owed", "()I"⟩, 18), (⟨"CoverpoolModel", "lackOfMoney", "(I)J"⟩, 18), (⟨"CoverpoolModel", "lackOfWorth", "(II)J"⟩, 18), (⟨"CoverpoolModel", "valued", "(III)I"⟩, 18), (⟨"CoverpoolModel", "isBond", "(I)Z"⟩, 18), (⟨"CoverpoolModel", "lives", "()V"⟩, 18)]
theorem lw_r2 : ∀ q ∈ lw_privs_2, lw_okq q := List.forall_mem_cons.mpr ⟨lw_p16, List.forall_mem_cons.mpr ⟨lw_p17, List.forall_mem_cons.mpr ⟨lw_p18, List.forall_mem_cons.mpr ⟨lw_p19, List.forall_mem_cons.mpr ⟨lw_p20, List.forall_mem_cons.mpr ⟨lw_p21, List.forall_mem_cons.mpr ⟨lw_p22, List.forall_mem_cons.mpr ⟨lw_p23, List.forall_mem_cons.mpr ⟨lw_p24, List.forall_mem_cons.mpr ⟨lw_p25, List.forall_mem_cons.mpr ⟨lw_p26, List.forall_mem_cons.mpr ⟨lw_p27, List.forall_mem_cons.mpr ⟨lw_p28, List.forall_mem_cons.mpr ⟨lw_p29, List.forall_mem_cons.mpr ⟨lw_p30, List.forall_mem_cons.mpr ⟨lw_p31, fun _ h => absurd h List.not_mem_nil⟩⟩⟩⟩⟩⟩⟩⟩⟩⟩⟩⟩⟩⟩⟩⟩
def lw_privs : List (MethodName × Nat) := lw_privs_1 ++ (lw_privs_2)
def lw_tbl : List Cond := k2_sels lw_privs ++ tables_1
theorem lw_privs_ok : ∀ q ∈ lw_privs, lw_okq q := by
  show ∀ q ∈ lw_privs_1 ++ (lw_privs_2), lw_okq q
  exact List.forall_mem_append.mpr ⟨lw_r1, lw_r2⟩
end
section
def va_AOA (ty : FieldType) (U : State) : Prop := (Cond.arrayOver (.array ty)).before #[] U = true
theorem va_AOA.of {ty : FieldType} {A : Array Value} {U : State} (h : (Cond.arrayOver (.array ty)).before A U = true) : va_AOA ty U := h
theorem va_AOA.use {ty : FieldType} {A : Array Value} {U : State} (h : va_AOA ty U) : (Cond.arrayOver (.array ty)).before A U = true := h
end
section
/-! ===== BEGIN words of one list among another's, by their places ===== -/
theorem goodIn_r {big : List Cond} (ws : List Cond) (ps : List Nat) (hp : ws = ps.filterMap (fun i => big[i]?)) (h : ws.all goodWord = true) : GoodIn big ws := by
  intro w hw
  have h1 := List.all_eq_true.mp h w hw
  rw [hp] at hw
  obtain ⟨i, -, hi⟩ := List.mem_filterMap.mp hw
  have hm : w ∈ big := by first | exact List.mem_of_getElem? hi | exact List.getElem?_mem hi
  exact ⟨hm, good_of_word h1⟩
theorem goodIn_app {big a b : List Cond} (ha : GoodIn big a) (hb : GoodIn big b) : GoodIn big (a ++ b) := fun w h => (List.mem_append.mp h).elim (ha w) (hb w)
theorem goodIn_ca {big a b : List Cond} {c : Cond} (ha : GoodIn big (c :: a)) (hb : GoodIn big b) : GoodIn big (c :: (a ++ b)) := fun w h => (List.mem_cons.mp h).elim (fun e => ha w (List.mem_cons.mpr (Or.inl e))) (fun h => (List.mem_append.mp h).elim (fun h => ha w (List.mem_cons.mpr (Or.inr h))) (hb w))
theorem goodIn_sub {big ws : List Cond} (hm : ∀ w ∈ ws, w ∈ big) (h : ws.all goodWord = true) : GoodIn big ws := fun w hw => ⟨hm w hw, good_of_word (List.all_eq_true.mp h w hw)⟩
/-! ===== END ===== -/

/-! ===== BEGIN new T[n][m]: the outer array a place, the inner ones among the pooled ===== -/
/-- f, but v at every address of l -/
def vr_up {α : Type} (f : Nat → α) (l : List Nat) (v : α) : Nat → α := fun a => if a ∈ l then v else f a
theorem vr_up_in {α : Type} {f : Nat → α} {l : List Nat} {v : α} {a : Nat} (h : a ∈ l) : vr_up f l v a = v := if_pos h
theorem vr_up_ne {α : Type} {f : Nat → α} {l : List Nat} {v : α} {a : Nat} (h : a ∉ l) : vr_up f l v a = f a := if_neg h
theorem vr_rows {L l : List Nat} {f : Nat → va_E} {e : va_E} (h : ∀ a, a ∈ l → a ∉ L) : va_pl L f ++ l.map (fun a => (a, e)) = va_pl (L ++ l) (vr_up f l e) := by
  unfold va_pl
  rw [List.map_append]
  congr 1
  · apply List.map_congr_left
    intro a ha
    rw [vr_up_ne (fun q => h a q ha)]
  · apply List.map_congr_left
    intro a ha
    rw [vr_up_in ha]
theorem vr_lay {X rows : va_W} {x : Nat × va_E} {pl : va_W} {D : va_G} {cl : List vw_C} {H : Heap} (hP : va_P D cl (((X ++ pl) ++ [x]) ++ rows) H) : va_P D cl ((X ++ [x]) ++ (pl ++ rows)) H := by
  rw [List.append_assoc (X ++ pl)] at hP
  have h := va_P.swap hP
  rw [← List.append_assoc X] at h
  have h2 := va_P.swap h
  rw [List.append_assoc (X ++ [x])] at h2
  exact h2
theorem vr_layD {X rows : va_W} {x : Nat × va_E} {pl : va_W} {A : Nat → Prop} (hD : va_D A (((X ++ pl) ++ [x]) ++ rows)) : va_D A ((X ++ [x]) ++ (pl ++ rows)) := by
  rw [List.append_assoc (X ++ pl)] at hD
  have h := va_D.swap hD
  rw [← List.append_assoc X] at h
  have h2 := va_D.swap h
  rw [List.append_assoc (X ++ [x])] at h2
  exact h2
theorem vr_outer (c : ClassId) (N h0 : Nat) : ∀ i : Nat, Jvm.Free.Multi.outerC c N h0 i = arrV c N (fun j => va_rf (if j < i then some (h0 + 1 + j) else none))
  | 0 => by
    show ({ cls := c, slots := Array.replicate N .null, vm := .none } : Cell) = _
    rw [arrV_new]
    refine congrArg (arrV c N) (funext fun j => ?_)
    simp [va_rf]
  | i + 1 => by
    show (Jvm.Free.Multi.outerC c N h0 i).setSlot i (.ref (h0 + 1 + i)) = _
    rw [vr_outer c N h0 i, arrV_store]
    refine congrArg (arrV c N) (funext fun j => ?_)
    by_cases e : j = i
    · subst e
      simp [updV, va_rf]
    · by_cases h : j < i
      · simp [updV, e, h, Nat.lt_succ_of_lt h]
      · simp [updV, e, h, show ¬ j < i + 1 by omega]
section VGM
variable {p : Program} {l : Launch} {e : Env} {R : Room} {s : State} {m : MethodId} {args : Array Value} {below : List Frame} {meth : Method} {c : Code} {H : Heap} {locs : List Loc} {cells slots : Nat} {Q : State → Prop}
variable {cc : ByteArray} {pc : Nat} {ls : Array Slot} {rest : List Value} {D : va_G} {cl : List vw_C} {A : Nat → Prop} {a : Nat} {tys : List (ClassId × FieldType)} {ws : va_W} {H0 : Heap}
theorem va_mna {X : va_W} {L : List Nat} {f : Nat → va_E} {cc : ByteArray} (hexec : p.tables.exec = Jvm.exec) (hb : c.code = cc) {own : String} {index : Nat} {ty : FieldType} {cy : ClassId} (hown : s.vm.findClass own = some m.cls) (hclink : (Cond.classLink own index ("[" ++ (FieldType.array ty).toString)).before args s = true) (hover : va_AOA ty s) (harr : (Cond.arrayClass ty).before args s = true) (hcy : s.vm.findClass (FieldType.array ty).toString = some cy)
    (hK : va_K D cl tys s) (hP : va_P D cl (X ++ va_pl L f) H) (hD : va_D A (X ++ va_pl L f)) (hS : va_S A H0 H locs) (hA : ∀ q, H0.size ≤ q → A q) {n k : Int32} {N' K' : Nat} {z : vp_A} (hn : ¬ n < 0) (hk : ¬ k < 0) (hN : n.toNatClampNeg = N') (hM : k.toNatClampNeg = K')
    (hb1 : N' * 4 ≤ 536870912) (hb2 : K' * componentBytes ty ≤ 536870912) (hb3 : K' ≤ 536870912) (hdf : fits ty (defaultValue ty) = true) (hdd : (defaultValue ty).isDefault = true) (hcells : cells + (1 + N') ≤ R.cells) (hslots : slots + (N' + N' * K') ≤ R.slots) (hz : ∀ c : ClassId, Jvm.Free.Multi.innerC c K' (defaultValue ty) = vp_cell c z) (hdg : decode cc pc = .ok (.multianewarray index 2, 4))
    (kk : ∀ (q : Nat) (r : Nat → Nat) (cA : ClassId) (H1 : Heap), (∀ i j : Nat, i < N' → j < N' → r i = r j → i = j) → (∀ i : Nat, i < N' → r i ∉ L) → va_K D cl (tys ++ [(cA, .array ty)]) s →
      va_P D cl ((X ++ [(q, .inl (cA, N', .inr (.inr (.inr (.inr (fun i => if i < N' then some (r i) else none))))))]) ++ va_pl (L ++ (List.range N').map r) (vr_up f ((List.range N').map r) (.inl (cy, z)))) H1 → va_D A ((X ++ [(q, .inl (cA, N', .inr (.inr (.inr (.inr (fun i => if i < N' then some (r i) else none))))))]) ++ va_pl (L ++ (List.range N').map r) (vr_up f ((List.range N').map r) (.inl (cy, z)))) → va_S A H0 H1 locs →
      W p l e R s m args below meth c H1 locs (cells + 1 + N') (slots + N' + N' * K') Q (F0 m (pc + 4) ls (.ref q :: rest))) : W p l e R s m args below meth c H locs cells slots Q (F0 m pc ls (.int k :: .int n :: rest)) := by
  subst hN
  subst hM
  intro T hT Xs
  obtain ⟨vm₁, cA, comp, -, fA, fC, hO, -, X', step⟩ := Xs.multianewarray2F hexec hown hclink (va_AOA.use hover) harr (g := F0 m pc ls (.int k :: .int n :: rest)) rfl (by rw [hb]; exact hdg) rfl hn hk hb1 hb2 hb3 hdf hdd hcells hslots
  have ec : some cy = some comp := hcy.symm.trans fC
  cases ec
  generalize hF : Jvm.Free.Multi.fill (T.setVm vm₁) cA cy n.toNatClampNeg k.toNatClampNeg (defaultValue ty) n.toNatClampNeg = F at X' step
  have hTh : (T.setVm vm₁).heap = H := hT
  obtain ⟨f1, f2, -, -⟩ := Jvm.Free.Multi.fill_facts (T.setVm vm₁) cA cy n.toNatClampNeg k.toNatClampNeg (defaultValue ty) n.toNatClampNeg
  rw [hF, hTh] at f1 f2
  have hold : ∀ x : Nat, x < H.size → F.heap[x]? = H[x]? := fun x hx => by
    have := Jvm.Free.Multi.fill_old (T.setVm vm₁) cA cy n.toNatClampNeg k.toNatClampNeg (defaultValue ty) (a := x) (by rw [hTh]; exact hx) n.toNatClampNeg
    rw [hF, hTh] at this
    exact this
  have hrow : ∀ j : Nat, j < n.toNatClampNeg → F.heap[H.size + 1 + j]? = some (vp_cell cy z) := fun j hj => by
    have := Jvm.Free.Multi.fill_inner (T.setVm vm₁) cA cy n.toNatClampNeg k.toNatClampNeg (defaultValue ty) n.toNatClampNeg j hj
    rw [hF, hTh, hz] at this
    exact this
  have hout : Jvm.Free.Multi.outerC cA n.toNatClampNeg H.size n.toNatClampNeg = vp_cell cA (n.toNatClampNeg, .inr (.inr (.inr (.inr (fun i => if i < n.toNatClampNeg then some (H.size + 1 + i) else none))))) := by
    rw [vp_cell_q]
    exact vr_outer cA n.toNatClampNeg H.size n.toNatClampNeg
  rw [hout] at f2
  have hlt : ∀ a, a ∈ L → a < H.size := fun a ha => by
    obtain ⟨k9, hk9⟩ := va_pl_get (X := X) (f := f) ha
    exact (hP k9 _ hk9).lt
  have hnl : ∀ i : Nat, i < n.toNatClampNeg → H.size + 1 + i ∉ L := fun i _ h => by
    have := hlt _ h
    omega
  have hnm : ∀ a, a ∈ (List.range n.toNatClampNeg).map (fun i => H.size + 1 + i) → a ∉ L := fun a ha h => by
    obtain ⟨i, -, rfl⟩ := List.mem_map.mp ha
    have := hlt _ h
    omega
  have hP0 : va_P D cl (X ++ va_pl L f) F.heap := hP.kept (fun k9 x hx => hold x.1 ((hP k9 x hx).lt))
  have hP1 : va_P D cl ((X ++ va_pl L f) ++ [(H.size, .inl (cA, n.toNatClampNeg, .inr (.inr (.inr (.inr (fun i => if i < n.toNatClampNeg then some (H.size + 1 + i) else none))))))]) F.heap := hP0.app (fun k9 x hx => by
    have h0 : k9 < 1 := (List.getElem?_eq_some_iff.mp hx).1
    rw [show k9 = 0 by omega] at hx
    cases hx
    exact f2)
  have hP2 : va_P D cl (((X ++ va_pl L f) ++ [(H.size, .inl (cA, n.toNatClampNeg, .inr (.inr (.inr (.inr (fun i => if i < n.toNatClampNeg then some (H.size + 1 + i) else none))))))]) ++ ((List.range n.toNatClampNeg).map (fun i => H.size + 1 + i)).map (fun a => (a, .inl (cy, z)))) F.heap := hP1.app (fun k9 x hx => by
    obtain ⟨a, ha, rfl⟩ := List.mem_map.mp (List.mem_of_getElem? hx)
    obtain ⟨i, hi, rfl⟩ := List.mem_map.mp ha
    exact hrow i (List.mem_range.mp hi))
  have hD2 : va_D A (((X ++ va_pl L f) ++ [(H.size, .inl (cA, n.toNatClampNeg, .inr (.inr (.inr (.inr (fun i => if i < n.toNatClampNeg then some (H.size + 1 + i) else none))))))]) ++ ((List.range n.toNatClampNeg).map (fun i => H.size + 1 + i)).map (fun a => (a, .inl (cy, z)))) := by
    have hD1 := hD.push (e := .inl (cA, n.toNatClampNeg, .inr (.inr (.inr (.inr (fun i => if i < n.toNatClampNeg then some (H.size + 1 + i) else none)))))) hP rfl (hA _ hS.1)
    generalize hW1 : (X ++ va_pl L f) ++ [(H.size, .inl (cA, n.toNatClampNeg, .inr (.inr (.inr (.inr (fun i => if i < n.toNatClampNeg then some (H.size + 1 + i) else none))))))] = W1 at hD1 hP1 ⊢
    have hle : ∀ (k9 : Nat) (x : Nat × va_E), W1[k9]? = some x → x.1 ≤ H.size := fun k9 x hx => by
      rw [← hW1] at hx
      by_cases hl : k9 < (X ++ va_pl L f).length
      · rw [List.getElem?_append_left hl] at hx
        exact Nat.le_of_lt ((hP k9 x hx).lt)
      · rw [List.getElem?_append_right (by omega)] at hx
        have h0 : k9 - (X ++ va_pl L f).length < 1 := (List.getElem?_eq_some_iff.mp hx).1
        rw [show k9 - (X ++ va_pl L f).length = 0 by omega] at hx
        cases hx
        exact Nat.le_refl _
    have hr : ∀ (k9 : Nat) (x : Nat × va_E), (((List.range n.toNatClampNeg).map (fun i => H.size + 1 + i)).map (fun a => ((a, .inl (cy, z)) : Nat × va_E)))[k9]? = some x → x.1 = H.size + 1 + k9 := fun k9 x hx => by
      rw [List.getElem?_map, List.getElem?_map] at hx
      by_cases h9 : k9 < n.toNatClampNeg
      · rw [List.getElem?_range h9] at hx
        cases hx
        rfl
      · have hn0 : (List.range n.toNatClampNeg)[k9]? = none := List.getElem?_eq_none (by rw [List.length_range]; omega)
        rw [hn0] at hx
        cases hx
    refine ⟨fun i j x y hi hj hxy => ?_, fun k9 x hx => ?_⟩
    · by_cases h1 : i < W1.length <;> by_cases h2 : j < W1.length
      · rw [List.getElem?_append_left h1] at hi
        rw [List.getElem?_append_left h2] at hj
        exact hD1.1 i j x y hi hj hxy
      · rw [List.getElem?_append_left h1] at hi
        rw [List.getElem?_append_right (by omega)] at hj
        have := hle _ _ hi
        have := hr _ _ hj
        omega
      · rw [List.getElem?_append_right (by omega)] at hi
        rw [List.getElem?_append_left h2] at hj
        have := hle _ _ hj
        have := hr _ _ hi
        omega
      · rw [List.getElem?_append_right (by omega)] at hi hj
        have := hr _ _ hi
        have := hr _ _ hj
        omega
    · by_cases h1 : k9 < W1.length
      · rw [List.getElem?_append_left h1] at hx
        exact hD1.2 k9 x hx
      · rw [List.getElem?_append_right (by omega)] at hx
        have := hr _ _ hx
        exact hA _ (by have := hS.1; omega)
  have hAr : ArrOfT s cA (.array ty) := fun N9 z9 => by
    obtain ⟨-, k9, hk9, cm9, hkk9⟩ := (hO 0 0 0).1
    exact ⟨(fun q hq => by cases hq), k9, hk9, cm9, hkk9⟩
  have hK2 : va_K D cl (tys ++ [(cA, .array ty)]) s := ⟨hK.1, fun k9 x hx => by
    by_cases hl : k9 < tys.length
    · rw [List.getElem?_append_left hl] at hx
      exact hK.2 k9 x hx
    · rw [List.getElem?_append_right (by omega)] at hx
      have h0 : k9 - tys.length < 1 := (List.getElem?_eq_some_iff.mp hx).1
      rw [show k9 - tys.length = 0 by omega] at hx
      cases hx
      exact ⟨hAr, fA⟩⟩
  obtain ⟨t, a1, b1⟩ := kk H.size (fun i => H.size + 1 + i) cA F.heap (fun i j _ _ h => by have h9 : H.size + 1 + i = H.size + 1 + j := h; omega) hnl hK2 (by rw [← vr_rows hnm]; exact vr_lay hP2) (by rw [← vr_rows hnm]; exact vr_layD hD2) ⟨by rw [f1]; have := hS.1; omega, fun x h1 h2 => (hold x (Nat.lt_of_lt_of_le h1 hS.1)).trans (hS.2.1 x h1 h2), hS.2.2⟩ F rfl X'
  refine ⟨t, step t ?_, b1⟩
  have e : T.heap.size = H.size := by rw [hT]
  rw [e]
  exact a1
end VGM
/-! ===== END ===== -/

/-! ===== BEGIN exceptions that leave a method, and their catching by the caller (launches without stack traces) ===== -/
section VXA
/-! The laws vx_back, vx_callV, vx_callS, vx_callSW, vx_throw0, vx_throwS follow proofs of the library, with one case more: JvmDerived/Free/Laws.lean (Back.of_free), Shelf42/LK1.lean (callV, callS), Shelf/KitTraced.lean (throwNew0V, throwNewS). -/
/-- where a method has thrown q: the class by its name, the cell, what was written, the world -/
def vx_T (XC : String → State → State → Prop) (st : State) (q : Addr) (t : State) (mc ms : Nat) (free : Addr → Prop) : Prop :=
  ∃ (E : String) (ce : Cell) (L : List Loc), XC E st t ∧ t.heap[q]? = some ce ∧ ce.vm = .none ∧ st.vm.findClass E = some ce.cls ∧ st.WarmedH t.vm ∧ st.sameButNew ({ t with vm := st.vm } : State) L mc ms ∧ ∀ z ∈ L, free z.base
def vx_Q (Qc : Array Value → State → Outcome → State → Prop) (XC : String → State → State → Prop) (mc ms : Nat) (free : Addr → Prop) : Array Value → State → Outcome → State → Prop := fun a st o t =>
  (Qc a st o t ∧ ∃ L, FrameEnd st o t L mc ms ∧ ∀ q ∈ L, free q.base) ∨ ∃ q, o = .threw q ∧ vx_T XC st q t mc ms free
/-- a callee that returns or throws -/
def vx_Met (l : Launch) (y : MethodName) (ws : List Cond) (rm : Room) (Pc : Array Value → State → Prop) (Qc : Array Value → State → Outcome → State → Prop) (XC : String → State → State → Prop) (mc ms : Nat) (free : Addr → Prop) : Prop :=
  MetFree l y (headSpec ws rm) Pc (fun _ _ _ _ _ => True) (vx_Q Qc XC mc ms free)
def vx_Post (XC : String → State → State → Prop) (mc ms : Nat) (free : Addr → Prop) : Pt → Array Value → Addr → Pt → Prop := fun A a q B =>
  ∃ (g : JFrame) (mk : MethodId) (t : State) (L : List Loc) (E : String) (ce : Cell), B.U.heap = t.heap ∧ B.U.vm = t.vm ∧ XC E (A.U.calling g mk a) t ∧ t.heap[q]? = some ce ∧ ce.vm = .none ∧ A.U.vm.findClass E = some ce.cls ∧ B.locs = A.locs ++ L ∧ (∀ z ∈ L, free z.base) ∧ B.cells = A.cells + mc ∧ B.slots = A.slots + ms
def vx_Back (l : Launch) (R : Room) (p : Program) (e : Env) (below : List Frame) (s : State) (sargs : Array Value) (y : MethodName) (len W9 : Nat)
    (Pre : Pt → Array Value → Prop) (Post : Pt → Array Value → Option Value → Pt → Prop) (PostX : Pt → Array Value → Addr → Pt → Prop) : Prop :=
  ∀ (m : MethodId) (meth : Method) (c : Code) (A : Pt) (g : JFrame) (ig : Instr) (mk : MethodId) (a : Array Value),
    Stand p l e R s m sargs below meth c A.U A.locs A.cells A.slots → g.method = m → g.locals.size = c.maxLocals → decode c.code g.pc = .ok (ig, len) →
    2 * g.monitorRoom + (g.stack.map fun v => v.category).sum ≤ W9 → A.U.methodNamed? y = some mk → Pre A a →
    (∃ (v : Option Value) (B : Pt), Stand p l e R s m sargs below meth c B.U B.locs B.cells B.slots ∧ Post A a v B ∧
      Steps p.tables e below (doInvoke e (A.U.setTop g) [] mk a).1 (B.U.setTop { g with pc := g.pc + len, stack := v.toList ++ g.stack })) ∨
    (∃ (q : Addr) (B : Pt), Stand p l e R s m sargs below meth c B.U B.locs B.cells B.slots ∧ PostX A a q B ∧
      Steps p.tables e below (doInvoke e (A.U.setTop g) [] mk a).1 ((B.U.setTop g).pushFrame (.throwing q)))
section Payer
variable {l : Launch} {R : Room} {p : Program} {e : Env} {below : List Frame} {s : State} {sargs : Array Value} {y : MethodName} {len W9 : Nat}
theorem vx_back {ws : List Cond} {rm : Room} {Pc : Array Value → State → Prop} {Qc : Array Value → State → Outcome → State → Prop} {XC : String → State → State → Prop} {mc ms : Nat} {free : Addr → Prop} {bytes : ByteArray} {maxL : Nat} {ret : Option FieldType}
    (hM : vx_Met l y ws rm Pc Qc XC mc ms free) (hblind : FrameBlind Pc) (hrc : rm.cells = mc) (hrs : rm.slots = ms)
    (hframes : rm.frames + 1 ≤ R.frames) (hlocals : W9 + (maxL + 11) + rm.locals ≤ R.locals)
    (hws : ∀ w ∈ ws, ∀ a' U, s.WarmedH U.vm → w.before a' U = true) (hcode : Cond.code y bytes maxL ret ∈ ws) (hinit : ∀ a' U, s.WarmedH U.vm → (Cond.initialized y.cls).before a' U = true) :
    vx_Back l R p e below s sargs y len W9 (PreOf R mc ms Pc) (PostOf Qc mc ms free) (vx_Post XC mc ms free) := by
  intro m meth c A g ig mk a X hg hsize hdg hW hn hp
  have h1 : (headSpec ws rm).pre.before a A.U = true := atoms_intro fun w hw => hws w hw _ _ X.warmed
  have h2 : (Cond.code y bytes maxL ret).before a A.U = true := hws _ hcode _ _ X.warmed
  have h3 : (Cond.initialized y.cls).before a A.U = true := hinit _ _ X.warmed
  have h4 : A.cells + (headSpec ws rm).room.cells ≤ R.cells := by rw [show (headSpec ws rm).room.cells = mc from hrc]; exact hp.1
  have h5 : A.slots + (headSpec ws rm).room.slots ≤ R.slots := by rw [show (headSpec ws rm).room.slots = ms from hrs]; exact hp.2.1
  have hPc : Pc a (A.U.calling g mk a) := hblind _ _ _ _ hp.2.2
  obtain ⟨U, Ls, c0, s0⟩ := A
  dsimp only [Pt.U, Pt.locs, Pt.cells, Pt.slots] at h1 h2 h3 h4 h5 X hn hPc ⊢
  obtain ⟨methY, cY, hmY, hcY, -, hlY, -, -, -, -⟩ := Cond.code_spec hn h2
  obtain ⟨kY, hkY, -⟩ := className_of_methodNamed hn
  have hinitY : kY.init = .initialized := Cond.initialized_spec (findClass_of_methodNamed hn) hkY h3
  have h : At U g.method c below := by rw [hg]; exact X.here
  have hlocals9 : W9 + (maxL + 11) + (headSpec ws rm).room.locals ≤ R.locals := hlocals
  have happ : (headSpec ws rm).appliesLoose y e.platform (U.calling g mk a) = true :=
    Spec.appliesLoose_calling (g := g) h hdg hn hkY hinitY
      (X.room_calling (g := g) (R' := (headSpec ws rm).room) hsize hmY hcY hframes (by rw [hlY]; omega) h4 h5) h1
  obtain ⟨mid, hmid⟩ := h.above
  have hfr : (U.setTop g).frames = (.java g :: mid) ++ below := by rw [State.frames_setTop' g h.top, hmid]; rfl
  obtain ⟨o, s₂, hsteps, -, hend, hq⟩ := Steps.callFree hM p X.admits X.cas X.clock (acts := []) hfr happ hPc trivial
  have hq' : vx_Q Qc XC mc ms free a (U.calling g mk a) o s₂ := hq
  rw [State.frames_setTop' g h.top] at hend
  obtain ⟨g₀, hg0⟩ := Option.isSome_iff_exists.mp h.top
  obtain ⟨r, hr⟩ := State.topJava?_eq_some.mp hg0
  have hr' : (({ U with heap := s₂.heap, slotsUsed := s₂.slotsUsed } : State).setVm s₂.vm).frames = .java g₀ :: r := hr
  rcases hq' with ⟨hqc, L, hfe, hL⟩ | ⟨q, rfl, E, ce, L, hx, hce, hcv, hcl, hW₂, hsm, hL⟩
  · obtain ⟨⟨v, rfl⟩, hW₂, e2, q2, q3, q4, q5, q6⟩ := id hfe
    have e3 : s₂ = ({ (U.calling g mk a).setFrames s₂.frames with heap := s₂.heap, slotsUsed := s₂.slotsUsed } : State).setVm s₂.vm := by
      have : s₂ = ({ s₂ with vm := (U.calling g mk a).vm } : State).setVm s₂.vm := rfl
      rw [e2] at this
      exact this
    obtain ⟨c₂, i₂, len₂, hc₂, hd₂, hf₂⟩ := hend
    have hW' : U.WarmedH s₂.vm := hW₂
    have hcc : c₂ = c := by
      have h1 : s₂.code? g.method = U.code? g.method := by
        rw [State.code?_eq, State.code?_eq, hW'.alike.method?]
      exact Option.some.inj (hc₂.symm.trans (h1.trans h.code))
    subst hcc
    have hlen : len₂ = len := by rw [hdg] at hd₂; cases hd₂; rfl
    subst hlen
    have hs₂ : s₂ = (({ U with heap := s₂.heap, slotsUsed := s₂.slotsUsed } : State).setVm s₂.vm).setTop { g with pc := g.pc + len₂, stack := v.toList ++ g.stack } := by
      refine e3.trans ?_
      rw [hf₂, State.calling_eq h.top, State.setFrames_setFrames, State.setTop_of_frames _ hr', hr]
      rfl
    have hsame : U.sameButNew ({ U with heap := s₂.heap, slotsUsed := s₂.slotsUsed } : State) L mc ms := by
      refine ⟨?_, q2, q3, q4, q5, q6⟩
      obtain ⟨t, ht, -⟩ := State.frames_cons hr
      show ({ U with heap := s₂.heap, slotsUsed := s₂.slotsUsed } : State) = { U.setFrames U.frames with heap := s₂.heap, slotsUsed := s₂.slotsUsed }
      rw [State.setFrames_self ht]
    subst hg
    refine Or.inl ⟨v, ⟨(({ U with heap := s₂.heap, slotsUsed := s₂.slotsUsed } : State).setVm s₂.vm), Ls ++ L, c0 + mc, s0 + ms⟩,
      ⟨X.admits, X.cas, X.clock, X.frames, X.room, X.hears, X.method, X.code, (X.here.setHeapUsed s₂.heap s₂.slotsUsed).setVm hW'.alike, X.tail, State.WarmedH.trans X.warmed hW', X.limits, X.bytes, X.same.trans (hsame.setVm s.vm)⟩,
      ⟨g, mk, s₂, L, rfl, rfl, hqc, rfl, hL, rfl, rfl⟩, ?_⟩
    show Steps p.tables e below _ ((({ U with heap := s₂.heap, slotsUsed := s₂.slotsUsed } : State).setVm s₂.vm).setTop { g with pc := g.pc + len₂, stack := v.toList ++ g.stack })
    rw [← hs₂]
    exact hsteps
  · obtain ⟨e2, q2, q3, q4, q5, q6⟩ := id hsm
    have e3 : s₂ = ({ (U.calling g mk a).setFrames s₂.frames with heap := s₂.heap, slotsUsed := s₂.slotsUsed } : State).setVm s₂.vm := by
      have : s₂ = ({ s₂ with vm := (U.calling g mk a).vm } : State).setVm s₂.vm := rfl
      rw [e2] at this
      exact this
    have hf₂ : s₂.frames = .throwing q :: .java g :: U.frames.tail := hend
    have hW' : U.WarmedH s₂.vm := hW₂
    have hs₂ : s₂ = ((({ U with heap := s₂.heap, slotsUsed := s₂.slotsUsed } : State).setVm s₂.vm).setTop g).pushFrame (.throwing q) := by
      refine e3.trans ?_
      rw [hf₂, State.calling_eq h.top, State.setFrames_setFrames, State.pushFrame, State.frames_setTop _ hr', State.setTop_of_frames _ hr', State.setFrames_setFrames, hr]
      rfl
    have hsame : U.sameButNew ({ U with heap := s₂.heap, slotsUsed := s₂.slotsUsed } : State) L mc ms := by
      refine ⟨?_, q2, q3, q4, q5, q6⟩
      obtain ⟨t, ht, -⟩ := State.frames_cons hr
      show ({ U with heap := s₂.heap, slotsUsed := s₂.slotsUsed } : State) = { U.setFrames U.frames with heap := s₂.heap, slotsUsed := s₂.slotsUsed }
      rw [State.setFrames_self ht]
    subst hg
    refine Or.inr ⟨q, ⟨(({ U with heap := s₂.heap, slotsUsed := s₂.slotsUsed } : State).setVm s₂.vm), Ls ++ L, c0 + mc, s0 + ms⟩,
      ⟨X.admits, X.cas, X.clock, X.frames, X.room, X.hears, X.method, X.code, (X.here.setHeapUsed s₂.heap s₂.slotsUsed).setVm hW'.alike, X.tail, State.WarmedH.trans X.warmed hW', X.limits, X.bytes, X.same.trans (hsame.setVm s.vm)⟩,
      ⟨g, mk, s₂, L, E, ce, rfl, rfl, hx, hce, hcv, hcl, rfl, hL, rfl, rfl⟩, ?_⟩
    show Steps p.tables e below _ (((({ U with heap := s₂.heap, slotsUsed := s₂.slotsUsed } : State).setVm s₂.vm).setTop g).pushFrame (.throwing q))
    rw [← hs₂]
    exact hsteps
end Payer
section Calls
variable {p : Program} {l : Launch} {e : Env} {R : Room} {s : State} {m : MethodId} {args : Array Value} {below : List Frame} {meth : Method} {c : Code} {T : State} {locs : List Loc} {cells slots : Nat}
theorem vx_callV (X : Stand p l e R s m args below meth c T locs cells slots) (hexec : p.tables.exec = Jvm.exec) {own C : String} {index : Nat} {y : MethodName} {bytes : ByteArray} {maxL : Nat} {ret : Option FieldType}
    (hown : s.vm.findClass own = some m.cls) (hlink : (Cond.methodLink own index y).before args s = true) (hinst : (Cond.instanceMethod y).before args s = true) (hsel : (Cond.selects C y y).before args s = true)
    (hcode : (Cond.code y bytes maxL ret).before args s = true) (hy : y.cls ≠ "java/lang/invoke/MethodHandle" ∧ y.cls ≠ "java/lang/invoke/VarHandle")
    {W9 : Nat} {Pre : Pt → Array Value → Prop} {Post : Pt → Array Value → Option Value → Pt → Prop} {PostX : Pt → Array Value → Addr → Pt → Prop} (hK : vx_Back l R p e below s args y 3 W9 Pre Post PostX)
    {b : Addr} {cellB : Cell} (hcell : T.heap[b]? = some cellB) (hobj : cellB.vm.isStatics = false) (hcls : s.vm.findClass C = some cellB.cls)
    {g : JFrame} (hg : g.method = m) (hsize : g.locals.size = c.maxLocals) {argsL rest : List Value} (hlen : ∀ sig, parseMethodDescriptor y.desc = some sig → argsL.length = sig.parameters.length)
    (hstack : g.stack = argsL.reverse ++ .ref b :: rest) (hW : 2 * g.monitorRoom + (rest.map fun v => v.category).sum ≤ W9) (hdg : decode c.code g.pc = .ok (.invokevirtual index, 3))
    (hpre : ∀ vm₁, s.WarmedH vm₁ → Pre ⟨T.setVm vm₁, locs, cells, slots⟩ (Value.ref b :: argsL).toArray) :
    (∃ (v : Option Value) (vm₁ : Vm) (B : Pt), s.WarmedH vm₁ ∧ Stand p l e R s m args below meth c B.U B.locs B.cells B.slots ∧ Post ⟨T.setVm vm₁, locs, cells, slots⟩ (Value.ref b :: argsL).toArray v B ∧
      ∀ target, Steps p.tables e below (B.U.setTop { g with pc := g.pc + 3, stack := v.toList ++ rest }) target → Steps p.tables e below (T.setTop g) target) ∨
    (∃ (q : Addr) (vm₁ : Vm) (B : Pt), s.WarmedH vm₁ ∧ Stand p l e R s m args below meth c B.U B.locs B.cells B.slots ∧ PostX ⟨T.setVm vm₁, locs, cells, slots⟩ (Value.ref b :: argsL).toArray q B ∧
      Steps p.tables e below (T.setTop g) ((B.U.setTop { g with stack := rest }).pushFrame (.throwing q))) := by
  obtain ⟨mk, methM, hnamed, hmethM, hstM, habM⟩ := Cond.instanceMethod_spec hinst
  obtain ⟨methM', cM, hmethM', -, -, -, -, -, -, hsigM⟩ := Cond.code_spec hnamed hcode
  cases hmethM.symm.trans hmethM'
  obtain ⟨c2, r2, m2, q1, q2, q3, q4, kP, hkP, hkPi⟩ := Cond.selects_spec hsel
  cases hcls.symm.trans q1
  cases (State.methodFound?_of_named hnamed hy).symm.trans q2
  cases hnamed.symm.trans q3
  have hselP : selectMethod e.platform s.vm cellB.cls mk = .method mk := by rw [Launch.admits_selectMethod X.admits]; exact q4
  obtain ⟨vm₁, X₁, hstep₁⟩ := X.invokevirtual hexec hown hlink hnamed hmethM hstM hkP hkPi hy (a := b) (cell := cellB) hcell
    (fun z h => by rw [h] at hobj; cases hobj) hselP hmethM habM hkP hkPi (g := g) hg (argsL := argsL) (rest := rest) (hlen _ hsigM) hstack hdg
  rcases hK m meth c ⟨T.setVm vm₁, locs, cells, slots⟩ { g with stack := rest } (.invokevirtual index) mk (Value.ref b :: argsL).toArray X₁ hg hsize hdg hW (X₁.named hnamed) (hpre vm₁ X₁.warmed) with ⟨v, B, X', hpost, hsteps⟩ | ⟨q, B, X', hpost, hsteps⟩
  · exact Or.inl ⟨v, vm₁, B, X₁.warmed, X', hpost, fun target h => hstep₁ _ fun acts => by rw [doInvoke_state]; exact hsteps.trans h⟩
  · exact Or.inr ⟨q, vm₁, B, X₁.warmed, X', hpost, hstep₁ _ fun acts => by rw [doInvoke_state]; exact hsteps⟩
theorem vx_callS (X : Stand p l e R s m args below meth c T locs cells slots) (hexec : p.tables.exec = Jvm.exec) {own : String} {index : Nat} {y : MethodName} {bytes : ByteArray} {maxL : Nat} {ret : Option FieldType}
    (hown : s.vm.findClass own = some m.cls) (hlink : (Cond.methodLink own index y).before args s = true) (hstat : (Cond.static y).before args s = true) (hinit : (Cond.initialized y.cls).before args s = true)
    (hcode : (Cond.code y bytes maxL ret).before args s = true) (hy : y.cls ≠ "java/lang/invoke/MethodHandle" ∧ y.cls ≠ "java/lang/invoke/VarHandle")
    {W9 : Nat} {Pre : Pt → Array Value → Prop} {Post : Pt → Array Value → Option Value → Pt → Prop} {PostX : Pt → Array Value → Addr → Pt → Prop} (hK : vx_Back l R p e below s args y 3 W9 Pre Post PostX)
    {g : JFrame} (hg : g.method = m) (hsize : g.locals.size = c.maxLocals) {argsL rest : List Value} (hlen : ∀ sig, parseMethodDescriptor y.desc = some sig → argsL.length = sig.parameters.length)
    (hstack : g.stack = argsL.reverse ++ rest) (hW : 2 * g.monitorRoom + (rest.map fun v => v.category).sum ≤ W9) (hdg : decode c.code g.pc = .ok (.invokestatic index, 3))
    (hpre : ∀ vm₁, s.WarmedH vm₁ → Pre ⟨T.setVm vm₁, locs, cells, slots⟩ argsL.toArray) :
    (∃ (v : Option Value) (vm₁ : Vm) (B : Pt), s.WarmedH vm₁ ∧ Stand p l e R s m args below meth c B.U B.locs B.cells B.slots ∧ Post ⟨T.setVm vm₁, locs, cells, slots⟩ argsL.toArray v B ∧
      ∀ target, Steps p.tables e below (B.U.setTop { g with pc := g.pc + 3, stack := v.toList ++ rest }) target → Steps p.tables e below (T.setTop g) target) ∨
    (∃ (q : Addr) (vm₁ : Vm) (B : Pt), s.WarmedH vm₁ ∧ Stand p l e R s m args below meth c B.U B.locs B.cells B.slots ∧ PostX ⟨T.setVm vm₁, locs, cells, slots⟩ argsL.toArray q B ∧
      Steps p.tables e below (T.setTop g) ((B.U.setTop { g with stack := rest }).pushFrame (.throwing q))) := by
  obtain ⟨mk, hnamed⟩ := Cond.code_named hcode
  obtain ⟨methM, cM, hmethM, -, -, -, -, -, -, hsigM⟩ := Cond.code_spec hnamed hcode
  have hstatic : methM.isStatic = true := Cond.static_spec hnamed hmethM hstat
  obtain ⟨kP, hkP, -⟩ := className_of_methodNamed hnamed
  have hinitP : kP.init = .initialized := Cond.initialized_spec (findClass_of_methodNamed hnamed) hkP hinit
  obtain ⟨vm₁, X₁, hstep₁⟩ := X.invokestatic hexec hown hlink hnamed hmethM hstatic hkP hinitP hy (g := g) hg (argsL := argsL) (rest := rest) (hlen _ hsigM) hstack hdg
  rcases hK m meth c ⟨T.setVm vm₁, locs, cells, slots⟩ { g with stack := rest } (.invokestatic index) mk argsL.toArray X₁ hg hsize hdg hW (X₁.named hnamed) (hpre vm₁ X₁.warmed) with ⟨v, B, X', hpost, hsteps⟩ | ⟨q, B, X', hpost, hsteps⟩
  · exact Or.inl ⟨v, vm₁, B, X₁.warmed, X', hpost, fun target h => hstep₁ _ fun acts => by rw [doInvoke_state]; exact hsteps.trans h⟩
  · exact Or.inr ⟨q, vm₁, B, X₁.warmed, X', hpost, hstep₁ _ fun acts => by rw [doInvoke_state]; exact hsteps⟩
end Calls
theorem vx_cls {s : State} {T : State} {vm₁ : Vm} {E : String} {k : ClassId} (hW : s.WarmedH vm₁) (h : (T.setVm vm₁).vm.findClass E = some k) : s.vm.findClass E = some k := by
  have h1 : vm₁.findClass E = some k := h
  rw [hW.alike.findClass] at h1
  exact h1
/-- the method's frame g, with q thrown over it -/
def vx_W (p : Program) (l : Launch) (e : Env) (R : Room) (s : State) (m : MethodId) (args : Array Value) (below : List Frame) (meth : Method) (c : Code) (H : Heap) (locs : List Loc) (cells slots : Nat) (Q : State → Prop) (g : JFrame) (q : Addr) : Prop :=
  ∀ T : State, T.heap = H → Stand p l e R s m args below meth c T locs cells slots → ∃ t, Steps p.tables e below ((T.setTop g).pushFrame (.throwing q)) t ∧ Q t
def vx_Run (p : Program) (l : Launch) (e : Env) (R : Room) (s : State) (m : MethodId) (args : Array Value) (below : List Frame) (meth : Method) (c : Code) (H : Heap) (locs : List Loc) (cells slots mc ms : Nat) (g : JFrame) (rest : List Value) (Qa : State → Outcome → State → Prop) (XC : String → State → State → Prop) (free : Addr → Prop) : Prop :=
  ∀ T : State, T.heap = H → Stand p l e R s m args below meth c T locs cells slots →
    (∃ (v : Option Value) (st₀ t T' : State) (L : List Loc), st₀.heap = H ∧ Stand p l e R s m args below meth c T' (locs ++ L) (cells + mc) (slots + ms) ∧ (∀ q ∈ L, free q.base) ∧ T'.heap = t.heap ∧ T'.vm = t.vm ∧ Qa st₀ (.returned v) t ∧
      Goes p e below T g T' { g with pc := g.pc + 3, stack := v.toList ++ rest }) ∨
    (∃ (q : Addr) (st₀ t T' : State) (L : List Loc) (E : String) (ce : Cell), st₀.heap = H ∧ Stand p l e R s m args below meth c T' (locs ++ L) (cells + mc) (slots + ms) ∧ (∀ z ∈ L, free z.base) ∧ T'.heap = t.heap ∧ T'.vm = t.vm ∧ XC E st₀ t ∧ t.heap[q]? = some ce ∧ ce.vm = .none ∧ s.vm.findClass E = some ce.cls ∧
      Steps p.tables e below (T.setTop g) ((T'.setTop { g with stack := rest }).pushFrame (.throwing q)))
def vx_X {S : Type} (px : S → Prop) (B : String → S → State → Prop) (A : Nat → Prop) : String → State → State → Prop := fun E st t => ∃ u : S, px u ∧ B E u t ∧ va_F A st t
section Runs
variable {p : Program} {l : Launch} {e : Env} {R : Room} {s : State} {m : MethodId} {args : Array Value} {below : List Frame} {meth : Method} {c : Code} {H : Heap} {locs : List Loc} {cells slots : Nat}
variable {y : MethodName} {bytes cc : ByteArray} {maxL nL mc ms n index : Nat} {ret : Option FieldType} {ws : List Cond} {rm : Room} {Pc : Array Value → State → Prop} {Qc : Array Value → State → Outcome → State → Prop} {XC : String → State → State → Prop} {free : Addr → Prop} {Ts : List Cond} {own C : String} {b : Addr} {As rest : List Value} {g : JFrame}
theorem vx_callBack (cb : CallB R s args own index y bytes maxL ret ws rm mc ms n) (hM : vx_Met l y ws rm Pc Qc XC mc ms free) (hbl : FrameBlind Pc) : vx_Back l R p e below s args y 3 8 (PreOf R mc ms Pc) (PostOf Qc mc ms free) (vx_Post XC mc ms free) := by
  obtain ⟨hrc, hrs, hfr, hlo, hws, hcw, -, hini, -⟩ := cb
  exact vx_back (bytes := bytes) (maxL := maxL) (ret := ret) hM hbl hrc hrs hfr hlo hws hcw (fun a' U hW => word_at hW (Or.inl (by first | rfl | simp [Cond.onTables, Cond.keeps, Cond.steady])) hini)
theorem vx_runV (S : CallFix p m c cc nL s args Ts own) (hM : vx_Met l y ws rm Pc Qc XC mc ms free) (cw : CallW R s args own C index y bytes maxL ret ws rm mc ms n) (hp : PreV s H C b Pc As)
    (hg : g.method = m) (hn : As.length = n) (hsize : g.locals.size = nL) (hstack : g.stack = As.reverse ++ .ref b :: rest) (hW : 2 * g.monitorRoom + (rest.map fun v => v.category).sum ≤ 8) (hdg : decode cc g.pc = .ok (.invokevirtual index, 3)) (hf : cells + mc ≤ R.cells ∧ slots + ms ≤ R.slots) :
    vx_Run p l e R s m args below meth c H locs cells slots mc ms g rest (Qc (Value.ref b :: As).toArray) XC free := by
  have hK : vx_Back l R p e below s args y 3 8 (PreOf R mc ms Pc) (PostOf Qc mc ms free) (vx_Post XC mc ms free) := vx_callBack cw.1 hM hp.1
  obtain ⟨⟨-, -, -, -, -, -, hcode, -, hy, hlen, hl⟩, hin, hse⟩ := cw
  obtain ⟨hx, hb, hml, ho, -⟩ := S
  obtain ⟨-, ⟨cellB, hcB, hoB, hclB⟩, hPc⟩ := hp
  intro T hT X
  rcases vx_callV X hx (C := C) (bytes := bytes) (maxL := maxL) (ret := ret) ho hl hin hse hcode hy hK (by rw [hT]; exact hcB) hoB hclB hg (hsize.trans hml.symm) (argsL := As) (rest := rest) (fun sig h => hn.trans (hlen sig h)) hstack hW (by rw [hb]; exact hdg)
    (fun vm₁ hW₁ => ⟨hf.1, hf.2, hPc (T.setVm vm₁) hT hW₁⟩) with ⟨v, vm₁, ⟨U', l2, c2, s2⟩, hW₁, X', ⟨g', mk, t, L, e1, e2, hq, h1, hL, h2, h3⟩, st⟩ | ⟨q, vm₁, ⟨U', l2, c2, s2⟩, hW₁, X', ⟨g', mk, t, L, E, ce, e1, e2, hq, hce, hcv, hcl, h1, hL, h2, h3⟩, st⟩
  · dsimp only [Pt.U, Pt.locs, Pt.cells, Pt.slots] at X' e1 e2 h1 h2 h3 st
    subst h1; subst h2; subst h3
    exact Or.inl ⟨v, (T.setVm vm₁).calling g' mk (Value.ref b :: As).toArray, t, U', L, hT, X', hL, e1, e2, hq, st⟩
  · dsimp only [Pt.U, Pt.locs, Pt.cells, Pt.slots] at X' e1 e2 h1 h2 h3 st hcl
    subst h1; subst h2; subst h3
    exact Or.inr ⟨q, (T.setVm vm₁).calling g' mk (Value.ref b :: As).toArray, t, U', L, E, ce, hT, X', hL, e1, e2, hq, hce, hcv, vx_cls hW₁ hcl, st⟩
theorem vx_runS (S : CallFix p m c cc nL s args Ts own) (hM : vx_Met l y ws rm Pc Qc XC mc ms free) (cw : CallB R s args own index y bytes maxL ret ws rm mc ms n ∧ (Cond.static y).before args s = true) (hp : PreS s H Pc As)
    (hg : g.method = m) (hn : As.length = n) (hsize : g.locals.size = nL) (hstack : g.stack = As.reverse ++ rest) (hW : 2 * g.monitorRoom + (rest.map fun v => v.category).sum ≤ 8) (hdg : decode cc g.pc = .ok (.invokestatic index, 3)) (hf : cells + mc ≤ R.cells ∧ slots + ms ≤ R.slots) :
    vx_Run p l e R s m args below meth c H locs cells slots mc ms g rest (Qc As.toArray) XC free := by
  have hK : vx_Back l R p e below s args y 3 8 (PreOf R mc ms Pc) (PostOf Qc mc ms free) (vx_Post XC mc ms free) := vx_callBack cw.1 hM hp.1
  obtain ⟨⟨-, -, -, -, -, -, hcode, hini, hy, hlen, hl⟩, hstt⟩ := cw
  obtain ⟨hx, hb, hml, ho, -⟩ := S
  intro T hT X
  rcases vx_callS X hx (bytes := bytes) (maxL := maxL) (ret := ret) ho hl hstt hini hcode hy hK hg (hsize.trans hml.symm) (argsL := As) (rest := rest) (fun sig h => hn.trans (hlen sig h)) hstack hW (by rw [hb]; exact hdg)
    (fun vm₁ hW₁ => ⟨hf.1, hf.2, hp.2 (T.setVm vm₁) hT hW₁⟩) with ⟨v, vm₁, ⟨U', l2, c2, s2⟩, hW₁, X', ⟨g', mk, t, L, e1, e2, hq, h1, hL, h2, h3⟩, st⟩ | ⟨q, vm₁, ⟨U', l2, c2, s2⟩, hW₁, X', ⟨g', mk, t, L, E, ce, e1, e2, hq, hce, hcv, hcl, h1, hL, h2, h3⟩, st⟩
  · dsimp only [Pt.U, Pt.locs, Pt.cells, Pt.slots] at X' e1 e2 h1 h2 h3 st
    subst h1; subst h2; subst h3
    exact Or.inl ⟨v, (T.setVm vm₁).calling g' mk As.toArray, t, U', L, hT, X', hL, e1, e2, hq, st⟩
  · dsimp only [Pt.U, Pt.locs, Pt.cells, Pt.slots] at X' e1 e2 h1 h2 h3 st hcl
    subst h1; subst h2; subst h3
    exact Or.inr ⟨q, (T.setVm vm₁).calling g' mk As.toArray, t, U', L, E, ce, hT, X', hL, e1, e2, hq, hce, hcv, vx_cls hW₁ hcl, st⟩
end Runs
section Rows
variable {p : Program} {l : Launch} {e : Env} {R : Room} {s : State} {m : MethodId} {args : Array Value} {below : List Frame} {meth : Method} {c : Code} {H : Heap} {locs : List Loc} {cells slots : Nat} {Q : State → Prop}
variable {mc ms : Nat} {free : Addr → Prop} {A0 A1 : Nat → Prop} {H0 : Heap} {a : Array Value} {pc : Nat} {ls : Array Slot} {st0 rest : List Value}
theorem vx_keep {st₀ t T' : State} {L : List Loc} (h0 : st₀.heap = H) (e1 : T'.heap = t.heap) (hS : va_S A0 H0 H locs) (hA : ∀ q, q < H.size → A1 q → A0 q) (hf : ∀ q, free q → A0 q) (hL : ∀ q ∈ L, free q.base) (hF : va_F A1 st₀ t) :
    H.size ≤ T'.heap.size ∧ (∀ q : Nat, q < H.size → ¬ A1 q → T'.heap[q]? = H[q]?) ∧ va_S A0 H0 T'.heap (locs ++ L) := by
  obtain ⟨hz, hk⟩ := hF
  rw [h0] at hz hk
  exact ⟨by rw [e1]; exact hz, fun q h1 h2 => by rw [e1]; exact hk q h1 h2,
    ⟨Nat.le_trans hS.1 (by rw [e1]; exact hz), fun q h1 h2 => by rw [e1, hk q (Nat.lt_of_lt_of_le h1 hS.1) (fun z => h2 (hA q (Nat.lt_of_lt_of_le h1 hS.1) z))]; exact hS.2.1 q h1 h2, fun q hq => by
      rcases List.mem_append.mp hq with h | h
      · exact hS.2.2 q h
      · exact hf _ (hL q h)⟩⟩
theorem vx_calli {S SX : Type} {post : Int32 → S → Prop} {px : SX → Prop} {B : S → State → Prop} {BX : String → SX → State → Prop} {AX : Nat → Prop} (hr : vx_Run p l e R s m args below meth c H locs cells slots mc ms (F0 m pc ls st0) rest (va_Qi post B A1 a) (vx_X px BX AX) free) (hS : va_S A0 H0 H locs) (hA : ∀ q, q < H.size → A1 q → A0 q) (hf : ∀ q, free q → A0 q) (hAX : ∀ q, q < H.size → AX q → A0 q)
    (kx : ∀ (E : String) (ce : Cell) (q9 : Addr) (u : SX) (t : State) (H1 : Heap) (locs1 : List Loc), t.heap = H1 → s.vm.Alike t.vm → px u → BX E u t → H.size ≤ H1.size → (∀ q : Nat, q < H.size → ¬ AX q → H1[q]? = H[q]?) → va_S A0 H0 H1 locs1 → H1[q9]? = some ce → ce.vm = .none → s.vm.findClass E = some ce.cls → vx_W p l e R s m args below meth c H1 locs1 (cells + mc) (slots + ms) Q (F0 m pc ls rest) q9)
    (kk : ∀ (r : Int32) (u : S) (t : State) (H1 : Heap) (locs1 : List Loc), t.heap = H1 → s.vm.Alike t.vm → post r u → B u t → H.size ≤ H1.size → (∀ q : Nat, q < H.size → ¬ A1 q → H1[q]? = H[q]?) → va_S A0 H0 H1 locs1 → W p l e R s m args below meth c H1 locs1 (cells + mc) (slots + ms) Q (F0 m (pc + 3) ls (.int r :: rest))) : W p l e R s m args below meth c H locs cells slots Q (F0 m pc ls st0) := by
  intro T hT X
  rcases hr T hT X with ⟨v, st₀, t, T', L, h0, X', hL, e1, e2, ⟨⟨r, u, hv, hp, hb⟩, hF⟩, st⟩ | ⟨q, st₀, t, T', L, E, ce, h0, X', hL, e1, e2, ⟨u, hp, hb, hF⟩, hce, hcv, hcl, st⟩
  · cases hv
    obtain ⟨k1, k2, k3⟩ := vx_keep h0 e1 hS hA hf hL hF
    obtain ⟨t2, a1, b1⟩ := kk r u t T'.heap (locs ++ L) e1.symm (by rw [← e2]; exact X'.warmed.alike) hp hb k1 k2 k3 T' rfl X'
    exact ⟨t2, st t2 a1, b1⟩
  · obtain ⟨k1, k2, k3⟩ := vx_keep h0 e1 hS hAX hf hL hF
    obtain ⟨t2, a1, b1⟩ := kx E ce q u t T'.heap (locs ++ L) e1.symm (by rw [← e2]; exact X'.warmed.alike) hp hb k1 k2 k3 (by rw [e1]; exact hce) hcv hcl T' rfl X'
    exact ⟨t2, st.trans a1, b1⟩
theorem vx_calll {S SX : Type} {post : Int64 → S → Prop} {px : SX → Prop} {B : S → State → Prop} {BX : String → SX → State → Prop} {AX : Nat → Prop} (hr : vx_Run p l e R s m args below meth c H locs cells slots mc ms (F0 m pc ls st0) rest (va_Ql post B A1 a) (vx_X px BX AX) free) (hS : va_S A0 H0 H locs) (hA : ∀ q, q < H.size → A1 q → A0 q) (hf : ∀ q, free q → A0 q) (hAX : ∀ q, q < H.size → AX q → A0 q)
    (kx : ∀ (E : String) (ce : Cell) (q9 : Addr) (u : SX) (t : State) (H1 : Heap) (locs1 : List Loc), t.heap = H1 → s.vm.Alike t.vm → px u → BX E u t → H.size ≤ H1.size → (∀ q : Nat, q < H.size → ¬ AX q → H1[q]? = H[q]?) → va_S A0 H0 H1 locs1 → H1[q9]? = some ce → ce.vm = .none → s.vm.findClass E = some ce.cls → vx_W p l e R s m args below meth c H1 locs1 (cells + mc) (slots + ms) Q (F0 m pc ls rest) q9)
    (kk : ∀ (r : Int64) (u : S) (t : State) (H1 : Heap) (locs1 : List Loc), t.heap = H1 → s.vm.Alike t.vm → post r u → B u t → H.size ≤ H1.size → (∀ q : Nat, q < H.size → ¬ A1 q → H1[q]? = H[q]?) → va_S A0 H0 H1 locs1 → W p l e R s m args below meth c H1 locs1 (cells + mc) (slots + ms) Q (F0 m (pc + 3) ls (.long r :: rest))) : W p l e R s m args below meth c H locs cells slots Q (F0 m pc ls st0) := by
  intro T hT X
  rcases hr T hT X with ⟨v, st₀, t, T', L, h0, X', hL, e1, e2, ⟨⟨r, u, hv, hp, hb⟩, hF⟩, st⟩ | ⟨q, st₀, t, T', L, E, ce, h0, X', hL, e1, e2, ⟨u, hp, hb, hF⟩, hce, hcv, hcl, st⟩
  · cases hv
    obtain ⟨k1, k2, k3⟩ := vx_keep h0 e1 hS hA hf hL hF
    obtain ⟨t2, a1, b1⟩ := kk r u t T'.heap (locs ++ L) e1.symm (by rw [← e2]; exact X'.warmed.alike) hp hb k1 k2 k3 T' rfl X'
    exact ⟨t2, st t2 a1, b1⟩
  · obtain ⟨k1, k2, k3⟩ := vx_keep h0 e1 hS hAX hf hL hF
    obtain ⟨t2, a1, b1⟩ := kx E ce q u t T'.heap (locs ++ L) e1.symm (by rw [← e2]; exact X'.warmed.alike) hp hb k1 k2 k3 (by rw [e1]; exact hce) hcv hcl T' rfl X'
    exact ⟨t2, st.trans a1, b1⟩
theorem vx_callf {S SX : Type} {post : UInt32 → S → Prop} {px : SX → Prop} {B : S → State → Prop} {BX : String → SX → State → Prop} {AX : Nat → Prop} (hr : vx_Run p l e R s m args below meth c H locs cells slots mc ms (F0 m pc ls st0) rest (va_Qf post B A1 a) (vx_X px BX AX) free) (hS : va_S A0 H0 H locs) (hA : ∀ q, q < H.size → A1 q → A0 q) (hf : ∀ q, free q → A0 q) (hAX : ∀ q, q < H.size → AX q → A0 q)
    (kx : ∀ (E : String) (ce : Cell) (q9 : Addr) (u : SX) (t : State) (H1 : Heap) (locs1 : List Loc), t.heap = H1 → s.vm.Alike t.vm → px u → BX E u t → H.size ≤ H1.size → (∀ q : Nat, q < H.size → ¬ AX q → H1[q]? = H[q]?) → va_S A0 H0 H1 locs1 → H1[q9]? = some ce → ce.vm = .none → s.vm.findClass E = some ce.cls → vx_W p l e R s m args below meth c H1 locs1 (cells + mc) (slots + ms) Q (F0 m pc ls rest) q9)
    (kk : ∀ (r : UInt32) (u : S) (t : State) (H1 : Heap) (locs1 : List Loc), t.heap = H1 → s.vm.Alike t.vm → post r u → B u t → H.size ≤ H1.size → (∀ q : Nat, q < H.size → ¬ A1 q → H1[q]? = H[q]?) → va_S A0 H0 H1 locs1 → W p l e R s m args below meth c H1 locs1 (cells + mc) (slots + ms) Q (F0 m (pc + 3) ls (.float r :: rest))) : W p l e R s m args below meth c H locs cells slots Q (F0 m pc ls st0) := by
  intro T hT X
  rcases hr T hT X with ⟨v, st₀, t, T', L, h0, X', hL, e1, e2, ⟨⟨r, u, hv, hp, hb⟩, hF⟩, st⟩ | ⟨q, st₀, t, T', L, E, ce, h0, X', hL, e1, e2, ⟨u, hp, hb, hF⟩, hce, hcv, hcl, st⟩
  · cases hv
    obtain ⟨k1, k2, k3⟩ := vx_keep h0 e1 hS hA hf hL hF
    obtain ⟨t2, a1, b1⟩ := kk r u t T'.heap (locs ++ L) e1.symm (by rw [← e2]; exact X'.warmed.alike) hp hb k1 k2 k3 T' rfl X'
    exact ⟨t2, st t2 a1, b1⟩
  · obtain ⟨k1, k2, k3⟩ := vx_keep h0 e1 hS hAX hf hL hF
    obtain ⟨t2, a1, b1⟩ := kx E ce q u t T'.heap (locs ++ L) e1.symm (by rw [← e2]; exact X'.warmed.alike) hp hb k1 k2 k3 (by rw [e1]; exact hce) hcv hcl T' rfl X'
    exact ⟨t2, st.trans a1, b1⟩
theorem vx_calld {S SX : Type} {post : UInt64 → S → Prop} {px : SX → Prop} {B : S → State → Prop} {BX : String → SX → State → Prop} {AX : Nat → Prop} (hr : vx_Run p l e R s m args below meth c H locs cells slots mc ms (F0 m pc ls st0) rest (va_Qd post B A1 a) (vx_X px BX AX) free) (hS : va_S A0 H0 H locs) (hA : ∀ q, q < H.size → A1 q → A0 q) (hf : ∀ q, free q → A0 q) (hAX : ∀ q, q < H.size → AX q → A0 q)
    (kx : ∀ (E : String) (ce : Cell) (q9 : Addr) (u : SX) (t : State) (H1 : Heap) (locs1 : List Loc), t.heap = H1 → s.vm.Alike t.vm → px u → BX E u t → H.size ≤ H1.size → (∀ q : Nat, q < H.size → ¬ AX q → H1[q]? = H[q]?) → va_S A0 H0 H1 locs1 → H1[q9]? = some ce → ce.vm = .none → s.vm.findClass E = some ce.cls → vx_W p l e R s m args below meth c H1 locs1 (cells + mc) (slots + ms) Q (F0 m pc ls rest) q9)
    (kk : ∀ (r : UInt64) (u : S) (t : State) (H1 : Heap) (locs1 : List Loc), t.heap = H1 → s.vm.Alike t.vm → post r u → B u t → H.size ≤ H1.size → (∀ q : Nat, q < H.size → ¬ A1 q → H1[q]? = H[q]?) → va_S A0 H0 H1 locs1 → W p l e R s m args below meth c H1 locs1 (cells + mc) (slots + ms) Q (F0 m (pc + 3) ls (.double r :: rest))) : W p l e R s m args below meth c H locs cells slots Q (F0 m pc ls st0) := by
  intro T hT X
  rcases hr T hT X with ⟨v, st₀, t, T', L, h0, X', hL, e1, e2, ⟨⟨r, u, hv, hp, hb⟩, hF⟩, st⟩ | ⟨q, st₀, t, T', L, E, ce, h0, X', hL, e1, e2, ⟨u, hp, hb, hF⟩, hce, hcv, hcl, st⟩
  · cases hv
    obtain ⟨k1, k2, k3⟩ := vx_keep h0 e1 hS hA hf hL hF
    obtain ⟨t2, a1, b1⟩ := kk r u t T'.heap (locs ++ L) e1.symm (by rw [← e2]; exact X'.warmed.alike) hp hb k1 k2 k3 T' rfl X'
    exact ⟨t2, st t2 a1, b1⟩
  · obtain ⟨k1, k2, k3⟩ := vx_keep h0 e1 hS hAX hf hL hF
    obtain ⟨t2, a1, b1⟩ := kx E ce q u t T'.heap (locs ++ L) e1.symm (by rw [← e2]; exact X'.warmed.alike) hp hb k1 k2 k3 (by rw [e1]; exact hce) hcv hcl T' rfl X'
    exact ⟨t2, st.trans a1, b1⟩
theorem vx_callv {S SX : Type} {post : S → Prop} {px : SX → Prop} {B : S → State → Prop} {BX : String → SX → State → Prop} {AX : Nat → Prop} (hr : vx_Run p l e R s m args below meth c H locs cells slots mc ms (F0 m pc ls st0) rest (va_Qv post B A1 a) (vx_X px BX AX) free) (hS : va_S A0 H0 H locs) (hA : ∀ q, q < H.size → A1 q → A0 q) (hf : ∀ q, free q → A0 q) (hAX : ∀ q, q < H.size → AX q → A0 q)
    (kx : ∀ (E : String) (ce : Cell) (q9 : Addr) (u : SX) (t : State) (H1 : Heap) (locs1 : List Loc), t.heap = H1 → s.vm.Alike t.vm → px u → BX E u t → H.size ≤ H1.size → (∀ q : Nat, q < H.size → ¬ AX q → H1[q]? = H[q]?) → va_S A0 H0 H1 locs1 → H1[q9]? = some ce → ce.vm = .none → s.vm.findClass E = some ce.cls → vx_W p l e R s m args below meth c H1 locs1 (cells + mc) (slots + ms) Q (F0 m pc ls rest) q9)
    (kk : ∀ (u : S) (t : State) (H1 : Heap) (locs1 : List Loc), t.heap = H1 → s.vm.Alike t.vm → post u → B u t → H.size ≤ H1.size → (∀ q : Nat, q < H.size → ¬ A1 q → H1[q]? = H[q]?) → va_S A0 H0 H1 locs1 → W p l e R s m args below meth c H1 locs1 (cells + mc) (slots + ms) Q (F0 m (pc + 3) ls (rest))) : W p l e R s m args below meth c H locs cells slots Q (F0 m pc ls st0) := by
  intro T hT X
  rcases hr T hT X with ⟨v, st₀, t, T', L, h0, X', hL, e1, e2, ⟨⟨u, hv, hp, hb⟩, hF⟩, st⟩ | ⟨q, st₀, t, T', L, E, ce, h0, X', hL, e1, e2, ⟨u, hp, hb, hF⟩, hce, hcv, hcl, st⟩
  · cases hv
    obtain ⟨k1, k2, k3⟩ := vx_keep h0 e1 hS hA hf hL hF
    obtain ⟨t2, a1, b1⟩ := kk u t T'.heap (locs ++ L) e1.symm (by rw [← e2]; exact X'.warmed.alike) hp hb k1 k2 k3 T' rfl X'
    exact ⟨t2, st t2 a1, b1⟩
  · obtain ⟨k1, k2, k3⟩ := vx_keep h0 e1 hS hAX hf hL hF
    obtain ⟨t2, a1, b1⟩ := kx E ce q u t T'.heap (locs ++ L) e1.symm (by rw [← e2]; exact X'.warmed.alike) hp hb k1 k2 k3 (by rw [e1]; exact hce) hcv hcl T' rfl X'
    exact ⟨t2, st.trans a1, b1⟩
/-- caught by the row x of this method's table; the rows ahead don't take it -/
theorem vx_catch {own name : String} {E : String} {ce : Cell} {q : Addr} (hown : s.vm.findClass own = some m.cls) (pre : List ExceptionTableEntry) (x : ExceptionTableEntry) (suf : List ExceptionTableEntry) (hsplit : c.exceptionTable.toList = pre ++ x :: suf)
    (hpass : ∀ z ∈ pre, covers z pc = false ∨ (z.catchType ≠ 0 ∧ ∃ nm : String, (Cond.classLink own z.catchType nm).before args s = true ∧ va_Nc E nm s)) (hx : covers x pc = true) (h0 : x.catchType ≠ 0)
    (hlink : (Cond.classLink own x.catchType name).before args s = true) (hcast : (Cond.castable E name).before args s = true) (hcell : H[q]? = some ce) (hv : ce.vm = .none) (hcl : s.vm.findClass E = some ce.cls)
    (kk : W p l e R s m args below meth c H locs cells slots Q (F0 m x.handlerPc ls [.ref q])) : vx_W p l e R s m args below meth c H locs cells slots Q (F0 m pc ls rest) q := by
  intro T hT X
  have hpl : e.platform.magicAccessors = ({} : Platform).magicAccessors := by rw [X.admits.platform]
  obtain ⟨c3, c4, hc3, hc4, hasg⟩ := Cond.castable_spec hcast
  cases Option.some.inj (hc3.symm.trans hcl)
  obtain ⟨c5, hc5, hcl5⟩ := Cond.classLink_spec hown hlink e.platform hpl
  cases Option.some.inj (hc4.symm.trans hc5)
  obtain ⟨vm', X', st⟩ := X.thenCaughtThrough q (g := F0 m pc ls rest) rfl (Steps.refl _) (by rw [hT]; exact hcell) (by rw [hv]; rfl) (by obtain ⟨k9, h9, -⟩ := Vm.findClass_spec hcl; exact ⟨k9, h9⟩) pre x suf hsplit
    (fun z hz => by
      rcases hpass z hz with h | ⟨hz0, nm, hl1, hn1⟩
      · exact Or.inl h
      · obtain ⟨c6, hc6, hcl6⟩ := Cond.classLink_spec hown hl1 e.platform hpl
        obtain ⟨a8, b8, h1, h2, h3⟩ := hn1
        cases Option.some.inj (h1.symm.trans hcl)
        cases Option.some.inj (h2.symm.trans hc6)
        exact Or.inr ⟨hz0, _, hcl6, h3⟩) hx (Or.inr ⟨h0, c4, hcl5, hasg⟩)
  obtain ⟨t, a1, b1⟩ := kk (T.setVm vm') hT X'
  exact ⟨t, st.trans a1, b1⟩
end Rows
section Ends
variable {p : Program} {l : Launch} {e : Env} {R : Room} {s : State} {m : MethodId} {args : Array Value} {below : List Frame} {meth : Method} {c : Code} {H : Heap} {locs : List Loc} {cells slots : Nat} {Q : State → Prop}
variable {mc ms : Nat} {free : Addr → Prop} {A0 A1 : Nat → Prop} {H0 : Heap} {a : Array Value} {ls : Array Slot} {st0 rest : List Value}
variable {Qc : Array Value → State → Outcome → State → Prop} {XC : String → State → State → Prop}
/-- what a body that may throw owes at its end -/
def vx_MQ (below : List Frame) (Qc : Array Value → State → Outcome → State → Prop) (XC : String → State → State → Prop) (a : Array Value) (s : State) (mc ms : Nat) (free : Addr → Prop) : State → Prop := fun t =>
  ∃ o, t.status = .running ∧ Ended t below o ∧ vx_Q Qc XC mc ms free a s o t
theorem vx_ret {g : JFrame} {mc ms : Nat} (k : W p l e R s m args below meth c H locs cells slots (MQ below Qc args s mc ms free) g) : W p l e R s m args below meth c H locs cells slots (vx_MQ below Qc XC args s mc ms free) g := by
  intro T hT X
  obtain ⟨t, a1, o, b1, b2, b3, b4⟩ := k T hT X
  exact ⟨t, a1, o, b1, b2, Or.inl ⟨b3, b4⟩⟩
/-- not caught here: it goes on to the caller -/
theorem vx_widen {g : JFrame} {q : Addr} {k n : Nat} (h1 : cells ≤ k) (h2 : slots ≤ n) (kk : vx_W p l e R s m args below meth c H locs k n Q g q) : vx_W p l e R s m args below meth c H locs cells slots Q g q := fun T hT X => kk T hT (stand_widen X h1 h2)
theorem vx_out {pc : Nat} {E : String} {ce : Cell} {q : Addr} {mc ms : Nat} (hout : ∀ x ∈ c.exceptionTable.toList, covers x pc = false) (hlocks : meth.locks = false) (hcell : H[q]? = some ce) (hv : ce.vm = .none) (hcl : s.vm.findClass E = some ce.cls)
    (hx : ∀ t : State, t.heap = H → s.vm.Alike t.vm → XC E s t) (hf : ∀ z ∈ locs, free z.base) (hc : cells ≤ mc) (hs : slots ≤ ms) :
    vx_W p l e R s m args below meth c H locs cells slots (vx_MQ below Qc XC args s mc ms free) (F0 m pc ls rest) q := by
  intro T hT X
  obtain ⟨st1, hrun, hend, hW, hsm⟩ := X.leaveThrown q (g := F0 m pc ls rest) rfl rfl rfl hout hlocks
  have hcell9 : (T.setFrames (.throwing q :: below)).heap[q]? = some ce := by
    show T.heap[q]? = some ce
    rw [hT]; exact hcell
  exact ⟨_, st1, .threw q, hrun, hend, Or.inr ⟨q, rfl, E, ce, locs, hx _ hT hW.alike, hcell9, hv, hcl, hW, hsm.mono hc hs, hf⟩⟩
theorem vx_frame {U : State} {k n : Nat} (h : s.sameButNew ({ U with vm := s.vm } : State) locs k n) : s.heap.size ≤ U.heap.size ∧ ∀ q : Nat, q < s.heap.size → (∀ z ∈ locs, z.base ≠ q) → U.heap[q]? = s.heap[q]? := by
  obtain ⟨-, h2, -, -, -, h6⟩ := h
  refine ⟨h2, fun q hq hz => ?_⟩
  obtain ⟨c9, e1, e2, e3, e4⟩ := h6 q _ (Array.getElem?_eq_getElem hq)
  have hs : c9.slots = (s.heap[q]).slots := Array.ext_getElem? fun i => e4 i fun hm => hz _ hm rfl
  have h9 : c9 = s.heap[q] := by
    rw [hs] at e2
    exact e2
  have e5 : U.heap[q]? = some c9 := e1
  rw [e5, h9, Array.getElem?_eq_getElem hq]
/-- the words of a throw but the four that speak of the heap -/
def vx_no (w : Cond) : Bool := decide (w ≠ .isRef (.static Bundle.tN "UNASSIGNED_STACK" Bundle.steD)) && decide (w ≠ .isRef (.static Bundle.tN "SUPPRESSED_SENTINEL" Bundle.listD)) && decide (w ≠ .laysStatic Bundle.tN "UNASSIGNED_STACK" Bundle.steD) && decide (w ≠ .laysStatic Bundle.tN "SUPPRESSED_SENTINEL" Bundle.listD)
def vx_at0 (own : String) (ic : Nat) (X : String) (names : List String) : List Cond := (Bundle.ownAtoms0 own ic X names).filter vx_no
def vx_atS (own : String) (ic : Nat) (X : String) (names : List String) : List Cond := (Bundle.ownAtoms own ic X names).filter vx_no
/-- a word that the tables alone decide, or a good one -/
def vx_ot (w : Cond) : Bool := w.onTables || goodWord w
theorem vx_ot_at {args a' : Array Value} {s U : State} {w : Cond} (hW : s.WarmedH U.vm) (hvm : s.vm = U.vm) (hg : vx_ot w = true) (h : w.before args s = true) : w.before a' U = true := by
  simp only [vx_ot, Bool.or_eq_true] at hg
  rcases hg with hg | hg
  · exact va_tabs hg hvm h
  · exact word_at hW (good_of_word hg) h
/-- a list's words: the good ones out of the method's own list, the others by premises of their own -/
theorem vx_hat {args : Array Value} {s : State} {L B : List Cond} (h1 : ∀ w ∈ L.filter goodWord, w.before args s = true) (h2 : ∀ w ∈ L.filter (fun w => !goodWord w), w ∈ B) (h3 : ∀ w ∈ B, w.before args s = true) : ∀ w ∈ L, w.before args s = true := by
  intro w hw
  by_cases g : goodWord w = true
  · exact h1 w (List.mem_filter.mpr ⟨hw, g⟩)
  · refine h3 w (h2 w (List.mem_filter.mpr ⟨hw, ?_⟩))
    show (!goodWord w) = true
    cases hgw : goodWord w
    · rfl
    · exact absurd hgw g
theorem vx_c {args : Array Value} {s : State} {w : Cond} {B : List Cond} (h : w.before args s = true) (t : ∀ w ∈ B, w.before args s = true) : ∀ w' ∈ w :: B, w'.before args s = true := fun w' h' => (List.mem_cons.mp h').elim (fun e => by rw [e]; exact h) (t w')
theorem vx_n {args : Array Value} {s : State} : ∀ w ∈ ([] : List Cond), w.before args s = true := fun _ h => nomatch h
theorem vx_own {args : Array Value} {s : State} {L : List Cond} (h1 : ∀ w ∈ L.filter vx_no, w.before args s = true)
    (hU : (Cond.isRef (.static Bundle.tN "UNASSIGNED_STACK" Bundle.steD)).before args s = true) (hN : (Cond.isRef (.static Bundle.tN "SUPPRESSED_SENTINEL" Bundle.listD)).before args s = true)
    (lU : (Cond.laysStatic Bundle.tN "UNASSIGNED_STACK" Bundle.steD).before args s = true) (lN : (Cond.laysStatic Bundle.tN "SUPPRESSED_SENTINEL" Bundle.listD).before args s = true) : ∀ w ∈ L, w.before args s = true := by
  intro w hw
  by_cases e1 : w = .isRef (.static Bundle.tN "UNASSIGNED_STACK" Bundle.steD)
  · rw [e1]; exact hU
  · by_cases e2 : w = .isRef (.static Bundle.tN "SUPPRESSED_SENTINEL" Bundle.listD)
    · rw [e2]; exact hN
    · by_cases e3 : w = .laysStatic Bundle.tN "UNASSIGNED_STACK" Bundle.steD
      · rw [e3]; exact lU
      · by_cases e4 : w = .laysStatic Bundle.tN "SUPPRESSED_SENTINEL" Bundle.listD
        · rw [e4]; exact lN
        · exact h1 w (List.mem_filter.mpr ⟨hw, by unfold vx_no; rw [decide_eq_true e1, decide_eq_true e2, decide_eq_true e3, decide_eq_true e4]; rfl⟩)
/-- where a static field lies, its class's statics cell in H -/
def vx_L (C n d : String) (A : Nat → Prop) (U : State) (H : Heap) : Prop := ∃ (c : ClassId) (k : Class) (i : Nat) (f : Field) (a : Nat) (cell : Cell), U.vm.findClass C = some c ∧ U.fieldFound? C n d = some (c, k, i, f) ∧ f.isStatic = true ∧ k.statics = some a ∧ H[a]? = some cell ∧ cell.vm.isStatics = true ∧ cell.cls = c ∧ f.slot < cell.slots.size ∧ k.staticTypes[f.slot]? = some f.type ∧ ¬ A a
theorem vx_L.moved {C n d : String} {A : Nat → Prop} {u U : State} {H : Heap} (hvm : u.vm.Alike U.vm) (h : vx_L C n d A u H) : vx_L C n d A U H := by
  obtain ⟨c, k, i, f, a, cell, h1, h2, h3, h4, h5, h6, h7, h8, h9, h10⟩ := h
  obtain ⟨k', hi', he⟩ := State.fieldFound?_setVm hvm h2
  exact ⟨c, k', i, f, a, cell, by rw [hvm.findClass]; exact h1, hi', h3, by rw [he]; exact h4, h5, h6, h7, h8, by rw [he]; exact h9, h10⟩
theorem vx_L.kept {C n d : String} {A : Nat → Prop} {U : State} {H H1 : Heap} (h : vx_L C n d A U H) (hq : ∀ a : Nat, a < H.size → ¬ A a → H1[a]? = H[a]?) : vx_L C n d A U H1 := by
  obtain ⟨c, k, i, f, a, cell, h1, h2, h3, h4, h5, h6, h7, h8, h9, h10⟩ := h
  exact ⟨c, k, i, f, a, cell, h1, h2, h3, h4, by rw [hq a (Array.getElem?_eq_some_iff.mp h5).1 h10]; exact h5, h6, h7, h8, h9, h10⟩
theorem vx_L.narrow {C n d : String} {A B : Nat → Prop} {U : State} {H : Heap} (h : vx_L C n d A U H) (hAB : ∀ q, B q → A q) : vx_L C n d B U H := by
  obtain ⟨c, k, i, f, a, cell, h1, h2, h3, h4, h5, h6, h7, h8, h9, h10⟩ := h
  exact ⟨c, k, i, f, a, cell, h1, h2, h3, h4, h5, h6, h7, h8, h9, fun z => h10 (hAB _ z)⟩
theorem vx_L.word {C n d : String} {A : Nat → Prop} {s : State} {args : Array Value} (h : vx_L C n d A s s.heap) : (Cond.laysStatic C n d).before args s = true := by
  obtain ⟨c, k, i, f, a, cell, h1, h2, h3, h4, h5, h6, h7, h8, h9, -⟩ := h
  show (Cond.laysStatic C n d).holds args s none s [] = true
  exact Cond.laysStatic_of h1 h2 h3 h4 h5 h6 h7 h8 h9
/-- .. and what it holds: null or some reference -/
def vx_Zq (C n d : String) (A : Nat → Prop) (U : State) (H : Heap) : Prop := va_Zq C n d A U H ∧ vx_L C n d A U H
theorem vx_Zq.moved {C n d : String} {A : Nat → Prop} {u U : State} {H : Heap} (hvm : u.vm.Alike U.vm) (h : vx_Zq C n d A u H) : vx_Zq C n d A U H := ⟨va_Zq.moved hvm h.1, vx_L.moved hvm h.2⟩
theorem vx_Zq.kept {C n d : String} {A : Nat → Prop} {U : State} {H H1 : Heap} (h : vx_Zq C n d A U H) (hq : ∀ a : Nat, a < H.size → ¬ A a → H1[a]? = H[a]?) : vx_Zq C n d A U H1 := ⟨va_Zq.kept h.1 hq, vx_L.kept h.2 hq⟩
theorem vx_Zq.narrow {C n d : String} {A B : Nat → Prop} {U : State} {H : Heap} (h : vx_Zq C n d A U H) (hAB : ∀ q, B q → A q) : vx_Zq C n d B U H := ⟨va_Zq.narrow h.1 hAB, vx_L.narrow h.2 hAB⟩
theorem vx_Zqof {args : Array Value} {s : State} {C n d : String} {A : Nat → Prop} (hl : (Cond.laysStatic C n d).before args s = true) (hini : (Cond.initialized C).before args s = true) (h : (Cond.isRef (.static C n d)).before args s = true) (hA : ∀ a : Nat, a < s.heap.size → ¬ A a) : vx_Zq C n d A s s.heap := by
  refine ⟨va_Zqof hl hini h hA, ?_⟩
  obtain ⟨c, k, i, f, a, cell, h1, h2, h3, h4, h5, h6, h7, h8, h9⟩ := Cond.laysStatic_spec hl
  exact ⟨c, k, i, f, a, cell, h1, h2, h3, h4, h5, h6, h7, h8, h9, hA a (Array.getElem?_eq_some_iff.mp h5).1⟩
theorem vx_isRef {C n d : String} {v : Value} {A : Nat → Prop} {s : State} {args : Array Value} (h : va_Z C n d v A s s.heap) (hv : v.isRef = true) : (Cond.isRef (.static C n d)).before args s = true := by
  obtain ⟨cf, kf, fi, f, a, cell, h1, h2, h3, h4, h5, h6, h7, -⟩ := h
  have he : (Term.static C n d).eval args s none [] s = some v := by
    simp [Term.eval, State.fieldNamed?, h1, h2, h4, h5, h6, h7]
  simp only [Cond.before, Cond.holds, Cond.value, he]
  cases v <;> simp_all [Value.isRef]
theorem vx_isRefq {C n d : String} {A : Nat → Prop} {s : State} {args : Array Value} (h : va_Zq C n d A s s.heap) : (Cond.isRef (.static C n d)).before args s = true := by
  rcases h with h | ⟨t, h⟩
  · exact vx_isRef h rfl
  · exact vx_isRef h rfl
/-- the same frame, seen from here: as if the method were called anew in this heap -/
theorem vx_rebase {T : State} (X : Stand p l e R s m args below meth c T locs cells slots) {R' : Room} (hf : R'.frames ≤ R.frames) (hl : R'.locals ≤ R.locals) (hc : cells + R'.cells ≤ R.cells) (hs : slots + R'.slots ≤ R.slots) :
    Stand p l e R' ((T.setVm s.vm).setFrames (.invoking m args :: below)) m args below meth c T [] 0 0 := by
  have htop : (T.setVm s.vm).topJava?.isSome := X.here.top
  have hF : ((T.setVm s.vm).setFrames (.invoking m args :: below)).frames = .invoking m args :: below := State.frames_setFrames _ (State.cur_lt_of_top htop)
  obtain ⟨g₀, hg0⟩ := Option.isSome_iff_exists.mp htop
  obtain ⟨r, hr⟩ := State.topJava?_eq_some.mp hg0
  have hl9 : e.platform.stackLimits (T.setVm s.vm).me = e.platform.stackLimits s.me := X.limits
  have hb9 : (T.setVm s.vm).me.stackBytes = s.me.stackBytes := X.bytes
  refine ⟨X.admits, X.cas, X.clock, hF, ?_, X.hears, X.method, X.code, X.here, X.tail, X.warmed, ?_, ?_, ?_⟩
  · have h := X.room
    have hU : ((T.setVm s.vm).setFrames (.invoking m args :: below)).localsInUse = s.localsInUse := by
      rw [State.localsInUse_invoking hF (meth := meth) (c := c) X.method X.code, State.localsInUse_invoking X.frames X.method X.code]
    simp only [State.hasRoom, Bool.and_eq_true, decide_eq_true_eq] at h ⊢
    obtain ⟨⟨⟨⟨h1, h2, h3, h4, h5, h6⟩, h7⟩, h8⟩, h9⟩ := h
    rw [X.frames, List.length_cons] at h2 h3
    have q1 := X.heapSize
    have q2 := X.used
    simp only [hF, hU, List.length_cons, State.stackLimits_setFrames, State.stackBytes_setFrames, hl9, hb9]
    refine ⟨⟨⟨⟨by omega, by omega, by omega, by omega, by omega, h6⟩, ?_⟩, ?_⟩, X.book⟩
    · show T.heap.size + R'.cells ≤ e.platform.maxCells
      omega
    · show T.slotsUsed + R'.slots ≤ e.platform.maxSlots
      omega
  · rw [State.stackLimits_setFrames]; rfl
  · rw [State.stackBytes_setFrames]; rfl
  · refine ⟨?_, Nat.le_refl _, Nat.le_refl _, ?_, ?_, fun a c9 h9 => ⟨c9, h9, rfl, rfl, fun _ _ => rfl⟩⟩
    · obtain ⟨t, ht, -⟩ := State.frames_cons hr
      show T.setVm s.vm = { ((T.setVm s.vm).setFrames (.invoking m args :: below)).setFrames (T.setVm s.vm).frames with heap := T.heap, slotsUsed := T.slotsUsed }
      rw [State.setFrames_setFrames, State.setFrames_self ht]
      rfl
    · show T.slotsUsed = T.slotsUsed + ((T.heap.toList.drop T.heap.size).map (·.slots.size)).sum
      rw [List.drop_eq_nil_of_le (Nat.le_of_eq Array.length_toList)]
      rfl
    · show ((T.heap.toList.drop T.heap.size).map (·.slots.size)).sum ≤ 0
      rw [List.drop_eq_nil_of_le (Nat.le_of_eq Array.length_toList)]
      exact Nat.le_refl _
/-- 'throw new E()': new; dup; invokespecial; athrow -/
theorem vx_throw0 {cc : ByteArray} {pc : Nat} (hexec : p.tables.exec = Jvm.exec) (hb : c.code = cc) (hl : l.stackTraces = false) {own cls : String} {names : List String} {ik ic mc ms : Nat} {A : Nat → Prop}
    (hown : s.vm.findClass own = some m.cls) (hcls : Bundle.fit cls = true) (hnames : ∀ n ∈ names, Bundle.fit n = true)
    (hk : (Cond.classLink own ik cls).before args s = true) (hini : (Cond.initialized cls).before args s = true) (hat : ∀ w ∈ vx_at0 own ic cls names, w.before args s = true)
    (hgood : ∀ w ∈ Cond.classLink own ik cls :: Cond.initialized cls :: vx_at0 own ic cls names, vx_ot w = true)
    (hU : vx_Zq Bundle.tN "UNASSIGNED_STACK" Bundle.steD A s s.heap) (hN : vx_Zq Bundle.tN "SUPPRESSED_SENTINEL" Bundle.listD A s s.heap) (hS : va_S A s.heap H locs) (hsize : ls.size = c.maxLocals)
    (d0 : decode cc pc = .ok (.new ik, 3)) (d3 : decode cc (pc + 3) = .ok (.dup, 1)) (d4 : decode cc (pc + 4) = .ok (.invokespecial ic, 3)) (d7 : decode cc (pc + 7) = .ok (.athrow, 1))
    (hout : ∀ x ∈ c.exceptionTable.toList, covers x (pc + 7) = false)
    (hRframes : names.length + 3 < R.frames) (hRlocals : (rest.map fun v => v.category).sum + (13 * (names.length + 1) + 42) ≤ R.locals) (hRcells : cells + 1 ≤ R.cells) (hRslots : slots + 6 ≤ R.slots) (hlocks : meth.locks = false)
    (hx : ∀ t : State, s.vm.Alike t.vm → H.size ≤ t.heap.size → (∀ q : Nat, q < H.size → t.heap[q]? = H[q]?) → XC cls s t)
    (hf : ∀ z ∈ locs, free z.base) (hc : cells + 1 ≤ mc) (hs : slots + 6 ≤ ms) :
    W p l e R s m args below meth c H locs cells slots (vx_MQ below Qc XC args s mc ms free) (F0 m pc ls rest) := by
  intro T hT X
  have htr : e.platform.stackTraces = false := (show e.platform.stackTraces = l.stackTraces by rw [X.admits.platform]).trans hl
  have Y := vx_rebase X (R' := { frames := R.frames, locals := R.locals, cells := 1, slots := 6 }) (Nat.le_refl _) (Nat.le_refl _) hRcells hRslots
  obtain ⟨s', hA⟩ : ∃ z, z = (T.setVm s.vm).setFrames (.invoking m args :: below) := ⟨_, rfl⟩
  rw [← hA] at Y
  have hvm : s'.vm = s.vm := by rw [hA]; rfl
  have hhp : s'.heap = H := by rw [hA]; exact hT
  have hW0 : s.WarmedH s'.vm := by rw [hvm]; exact State.WarmedH.refl s
  have hat' : ∀ w ∈ vx_at0 own ic cls names, w.before args s' = true := fun w hw => vx_ot_at hW0 hvm.symm (hgood w (List.mem_cons_of_mem _ (List.mem_cons_of_mem _ hw))) (hat w hw)
  have hk' : (Cond.classLink own ik cls).before args s' = true := vx_ot_at hW0 hvm.symm (hgood _ List.mem_cons_self) hk
  have hini' : (Cond.initialized cls).before args s' = true := vx_ot_at hW0 hvm.symm (hgood _ (List.mem_cons_of_mem _ List.mem_cons_self)) hini
  have hU' : vx_Zq Bundle.tN "UNASSIGNED_STACK" Bundle.steD A s' s'.heap := by rw [hhp]; exact vx_Zq.moved hW0.alike (hU.kept hS.2.1)
  have hN' : vx_Zq Bundle.tN "SUPPRESSED_SENTINEL" Bundle.listD A s' s'.heap := by rw [hhp]; exact vx_Zq.moved hW0.alike (hN.kept hS.2.1)
  have h : ∀ w ∈ Bundle.ownAtoms0 own ic cls names, w.before args s' = true := vx_own hat' (vx_isRefq hU'.1) (vx_isRefq hN'.1) hU'.2.word hN'.2.word
  have hown' : s'.vm.findClass own = some m.cls := by rw [hvm]; exact hown
  have hins : (Cond.instantiable cls 6).before args s' = true := h _ (by simp [Bundle.ownAtoms0])
  obtain ⟨vm₁, cX, kX, hfX, hkX, -, -, X₁, st1⟩ := Y.newCold hexec (own := own) (C := cls) (index := ik) (n := 6) hown' hk' hins hini'
    (g := F0 m pc ls rest) rfl (by rw [hb]; exact d0) (Nat.le_refl _) (Nat.le_refl _)
  generalize hT1 : (T.setVm vm₁).pushCell { cls := cX, slots := kX.instanceTypes.map defaultValue, vm := .none } = T1 at X₁ st1
  have hcat : (Value.ref T.heap.size).category = 1 := rfl
  have hcellA : T1.heap[T.heap.size]? = some (freshCell cX kX) := by rw [← hT1]; exact State.heap_pushCell_size _ _
  have d3' : decode c.code (pc + 3) = .ok (.dup, 1) := by rw [hb]; exact d3
  obtain ⟨U, hsteps, hrun, hend, hW, hsame, ce, hce, hO⟩ := X₁.ctorThrow0 hexec htr (own := own) (cls := cls) (names := names) (ic := ic) hown' hcls hnames h (fun x hx => nomatch hx) hfX hkX hcellA (by rw [hhp, hT]; exact Nat.le_refl _)
    (g := { method := m, pc := pc + 4, locals := ls, stack := .ref T.heap.size :: .ref T.heap.size :: rest, locked := none }) rfl hsize rfl rfl (rest := rest) rfl
    (by rw [hb]; exact d4) (by rw [hb]; exact d7) hout hRframes (by simp only [List.map_cons, List.sum_cons, hcat]; omega) hlocks
  obtain ⟨f1, f2⟩ := vx_frame hsame
  rw [hhp] at f1 f2
  have hWs : s.WarmedH U.vm := State.WarmedH.trans hW0 hW
  have hcl : s.vm.findClass cls = some ce.cls := by
    have h9 := hO.cls
    rw [hvm] at h9
    exact h9
  have hall : s.sameButNew ({ U with vm := s.vm } : State) locs mc ms := by
    subst hA
    obtain ⟨e1, e2⟩ := hsame
    rw [State.setFrames_setFrames] at e1
    have h2 : (T.setVm s.vm).sameButNew ({ U with vm := s.vm } : State) [] (0 + 1) (0 + 6) := ⟨e1, e2⟩
    have h3 := X.same.trans h2
    rw [List.append_nil] at h3
    exact h3.mono hc hs
  refine ⟨U, ?_, .threw T.heap.size, hrun, hend, Or.inr ⟨T.heap.size, rfl, cls, ce, locs, hx U hWs.alike f1 (fun q hq => f2 q hq (fun z hz => nomatch hz)), hce, hO.vm, hcl, hWs, hall, hf⟩⟩
  refine st1 _ ?_
  show Steps p.tables e below (T1.setTop { method := m, pc := pc + 3, locals := ls, stack := .ref T.heap.size :: rest, locked := none }) _
  jvm_step X₁.here [X₁.here.top, hexec, d3', Value.category]
  exact hsteps
/-- 'throw new E("text")': new; dup; ldc; invokespecial; athrow -/
theorem vx_throwS {cc : ByteArray} {pc : Nat} (hexec : p.tables.exec = Jvm.exec) (hb : c.code = cc) (hl : l.stackTraces = false) {own cls text : String} {names : List String} {ik is ic mc ms sa : Nat} {A : Nat → Prop}
    (hown : s.vm.findClass own = some m.cls) (hcls : Bundle.fit cls = true) (hnames : ∀ n ∈ names, Bundle.fit n = true)
    (hk : (Cond.classLink own ik cls).before args s = true) (hini : (Cond.initialized cls).before args s = true) (hstr : vk_R own is text sa s) (hat : ∀ w ∈ vx_atS own ic cls names, w.before args s = true)
    (hgood : ∀ w ∈ Cond.classLink own ik cls :: Cond.initialized cls :: vx_atS own ic cls names, vx_ot w = true)
    (hU : vx_Zq Bundle.tN "UNASSIGNED_STACK" Bundle.steD A s s.heap) (hN : vx_Zq Bundle.tN "SUPPRESSED_SENTINEL" Bundle.listD A s s.heap) (hS : va_S A s.heap H locs) (hsize : ls.size = c.maxLocals)
    (d0 : decode cc pc = .ok (.new ik, 3)) (d3 : decode cc (pc + 3) = .ok (.dup, 1)) (d4 : decode cc (pc + 4) = .ok (.ldc is, 2)) (d6 : decode cc (pc + 6) = .ok (.invokespecial ic, 3)) (d9 : decode cc (pc + 9) = .ok (.athrow, 1))
    (hout : ∀ x ∈ c.exceptionTable.toList, covers x (pc + 9) = false)
    (hRframes : names.length + 3 < R.frames) (hRlocals : (rest.map fun v => v.category).sum + (13 * (names.length + 1) + 43) ≤ R.locals) (hRcells : cells + 1 ≤ R.cells) (hRslots : slots + 6 ≤ R.slots) (hlocks : meth.locks = false)
    (hx : ∀ t : State, s.vm.Alike t.vm → H.size ≤ t.heap.size → (∀ q : Nat, q < H.size → t.heap[q]? = H[q]?) → XC cls s t)
    (hf : ∀ z ∈ locs, free z.base) (hc : cells + 1 ≤ mc) (hs : slots + 6 ≤ ms) :
    W p l e R s m args below meth c H locs cells slots (vx_MQ below Qc XC args s mc ms free) (F0 m pc ls rest) := by
  intro T hT X
  have htr : e.platform.stackTraces = false := (show e.platform.stackTraces = l.stackTraces by rw [X.admits.platform]).trans hl
  have Y := vx_rebase X (R' := { frames := R.frames, locals := R.locals, cells := 1, slots := 6 }) (Nat.le_refl _) (Nat.le_refl _) hRcells hRslots
  obtain ⟨s', hA⟩ : ∃ z, z = (T.setVm s.vm).setFrames (.invoking m args :: below) := ⟨_, rfl⟩
  rw [← hA] at Y
  have hvm : s'.vm = s.vm := by rw [hA]; rfl
  have hhp : s'.heap = H := by rw [hA]; exact hT
  have hW0 : s.WarmedH s'.vm := by rw [hvm]; exact State.WarmedH.refl s
  have hat' : ∀ w ∈ vx_atS own ic cls names, w.before args s' = true := fun w hw => vx_ot_at hW0 hvm.symm (hgood w (List.mem_cons_of_mem _ (List.mem_cons_of_mem _ hw))) (hat w hw)
  have hk' : (Cond.classLink own ik cls).before args s' = true := vx_ot_at hW0 hvm.symm (hgood _ List.mem_cons_self) hk
  have hini' : (Cond.initialized cls).before args s' = true := vx_ot_at hW0 hvm.symm (hgood _ (List.mem_cons_of_mem _ List.mem_cons_self)) hini
  have hU' : vx_Zq Bundle.tN "UNASSIGNED_STACK" Bundle.steD A s' s'.heap := by rw [hhp]; exact vx_Zq.moved hW0.alike (hU.kept hS.2.1)
  have hN' : vx_Zq Bundle.tN "SUPPRESSED_SENTINEL" Bundle.listD A s' s'.heap := by rw [hhp]; exact vx_Zq.moved hW0.alike (hN.kept hS.2.1)
  have h : ∀ w ∈ Bundle.ownAtoms own ic cls names, w.before args s' = true := vx_own hat' (vx_isRefq hU'.1) (vx_isRefq hN'.1) hU'.2.word hN'.2.word
  have hown' : s'.vm.findClass own = some m.cls := by rw [hvm]; exact hown
  have hins : (Cond.instantiable cls 6).before args s' = true := h _ (by simp [Bundle.ownAtoms])
  obtain ⟨vm₁, cX, kX, hfX, hkX, -, -, X₁, st1⟩ := Y.newCold hexec (own := own) (C := cls) (index := ik) (n := 6) hown' hk' hins hini'
    (g := F0 m pc ls rest) rfl (by rw [hb]; exact d0) (Nat.le_refl _) (Nat.le_refl _)
  generalize hT1 : (T.setVm vm₁).pushCell { cls := cX, slots := kX.instanceTypes.map defaultValue, vm := .none } = T1 at X₁ st1
  have hcat : (Value.ref T.heap.size).category = 1 := rfl
  have hcellA : T1.heap[T.heap.size]? = some (freshCell cX kX) := by rw [← hT1]; exact State.heap_pushCell_size _ _
  have d3' : decode c.code (pc + 3) = .ok (.dup, 1) := by rw [hb]; exact d3
  have d4' : decode c.code (pc + 4) = .ok (.ldc is, 2) := by rw [hb]; exact d4
  have hstr' : vk_R own is text sa s' := vk_R.warm hW0 hstr
  obtain ⟨U, hsteps, hrun, hend, hW, hsame, ce, hce, hO⟩ := X₁.ctorThrowS hexec htr (own := own) (cls := cls) (names := names) (ic := ic) hown' hcls hnames h (fun x hx => nomatch hx) hfX hkX hcellA (by rw [hhp, hT]; exact Nat.le_refl _) (msg := .ref sa) rfl
    (g := { method := m, pc := pc + 6, locals := ls, stack := .ref sa :: .ref T.heap.size :: .ref T.heap.size :: rest, locked := none }) rfl hsize rfl rfl (rest := rest) rfl
    (by rw [hb]; exact d6) (by rw [hb]; exact d9) hout hRframes (by simp only [List.map_cons, List.sum_cons, hcat]; omega) hlocks
  obtain ⟨f1, f2⟩ := vx_frame hsame
  rw [hhp] at f1 f2
  have hWs : s.WarmedH U.vm := State.WarmedH.trans hW0 hW
  have hcl : s.vm.findClass cls = some ce.cls := by
    have h9 := hO.cls
    rw [hvm] at h9
    exact h9
  have hall : s.sameButNew ({ U with vm := s.vm } : State) locs mc ms := by
    subst hA
    obtain ⟨e1, e2⟩ := hsame
    rw [State.setFrames_setFrames] at e1
    have h2 : (T.setVm s.vm).sameButNew ({ U with vm := s.vm } : State) [] (0 + 1) (0 + 6) := ⟨e1, e2⟩
    have h3 := X.same.trans h2
    rw [List.append_nil] at h3
    exact h3.mono hc hs
  refine ⟨U, ?_, .threw T.heap.size, hrun, hend, Or.inr ⟨T.heap.size, rfl, cls, ce, locs, hx U hWs.alike f1 (fun q hq => f2 q hq (fun z hz => nomatch hz)), hce, hO.vm, hcl, hWs, hall, hf⟩⟩
  refine st1 _ ?_
  show Steps p.tables e below (T1.setTop { method := m, pc := pc + 3, locals := ls, stack := .ref T.heap.size :: rest, locked := none }) _
  jvm_step X₁.here [X₁.here.top, hexec, d3', Value.category]
  exact X₁.ldcString hexec (own := own) (text := text) (index := is) (a := sa) hown' hstr'.1 hstr'.2
    (g := { method := m, pc := pc + 4, locals := ls, stack := .ref T.heap.size :: .ref T.heap.size :: rest, locked := none }) rfl d4' _ hsteps
/-- 'throw new E("text")', the text by a wide index -/
theorem vx_throwSW {cc : ByteArray} {pc : Nat} (hexec : p.tables.exec = Jvm.exec) (hb : c.code = cc) (hl : l.stackTraces = false) {own cls text : String} {names : List String} {ik is ic mc ms sa : Nat} {A : Nat → Prop}
    (hown : s.vm.findClass own = some m.cls) (hcls : Bundle.fit cls = true) (hnames : ∀ n ∈ names, Bundle.fit n = true)
    (hk : (Cond.classLink own ik cls).before args s = true) (hini : (Cond.initialized cls).before args s = true) (hstr : vk_R own is text sa s) (hat : ∀ w ∈ vx_atS own ic cls names, w.before args s = true)
    (hgood : ∀ w ∈ Cond.classLink own ik cls :: Cond.initialized cls :: vx_atS own ic cls names, vx_ot w = true)
    (hU : vx_Zq Bundle.tN "UNASSIGNED_STACK" Bundle.steD A s s.heap) (hN : vx_Zq Bundle.tN "SUPPRESSED_SENTINEL" Bundle.listD A s s.heap) (hS : va_S A s.heap H locs) (hsize : ls.size = c.maxLocals)
    (d0 : decode cc pc = .ok (.new ik, 3)) (d3 : decode cc (pc + 3) = .ok (.dup, 1)) (d4 : decode cc (pc + 4) = .ok (.ldc_w is, 3)) (d7 : decode cc (pc + 7) = .ok (.invokespecial ic, 3)) (d10 : decode cc (pc + 10) = .ok (.athrow, 1))
    (hout : ∀ x ∈ c.exceptionTable.toList, covers x (pc + 10) = false)
    (hRframes : names.length + 3 < R.frames) (hRlocals : (rest.map fun v => v.category).sum + (13 * (names.length + 1) + 43) ≤ R.locals) (hRcells : cells + 1 ≤ R.cells) (hRslots : slots + 6 ≤ R.slots) (hlocks : meth.locks = false)
    (hx : ∀ t : State, s.vm.Alike t.vm → H.size ≤ t.heap.size → (∀ q : Nat, q < H.size → t.heap[q]? = H[q]?) → XC cls s t)
    (hf : ∀ z ∈ locs, free z.base) (hc : cells + 1 ≤ mc) (hs : slots + 6 ≤ ms) :
    W p l e R s m args below meth c H locs cells slots (vx_MQ below Qc XC args s mc ms free) (F0 m pc ls rest) := by
  intro T hT X
  have htr : e.platform.stackTraces = false := (show e.platform.stackTraces = l.stackTraces by rw [X.admits.platform]).trans hl
  have Y := vx_rebase X (R' := { frames := R.frames, locals := R.locals, cells := 1, slots := 6 }) (Nat.le_refl _) (Nat.le_refl _) hRcells hRslots
  obtain ⟨s', hA⟩ : ∃ z, z = (T.setVm s.vm).setFrames (.invoking m args :: below) := ⟨_, rfl⟩
  rw [← hA] at Y
  have hvm : s'.vm = s.vm := by rw [hA]; rfl
  have hhp : s'.heap = H := by rw [hA]; exact hT
  have hW0 : s.WarmedH s'.vm := by rw [hvm]; exact State.WarmedH.refl s
  have hat' : ∀ w ∈ vx_atS own ic cls names, w.before args s' = true := fun w hw => vx_ot_at hW0 hvm.symm (hgood w (List.mem_cons_of_mem _ (List.mem_cons_of_mem _ hw))) (hat w hw)
  have hk' : (Cond.classLink own ik cls).before args s' = true := vx_ot_at hW0 hvm.symm (hgood _ List.mem_cons_self) hk
  have hini' : (Cond.initialized cls).before args s' = true := vx_ot_at hW0 hvm.symm (hgood _ (List.mem_cons_of_mem _ List.mem_cons_self)) hini
  have hU' : vx_Zq Bundle.tN "UNASSIGNED_STACK" Bundle.steD A s' s'.heap := by rw [hhp]; exact vx_Zq.moved hW0.alike (hU.kept hS.2.1)
  have hN' : vx_Zq Bundle.tN "SUPPRESSED_SENTINEL" Bundle.listD A s' s'.heap := by rw [hhp]; exact vx_Zq.moved hW0.alike (hN.kept hS.2.1)
  have h : ∀ w ∈ Bundle.ownAtoms own ic cls names, w.before args s' = true := vx_own hat' (vx_isRefq hU'.1) (vx_isRefq hN'.1) hU'.2.word hN'.2.word
  have hown' : s'.vm.findClass own = some m.cls := by rw [hvm]; exact hown
  have hins : (Cond.instantiable cls 6).before args s' = true := h _ (by simp [Bundle.ownAtoms])
  obtain ⟨vm₁, cX, kX, hfX, hkX, -, -, X₁, st1⟩ := Y.newCold hexec (own := own) (C := cls) (index := ik) (n := 6) hown' hk' hins hini'
    (g := F0 m pc ls rest) rfl (by rw [hb]; exact d0) (Nat.le_refl _) (Nat.le_refl _)
  generalize hT1 : (T.setVm vm₁).pushCell { cls := cX, slots := kX.instanceTypes.map defaultValue, vm := .none } = T1 at X₁ st1
  have hcat : (Value.ref T.heap.size).category = 1 := rfl
  have hcellA : T1.heap[T.heap.size]? = some (freshCell cX kX) := by rw [← hT1]; exact State.heap_pushCell_size _ _
  have d3' : decode c.code (pc + 3) = .ok (.dup, 1) := by rw [hb]; exact d3
  have d4' : decode c.code (pc + 4) = .ok (.ldc_w is, 3) := by rw [hb]; exact d4
  have hstr' : vk_R own is text sa s' := vk_R.warm hW0 hstr
  obtain ⟨U, hsteps, hrun, hend, hW, hsame, ce, hce, hO⟩ := X₁.ctorThrowS hexec htr (own := own) (cls := cls) (names := names) (ic := ic) hown' hcls hnames h (fun x hx => nomatch hx) hfX hkX hcellA (by rw [hhp, hT]; exact Nat.le_refl _) (msg := .ref sa) rfl
    (g := { method := m, pc := pc + 7, locals := ls, stack := .ref sa :: .ref T.heap.size :: .ref T.heap.size :: rest, locked := none }) rfl hsize rfl rfl (rest := rest) rfl
    (by rw [hb]; exact d7) (by rw [hb]; exact d10) hout hRframes (by simp only [List.map_cons, List.sum_cons, hcat]; omega) hlocks
  obtain ⟨f1, f2⟩ := vx_frame hsame
  rw [hhp] at f1 f2
  have hWs : s.WarmedH U.vm := State.WarmedH.trans hW0 hW
  have hcl : s.vm.findClass cls = some ce.cls := by
    have h9 := hO.cls
    rw [hvm] at h9
    exact h9
  have hall : s.sameButNew ({ U with vm := s.vm } : State) locs mc ms := by
    subst hA
    obtain ⟨e1, e2⟩ := hsame
    rw [State.setFrames_setFrames] at e1
    have h2 : (T.setVm s.vm).sameButNew ({ U with vm := s.vm } : State) [] (0 + 1) (0 + 6) := ⟨e1, e2⟩
    have h3 := X.same.trans h2
    rw [List.append_nil] at h3
    exact h3.mono hc hs
  refine ⟨U, ?_, .threw T.heap.size, hrun, hend, Or.inr ⟨T.heap.size, rfl, cls, ce, locs, hx U hWs.alike f1 (fun q hq => f2 q hq (fun z hz => nomatch hz)), hce, hO.vm, hcl, hWs, hall, hf⟩⟩
  refine st1 _ ?_
  show Steps p.tables e below (T1.setTop { method := m, pc := pc + 3, locals := ls, stack := .ref T.heap.size :: rest, locked := none }) _
  jvm_step X₁.here [X₁.here.top, hexec, d3', Value.category]
  exact X₁.ldcStringW hexec (own := own) (text := text) (index := is) (a := sa) hown' hstr'.1 hstr'.2
    (g := { method := m, pc := pc + 4, locals := ls, stack := .ref T.heap.size :: .ref T.heap.size :: rest, locked := none }) rfl d4' _ hsteps
end Ends
section Bodies
variable {l : Launch}
theorem vx_ofW {y : MethodName} {ws ws' : List Cond} {rm : Room} {Pc : Array Value → State → Prop} {Qc : Array Value → State → Outcome → State → Prop} {XC : String → State → State → Prop} {mc ms : Nat} {free : Addr → Prop} {cc : ByteArray} {maxL : Nat} {ret : Option FieldType}
    (hy : plainName y.cls = true) (hw : ws = Cond.code y cc maxL ret :: ws')
    (body : ∀ p e s m args below meth c s₁, BodyLoose p l y (headSpec ws rm) cc maxL ret e s m args below meth c s₁ → c.maxLocals = maxL → (∀ x ∈ c.exceptionTable.toList, False) → Pc args s →
      W p l e (headSpec ws rm).room s m args below meth c s.heap [] 0 0 (vx_MQ below Qc XC args s mc ms free) (entryFrame m args maxL)) : vx_Met l y ws rm Pc Qc XC mc ms free := by
  refine MetFree.of_bodyS (code := cc) (maxLocals := maxL) (ret := ret) hy ?_ ?_
  · intro args s m h hn
    obtain ⟨meth, c, h1, h2, h3, h4, h5, h6, -, -⟩ := Cond.code_spec hn (atoms_spec (ws := ws) h _ (by rw [hw]; exact List.mem_cons_self))
    exact ⟨meth, c, h1, h2, h3, h4, h5, h6⟩
  · intro p e s m args below meth c s₁ B hml hP _
    have hh0 : s₁.heap = s.heap := by rw [B.state]; rfl
    have ht : ∀ x ∈ c.exceptionTable.toList, False := by
      obtain ⟨meth9, c9, h1, h2, -, -, -, -, h7, -⟩ := Cond.code_spec B.named (atoms_spec (ws := ws) B.pre _ (by rw [hw]; exact List.mem_cons_self))
      cases Option.some.inj (h1.symm.trans B.method)
      cases Option.some.inj (h2.symm.trans (Stand.of_body B).code)
      intro x hx
      rw [Array.isEmpty_iff.mp h7] at hx
      cases hx
    obtain ⟨t, a1, o, b1, b2, b3⟩ := body p e s m args below meth c s₁ B hml ht hP s₁ hh0 (Stand.of_body B)
    exact ⟨t, o, a1, b1, b2, b3⟩
/-- the table of a body with handlers -/
theorem vx_table {p : Program} {x y : MethodName} {S : Spec} {cc bytes : ByteArray} {maxL maxL' : Nat} {ret ret' : Option FieldType} {e : Env} {s s₁ : State} {m : MethodId} {args : Array Value} {below : List Frame} {meth : Method} {c : Code} {hh : List (Nat × Nat × Nat × Nat)}
    (B : BodyLoose p l y S cc maxL ret e s m args below meth c s₁) (h : (Cond.codeWith y bytes maxL' ret' hh).before args s = true) : c.exceptionTable.toList = tableOf hh := by
  obtain ⟨m9, meth9, c9, hn9, h1, h2, -, -, h6, -⟩ := Cond.codeWith_spec h
  cases Option.some.inj (hn9.symm.trans B.named)
  cases Option.some.inj (h1.symm.trans B.method)
  cases Option.some.inj (h2.symm.trans (Stand.of_body B).code)
  rw [← h6, table_eq]
end Bodies
end VXA
/-! ===== END ===== -/
/-! ===== BEGIN a static call of a method with an exception table ===== -/
section VXS
variable {p : Program} {l : Launch} {e : Env} {R : Room} {s : State} {m : MethodId} {args : Array Value} {below : List Frame} {meth : Method} {c : Code} {T : State} {H : Heap} {locs : List Loc} {cells slots : Nat}
abbrev vx_CSW (R : Room) (s : State) (args : Array Value) (own : String) (index : Nat) (y : MethodName) (bytes : ByteArray) (maxL : Nat) (ret : Option FieldType) (hh : List (Nat × Nat × Nat × Nat)) (ws : List Cond) (rm : Room) (mc ms n : Nat) : Prop :=
  (rm.cells = mc ∧ rm.slots = ms ∧ rm.frames + 1 ≤ R.frames ∧ 8 + (maxL + 11) + rm.locals ≤ R.locals ∧ (∀ w ∈ ws, ∀ (a' : Array Value) (U : State), s.WarmedH U.vm → w.before a' U = true) ∧ Cond.codeWith y bytes maxL ret hh ∈ ws) ∧
  (Cond.codeWith y bytes maxL ret hh).before args s = true ∧ (Cond.initialized y.cls).before args s = true ∧ (y.cls ≠ "java/lang/invoke/MethodHandle" ∧ y.cls ≠ "java/lang/invoke/VarHandle") ∧
  (∀ sig, parseMethodDescriptor y.desc = some sig → n = sig.parameters.length) ∧ (Cond.methodLink own index y).before args s = true ∧ (Cond.static y).before args s = true
theorem vx_cwSW {own : String} {index maxL mc ms : Nat} {y : MethodName} {bytes : ByteArray} {ret : Option FieldType} {hh : List (Nat × Nat × Nat × Nat)} {Ts ws ws' : List Cond} {rm : Room} (n : Nat) (ht : ∀ w ∈ Ts, w.before args s = true) (hT : GoodIn Ts (va_wsS own index y ws)) (hw : ws = Cond.codeWith y bytes maxL ret hh :: ws') (hrc : rm.cells = mc) (hrs : rm.slots = ms)
    (hd : y.cls ≠ "java/lang/invoke/MethodHandle" ∧ y.cls ≠ "java/lang/invoke/VarHandle" ∧ (parseMethodDescriptor y.desc).map (fun d => d.parameters.length) = some n) (hR : rm.frames + 1 ≤ R.frames ∧ 8 + (maxL + 11) + rm.locals ≤ R.locals) :
    vx_CSW R s args own index y bytes maxL ret hh ws rm mc ms n := by
  have ok : ∀ w ∈ va_wsS own index y ws, w.before args s = true := fun w h => ht w (hT w h).1
  have hG : GoodIn Ts ws := fun w h => hT w (by unfold va_wsS; exact List.mem_append_right _ h)
  have hc : Cond.codeWith y bytes maxL ret hh ∈ ws := by rw [hw]; exact List.mem_cons_self
  refine ⟨⟨hrc, hrs, hR.1, hR.2, pay_in ht hG, hc⟩, ht _ (hG _ hc).1, ok _ (by simp [va_wsS]), ⟨hd.1, hd.2.1⟩, fun sig h => ?_, ok _ (by simp [va_wsS]), ok _ (by simp [va_wsS])⟩
  have h2 := hd.2.2
  rw [h] at h2
  exact (Option.some.inj h2).symm
theorem vx_callSW (X : Stand p l e R s m args below meth c T locs cells slots) (hexec : p.tables.exec = Jvm.exec) {own : String} {index : Nat} {y : MethodName} {bytes : ByteArray} {maxL : Nat} {ret : Option FieldType} {hh : List (Nat × Nat × Nat × Nat)}
    (hown : s.vm.findClass own = some m.cls) (hlink : (Cond.methodLink own index y).before args s = true) (hstat : (Cond.static y).before args s = true) (hinit : (Cond.initialized y.cls).before args s = true)
    (hcode : (Cond.codeWith y bytes maxL ret hh).before args s = true) (hy : y.cls ≠ "java/lang/invoke/MethodHandle" ∧ y.cls ≠ "java/lang/invoke/VarHandle")
    {W9 : Nat} {Pre : Pt → Array Value → Prop} {Post : Pt → Array Value → Option Value → Pt → Prop} (hK : Back l R p e below s args y 3 W9 Pre Post)
    {g : JFrame} (hg : g.method = m) (hsize : g.locals.size = c.maxLocals) {argsL rest : List Value} (hlen : ∀ sig, parseMethodDescriptor y.desc = some sig → argsL.length = sig.parameters.length)
    (hstack : g.stack = argsL.reverse ++ rest) (hW : 2 * g.monitorRoom + (rest.map fun v => v.category).sum ≤ W9) (hdg : decode c.code g.pc = .ok (.invokestatic index, 3))
    (hpre : ∀ vm₁, s.WarmedH vm₁ → Pre ⟨T.setVm vm₁, locs, cells, slots⟩ argsL.toArray) :
    ∃ (v : Option Value) (vm₁ : Vm) (B : Pt), s.WarmedH vm₁ ∧ Stand p l e R s m args below meth c B.U B.locs B.cells B.slots ∧ Post ⟨T.setVm vm₁, locs, cells, slots⟩ argsL.toArray v B ∧
      ∀ target, Steps p.tables e below (B.U.setTop { g with pc := g.pc + 3, stack := v.toList ++ rest }) target → Steps p.tables e below (T.setTop g) target := by
  obtain ⟨mk, methM, cM, hnamed, hmethM, -, -, -, -, -, -, hsigM⟩ := Cond.codeWith_spec hcode
  have hstatic : methM.isStatic = true := Cond.static_spec hnamed hmethM hstat
  obtain ⟨kP, hkP, -⟩ := className_of_methodNamed hnamed
  have hinitP : kP.init = .initialized := Cond.initialized_spec (findClass_of_methodNamed hnamed) hkP hinit
  obtain ⟨vm₁, X₁, hstep₁⟩ := X.invokestatic hexec hown hlink hnamed hmethM hstatic hkP hinitP hy (g := g) hg (argsL := argsL) (rest := rest) (hlen _ hsigM) hstack hdg
  obtain ⟨v, B, X', hpost, hsteps⟩ := hK m meth c ⟨T.setVm vm₁, locs, cells, slots⟩ { g with stack := rest } (.invokestatic index) mk argsL.toArray X₁ hg hsize hdg hW (X₁.named hnamed) (hpre vm₁ X₁.warmed)
  exact ⟨v, vm₁, B, X₁.warmed, X', hpost, fun target h => hstep₁ _ fun acts => by rw [doInvoke_state]; exact hsteps.trans h⟩
theorem vx_runSW {y : MethodName} {bytes cc : ByteArray} {maxL nL mc ms n index : Nat} {ret : Option FieldType} {hh : List (Nat × Nat × Nat × Nat)} {ws : List Cond} {rm : Room} {Pc : Array Value → State → Prop} {Qc : Array Value → State → Outcome → State → Prop} {free : Addr → Prop} {Ts : List Cond} {own : String} {As rest : List Value} {g : JFrame}
    (S : CallFix p m c cc nL s args Ts own) (hM : Met l y ws rm Pc Qc mc ms free) (cw : vx_CSW R s args own index y bytes maxL ret hh ws rm mc ms n) (hp : PreS s H Pc As)
    (hg : g.method = m) (hn : As.length = n) (hsize : g.locals.size = nL) (hstack : g.stack = As.reverse ++ rest) (hW : 2 * g.monitorRoom + (rest.map fun v => v.category).sum ≤ 8) (hdg : decode cc g.pc = .ok (.invokestatic index, 3)) (hf : cells + mc ≤ R.cells ∧ slots + ms ≤ R.slots) :
    va_Run p l e R s m args below meth c H locs cells slots mc ms g rest (Qc As.toArray) (free) := by
  obtain ⟨⟨hrc, hrs, hfr, hlo, hws, hcw⟩, hcode, hini, hy, hlen, hl, hstt⟩ := cw
  have hK : Back l R p e below s args y 3 8 (PreOf R mc ms Pc) (PostOf Qc mc ms free) := va_backW (hh := hh) (bytes := bytes) (maxL := maxL) (ret := ret) hM hp.1 hrc hrs hfr hlo hws hcw (fun a' U hW => word_at hW (Or.inl (by first | rfl | simp [Cond.onTables, Cond.keeps, Cond.steady])) hini)
  obtain ⟨hx, hb, hml, ho, -⟩ := S
  intro T hT X
  obtain ⟨v, vm₁, ⟨U', l2, c2, s2⟩, hW₁, X', ⟨g', mk, t, L, e1, e2, hq, h1, hL, h2, h3⟩, st⟩ := vx_callSW X hx (hh := hh) (bytes := bytes) (maxL := maxL) (ret := ret) ho hl hstt hini hcode hy hK hg (hsize.trans hml.symm) (argsL := As) (rest := rest) (fun sig h => hn.trans (hlen sig h)) hstack hW (by rw [hb]; exact hdg)
    (fun vm₁ hW₁ => ⟨hf.1, hf.2, hp.2 (T.setVm vm₁) hT hW₁⟩)
  dsimp only [Pt.U, Pt.locs, Pt.cells, Pt.slots] at X' e1 e2 h1 h2 h3 st
  subst h1; subst h2; subst h3
  exact ⟨v, (T.setVm vm₁).calling g' mk As.toArray, t, U', L, hT, X', hL, e1, e2, hq, st⟩
/-- not caught here, past rows that name other classes: it goes on to the caller -/
theorem vx_outP {p : Program} {l : Launch} {e : Env} {R : Room} {s : State} {m : MethodId} {args : Array Value} {below : List Frame} {meth : Method} {c : Code} {H : Heap} {locs : List Loc} {cells slots : Nat} {free : Addr → Prop} {ls : Array Slot} {rest : List Value} {Qc : Array Value → State → Outcome → State → Prop} {XC : String → State → State → Prop}
    {pc : Nat} {own E : String} {ce : Cell} {q : Addr} {mc ms : Nat} (hown : s.vm.findClass own = some m.cls) (hlocks : meth.locks = false)
    (hpass : ∀ z ∈ c.exceptionTable.toList, covers z pc = false ∨ (z.catchType ≠ 0 ∧ ∃ nm : String, (Cond.classLink own z.catchType nm).before args s = true ∧ va_Nc E nm s)) (hcell : H[q]? = some ce) (hv : ce.vm = .none) (hcl : s.vm.findClass E = some ce.cls)
    (hx : ∀ t : State, t.heap = H → s.vm.Alike t.vm → XC E s t) (hf : ∀ z ∈ locs, free z.base) (hc : cells ≤ mc) (hs : slots ≤ ms) :
    vx_W p l e R s m args below meth c H locs cells slots (vx_MQ below Qc XC args s mc ms free) (F0 m pc ls rest) q := by
  intro T hT X
  have hpl : e.platform.magicAccessors = ({} : Platform).magicAccessors := by rw [X.admits.platform]
  obtain ⟨vm', hW', X', st⟩ := X.outThrough hlocks q (g := F0 m pc ls rest) rfl rfl rfl (cell := ce) (by rw [hT]; exact hcell) (by rw [hv]; rfl)
    (by obtain ⟨k9, h9, -⟩ := Vm.findClass_spec hcl; exact ⟨k9, h9⟩) (fun z hz => by
      rcases hpass z hz with h | ⟨hz0, nm, hl1, hn1⟩
      · exact Or.inl h
      · obtain ⟨c6, hc6, hcl6⟩ := Cond.classLink_spec hown hl1 e.platform hpl
        obtain ⟨a8, b8, h1, h2, h3⟩ := hn1
        cases Option.some.inj (h1.symm.trans hcl)
        cases Option.some.inj (h2.symm.trans hc6)
        exact Or.inr ⟨hz0, _, hcl6, h3⟩)
  obtain ⟨g₀, hfr⟩ := X'.frames_eq
  have hcell9 : ((T.setVm vm').setFrames (.throwing q :: below)).heap[q]? = some ce := by
    show T.heap[q]? = some ce
    rw [hT]; exact hcell
  have hend : Ended ((T.setVm vm').setFrames (.throwing q :: below)) below (.threw q) := State.frames_setFrames _ (State.cur_lt_of_frames hfr)
  refine ⟨(T.setVm vm').setFrames (.throwing q :: below), ?_, .threw q, X'.here.running, hend, Or.inr ⟨q, rfl, E, ce, locs, hx _ hT (X'.ends _).1.alike, hcell9, hv, hcl, (X'.ends _).1, (X'.ends _).2.mono hc hs, hf⟩⟩
  rw [X.pushThrowing_eq]
  exact st
/-- a thing of a world lies in the heap -/
theorem vx_lt {D : va_G} {cl : List vw_C} {ws : va_W} {H1 : Heap} (h : va_P D cl ws H1) {k : Nat} {q : Nat × va_E} (hk : ws[k]? = some q) : q.1 < H1.size := (h k q hk).lt
end VXS
/-! ===== END ===== -/
/-! ===== BEGIN methods with a table of their own: called by a name, returning or throwing ===== -/
section VXH
/-! vx_backW, vx_callVX, vx_callSX, vx_callVW, vx_runVW, vx_runVX, vx_runSX, vx_ofWH follow the same proofs as their sisters above (Free/Laws.lean, Shelf42/LK1.lean); vx_outP calls Shelf42/NT130.lean (outThrough). -/
section
variable {l : Launch} {R : Room} {p : Program} {e : Env} {below : List Frame} {s : State} {sargs : Array Value} {y : MethodName} {len W9 : Nat}
theorem vx_backW {ws : List Cond} {rm : Room} {Pc : Array Value → State → Prop} {Qc : Array Value → State → Outcome → State → Prop} {XC : String → State → State → Prop} {mc ms : Nat} {free : Addr → Prop} {bytes : ByteArray} {maxL : Nat} {ret : Option FieldType} {hh : List (Nat × Nat × Nat × Nat)}
    (hM : vx_Met l y ws rm Pc Qc XC mc ms free) (hblind : FrameBlind Pc) (hrc : rm.cells = mc) (hrs : rm.slots = ms)
    (hframes : rm.frames + 1 ≤ R.frames) (hlocals : W9 + (maxL + 11) + rm.locals ≤ R.locals)
    (hws : ∀ w ∈ ws, ∀ a' U, s.WarmedH U.vm → w.before a' U = true) (hcode : Cond.codeWith y bytes maxL ret hh ∈ ws) (hinit : ∀ a' U, s.WarmedH U.vm → (Cond.initialized y.cls).before a' U = true) :
    vx_Back l R p e below s sargs y len W9 (PreOf R mc ms Pc) (PostOf Qc mc ms free) (vx_Post XC mc ms free) := by
  intro m meth c A g ig mk a X hg hsize hdg hW hn hp
  have h1 : (headSpec ws rm).pre.before a A.U = true := atoms_intro fun w hw => hws w hw _ _ X.warmed
  have h2 : (Cond.codeWith y bytes maxL ret hh).before a A.U = true := hws _ hcode _ _ X.warmed
  have h3 : (Cond.initialized y.cls).before a A.U = true := hinit _ _ X.warmed
  have h4 : A.cells + (headSpec ws rm).room.cells ≤ R.cells := by rw [show (headSpec ws rm).room.cells = mc from hrc]; exact hp.1
  have h5 : A.slots + (headSpec ws rm).room.slots ≤ R.slots := by rw [show (headSpec ws rm).room.slots = ms from hrs]; exact hp.2.1
  have hPc : Pc a (A.U.calling g mk a) := hblind _ _ _ _ hp.2.2
  obtain ⟨U, Ls, c0, s0⟩ := A
  dsimp only [Pt.U, Pt.locs, Pt.cells, Pt.slots] at h1 h2 h3 h4 h5 X hn hPc ⊢
  obtain ⟨m9, methY, cY, hn9, hmY, hcY, -, hlY, -⟩ := Cond.codeWith_spec h2
  cases Option.some.inj (hn9.symm.trans hn)
  obtain ⟨kY, hkY, -⟩ := className_of_methodNamed hn
  have hinitY : kY.init = .initialized := Cond.initialized_spec (findClass_of_methodNamed hn) hkY h3
  have h : At U g.method c below := by rw [hg]; exact X.here
  have hlocals9 : W9 + (maxL + 11) + (headSpec ws rm).room.locals ≤ R.locals := hlocals
  have happ : (headSpec ws rm).appliesLoose y e.platform (U.calling g mk a) = true :=
    Spec.appliesLoose_calling (g := g) h hdg hn hkY hinitY
      (X.room_calling (g := g) (R' := (headSpec ws rm).room) hsize hmY hcY hframes (by rw [hlY]; omega) h4 h5) h1
  obtain ⟨mid, hmid⟩ := h.above
  have hfr : (U.setTop g).frames = (.java g :: mid) ++ below := by rw [State.frames_setTop' g h.top, hmid]; rfl
  obtain ⟨o, s₂, hsteps, -, hend, hq⟩ := Steps.callFree hM p X.admits X.cas X.clock (acts := []) hfr happ hPc trivial
  have hq' : vx_Q Qc XC mc ms free a (U.calling g mk a) o s₂ := hq
  rw [State.frames_setTop' g h.top] at hend
  obtain ⟨g₀, hg0⟩ := Option.isSome_iff_exists.mp h.top
  obtain ⟨r, hr⟩ := State.topJava?_eq_some.mp hg0
  have hr' : (({ U with heap := s₂.heap, slotsUsed := s₂.slotsUsed } : State).setVm s₂.vm).frames = .java g₀ :: r := hr
  rcases hq' with ⟨hqc, L, hfe, hL⟩ | ⟨q, rfl, E, ce, L, hx, hce, hcv, hcl, hW₂, hsm, hL⟩
  · obtain ⟨⟨v, rfl⟩, hW₂, e2, q2, q3, q4, q5, q6⟩ := id hfe
    have e3 : s₂ = ({ (U.calling g mk a).setFrames s₂.frames with heap := s₂.heap, slotsUsed := s₂.slotsUsed } : State).setVm s₂.vm := by
      have : s₂ = ({ s₂ with vm := (U.calling g mk a).vm } : State).setVm s₂.vm := rfl
      rw [e2] at this
      exact this
    obtain ⟨c₂, i₂, len₂, hc₂, hd₂, hf₂⟩ := hend
    have hW' : U.WarmedH s₂.vm := hW₂
    have hcc : c₂ = c := by
      have h1 : s₂.code? g.method = U.code? g.method := by
        rw [State.code?_eq, State.code?_eq, hW'.alike.method?]
      exact Option.some.inj (hc₂.symm.trans (h1.trans h.code))
    subst hcc
    have hlen : len₂ = len := by rw [hdg] at hd₂; cases hd₂; rfl
    subst hlen
    have hs₂ : s₂ = (({ U with heap := s₂.heap, slotsUsed := s₂.slotsUsed } : State).setVm s₂.vm).setTop { g with pc := g.pc + len₂, stack := v.toList ++ g.stack } := by
      refine e3.trans ?_
      rw [hf₂, State.calling_eq h.top, State.setFrames_setFrames, State.setTop_of_frames _ hr', hr]
      rfl
    have hsame : U.sameButNew ({ U with heap := s₂.heap, slotsUsed := s₂.slotsUsed } : State) L mc ms := by
      refine ⟨?_, q2, q3, q4, q5, q6⟩
      obtain ⟨t, ht, -⟩ := State.frames_cons hr
      show ({ U with heap := s₂.heap, slotsUsed := s₂.slotsUsed } : State) = { U.setFrames U.frames with heap := s₂.heap, slotsUsed := s₂.slotsUsed }
      rw [State.setFrames_self ht]
    subst hg
    refine Or.inl ⟨v, ⟨(({ U with heap := s₂.heap, slotsUsed := s₂.slotsUsed } : State).setVm s₂.vm), Ls ++ L, c0 + mc, s0 + ms⟩,
      ⟨X.admits, X.cas, X.clock, X.frames, X.room, X.hears, X.method, X.code, (X.here.setHeapUsed s₂.heap s₂.slotsUsed).setVm hW'.alike, X.tail, State.WarmedH.trans X.warmed hW', X.limits, X.bytes, X.same.trans (hsame.setVm s.vm)⟩,
      ⟨g, mk, s₂, L, rfl, rfl, hqc, rfl, hL, rfl, rfl⟩, ?_⟩
    show Steps p.tables e below _ ((({ U with heap := s₂.heap, slotsUsed := s₂.slotsUsed } : State).setVm s₂.vm).setTop { g with pc := g.pc + len₂, stack := v.toList ++ g.stack })
    rw [← hs₂]
    exact hsteps
  · obtain ⟨e2, q2, q3, q4, q5, q6⟩ := id hsm
    have e3 : s₂ = ({ (U.calling g mk a).setFrames s₂.frames with heap := s₂.heap, slotsUsed := s₂.slotsUsed } : State).setVm s₂.vm := by
      have : s₂ = ({ s₂ with vm := (U.calling g mk a).vm } : State).setVm s₂.vm := rfl
      rw [e2] at this
      exact this
    have hf₂ : s₂.frames = .throwing q :: .java g :: U.frames.tail := hend
    have hW' : U.WarmedH s₂.vm := hW₂
    have hs₂ : s₂ = ((({ U with heap := s₂.heap, slotsUsed := s₂.slotsUsed } : State).setVm s₂.vm).setTop g).pushFrame (.throwing q) := by
      refine e3.trans ?_
      rw [hf₂, State.calling_eq h.top, State.setFrames_setFrames, State.pushFrame, State.frames_setTop _ hr', State.setTop_of_frames _ hr', State.setFrames_setFrames, hr]
      rfl
    have hsame : U.sameButNew ({ U with heap := s₂.heap, slotsUsed := s₂.slotsUsed } : State) L mc ms := by
      refine ⟨?_, q2, q3, q4, q5, q6⟩
      obtain ⟨t, ht, -⟩ := State.frames_cons hr
      show ({ U with heap := s₂.heap, slotsUsed := s₂.slotsUsed } : State) = { U.setFrames U.frames with heap := s₂.heap, slotsUsed := s₂.slotsUsed }
      rw [State.setFrames_self ht]
    subst hg
    refine Or.inr ⟨q, ⟨(({ U with heap := s₂.heap, slotsUsed := s₂.slotsUsed } : State).setVm s₂.vm), Ls ++ L, c0 + mc, s0 + ms⟩,
      ⟨X.admits, X.cas, X.clock, X.frames, X.room, X.hears, X.method, X.code, (X.here.setHeapUsed s₂.heap s₂.slotsUsed).setVm hW'.alike, X.tail, State.WarmedH.trans X.warmed hW', X.limits, X.bytes, X.same.trans (hsame.setVm s.vm)⟩,
      ⟨g, mk, s₂, L, E, ce, rfl, rfl, hx, hce, hcv, hcl, rfl, hL, rfl, rfl⟩, ?_⟩
    show Steps p.tables e below _ (((({ U with heap := s₂.heap, slotsUsed := s₂.slotsUsed } : State).setVm s₂.vm).setTop g).pushFrame (.throwing q))
    rw [← hs₂]
    exact hsteps
end
variable {p : Program} {l : Launch} {e : Env} {R : Room} {s : State} {m : MethodId} {args : Array Value} {below : List Frame} {meth : Method} {c : Code} {T : State} {H : Heap} {locs : List Loc} {cells slots : Nat}
theorem vx_callVX (X : Stand p l e R s m args below meth c T locs cells slots) (hexec : p.tables.exec = Jvm.exec) {own C : String} {index : Nat} {y : MethodName} {bytes : ByteArray} {maxL : Nat} {ret : Option FieldType} {hh : List (Nat × Nat × Nat × Nat)}
    (hown : s.vm.findClass own = some m.cls) (hlink : (Cond.methodLink own index y).before args s = true) (hinst : (Cond.instanceMethod y).before args s = true) (hsel : (Cond.selects C y y).before args s = true)
    (hcode : (Cond.codeWith y bytes maxL ret hh).before args s = true) (hy : y.cls ≠ "java/lang/invoke/MethodHandle" ∧ y.cls ≠ "java/lang/invoke/VarHandle")
    {W9 : Nat} {Pre : Pt → Array Value → Prop} {Post : Pt → Array Value → Option Value → Pt → Prop} {PostX : Pt → Array Value → Addr → Pt → Prop} (hK : vx_Back l R p e below s args y 3 W9 Pre Post PostX)
    {b : Addr} {cellB : Cell} (hcell : T.heap[b]? = some cellB) (hobj : cellB.vm.isStatics = false) (hcls : s.vm.findClass C = some cellB.cls)
    {g : JFrame} (hg : g.method = m) (hsize : g.locals.size = c.maxLocals) {argsL rest : List Value} (hlen : ∀ sig, parseMethodDescriptor y.desc = some sig → argsL.length = sig.parameters.length)
    (hstack : g.stack = argsL.reverse ++ .ref b :: rest) (hW : 2 * g.monitorRoom + (rest.map fun v => v.category).sum ≤ W9) (hdg : decode c.code g.pc = .ok (.invokevirtual index, 3))
    (hpre : ∀ vm₁, s.WarmedH vm₁ → Pre ⟨T.setVm vm₁, locs, cells, slots⟩ (Value.ref b :: argsL).toArray) :
    (∃ (v : Option Value) (vm₁ : Vm) (B : Pt), s.WarmedH vm₁ ∧ Stand p l e R s m args below meth c B.U B.locs B.cells B.slots ∧ Post ⟨T.setVm vm₁, locs, cells, slots⟩ (Value.ref b :: argsL).toArray v B ∧
      ∀ target, Steps p.tables e below (B.U.setTop { g with pc := g.pc + 3, stack := v.toList ++ rest }) target → Steps p.tables e below (T.setTop g) target) ∨
    (∃ (q : Addr) (vm₁ : Vm) (B : Pt), s.WarmedH vm₁ ∧ Stand p l e R s m args below meth c B.U B.locs B.cells B.slots ∧ PostX ⟨T.setVm vm₁, locs, cells, slots⟩ (Value.ref b :: argsL).toArray q B ∧
      Steps p.tables e below (T.setTop g) ((B.U.setTop { g with stack := rest }).pushFrame (.throwing q))) := by
  obtain ⟨mk, methM, hnamed, hmethM, hstM, habM⟩ := Cond.instanceMethod_spec hinst
  obtain ⟨m8, methM', cM, hn8, hmethM', -, -, -, -, -, -, hsigM⟩ := Cond.codeWith_spec hcode
  cases Option.some.inj (hn8.symm.trans hnamed)
  cases hmethM.symm.trans hmethM'
  obtain ⟨c2, r2, m2, q1, q2, q3, q4, kP, hkP, hkPi⟩ := Cond.selects_spec hsel
  cases hcls.symm.trans q1
  cases (State.methodFound?_of_named hnamed hy).symm.trans q2
  cases hnamed.symm.trans q3
  have hselP : selectMethod e.platform s.vm cellB.cls mk = .method mk := by rw [Launch.admits_selectMethod X.admits]; exact q4
  obtain ⟨vm₁, X₁, hstep₁⟩ := X.invokevirtual hexec hown hlink hnamed hmethM hstM hkP hkPi hy (a := b) (cell := cellB) hcell
    (fun z h => by rw [h] at hobj; cases hobj) hselP hmethM habM hkP hkPi (g := g) hg (argsL := argsL) (rest := rest) (hlen _ hsigM) hstack hdg
  rcases hK m meth c ⟨T.setVm vm₁, locs, cells, slots⟩ { g with stack := rest } (.invokevirtual index) mk (Value.ref b :: argsL).toArray X₁ hg hsize hdg hW (X₁.named hnamed) (hpre vm₁ X₁.warmed) with ⟨v, B, X', hpost, hsteps⟩ | ⟨q, B, X', hpost, hsteps⟩
  · exact Or.inl ⟨v, vm₁, B, X₁.warmed, X', hpost, fun target h => hstep₁ _ fun acts => by rw [doInvoke_state]; exact hsteps.trans h⟩
  · exact Or.inr ⟨q, vm₁, B, X₁.warmed, X', hpost, hstep₁ _ fun acts => by rw [doInvoke_state]; exact hsteps⟩
theorem vx_callSX (X : Stand p l e R s m args below meth c T locs cells slots) (hexec : p.tables.exec = Jvm.exec) {own : String} {index : Nat} {y : MethodName} {bytes : ByteArray} {maxL : Nat} {ret : Option FieldType} {hh : List (Nat × Nat × Nat × Nat)}
    (hown : s.vm.findClass own = some m.cls) (hlink : (Cond.methodLink own index y).before args s = true) (hstat : (Cond.static y).before args s = true) (hinit : (Cond.initialized y.cls).before args s = true)
    (hcode : (Cond.codeWith y bytes maxL ret hh).before args s = true) (hy : y.cls ≠ "java/lang/invoke/MethodHandle" ∧ y.cls ≠ "java/lang/invoke/VarHandle")
    {W9 : Nat} {Pre : Pt → Array Value → Prop} {Post : Pt → Array Value → Option Value → Pt → Prop} {PostX : Pt → Array Value → Addr → Pt → Prop} (hK : vx_Back l R p e below s args y 3 W9 Pre Post PostX)
    {g : JFrame} (hg : g.method = m) (hsize : g.locals.size = c.maxLocals) {argsL rest : List Value} (hlen : ∀ sig, parseMethodDescriptor y.desc = some sig → argsL.length = sig.parameters.length)
    (hstack : g.stack = argsL.reverse ++ rest) (hW : 2 * g.monitorRoom + (rest.map fun v => v.category).sum ≤ W9) (hdg : decode c.code g.pc = .ok (.invokestatic index, 3))
    (hpre : ∀ vm₁, s.WarmedH vm₁ → Pre ⟨T.setVm vm₁, locs, cells, slots⟩ argsL.toArray) :
    (∃ (v : Option Value) (vm₁ : Vm) (B : Pt), s.WarmedH vm₁ ∧ Stand p l e R s m args below meth c B.U B.locs B.cells B.slots ∧ Post ⟨T.setVm vm₁, locs, cells, slots⟩ argsL.toArray v B ∧
      ∀ target, Steps p.tables e below (B.U.setTop { g with pc := g.pc + 3, stack := v.toList ++ rest }) target → Steps p.tables e below (T.setTop g) target) ∨
    (∃ (q : Addr) (vm₁ : Vm) (B : Pt), s.WarmedH vm₁ ∧ Stand p l e R s m args below meth c B.U B.locs B.cells B.slots ∧ PostX ⟨T.setVm vm₁, locs, cells, slots⟩ argsL.toArray q B ∧
      Steps p.tables e below (T.setTop g) ((B.U.setTop { g with stack := rest }).pushFrame (.throwing q))) := by
  obtain ⟨mk, methM, cM, hnamed, hmethM, -, -, -, -, -, -, hsigM⟩ := Cond.codeWith_spec hcode
  have hstatic : methM.isStatic = true := Cond.static_spec hnamed hmethM hstat
  obtain ⟨kP, hkP, -⟩ := className_of_methodNamed hnamed
  have hinitP : kP.init = .initialized := Cond.initialized_spec (findClass_of_methodNamed hnamed) hkP hinit
  obtain ⟨vm₁, X₁, hstep₁⟩ := X.invokestatic hexec hown hlink hnamed hmethM hstatic hkP hinitP hy (g := g) hg (argsL := argsL) (rest := rest) (hlen _ hsigM) hstack hdg
  rcases hK m meth c ⟨T.setVm vm₁, locs, cells, slots⟩ { g with stack := rest } (.invokestatic index) mk argsL.toArray X₁ hg hsize hdg hW (X₁.named hnamed) (hpre vm₁ X₁.warmed) with ⟨v, B, X', hpost, hsteps⟩ | ⟨q, B, X', hpost, hsteps⟩
  · exact Or.inl ⟨v, vm₁, B, X₁.warmed, X', hpost, fun target h => hstep₁ _ fun acts => by rw [doInvoke_state]; exact hsteps.trans h⟩
  · exact Or.inr ⟨q, vm₁, B, X₁.warmed, X', hpost, hstep₁ _ fun acts => by rw [doInvoke_state]; exact hsteps⟩
theorem vx_callVW (X : Stand p l e R s m args below meth c T locs cells slots) (hexec : p.tables.exec = Jvm.exec) {own C : String} {index : Nat} {y : MethodName} {bytes : ByteArray} {maxL : Nat} {ret : Option FieldType} {hh : List (Nat × Nat × Nat × Nat)}
    (hown : s.vm.findClass own = some m.cls) (hlink : (Cond.methodLink own index y).before args s = true) (hinst : (Cond.instanceMethod y).before args s = true) (hsel : (Cond.selects C y y).before args s = true)
    (hcode : (Cond.codeWith y bytes maxL ret hh).before args s = true) (hy : y.cls ≠ "java/lang/invoke/MethodHandle" ∧ y.cls ≠ "java/lang/invoke/VarHandle")
    {W9 : Nat} {Pre : Pt → Array Value → Prop} {Post : Pt → Array Value → Option Value → Pt → Prop} (hK : Back l R p e below s args y 3 W9 Pre Post)
    {b : Addr} {cellB : Cell} (hcell : T.heap[b]? = some cellB) (hobj : cellB.vm.isStatics = false) (hcls : s.vm.findClass C = some cellB.cls)
    {g : JFrame} (hg : g.method = m) (hsize : g.locals.size = c.maxLocals) {argsL rest : List Value} (hlen : ∀ sig, parseMethodDescriptor y.desc = some sig → argsL.length = sig.parameters.length)
    (hstack : g.stack = argsL.reverse ++ .ref b :: rest) (hW : 2 * g.monitorRoom + (rest.map fun v => v.category).sum ≤ W9) (hdg : decode c.code g.pc = .ok (.invokevirtual index, 3))
    (hpre : ∀ vm₁, s.WarmedH vm₁ → Pre ⟨T.setVm vm₁, locs, cells, slots⟩ (Value.ref b :: argsL).toArray) :
    ∃ (v : Option Value) (vm₁ : Vm) (B : Pt), s.WarmedH vm₁ ∧ Stand p l e R s m args below meth c B.U B.locs B.cells B.slots ∧ Post ⟨T.setVm vm₁, locs, cells, slots⟩ (Value.ref b :: argsL).toArray v B ∧
      ∀ target, Steps p.tables e below (B.U.setTop { g with pc := g.pc + 3, stack := v.toList ++ rest }) target → Steps p.tables e below (T.setTop g) target := by
  obtain ⟨mk, methM, hnamed, hmethM, hstM, habM⟩ := Cond.instanceMethod_spec hinst
  obtain ⟨m8, methM', cM, hn8, hmethM', -, -, -, -, -, -, hsigM⟩ := Cond.codeWith_spec hcode
  cases Option.some.inj (hn8.symm.trans hnamed)
  cases hmethM.symm.trans hmethM'
  obtain ⟨c2, r2, m2, q1, q2, q3, q4, kP, hkP, hkPi⟩ := Cond.selects_spec hsel
  cases hcls.symm.trans q1
  cases (State.methodFound?_of_named hnamed hy).symm.trans q2
  cases hnamed.symm.trans q3
  have hselP : selectMethod e.platform s.vm cellB.cls mk = .method mk := by rw [Launch.admits_selectMethod X.admits]; exact q4
  obtain ⟨vm₁, X₁, hstep₁⟩ := X.invokevirtual hexec hown hlink hnamed hmethM hstM hkP hkPi hy (a := b) (cell := cellB) hcell
    (fun z h => by rw [h] at hobj; cases hobj) hselP hmethM habM hkP hkPi (g := g) hg (argsL := argsL) (rest := rest) (hlen _ hsigM) hstack hdg
  obtain ⟨v, B, X', hpost, hsteps⟩ := hK m meth c ⟨T.setVm vm₁, locs, cells, slots⟩ { g with stack := rest } (.invokevirtual index) mk (Value.ref b :: argsL).toArray X₁ hg hsize hdg hW (X₁.named hnamed) (hpre vm₁ X₁.warmed)
  exact ⟨v, vm₁, B, X₁.warmed, X', hpost, fun target h => hstep₁ _ fun acts => by rw [doInvoke_state]; exact hsteps.trans h⟩
abbrev vx_CVW (R : Room) (s : State) (args : Array Value) (own C : String) (index : Nat) (y : MethodName) (bytes : ByteArray) (maxL : Nat) (ret : Option FieldType) (hh : List (Nat × Nat × Nat × Nat)) (ws : List Cond) (rm : Room) (mc ms n : Nat) : Prop :=
  (rm.cells = mc ∧ rm.slots = ms ∧ rm.frames + 1 ≤ R.frames ∧ 8 + (maxL + 11) + rm.locals ≤ R.locals ∧ (∀ w ∈ ws, ∀ (a' : Array Value) (U : State), s.WarmedH U.vm → w.before a' U = true) ∧ Cond.codeWith y bytes maxL ret hh ∈ ws) ∧
  (Cond.codeWith y bytes maxL ret hh).before args s = true ∧ (Cond.initialized y.cls).before args s = true ∧ (y.cls ≠ "java/lang/invoke/MethodHandle" ∧ y.cls ≠ "java/lang/invoke/VarHandle") ∧
  (∀ sig, parseMethodDescriptor y.desc = some sig → n = sig.parameters.length) ∧ (Cond.methodLink own index y).before args s = true ∧ (Cond.instanceMethod y).before args s = true ∧ (Cond.selects C y y).before args s = true
theorem vx_cwVW {own C : String} {index maxL mc ms : Nat} {y : MethodName} {bytes : ByteArray} {ret : Option FieldType} {hh : List (Nat × Nat × Nat × Nat)} {Ts ws ws' : List Cond} {rm : Room} (n : Nat) (ht : ∀ w ∈ Ts, w.before args s = true) (hT : GoodIn Ts (wsV own index C y ws)) (hw : ws = Cond.codeWith y bytes maxL ret hh :: ws') (hrc : rm.cells = mc) (hrs : rm.slots = ms)
    (hd : y.cls = C ∧ y.cls ≠ "java/lang/invoke/MethodHandle" ∧ y.cls ≠ "java/lang/invoke/VarHandle" ∧ (parseMethodDescriptor y.desc).map (fun d => d.parameters.length) = some n) (hR : rm.frames + 1 ≤ R.frames ∧ 8 + (maxL + 11) + rm.locals ≤ R.locals) :
    vx_CVW R s args own C index y bytes maxL ret hh ws rm mc ms n := by
  obtain ⟨hC, hd⟩ := hd
  subst hC
  have ok : ∀ w ∈ wsV own index y.cls y ws, w.before args s = true := fun w h => ht w (hT w h).1
  have hG : GoodIn Ts ws := fun w h => hT w (by unfold wsV; exact List.mem_append_right _ h)
  have hc : Cond.codeWith y bytes maxL ret hh ∈ ws := by rw [hw]; exact List.mem_cons_self
  refine ⟨⟨hrc, hrs, hR.1, hR.2, pay_in ht hG, hc⟩, ht _ (hG _ hc).1, ok _ (by simp [wsV]), ⟨hd.1, hd.2.1⟩, fun sig h => ?_, ok _ (by simp [wsV]), ok _ (by simp [wsV]), ok _ (by simp [wsV])⟩
  have h2 := hd.2.2
  rw [h] at h2
  exact (Option.some.inj h2).symm
theorem vx_runVW {y : MethodName} {bytes cc : ByteArray} {maxL nL mc ms n index : Nat} {ret : Option FieldType} {hh : List (Nat × Nat × Nat × Nat)} {ws : List Cond} {rm : Room} {Pc : Array Value → State → Prop} {Qc : Array Value → State → Outcome → State → Prop} {free : Addr → Prop} {Ts : List Cond} {own C : String} {b : Addr} {As rest : List Value} {g : JFrame}
    (S : CallFix p m c cc nL s args Ts own) (hM : Met l y ws rm Pc Qc mc ms free) (cw : vx_CVW R s args own C index y bytes maxL ret hh ws rm mc ms n) (hp : PreV s H C b Pc As)
    (hg : g.method = m) (hn : As.length = n) (hsize : g.locals.size = nL) (hstack : g.stack = As.reverse ++ .ref b :: rest) (hW : 2 * g.monitorRoom + (rest.map fun v => v.category).sum ≤ 8) (hdg : decode cc g.pc = .ok (.invokevirtual index, 3)) (hf : cells + mc ≤ R.cells ∧ slots + ms ≤ R.slots) :
    va_Run p l e R s m args below meth c H locs cells slots mc ms g rest (Qc (Value.ref b :: As).toArray) free := by
  obtain ⟨⟨hrc, hrs, hfr, hlo, hws, hcw⟩, hcode, hini, hy, hlen, hl, hin, hse⟩ := cw
  have hK : Back l R p e below s args y 3 8 (PreOf R mc ms Pc) (PostOf Qc mc ms free) := va_backW (hh := hh) (bytes := bytes) (maxL := maxL) (ret := ret) hM hp.1 hrc hrs hfr hlo hws hcw (fun a' U hW => word_at hW (Or.inl (by first | rfl | simp [Cond.onTables, Cond.keeps, Cond.steady])) hini)
  obtain ⟨hx, hb, hml, ho, -⟩ := S
  obtain ⟨-, ⟨cellB, hcB, hoB, hclB⟩, hPc⟩ := hp
  intro T hT X
  obtain ⟨v, vm₁, ⟨U', l2, c2, s2⟩, hW₁, X', ⟨g', mk, t, L, e1, e2, hq, h1, hL, h2, h3⟩, st⟩ := vx_callVW X hx (C := C) (hh := hh) (bytes := bytes) (maxL := maxL) (ret := ret) ho hl hin hse hcode hy hK (by rw [hT]; exact hcB) hoB hclB hg (hsize.trans hml.symm) (argsL := As) (rest := rest) (fun sig h => hn.trans (hlen sig h)) hstack hW (by rw [hb]; exact hdg)
    (fun vm₁ hW₁ => ⟨hf.1, hf.2, hPc (T.setVm vm₁) hT hW₁⟩)
  dsimp only [Pt.U, Pt.locs, Pt.cells, Pt.slots] at X' e1 e2 h1 h2 h3 st
  subst h1; subst h2; subst h3
  exact ⟨v, (T.setVm vm₁).calling g' mk (Value.ref b :: As).toArray, t, U', L, hT, X', hL, e1, e2, hq, st⟩
section
variable {y : MethodName} {bytes cc : ByteArray} {maxL nL mc ms n index : Nat} {ret : Option FieldType} {ws : List Cond} {rm : Room} {Pc : Array Value → State → Prop} {Qc : Array Value → State → Outcome → State → Prop} {XC : String → State → State → Prop} {free : Addr → Prop} {Ts : List Cond} {own C : String} {b : Addr} {As rest : List Value} {g : JFrame}
theorem vx_runVX {hh : List (Nat × Nat × Nat × Nat)} (S : CallFix p m c cc nL s args Ts own) (hM : vx_Met l y ws rm Pc Qc XC mc ms free) (cw : vx_CVW R s args own C index y bytes maxL ret hh ws rm mc ms n) (hp : PreV s H C b Pc As)
    (hg : g.method = m) (hn : As.length = n) (hsize : g.locals.size = nL) (hstack : g.stack = As.reverse ++ .ref b :: rest) (hW : 2 * g.monitorRoom + (rest.map fun v => v.category).sum ≤ 8) (hdg : decode cc g.pc = .ok (.invokevirtual index, 3)) (hf : cells + mc ≤ R.cells ∧ slots + ms ≤ R.slots) :
    vx_Run p l e R s m args below meth c H locs cells slots mc ms g rest (Qc (Value.ref b :: As).toArray) XC free := by
  obtain ⟨⟨hrc, hrs, hfr, hlo, hws, hcw⟩, hcode, hini, hy, hlen, hl, hin, hse⟩ := cw
  have hK : vx_Back l R p e below s args y 3 8 (PreOf R mc ms Pc) (PostOf Qc mc ms free) (vx_Post XC mc ms free) := vx_backW (hh := hh) (bytes := bytes) (maxL := maxL) (ret := ret) hM hp.1 hrc hrs hfr hlo hws hcw (fun a' U hW => word_at hW (Or.inl (by first | rfl | simp [Cond.onTables, Cond.keeps, Cond.steady])) hini)
  obtain ⟨hx, hb, hml, ho, -⟩ := S
  obtain ⟨-, ⟨cellB, hcB, hoB, hclB⟩, hPc⟩ := hp
  intro T hT X
  rcases vx_callVX X hx (C := C) (hh := hh) (bytes := bytes) (maxL := maxL) (ret := ret) ho hl hin hse hcode hy hK (by rw [hT]; exact hcB) hoB hclB hg (hsize.trans hml.symm) (argsL := As) (rest := rest) (fun sig h => hn.trans (hlen sig h)) hstack hW (by rw [hb]; exact hdg)
    (fun vm₁ hW₁ => ⟨hf.1, hf.2, hPc (T.setVm vm₁) hT hW₁⟩) with ⟨v, vm₁, ⟨U', l2, c2, s2⟩, hW₁, X', ⟨g', mk, t, L, e1, e2, hq, h1, hL, h2, h3⟩, st⟩ | ⟨q, vm₁, ⟨U', l2, c2, s2⟩, hW₁, X', ⟨g', mk, t, L, E, ce, e1, e2, hq, hce, hcv, hcl, h1, hL, h2, h3⟩, st⟩
  · dsimp only [Pt.U, Pt.locs, Pt.cells, Pt.slots] at X' e1 e2 h1 h2 h3 st
    subst h1; subst h2; subst h3
    exact Or.inl ⟨v, (T.setVm vm₁).calling g' mk (Value.ref b :: As).toArray, t, U', L, hT, X', hL, e1, e2, hq, st⟩
  · dsimp only [Pt.U, Pt.locs, Pt.cells, Pt.slots] at X' e1 e2 h1 h2 h3 st hcl
    subst h1; subst h2; subst h3
    exact Or.inr ⟨q, (T.setVm vm₁).calling g' mk (Value.ref b :: As).toArray, t, U', L, E, ce, hT, X', hL, e1, e2, hq, hce, hcv, vx_cls hW₁ hcl, st⟩
theorem vx_runSX {hh : List (Nat × Nat × Nat × Nat)} (S : CallFix p m c cc nL s args Ts own) (hM : vx_Met l y ws rm Pc Qc XC mc ms free) (cw : vx_CSW R s args own index y bytes maxL ret hh ws rm mc ms n) (hp : PreS s H Pc As)
    (hg : g.method = m) (hn : As.length = n) (hsize : g.locals.size = nL) (hstack : g.stack = As.reverse ++ rest) (hW : 2 * g.monitorRoom + (rest.map fun v => v.category).sum ≤ 8) (hdg : decode cc g.pc = .ok (.invokestatic index, 3)) (hf : cells + mc ≤ R.cells ∧ slots + ms ≤ R.slots) :
    vx_Run p l e R s m args below meth c H locs cells slots mc ms g rest (Qc As.toArray) XC free := by
  obtain ⟨⟨hrc, hrs, hfr, hlo, hws, hcw⟩, hcode, hini, hy, hlen, hl, hstt⟩ := cw
  have hK : vx_Back l R p e below s args y 3 8 (PreOf R mc ms Pc) (PostOf Qc mc ms free) (vx_Post XC mc ms free) := vx_backW (hh := hh) (bytes := bytes) (maxL := maxL) (ret := ret) hM hp.1 hrc hrs hfr hlo hws hcw (fun a' U hW => word_at hW (Or.inl (by first | rfl | simp [Cond.onTables, Cond.keeps, Cond.steady])) hini)
  obtain ⟨hx, hb, hml, ho, -⟩ := S
  intro T hT X
  rcases vx_callSX X hx (hh := hh) (bytes := bytes) (maxL := maxL) (ret := ret) ho hl hstt hini hcode hy hK hg (hsize.trans hml.symm) (argsL := As) (rest := rest) (fun sig h => hn.trans (hlen sig h)) hstack hW (by rw [hb]; exact hdg)
    (fun vm₁ hW₁ => ⟨hf.1, hf.2, hp.2 (T.setVm vm₁) hT hW₁⟩) with ⟨v, vm₁, ⟨U', l2, c2, s2⟩, hW₁, X', ⟨g', mk, t, L, e1, e2, hq, h1, hL, h2, h3⟩, st⟩ | ⟨q, vm₁, ⟨U', l2, c2, s2⟩, hW₁, X', ⟨g', mk, t, L, E, ce, e1, e2, hq, hce, hcv, hcl, h1, hL, h2, h3⟩, st⟩
  · dsimp only [Pt.U, Pt.locs, Pt.cells, Pt.slots] at X' e1 e2 h1 h2 h3 st
    subst h1; subst h2; subst h3
    exact Or.inl ⟨v, (T.setVm vm₁).calling g' mk As.toArray, t, U', L, hT, X', hL, e1, e2, hq, st⟩
  · dsimp only [Pt.U, Pt.locs, Pt.cells, Pt.slots] at X' e1 e2 h1 h2 h3 st hcl
    subst h1; subst h2; subst h3
    exact Or.inr ⟨q, (T.setVm vm₁).calling g' mk As.toArray, t, U', L, E, ce, hT, X', hL, e1, e2, hq, hce, hcv, vx_cls hW₁ hcl, st⟩
end
end VXH
theorem vx_ofWH {l : Launch} {y : MethodName} {ws ws' : List Cond} {rm : Room} {Pc : Array Value → State → Prop} {Qc : Array Value → State → Outcome → State → Prop} {XC : String → State → State → Prop} {mc ms : Nat} {free : Addr → Prop} {cc : ByteArray} {maxL : Nat} {ret : Option FieldType} {hh : List (Nat × Nat × Nat × Nat)}
    (hy : plainName y.cls = true) (hw : ws = Cond.codeWith y cc maxL ret hh :: ws')
    (body : ∀ p e s m args below meth c s₁, BodyLoose p l y (headSpec ws rm) cc maxL ret e s m args below meth c s₁ → c.maxLocals = maxL → Pc args s →
      W p l e (headSpec ws rm).room s m args below meth c s.heap [] 0 0 (vx_MQ below Qc XC args s mc ms free) (entryFrame m args maxL)) : vx_Met l y ws rm Pc Qc XC mc ms free := by
  refine MetFree.of_bodyS (code := cc) (maxLocals := maxL) (ret := ret) hy ?_ ?_
  · intro args s m h hn
    obtain ⟨m9, meth, c, hn9, h1, h2, h3, h4, -, h5, h6, -⟩ := Cond.codeWith_spec (atoms_spec (ws := ws) h _ (by rw [hw]; exact List.mem_cons_self))
    cases hn.symm.trans hn9
    exact ⟨meth, c, h1, h2, h3, h4, h5, h6⟩
  · intro p e s m args below meth c s₁ B hml hP _
    have hh0 : s₁.heap = s.heap := by rw [B.state]; rfl
    obtain ⟨t, a1, o, b1, b2, b3⟩ := body p e s m args below meth c s₁ B hml hP s₁ hh0 (Stand.of_body B)
    exact ⟨t, o, a1, b1, b2, b3⟩
/-! ===== END ===== -/
end
section
/-! ===== BEGIN printed: names, fields, word lists, decode rows ===== -/
def RX0 : String := "Coverpool$Bond"
def TX0 : u_T := fun k => match k with
  | 0 => ("Coverpool$Bond", "amount", "I", true)
  | 1 => ("Coverpool$Bond", "due", "I", false)
  | 2 => ("Coverpool$Bond", "state", "I", false)
  | _ => ("Coverpool$Bond", "wasPutOff", "Z", false)
def tyX0 : Nat → FieldType := fun k => match k with
  | 0 => .int
  | 1 => .int
  | 2 => .int
  | _ => .boolean
abbrev wsX00 : List Cond := u_ws RX0 TX0 4
theorem nmX0 : ∀ a, a < 4 → ∀ b, b < 4 → a ≠ b → (TX0 a).2.1 ≠ (TX0 b).2.1 := by decide +kernel
theorem tyX0_ok : ∀ k, k < 4 → parseFieldDescriptor (TX0 k).2.2.1 = some (tyX0 k) := by decide +kernel
abbrev cX0_init : ByteArray := prog_2_method_1_code
def yX0_init : MethodName := ⟨RX0, "<init>", "(II)V"⟩
def RX1 : String := "Coverpool$Loan"
def TX1 : u_T := fun k => match k with
  | 0 => ("Coverpool$Loan", "amount", "I", true)
  | 1 => ("Coverpool$Loan", "rank", "I", true)
  | 2 => ("Coverpool$Loan", "due", "I", true)
  | 3 => ("Coverpool$Loan", "worth", "I", false)
  | 4 => ("Coverpool$Loan", "arrears", "I", false)
  | _ => ("Coverpool$Loan", "state", "I", false)
def tyX1 : Nat → FieldType := fun k => match k with
  | 0 => .int
  | 1 => .int
  | 2 => .int
  | 3 => .int
  | 4 => .int
  | _ => .int
abbrev wsX10 : List Cond := u_ws RX1 TX1 6
theorem nmX1 : ∀ a, a < 6 → ∀ b, b < 6 → a ≠ b → (TX1 a).2.1 ≠ (TX1 b).2.1 := by decide +kernel
theorem tyX1_ok : ∀ k, k < 6 → parseFieldDescriptor (TX1 k).2.2.1 = some (tyX1 k) := by decide +kernel
abbrev cX1_init : ByteArray := prog_3_method_1_code
def yX1_init : MethodName := ⟨RX1, "<init>", "(IIII)V"⟩
def RX2 : String := "Coverpool$Sheet"
def TX2 : u_T := fun k => match k with
  | 0 => ("Coverpool$Sheet", "needs", "[I", true)
  | _ => ("Coverpool$Sheet", "gives", "[[I", true)
def tyX2 : Nat → FieldType := fun k => match k with
  | 0 => .array .int
  | _ => .array (.array .int)
abbrev wsX20 : List Cond := u_ws RX2 TX2 2
theorem nmX2 : ∀ a, a < 2 → ∀ b, b < 2 → a ≠ b → (TX2 a).2.1 ≠ (TX2 b).2.1 := by decide +kernel
theorem tyX2_ok : ∀ k, k < 2 → parseFieldDescriptor (TX2 k).2.2.1 = some (tyX2 k) := by decide +kernel
abbrev cX2_init : ByteArray := prog_4_method_1_code
def yX2_init : MethodName := ⟨RX2, "<init>", "()V"⟩
abbrev cX2_allHold : ByteArray := prog_4_method_2_code
def yX2_allHold : MethodName := ⟨RX2, "allHold", "(I)Z"⟩
abbrev cX2_mostMissing : ByteArray := prog_4_method_3_code
def yX2_mostMissing : MethodName := ⟨RX2, "mostMissing", "(II)I"⟩
abbrev cX2_testOf : ByteArray := prog_4_method_4_code
def yX2_testOf : MethodName := ⟨RX2, "testOf", "(I)I"⟩
abbrev cX2_missing : ByteArray := prog_4_method_5_code
def yX2_missing : MethodName := ⟨RX2, "missing", "(II)I"⟩
def RX3 : String := "Coverpool"
def TX3 : u_T := fun k => match k with
  | 0 => ("Coverpool", "loans", "Ljava/util/ArrayList;", true)
  | 1 => ("Coverpool", "bonds", "Ljava/util/ArrayList;", true)
  | 2 => ("Coverpool", "sheet", "LCoverpool$Sheet;", true)
  | 3 => ("Coverpool", "month", "I", false)
  | 4 => ("Coverpool", "cash", "I", false)
  | 5 => ("Coverpool", "rankThatCounts", "I", false)
  | 6 => ("Coverpool", "cover", "I", false)
  | _ => ("Coverpool", "rate", "I", false)
def tyX3 : Nat → FieldType := fun k => match k with
  | 0 => .object "java/util/ArrayList"
  | 1 => .object "java/util/ArrayList"
  | 2 => .object "Coverpool$Sheet"
  | 3 => .int
  | 4 => .int
  | 5 => .int
  | 6 => .int
  | _ => .int
abbrev wsX30 : List Cond := u_ws RX3 TX3 8
theorem nmX3 : ∀ a, a < 8 → ∀ b, b < 8 → a ≠ b → (TX3 a).2.1 ≠ (TX3 b).2.1 := by decide +kernel
theorem tyX3_ok : ∀ k, k < 8 → parseFieldDescriptor (TX3 k).2.2.1 = some (tyX3 k) := by decide +kernel
abbrev cX3_init : ByteArray := prog_1_method_1_code
def yX3_init : MethodName := ⟨RX3, "<init>", "()V"⟩
abbrev cX3_addLoan : ByteArray := prog_1_method_2_code
def yX3_addLoan : MethodName := ⟨RX3, "addLoan", "(IIII)I"⟩
abbrev cX3_enter : ByteArray := prog_1_method_3_code
def yX3_enter : MethodName := ⟨RX3, "enter", "(I)I"⟩
abbrev cX3_leave : ByteArray := prog_1_method_4_code
def yX3_leave : MethodName := ⟨RX3, "leave", "(I)Z"⟩
abbrev cX3_swap : ByteArray := prog_1_method_5_code
def yX3_swap : MethodName := ⟨RX3, "swap", "(II)Z"⟩
abbrev cX3_setArrears : ByteArray := prog_1_method_6_code
def yX3_setArrears : MethodName := ⟨RX3, "setArrears", "(II)I"⟩
abbrev cX3_setWorth : ByteArray := prog_1_method_7_code
def yX3_setWorth : MethodName := ⟨RX3, "setWorth", "(II)I"⟩
abbrev cX3_stateOf : ByteArray := prog_1_method_8_code
def yX3_stateOf : MethodName := ⟨RX3, "stateOf", "(I)I"⟩
abbrev cX3_counts : ByteArray := prog_1_method_9_code
def yX3_counts : MethodName := ⟨RX3, "counts", "(I)I"⟩
abbrev cX3_addBond : ByteArray := prog_1_method_10_code
def yX3_addBond : MethodName := ⟨RX3, "addBond", "(II)I"⟩
abbrev cX3_takeCash : ByteArray := prog_1_method_11_code
def yX3_takeCash : MethodName := ⟨RX3, "takeCash", "(I)I"⟩
abbrev cX3_setRules : ByteArray := prog_1_method_12_code
def yX3_setRules : MethodName := ⟨RX3, "setRules", "(III)V"⟩
abbrev cX3_bondState : ByteArray := prog_1_method_13_code
def yX3_bondState : MethodName := ⟨RX3, "bondState", "(I)I"⟩
abbrev cX3_dueOf : ByteArray := prog_1_method_14_code
def yX3_dueOf : MethodName := ⟨RX3, "dueOf", "(I)I"⟩
abbrev cX3_cash : ByteArray := prog_1_method_15_code
def yX3_cash : MethodName := ⟨RX3, "cash", "()I"⟩
abbrev cX3_debt : ByteArray := prog_1_method_16_code
def yX3_debt : MethodName := ⟨RX3, "debt", "()I"⟩
abbrev cX3_substitutes : ByteArray := prog_1_method_17_code
def yX3_substitutes : MethodName := ⟨RX3, "substitutes", "()I"⟩
abbrev cX3_pass : ByteArray := prog_1_method_18_code
def yX3_pass : MethodName := ⟨RX3, "pass", "(I)I"⟩
abbrev cX3_holds : ByteArray := prog_1_method_19_code
def yX3_holds : MethodName := ⟨RX3, "holds", "(I)Z"⟩
abbrev cX3_lacking : ByteArray := prog_1_method_20_code
def yX3_lacking : MethodName := ⟨RX3, "lacking", "(I)J"⟩
abbrev cX3_leastToAdd : ByteArray := prog_1_method_21_code
def yX3_leastToAdd : MethodName := ⟨RX3, "leastToAdd", "()I"⟩
abbrev cX3_leastToAddByAll : ByteArray := prog_1_method_22_code
def yX3_leastToAddByAll : MethodName := ⟨RX3, "leastToAddByAll", "()I"⟩
abbrev cX3_requireWithin : ByteArray := prog_1_method_23_code
def yX3_requireWithin : MethodName := ⟨RX3, "requireWithin", "(III)V"⟩
abbrev cX3_requireDueAhead : ByteArray := prog_1_method_24_code
def yX3_requireDueAhead : MethodName := ⟨RX3, "requireDueAhead", "(I)V"⟩
abbrev cX3_requireState : ByteArray := prog_1_method_25_code
def yX3_requireState : MethodName := ⟨RX3, "requireState", "(LCoverpool$Loan;I)V"⟩
abbrev cX3_loanAt : ByteArray := prog_1_method_26_code
def yX3_loanAt : MethodName := ⟨RX3, "loanAt", "(I)LCoverpool$Loan;"⟩
abbrev cX3_bondAt : ByteArray := prog_1_method_27_code
def yX3_bondAt : MethodName := ⟨RX3, "bondAt", "(I)LCoverpool$Bond;"⟩
abbrev cX3_receiveDueLoans : ByteArray := prog_1_method_28_code
def yX3_receiveDueLoans : MethodName := ⟨RX3, "receiveDueLoans", "()V"⟩
abbrev cX3_settleDueBonds : ByteArray := prog_1_method_29_code
def yX3_settleDueBonds : MethodName := ⟨RX3, "settleDueBonds", "()V"⟩
abbrev cX3_settle : ByteArray := prog_1_method_30_code
def yX3_settle : MethodName := ⟨RX3, "settle", "(LCoverpool$Bond;)V"⟩
abbrev cX3_countOf : ByteArray := prog_1_method_31_code
def yX3_countOf : MethodName := ⟨RX3, "countOf", "(LCoverpool$Loan;)I"⟩
abbrev cX3_worthNow : ByteArray := prog_1_method_32_code
def yX3_worthNow : MethodName := ⟨RX3, "worthNow", "(II)I"⟩
abbrev cX3_loansThatAre : ByteArray := prog_1_method_33_code
def yX3_loansThatAre : MethodName := ⟨RX3, "loansThatAre", "(I)I"⟩
abbrev cX3_fillSheet : ByteArray := prog_1_method_34_code
def yX3_fillSheet : MethodName := ⟨RX3, "fillSheet", "()V"⟩
abbrev cX3_fillRow : ByteArray := prog_1_method_35_code
def yX3_fillRow : MethodName := ⟨RX3, "fillRow", "([III)V"⟩
abbrev cX3_startWithCashAndSubstitutes : ByteArray := prog_1_method_36_code
def yX3_startWithCashAndSubstitutes : MethodName := ⟨RX3, "startWithCashAndSubstitutes", "([I)V"⟩
abbrev cX3_addBondTo : ByteArray := prog_1_method_37_code
def yX3_addBondTo : MethodName := ⟨RX3, "addBondTo", "([ILCoverpool$Bond;)V"⟩
abbrev cX3_leastWith : ByteArray := prog_1_method_38_code
def yX3_leastWith : MethodName := ⟨RX3, "leastWith", "(LCoverpool$Sheet;IIIII)I"⟩
abbrev cX3_isLess : ByteArray := prog_1_method_39_code
def yX3_isLess : MethodName := ⟨RX3, "isLess", "(II)Z"⟩
def RX4 : String := "CoverpoolModel"
def TX4 : u_T := fun k => match k with
  | 0 => ("CoverpoolModel", "month", "I", false)
  | 1 => ("CoverpoolModel", "cash", "I", false)
  | 2 => ("CoverpoolModel", "greatest", "I", false)
  | 3 => ("CoverpoolModel", "cover", "I", false)
  | 4 => ("CoverpoolModel", "stress", "I", false)
  | 5 => ("CoverpoolModel", "amount", "[I", true)
  | 6 => ("CoverpoolModel", "worth", "[I", true)
  | 7 => ("CoverpoolModel", "rank", "[I", true)
  | 8 => ("CoverpoolModel", "due", "[I", true)
  | 9 => ("CoverpoolModel", "arrears", "[I", true)
  | 10 => ("CoverpoolModel", "state", "[I", true)
  | 11 => ("CoverpoolModel", "loans", "I", false)
  | 12 => ("CoverpoolModel", "bondAmount", "[I", true)
  | 13 => ("CoverpoolModel", "bondDue", "[I", true)
  | 14 => ("CoverpoolModel", "bondState", "[I", true)
  | 15 => ("CoverpoolModel", "isPutOff", "[Z", true)
  | 16 => ("CoverpoolModel", "bonds", "I", false)
  | _ => ("CoverpoolModel", "thrown", "I", false)
def tyX4 : Nat → FieldType := fun k => match k with
  | 0 => .int
  | 1 => .int
  | 2 => .int
  | 3 => .int
  | 4 => .int
  | 5 => .array .int
  | 6 => .array .int
  | 7 => .array .int
  | 8 => .array .int
  | 9 => .array .int
  | 10 => .array .int
  | 11 => .int
  | 12 => .array .int
  | 13 => .array .int
  | 14 => .array .int
  | 15 => .array .boolean
  | 16 => .int
  | _ => .int
abbrev wsX40 : List Cond := u_ws RX4 TX4 18
theorem nmX4 : ∀ a, a < 18 → ∀ b, b < 18 → a ≠ b → (TX4 a).2.1 ≠ (TX4 b).2.1 := by decide +kernel
theorem tyX4_ok : ∀ k, k < 18 → parseFieldDescriptor (TX4 k).2.2.1 = some (tyX4 k) := by decide +kernel
abbrev cX4_init : ByteArray := prog_6_method_1_code
def yX4_init : MethodName := ⟨RX4, "<init>", "()V"⟩
abbrev cX4_thrown : ByteArray := prog_6_method_2_code
def yX4_thrown : MethodName := ⟨RX4, "thrown", "()I"⟩
abbrev cX4_goes : ByteArray := prog_6_method_3_code
def yX4_goes : MethodName := ⟨RX4, "goes", "(ZZZ)Z"⟩
abbrev cX4_isWithin : ByteArray := prog_6_method_4_code
def yX4_isWithin : MethodName := ⟨RX4, "isWithin", "(III)Z"⟩
abbrev cX4_isLoan : ByteArray := prog_6_method_5_code
def yX4_isLoan : MethodName := ⟨RX4, "isLoan", "(I)Z"⟩
abbrev cX4_isBond : ByteArray := prog_6_method_6_code
def yX4_isBond : MethodName := ⟨RX4, "isBond", "(I)Z"⟩
abbrev cX4_countOf : ByteArray := prog_6_method_7_code
def yX4_countOf : MethodName := ⟨RX4, "countOf", "(I)I"⟩
abbrev cX4_pool : ByteArray := prog_6_method_8_code
def yX4_pool : MethodName := ⟨RX4, "pool", "()I"⟩
abbrev cX4_owed : ByteArray := prog_6_method_9_code
def yX4_owed : MethodName := ⟨RX4, "owed", "()I"⟩
abbrev cX4_beside : ByteArray := prog_6_method_10_code
def yX4_beside : MethodName := ⟨RX4, "beside", "()I"⟩
abbrev cX4_valued : ByteArray := prog_6_method_11_code
def yX4_valued : MethodName := ⟨RX4, "valued", "(III)I"⟩
abbrev cX4_lackOfFace : ByteArray := prog_6_method_12_code
def yX4_lackOfFace : MethodName := ⟨RX4, "lackOfFace", "(I)J"⟩
abbrev cX4_lackOfWorth : ByteArray := prog_6_method_13_code
def yX4_lackOfWorth : MethodName := ⟨RX4, "lackOfWorth", "(II)J"⟩
abbrev cX4_lackOfMoney : ByteArray := prog_6_method_14_code
def yX4_lackOfMoney : MethodName := ⟨RX4, "lackOfMoney", "(I)J"⟩
abbrev cX4_lack : ByteArray := prog_6_method_15_code
def yX4_lack : MethodName := ⟨RX4, "lack", "(II)J"⟩
abbrev cX4_isSafe : ByteArray := prog_6_method_16_code
def yX4_isSafe : MethodName := ⟨RX4, "isSafe", "(I)Z"⟩
abbrev cX4_addLoan : ByteArray := prog_6_method_17_code
def yX4_addLoan : MethodName := ⟨RX4, "addLoan", "(IIII)I"⟩
abbrev cX4_enter : ByteArray := prog_6_method_18_code
def yX4_enter : MethodName := ⟨RX4, "enter", "(I)I"⟩
abbrev cX4_leave : ByteArray := prog_6_method_19_code
def yX4_leave : MethodName := ⟨RX4, "leave", "(I)Z"⟩
abbrev cX4_swap : ByteArray := prog_6_method_20_code
def yX4_swap : MethodName := ⟨RX4, "swap", "(II)Z"⟩
abbrev cX4_setArrears : ByteArray := prog_6_method_21_code
def yX4_setArrears : MethodName := ⟨RX4, "setArrears", "(II)I"⟩
abbrev cX4_setWorth : ByteArray := prog_6_method_22_code
def yX4_setWorth : MethodName := ⟨RX4, "setWorth", "(II)I"⟩
abbrev cX4_stateOf : ByteArray := prog_6_method_23_code
def yX4_stateOf : MethodName := ⟨RX4, "stateOf", "(I)I"⟩
abbrev cX4_counts : ByteArray := prog_6_method_24_code
def yX4_counts : MethodName := ⟨RX4, "counts", "(I)I"⟩
abbrev cX4_addBond : ByteArray := prog_6_method_25_code
def yX4_addBond : MethodName := ⟨RX4, "addBond", "(II)I"⟩
abbrev cX4_takeCash : ByteArray := prog_6_method_26_code
def yX4_takeCash : MethodName := ⟨RX4, "takeCash", "(I)I"⟩
abbrev cX4_setRules : ByteArray := prog_6_method_27_code
def yX4_setRules : MethodName := ⟨RX4, "setRules", "(III)V"⟩
abbrev cX4_bondState : ByteArray := prog_6_method_28_code
def yX4_bondState : MethodName := ⟨RX4, "bondState", "(I)I"⟩
abbrev cX4_dueOf : ByteArray := prog_6_method_29_code
def yX4_dueOf : MethodName := ⟨RX4, "dueOf", "(I)I"⟩
abbrev cX4_cash : ByteArray := prog_6_method_30_code
def yX4_cash : MethodName := ⟨RX4, "cash", "()I"⟩
abbrev cX4_debt : ByteArray := prog_6_method_31_code
def yX4_debt : MethodName := ⟨RX4, "debt", "()I"⟩
abbrev cX4_substitutes : ByteArray := prog_6_method_32_code
def yX4_substitutes : MethodName := ⟨RX4, "substitutes", "()I"⟩
abbrev cX4_lives : ByteArray := prog_6_method_33_code
def yX4_lives : MethodName := ⟨RX4, "lives", "()V"⟩
abbrev cX4_pass : ByteArray := prog_6_method_34_code
def yX4_pass : MethodName := ⟨RX4, "pass", "(I)I"⟩
abbrev cX4_holds : ByteArray := prog_6_method_35_code
def yX4_holds : MethodName := ⟨RX4, "holds", "(I)Z"⟩
abbrev cX4_lacking : ByteArray := prog_6_method_36_code
def yX4_lacking : MethodName := ⟨RX4, "lacking", "(I)J"⟩
abbrev cX4_size : ByteArray := prog_6_method_37_code
def yX4_size : MethodName := ⟨RX4, "size", "(I)I"⟩
abbrev cX4_leastToAdd : ByteArray := prog_6_method_38_code
def yX4_leastToAdd : MethodName := ⟨RX4, "leastToAdd", "()I"⟩
abbrev cX4_leastToAddByAll : ByteArray := prog_6_method_39_code
def yX4_leastToAddByAll : MethodName := ⟨RX4, "leastToAddByAll", "()I"⟩
def RJx145de : String := "java/io/Serializable"
def TJx145de : u_T := fun k => match k with
  | _ => ("", "", "", false)
def tyJx145de : Nat → FieldType := fun k => match k with
  | _ => .int
abbrev wsJx145de0 : List Cond := u_ws RJx145de TJx145de 0
theorem nmJx145de : ∀ a, a < 0 → ∀ b, b < 0 → a ≠ b → (TJx145de a).2.1 ≠ (TJx145de b).2.1 := by decide +kernel
theorem tyJx145de_ok : ∀ k, k < 0 → parseFieldDescriptor (TJx145de k).2.2.1 = some (tyJx145de k) := by decide +kernel
def RJx8e188 : String := "java/lang/Cloneable"
def TJx8e188 : u_T := fun k => match k with
  | _ => ("", "", "", false)
def tyJx8e188 : Nat → FieldType := fun k => match k with
  | _ => .int
abbrev wsJx8e1880 : List Cond := u_ws RJx8e188 TJx8e188 0
theorem nmJx8e188 : ∀ a, a < 0 → ∀ b, b < 0 → a ≠ b → (TJx8e188 a).2.1 ≠ (TJx8e188 b).2.1 := by decide +kernel
theorem tyJx8e188_ok : ∀ k, k < 0 → parseFieldDescriptor (TJx8e188 k).2.2.1 = some (tyJx8e188 k) := by decide +kernel
def RJ6 : String := "java/lang/Integer"
def TJ6 : u_T := fun k => match k with
  | _ => ("", "", "", false)
def tyJ6 : Nat → FieldType := fun k => match k with
  | _ => .int
abbrev wsJ60 : List Cond := u_ws RJ6 TJ6 0
theorem nmJ6 : ∀ a, a < 0 → ∀ b, b < 0 → a ≠ b → (TJ6 a).2.1 ≠ (TJ6 b).2.1 := by decide +kernel
theorem tyJ6_ok : ∀ k, k < 0 → parseFieldDescriptor (TJ6 k).2.2.1 = some (tyJ6 k) := by decide +kernel
abbrev cJ6_bitCount_0f7a4 : ByteArray := prog_13_method_49_code
def yJ6_bitCount_0f7a4 : MethodName := ⟨RJ6, "bitCount", "(I)I"⟩
def RJxab1ab : String := "java/lang/Iterable"
def TJxab1ab : u_T := fun k => match k with
  | _ => ("", "", "", false)
def tyJxab1ab : Nat → FieldType := fun k => match k with
  | _ => .int
abbrev wsJxab1ab0 : List Cond := u_ws RJxab1ab TJxab1ab 0
theorem nmJxab1ab : ∀ a, a < 0 → ∀ b, b < 0 → a ≠ b → (TJxab1ab a).2.1 ≠ (TJxab1ab b).2.1 := by decide +kernel
theorem tyJxab1ab_ok : ∀ k, k < 0 → parseFieldDescriptor (TJxab1ab k).2.2.1 = some (tyJxab1ab k) := by decide +kernel
def RJ9 : String := "java/lang/Math"
def TJ9 : u_T := fun k => match k with
  | _ => ("", "", "", false)
def tyJ9 : Nat → FieldType := fun k => match k with
  | _ => .int
abbrev wsJ90 : List Cond := u_ws RJ9 TJ9 0
theorem nmJ9 : ∀ a, a < 0 → ∀ b, b < 0 → a ≠ b → (TJ9 a).2.1 ≠ (TJ9 b).2.1 := by decide +kernel
theorem tyJ9_ok : ∀ k, k < 0 → parseFieldDescriptor (TJ9 k).2.2.1 = some (tyJ9 k) := by decide +kernel
abbrev cJ9_max_7cf53 : ByteArray := prog_15_method_65_code
def yJ9_max_7cf53 : MethodName := ⟨RJ9, "max", "(II)I"⟩
abbrev cJ9_min_7cf53 : ByteArray := prog_15_method_69_code
def yJ9_min_7cf53 : MethodName := ⟨RJ9, "min", "(II)I"⟩
def RJ0 : String := "java/lang/String"
def TJ0 : u_T := fun k => match k with
  | _ => ("", "", "", false)
def tyJ0 : Nat → FieldType := fun k => match k with
  | _ => .int
abbrev wsJ00 : List Cond := u_ws RJ0 TJ0 0
theorem nmJ0 : ∀ a, a < 0 → ∀ b, b < 0 → a ≠ b → (TJ0 a).2.1 ≠ (TJ0 b).2.1 := by decide +kernel
theorem tyJ0_ok : ∀ k, k < 0 → parseFieldDescriptor (TJ0 k).2.2.1 = some (tyJ0 k) := by decide +kernel
def RJ10 : String := "java/lang/System"
def TJ10 : u_T := fun k => match k with
  | _ => ("", "", "", false)
def tyJ10 : Nat → FieldType := fun k => match k with
  | _ => .int
abbrev wsJ100 : List Cond := u_ws RJ10 TJ10 0
theorem nmJ10 : ∀ a, a < 0 → ∀ b, b < 0 → a ≠ b → (TJ10 a).2.1 ≠ (TJ10 b).2.1 := by decide +kernel
theorem tyJ10_ok : ∀ k, k < 0 → parseFieldDescriptor (TJ10 k).2.2.1 = some (tyJ10 k) := by decide +kernel
def RJxa1e45 : String := "java/util/AbstractCollection"
def TJxa1e45 : u_T := fun k => match k with
  | _ => ("", "", "", false)
def tyJxa1e45 : Nat → FieldType := fun k => match k with
  | _ => .int
abbrev wsJxa1e450 : List Cond := u_ws RJxa1e45 TJxa1e45 0
theorem nmJxa1e45 : ∀ a, a < 0 → ∀ b, b < 0 → a ≠ b → (TJxa1e45 a).2.1 ≠ (TJxa1e45 b).2.1 := by decide +kernel
theorem tyJxa1e45_ok : ∀ k, k < 0 → parseFieldDescriptor (TJxa1e45 k).2.2.1 = some (tyJxa1e45 k) := by decide +kernel
abbrev cJxa1e45_init_da8c8 : ByteArray := prog_20_method_1_code
def yJxa1e45_init_da8c8 : MethodName := ⟨RJxa1e45, "<init>", "()V"⟩
def RJxc12de : String := "java/util/AbstractList"
def TJxc12de : u_T := fun k => match k with
  | _ => ("", "", "", false)
def tyJxc12de : Nat → FieldType := fun k => match k with
  | _ => .int
abbrev wsJxc12de0 : List Cond := u_ws RJxc12de TJxc12de 0
theorem nmJxc12de : ∀ a, a < 0 → ∀ b, b < 0 → a ≠ b → (TJxc12de a).2.1 ≠ (TJxc12de b).2.1 := by decide +kernel
theorem tyJxc12de_ok : ∀ k, k < 0 → parseFieldDescriptor (TJxc12de k).2.2.1 = some (tyJxc12de k) := by decide +kernel
abbrev cJxc12de_init_da8c8 : ByteArray := prog_21_method_1_code
def yJxc12de_init_da8c8 : MethodName := ⟨RJxc12de, "<init>", "()V"⟩
def RJx4a65c : String := "java/util/ArrayList"
def TJx4a65c : u_T := fun k => match k with
  | 0 => ("java/util/AbstractList", "modCount", "I", false)
  | 1 => ("java/util/ArrayList", "elementData", "[Ljava/lang/Object;", false)
  | _ => ("java/util/ArrayList", "size", "I", false)
def tyJx4a65c : Nat → FieldType := fun k => match k with
  | 0 => .int
  | 1 => .array (.object "java/lang/Object")
  | _ => .int
abbrev wsJx4a65c0 : List Cond := u_ws RJx4a65c TJx4a65c 3
theorem nmJx4a65c : ∀ a, a < 3 → ∀ b, b < 3 → a ≠ b → (TJx4a65c a).2.1 ≠ (TJx4a65c b).2.1 := by decide +kernel
theorem tyJx4a65c_ok : ∀ k, k < 3 → parseFieldDescriptor (TJx4a65c k).2.2.1 = some (tyJx4a65c k) := by decide +kernel
abbrev cJx4a65c_init_da8c8 : ByteArray := prog_22_method_2_code
def yJx4a65c_init_da8c8 : MethodName := ⟨RJx4a65c, "<init>", "()V"⟩
abbrev cJx4a65c_grow_92f84 : ByteArray := prog_22_method_6_code
def yJx4a65c_grow_92f84 : MethodName := ⟨RJx4a65c, "grow", "(I)[Ljava/lang/Object;"⟩
abbrev cJx4a65c_grow_d5877 : ByteArray := prog_22_method_7_code
def yJx4a65c_grow_d5877 : MethodName := ⟨RJx4a65c, "grow", "()[Ljava/lang/Object;"⟩
abbrev cJx4a65c_size_8abf5 : ByteArray := prog_22_method_8_code
def yJx4a65c_size_8abf5 : MethodName := ⟨RJx4a65c, "size", "()I"⟩
abbrev cJx4a65c_elementData_915e3 : ByteArray := prog_22_method_18_code
def yJx4a65c_elementData_915e3 : MethodName := ⟨RJx4a65c, "elementData", "(I)Ljava/lang/Object;"⟩
abbrev cJx4a65c_get_915e3 : ByteArray := prog_22_method_20_code
def yJx4a65c_get_915e3 : MethodName := ⟨RJx4a65c, "get", "(I)Ljava/lang/Object;"⟩
abbrev cJx4a65c_add_72be8 : ByteArray := prog_22_method_24_code
def yJx4a65c_add_72be8 : MethodName := ⟨RJx4a65c, "add", "(Ljava/lang/Object;[Ljava/lang/Object;I)V"⟩
abbrev cJx4a65c_add_9ea2d : ByteArray := prog_22_method_25_code
def yJx4a65c_add_9ea2d : MethodName := ⟨RJx4a65c, "add", "(Ljava/lang/Object;)Z"⟩
def RJ7 : String := "java/util/Arrays"
def TJ7 : u_T := fun k => match k with
  | _ => ("", "", "", false)
def tyJ7 : Nat → FieldType := fun k => match k with
  | _ => .int
abbrev wsJ70 : List Cond := u_ws RJ7 TJ7 0
theorem nmJ7 : ∀ a, a < 0 → ∀ b, b < 0 → a ≠ b → (TJ7 a).2.1 ≠ (TJ7 b).2.1 := by decide +kernel
theorem tyJ7_ok : ∀ k, k < 0 → parseFieldDescriptor (TJ7 k).2.2.1 = some (tyJ7 k) := by decide +kernel
abbrev cJ7_copyOf_1904c : ByteArray := prog_23_method_119_code
def yJ7_copyOf_1904c : MethodName := ⟨RJ7, "copyOf", "([Ljava/lang/Object;I)[Ljava/lang/Object;"⟩
abbrev cJ7_copyOf_6403c : ByteArray := prog_23_method_120_code
def yJ7_copyOf_6403c : MethodName := ⟨RJ7, "copyOf", "([Ljava/lang/Object;ILjava/lang/Class;)[Ljava/lang/Object;"⟩
def RJx5ef63 : String := "java/util/Collection"
def TJx5ef63 : u_T := fun k => match k with
  | _ => ("", "", "", false)
def tyJx5ef63 : Nat → FieldType := fun k => match k with
  | _ => .int
abbrev wsJx5ef630 : List Cond := u_ws RJx5ef63 TJx5ef63 0
theorem nmJx5ef63 : ∀ a, a < 0 → ∀ b, b < 0 → a ≠ b → (TJx5ef63 a).2.1 ≠ (TJx5ef63 b).2.1 := by decide +kernel
theorem tyJx5ef63_ok : ∀ k, k < 0 → parseFieldDescriptor (TJx5ef63 k).2.2.1 = some (tyJx5ef63 k) := by decide +kernel
def RJxbd725 : String := "java/util/List"
def TJxbd725 : u_T := fun k => match k with
  | _ => ("", "", "", false)
def tyJxbd725 : Nat → FieldType := fun k => match k with
  | _ => .int
abbrev wsJxbd7250 : List Cond := u_ws RJxbd725 TJxbd725 0
theorem nmJxbd725 : ∀ a, a < 0 → ∀ b, b < 0 → a ≠ b → (TJxbd725 a).2.1 ≠ (TJxbd725 b).2.1 := by decide +kernel
theorem tyJxbd725_ok : ∀ k, k < 0 → parseFieldDescriptor (TJxbd725 k).2.2.1 = some (tyJxbd725 k) := by decide +kernel
def RJ15 : String := "java/util/Objects"
def TJ15 : u_T := fun k => match k with
  | _ => ("", "", "", false)
def tyJ15 : Nat → FieldType := fun k => match k with
  | _ => .int
abbrev wsJ150 : List Cond := u_ws RJ15 TJ15 0
theorem nmJ15 : ∀ a, a < 0 → ∀ b, b < 0 → a ≠ b → (TJ15 a).2.1 ≠ (TJ15 b).2.1 := by decide +kernel
theorem tyJ15_ok : ∀ k, k < 0 → parseFieldDescriptor (TJ15 k).2.2.1 = some (tyJ15 k) := by decide +kernel
abbrev cJ15_checkIndex_7cf53 : ByteArray := prog_26_method_17_code
def yJ15_checkIndex_7cf53 : MethodName := ⟨RJ15, "checkIndex", "(II)I"⟩
def RJxf0a74 : String := "java/util/RandomAccess"
def TJxf0a74 : u_T := fun k => match k with
  | _ => ("", "", "", false)
def tyJxf0a74 : Nat → FieldType := fun k => match k with
  | _ => .int
abbrev wsJxf0a740 : List Cond := u_ws RJxf0a74 TJxf0a74 0
theorem nmJxf0a74 : ∀ a, a < 0 → ∀ b, b < 0 → a ≠ b → (TJxf0a74 a).2.1 ≠ (TJxf0a74 b).2.1 := by decide +kernel
theorem tyJxf0a74_ok : ∀ k, k < 0 → parseFieldDescriptor (TJxf0a74 k).2.2.1 = some (tyJxf0a74 k) := by decide +kernel
def RJxa66e6 : String := "java/util/SequencedCollection"
def TJxa66e6 : u_T := fun k => match k with
  | _ => ("", "", "", false)
def tyJxa66e6 : Nat → FieldType := fun k => match k with
  | _ => .int
abbrev wsJxa66e60 : List Cond := u_ws RJxa66e6 TJxa66e6 0
theorem nmJxa66e6 : ∀ a, a < 0 → ∀ b, b < 0 → a ≠ b → (TJxa66e6 a).2.1 ≠ (TJxa66e6 b).2.1 := by decide +kernel
theorem tyJxa66e6_ok : ∀ k, k < 0 → parseFieldDescriptor (TJxa66e6 k).2.2.1 = some (tyJxa66e6 k) := by decide +kernel
def RJ8 : String := "jdk/internal/util/ArraysSupport"
def TJ8 : u_T := fun k => match k with
  | _ => ("", "", "", false)
def tyJ8 : Nat → FieldType := fun k => match k with
  | _ => .int
abbrev wsJ80 : List Cond := u_ws RJ8 TJ8 0
theorem nmJ8 : ∀ a, a < 0 → ∀ b, b < 0 → a ≠ b → (TJ8 a).2.1 ≠ (TJ8 b).2.1 := by decide +kernel
theorem tyJ8_ok : ∀ k, k < 0 → parseFieldDescriptor (TJ8 k).2.2.1 = some (tyJ8 k) := by decide +kernel
abbrev cJ8_newLength_cabcc : ByteArray := prog_29_method_27_code
def yJ8_newLength_cabcc : MethodName := ⟨RJ8, "newLength", "(III)I"⟩
abbrev cJ8_hugeLength_7cf53 : ByteArray := prog_29_method_28_code
def yJ8_hugeLength_7cf53 : MethodName := ⟨RJ8, "hugeLength", "(II)I"⟩
def RJ3 : String := "jdk/internal/util/Preconditions"
def TJ3 : u_T := fun k => match k with
  | _ => ("", "", "", false)
def tyJ3 : Nat → FieldType := fun k => match k with
  | _ => .int
abbrev wsJ30 : List Cond := u_ws RJ3 TJ3 0
theorem nmJ3 : ∀ a, a < 0 → ∀ b, b < 0 → a ≠ b → (TJ3 a).2.1 ≠ (TJ3 b).2.1 := by decide +kernel
theorem tyJ3_ok : ∀ k, k < 0 → parseFieldDescriptor (TJ3 k).2.2.1 = some (tyJ3 k) := by decide +kernel
abbrev cJ3_checkIndex_8e157 : ByteArray := prog_30_method_11_code
def yJ3_checkIndex_8e157 : MethodName := ⟨RJ3, "checkIndex", "(IILjava/util/function/BiFunction;)I"⟩
def RL : String := "CoverpoolLaw"
abbrev cL_addLoan : ByteArray := method_3_code
def yL_addLoan : MethodName := ⟨RL, "addLoan", "(LCoverpool;IIII[J)I"⟩
abbrev cL_enter : ByteArray := method_4_code
def yL_enter : MethodName := ⟨RL, "enter", "(LCoverpool;I[J)I"⟩
abbrev cL_leave : ByteArray := method_5_code
def yL_leave : MethodName := ⟨RL, "leave", "(LCoverpool;I[J)I"⟩
abbrev cL_swap : ByteArray := method_6_code
def yL_swap : MethodName := ⟨RL, "swap", "(LCoverpool;II[J)I"⟩
abbrev cL_setArrears : ByteArray := method_7_code
def yL_setArrears : MethodName := ⟨RL, "setArrears", "(LCoverpool;II[J)I"⟩
abbrev cL_setWorth : ByteArray := method_8_code
def yL_setWorth : MethodName := ⟨RL, "setWorth", "(LCoverpool;II[J)I"⟩
abbrev cL_stateOf : ByteArray := method_9_code
def yL_stateOf : MethodName := ⟨RL, "stateOf", "(LCoverpool;I[J)I"⟩
abbrev cL_counts : ByteArray := method_10_code
def yL_counts : MethodName := ⟨RL, "counts", "(LCoverpool;I[J)I"⟩
abbrev cL_addBond : ByteArray := method_11_code
def yL_addBond : MethodName := ⟨RL, "addBond", "(LCoverpool;II[J)I"⟩
abbrev cL_takeCash : ByteArray := method_12_code
def yL_takeCash : MethodName := ⟨RL, "takeCash", "(LCoverpool;I[J)I"⟩
abbrev cL_setRules : ByteArray := method_13_code
def yL_setRules : MethodName := ⟨RL, "setRules", "(LCoverpool;III)I"⟩
abbrev cL_bondState : ByteArray := method_14_code
def yL_bondState : MethodName := ⟨RL, "bondState", "(LCoverpool;I[J)I"⟩
abbrev cL_dueOf : ByteArray := method_15_code
def yL_dueOf : MethodName := ⟨RL, "dueOf", "(LCoverpool;I[J)I"⟩
abbrev cL_pass : ByteArray := method_16_code
def yL_pass : MethodName := ⟨RL, "pass", "(LCoverpool;I[J)I"⟩
abbrev cL_holds : ByteArray := method_17_code
def yL_holds : MethodName := ⟨RL, "holds", "(LCoverpool;I[J)I"⟩
abbrev cL_lacking : ByteArray := method_18_code
def yL_lacking : MethodName := ⟨RL, "lacking", "(LCoverpool;I[J)I"⟩
abbrev cL_law : ByteArray := code
def yL_law : MethodName := ⟨RL, "law", "([I)Z"⟩
def wsX0_init : List Cond := .code yX0_init cX0_init 3 none :: ([.methodLink RX0 3 objectInit, .instanceMethod objectInit, .code objectInit ⟨#[0xb1]⟩ 1 none, .fieldLink RX0 9 "Coverpool$Bond" "state" "I", .fieldLink RX0 15 "Coverpool$Bond" "wasPutOff" "Z", .fieldLink RX0 19 "Coverpool$Bond" "amount" "I", .fieldLink RX0 22 "Coverpool$Bond" "due" "I"] ++ wsX00)
def wsX1_init : List Cond := .code yX1_init cX1_init 5 none :: ([.methodLink RX1 3 objectInit, .instanceMethod objectInit, .code objectInit ⟨#[0xb1]⟩ 1 none, .fieldLink RX1 9 "Coverpool$Loan" "arrears" "I", .fieldLink RX1 15 "Coverpool$Loan" "state" "I", .fieldLink RX1 18 "Coverpool$Loan" "amount" "I", .fieldLink RX1 21 "Coverpool$Loan" "worth" "I", .fieldLink RX1 24 "Coverpool$Loan" "rank" "I", .fieldLink RX1 27 "Coverpool$Loan" "due" "I"] ++ wsX10)
def wsX2_init : List Cond := .code yX2_init cX2_init 1 none :: ([.methodLink RX2 5 objectInit, .instanceMethod objectInit, .code objectInit ⟨#[0xb1]⟩ 1 none, .arrayClass .int, .fieldLink RX2 11 "Coverpool$Sheet" "needs" "[I", .classLink RX2 15 "[[I", .fieldLink RX2 17 "Coverpool$Sheet" "gives" "[[I"] ++ wsX20)
def wsX2_missing : List Cond := .code yX2_missing cX2_missing 5 (some .int) :: ([.fieldLink RX2 11 "Coverpool$Sheet" "needs" "[I", .fieldLink RX2 17 "Coverpool$Sheet" "gives" "[[I"] ++ wsX20)
def wsX2_allHold : List Cond := .code yX2_allHold cX2_allHold 3 (some .boolean) :: ([.methodLink RX2 20 yX2_missing, .instanceMethod yX2_missing, .selects RX2 yX2_missing yX2_missing, .initialized RX2, .code yX2_missing cX2_missing 5 (some .int), .fieldLink RX2 11 "Coverpool$Sheet" "needs" "[I", .fieldLink RX2 17 "Coverpool$Sheet" "gives" "[[I"] ++ wsX20)
def wsX2_testOf : List Cond := .code yX2_testOf cX2_testOf 1 (some .int) :: ([])
def wsX2_mostMissing : List Cond := .code yX2_mostMissing cX2_mostMissing 5 (some .int) :: ([.methodLink RX2 28 Lib.Math.max.name, .static Lib.Math.max.name, .initialized "java/lang/Math", .code Lib.Math.max.name Lib.Math.max.code 2 (some .int), .methodLink RX2 24 yX2_testOf, .static yX2_testOf, .initialized RX2, .code yX2_testOf cX2_testOf 1 (some .int), .methodLink RX2 20 yX2_missing, .instanceMethod yX2_missing, .selects RX2 yX2_missing yX2_missing, .code yX2_missing cX2_missing 5 (some .int), .fieldLink RX2 11 "Coverpool$Sheet" "needs" "[I", .fieldLink RX2 17 "Coverpool$Sheet" "gives" "[[I"] ++ wsX20)
def wsJxa1e45_init_da8c8 : List Cond := .code yJxa1e45_init_da8c8 cJxa1e45_init_da8c8 1 none :: ([.methodLink RJxa1e45 1 objectInit, .instanceMethod objectInit, .code objectInit ⟨#[0xb1]⟩ 1 none])
def wsJxc12de_init_da8c8 : List Cond := .code yJxc12de_init_da8c8 cJxc12de_init_da8c8 1 none :: ([.fieldLink RJxc12de 7 "java/util/AbstractList" "modCount" "I", .methodLink RJxc12de 1 yJxa1e45_init_da8c8, .instanceMethod yJxa1e45_init_da8c8, .initialized RJxa1e45, .code yJxa1e45_init_da8c8 cJxa1e45_init_da8c8 1 none, .methodLink RJxa1e45 1 objectInit, .instanceMethod objectInit, .code objectInit ⟨#[0xb1]⟩ 1 none] ++ wsJx4a65c0)
def wsJx4a65c_init_da8c8 : List Cond := .code yJx4a65c_init_da8c8 cJx4a65c_init_da8c8 1 none :: ([.fieldLink RJx4a65c 39 "java/util/ArrayList" "DEFAULTCAPACITY_EMPTY_ELEMENTDATA" "[Ljava/lang/Object;", .fieldLink RJx4a65c 9 "java/util/ArrayList" "elementData" "[Ljava/lang/Object;", .methodLink RJx4a65c 1 yJxc12de_init_da8c8, .instanceMethod yJxc12de_init_da8c8, .initialized RJxc12de, .code yJxc12de_init_da8c8 cJxc12de_init_da8c8 1 none, .fieldLink RJxc12de 7 "java/util/AbstractList" "modCount" "I", .methodLink RJxc12de 1 yJxa1e45_init_da8c8, .instanceMethod yJxa1e45_init_da8c8, .initialized RJxa1e45, .code yJxa1e45_init_da8c8 cJxa1e45_init_da8c8 1 none, .methodLink RJxa1e45 1 objectInit, .instanceMethod objectInit, .code objectInit ⟨#[0xb1]⟩ 1 none] ++ wsJx4a65c0)
def wsX3_init_r1 : List Cond := [Cond.methodLink RX3 1 objectInit, Cond.instanceMethod objectInit, Cond.code objectInit ⟨#[0xb1]⟩ 1 none, Cond.classLink RX3 7 RJx4a65c, Cond.instantiable RJx4a65c 3, Cond.initialized RJx4a65c, Cond.fieldLink RX3 10 "Coverpool" "loans" "Ljava/util/ArrayList;", Cond.fieldLink RX3 16 "Coverpool" "bonds" "Ljava/util/ArrayList;", Cond.classLink RX3 19 RX2, Cond.instantiable RX2 2, Cond.initialized RX2, Cond.fieldLink RX3 22 "Coverpool" "sheet" "LCoverpool$Sheet;", Cond.fieldLink RX3 26 "Coverpool" "month" "I", Cond.fieldLink RX3 30 "Coverpool" "cash" "I", Cond.fieldLink RX3 33 "Coverpool" "rankThatCounts" "I", Cond.fieldLink RX3 36 "Coverpool" "cover" "I", Cond.fieldLink RX3 39 "Coverpool" "rate" "I", Cond.methodLink RX3 9 yJx4a65c_init_da8c8, Cond.instanceMethod yJx4a65c_init_da8c8, Cond.code yJx4a65c_init_da8c8 cJx4a65c_init_da8c8 1 none, Cond.fieldLink RJx4a65c 39 "java/util/ArrayList" "DEFAULTCAPACITY_EMPTY_ELEMENTDATA" "[Ljava/lang/Object;", Cond.fieldLink RJx4a65c 9 "java/util/ArrayList" "elementData" "[Ljava/lang/Object;", Cond.methodLink RJx4a65c 1 yJxc12de_init_da8c8, Cond.instanceMethod yJxc12de_init_da8c8]
def wsX3_init_r2 : List Cond := [Cond.initialized RJxc12de, Cond.code yJxc12de_init_da8c8 cJxc12de_init_da8c8 1 none, Cond.fieldLink RJxc12de 7 "java/util/AbstractList" "modCount" "I", Cond.methodLink RJxc12de 1 yJxa1e45_init_da8c8, Cond.instanceMethod yJxa1e45_init_da8c8, Cond.initialized RJxa1e45, Cond.code yJxa1e45_init_da8c8 cJxa1e45_init_da8c8 1 none, Cond.methodLink RJxa1e45 1 objectInit, Cond.instanceMethod yX2_init, Cond.code yX2_init cX2_init 1 none, Cond.methodLink RX2 5 objectInit, Cond.arrayClass .int, Cond.fieldLink RX2 11 "Coverpool$Sheet" "needs" "[I", Cond.classLink RX2 15 "[[I", Cond.fieldLink RX2 17 "Coverpool$Sheet" "gives" "[[I"]
def wsX3_init : List Cond := .code yX3_init cX3_init 1 none :: ((wsX3_init_r1 ++ wsX3_init_r2) ++ wsJx4a65c0 ++ wsX30 ++ wsX20)
def wsX3_requireWithin : List Cond := .code yX3_requireWithin cX3_requireWithin 3 none :: ([.classLink RX3 160 "java/lang/IllegalArgumentException", .initialized "java/lang/IllegalArgumentException"] ++ (vx_atS RX3 164 "java/lang/IllegalArgumentException" ["java/lang/RuntimeException", "java/lang/Exception"]).filter goodWord)
def wsX3_requireDueAhead : List Cond := .code yX3_requireDueAhead cX3_requireDueAhead 2 none :: ([.classLink RX3 160 "java/lang/IllegalArgumentException", .initialized "java/lang/IllegalArgumentException", .fieldLink RX3 26 "Coverpool" "month" "I"] ++ wsX30 ++ (vx_atS RX3 164 "java/lang/IllegalArgumentException" ["java/lang/RuntimeException", "java/lang/Exception"]).filter goodWord)
def wsJx4a65c_size_8abf5 : List Cond := .code yJx4a65c_size_8abf5 cJx4a65c_size_8abf5 1 (some .int) :: ([.fieldLink RJx4a65c 48 "java/util/ArrayList" "size" "I"] ++ wsJx4a65c0)
def wsJ8_hugeLength_7cf53 : List Cond := .code yJ8_hugeLength_7cf53 cJ8_hugeLength_7cf53 3 (some .int) :: ([.constant RJ8 200 (2147483639)])
def wsJ8_newLength_cabcc : List Cond := .code yJ8_newLength_cabcc cJ8_newLength_cabcc 4 (some .int) :: ([.methodLink RJ8 194 Lib.Math.max.name, .static Lib.Math.max.name, .initialized "java/lang/Math", .code Lib.Math.max.name Lib.Math.max.code 2 (some .int), .constant RJ8 200 (2147483639), .methodLink RJ8 201 yJ8_hugeLength_7cf53, .static yJ8_hugeLength_7cf53, .initialized RJ8, .code yJ8_hugeLength_7cf53 cJ8_hugeLength_7cf53 3 (some .int)])
def wsJ7_copyOf_6403c : List Cond := .code yJ7_copyOf_6403c cJ7_copyOf_6403c 4 (some (.array (.object "java/lang/Object"))) :: ([.classLink RJ7 110 "[Ljava/lang/Object;", .classLink RJ7 2 "java/lang/Object", .methodLink RJ7 304 Lib.Math.min.name, .static Lib.Math.min.name, .initialized "java/lang/Math", .code Lib.Math.min.name Lib.Math.min.code 2 (some .int), .methodLink RJ7 150 arraycopyName, .native arraycopyName, .static arraycopyName, .initialized "java/lang/System"])
def wsJ7_copyOf_1904c : List Cond := .code yJ7_copyOf_1904c cJ7_copyOf_1904c 2 (some (.array (.object "java/lang/Object"))) :: ([.methodLink RJ7 86 ⟨"java/lang/Object", "getClass", "()Ljava/lang/Class;"⟩, .selects "[Ljava/lang/Object;" ⟨"java/lang/Object", "getClass", "()Ljava/lang/Class;"⟩ ⟨"java/lang/Object", "getClass", "()Ljava/lang/Class;"⟩, .instanceMethod ⟨"java/lang/Object", "getClass", "()Ljava/lang/Class;"⟩, .native ⟨"java/lang/Object", "getClass", "()Ljava/lang/Class;"⟩, .methodLink RJ7 300 yJ7_copyOf_6403c, .static yJ7_copyOf_6403c, .initialized RJ7, .code yJ7_copyOf_6403c cJ7_copyOf_6403c 4 (some (.array (.object "java/lang/Object"))), .classLink RJ7 110 "[Ljava/lang/Object;", .classLink RJ7 2 "java/lang/Object", .methodLink RJ7 304 Lib.Math.min.name, .static Lib.Math.min.name, .initialized "java/lang/Math", .code Lib.Math.min.name Lib.Math.min.code 2 (some .int), .methodLink RJ7 150 arraycopyName, .native arraycopyName, .static arraycopyName, .initialized "java/lang/System"])
def wsJx4a65c_grow_92f84_r1 : List Cond := [Cond.fieldLink RJx4a65c 9 "java/util/ArrayList" "elementData" "[Ljava/lang/Object;", Cond.fieldLink RJx4a65c 39 "java/util/ArrayList" "DEFAULTCAPACITY_EMPTY_ELEMENTDATA" "[Ljava/lang/Object;", Cond.methodLink RJx4a65c 79 Lib.Math.max.name, Cond.static Lib.Math.max.name, Cond.initialized "java/lang/Math", Cond.code Lib.Math.max.name Lib.Math.max.code 2 (some .int), Cond.classLink RJx4a65c 7 "java/lang/Object", Cond.methodLink RJx4a65c 73 yJ8_newLength_cabcc, Cond.static yJ8_newLength_cabcc, Cond.initialized RJ8, Cond.code yJ8_newLength_cabcc cJ8_newLength_cabcc 4 (some .int), Cond.methodLink RJ8 194 Lib.Math.max.name, Cond.constant RJ8 200 (2147483639), Cond.methodLink RJ8 201 yJ8_hugeLength_7cf53, Cond.static yJ8_hugeLength_7cf53, Cond.code yJ8_hugeLength_7cf53 cJ8_hugeLength_7cf53 3 (some .int), Cond.methodLink RJx4a65c 66 yJ7_copyOf_1904c, Cond.static yJ7_copyOf_1904c, Cond.initialized RJ7, Cond.code yJ7_copyOf_1904c cJ7_copyOf_1904c 2 (some (.array (.object "java/lang/Object"))), Cond.methodLink RJ7 86 ⟨"java/lang/Object", "getClass", "()Ljava/lang/Class;"⟩, Cond.selects "[Ljava/lang/Object;" ⟨"java/lang/Object", "getClass", "()Ljava/lang/Class;"⟩ ⟨"java/lang/Object", "getClass", "()Ljava/lang/Class;"⟩, Cond.instanceMethod ⟨"java/lang/Object", "getClass", "()Ljava/lang/Class;"⟩, Cond.native ⟨"java/lang/Object", "getClass", "()Ljava/lang/Class;"⟩]
def wsJx4a65c_grow_92f84_r2 : List Cond := [Cond.methodLink RJ7 300 yJ7_copyOf_6403c, Cond.static yJ7_copyOf_6403c, Cond.code yJ7_copyOf_6403c cJ7_copyOf_6403c 4 (some (.array (.object "java/lang/Object"))), Cond.classLink RJ7 110 "[Ljava/lang/Object;", Cond.classLink RJ7 2 "java/lang/Object", Cond.methodLink RJ7 304 Lib.Math.min.name, Cond.static Lib.Math.min.name, Cond.code Lib.Math.min.name Lib.Math.min.code 2 (some .int), Cond.methodLink RJ7 150 arraycopyName, Cond.native arraycopyName, Cond.static arraycopyName, Cond.initialized "java/lang/System"]
def wsJx4a65c_grow_92f84 : List Cond := .code yJx4a65c_grow_92f84 cJx4a65c_grow_92f84 4 (some (.array (.object "java/lang/Object"))) :: ((wsJx4a65c_grow_92f84_r1 ++ wsJx4a65c_grow_92f84_r2) ++ wsJx4a65c0)
def wsJx4a65c_grow_d5877_r1 : List Cond := [Cond.fieldLink RJx4a65c 48 "java/util/ArrayList" "size" "I", Cond.methodLink RJx4a65c 69 yJx4a65c_grow_92f84, Cond.instanceMethod yJx4a65c_grow_92f84, Cond.selects RJx4a65c yJx4a65c_grow_92f84 yJx4a65c_grow_92f84, Cond.initialized RJx4a65c, Cond.code yJx4a65c_grow_92f84 cJx4a65c_grow_92f84 4 (some (.array (.object "java/lang/Object"))), Cond.fieldLink RJx4a65c 9 "java/util/ArrayList" "elementData" "[Ljava/lang/Object;", Cond.fieldLink RJx4a65c 39 "java/util/ArrayList" "DEFAULTCAPACITY_EMPTY_ELEMENTDATA" "[Ljava/lang/Object;", Cond.methodLink RJx4a65c 79 Lib.Math.max.name, Cond.static Lib.Math.max.name, Cond.initialized "java/lang/Math", Cond.code Lib.Math.max.name Lib.Math.max.code 2 (some .int), Cond.classLink RJx4a65c 7 "java/lang/Object", Cond.methodLink RJx4a65c 73 yJ8_newLength_cabcc, Cond.static yJ8_newLength_cabcc, Cond.initialized RJ8, Cond.code yJ8_newLength_cabcc cJ8_newLength_cabcc 4 (some .int), Cond.methodLink RJ8 194 Lib.Math.max.name, Cond.constant RJ8 200 (2147483639), Cond.methodLink RJ8 201 yJ8_hugeLength_7cf53, Cond.static yJ8_hugeLength_7cf53, Cond.code yJ8_hugeLength_7cf53 cJ8_hugeLength_7cf53 3 (some .int), Cond.methodLink RJx4a65c 66 yJ7_copyOf_1904c, Cond.static yJ7_copyOf_1904c]
def wsJx4a65c_grow_d5877_r2 : List Cond := [Cond.initialized RJ7, Cond.code yJ7_copyOf_1904c cJ7_copyOf_1904c 2 (some (.array (.object "java/lang/Object"))), Cond.methodLink RJ7 86 ⟨"java/lang/Object", "getClass", "()Ljava/lang/Class;"⟩, Cond.selects "[Ljava/lang/Object;" ⟨"java/lang/Object", "getClass", "()Ljava/lang/Class;"⟩ ⟨"java/lang/Object", "getClass", "()Ljava/lang/Class;"⟩, Cond.instanceMethod ⟨"java/lang/Object", "getClass", "()Ljava/lang/Class;"⟩, Cond.native ⟨"java/lang/Object", "getClass", "()Ljava/lang/Class;"⟩, Cond.methodLink RJ7 300 yJ7_copyOf_6403c, Cond.static yJ7_copyOf_6403c, Cond.code yJ7_copyOf_6403c cJ7_copyOf_6403c 4 (some (.array (.object "java/lang/Object"))), Cond.classLink RJ7 110 "[Ljava/lang/Object;", Cond.classLink RJ7 2 "java/lang/Object", Cond.methodLink RJ7 304 Lib.Math.min.name, Cond.static Lib.Math.min.name, Cond.code Lib.Math.min.name Lib.Math.min.code 2 (some .int), Cond.methodLink RJ7 150 arraycopyName, Cond.native arraycopyName, Cond.static arraycopyName, Cond.initialized "java/lang/System"]
def wsJx4a65c_grow_d5877 : List Cond := .code yJx4a65c_grow_d5877 cJx4a65c_grow_d5877 1 (some (.array (.object "java/lang/Object"))) :: ((wsJx4a65c_grow_d5877_r1 ++ wsJx4a65c_grow_d5877_r2) ++ wsJx4a65c0)
def wsJx4a65c_add_72be8_r1 : List Cond := [Cond.fieldLink RJx4a65c 48 "java/util/ArrayList" "size" "I", Cond.methodLink RJx4a65c 129 yJx4a65c_grow_d5877, Cond.instanceMethod yJx4a65c_grow_d5877, Cond.selects RJx4a65c yJx4a65c_grow_d5877 yJx4a65c_grow_d5877, Cond.initialized RJx4a65c, Cond.code yJx4a65c_grow_d5877 cJx4a65c_grow_d5877 1 (some (.array (.object "java/lang/Object"))), Cond.methodLink RJx4a65c 69 yJx4a65c_grow_92f84, Cond.instanceMethod yJx4a65c_grow_92f84, Cond.selects RJx4a65c yJx4a65c_grow_92f84 yJx4a65c_grow_92f84, Cond.code yJx4a65c_grow_92f84 cJx4a65c_grow_92f84 4 (some (.array (.object "java/lang/Object"))), Cond.fieldLink RJx4a65c 9 "java/util/ArrayList" "elementData" "[Ljava/lang/Object;", Cond.fieldLink RJx4a65c 39 "java/util/ArrayList" "DEFAULTCAPACITY_EMPTY_ELEMENTDATA" "[Ljava/lang/Object;", Cond.methodLink RJx4a65c 79 Lib.Math.max.name, Cond.static Lib.Math.max.name, Cond.initialized "java/lang/Math", Cond.code Lib.Math.max.name Lib.Math.max.code 2 (some .int), Cond.classLink RJx4a65c 7 "java/lang/Object", Cond.methodLink RJx4a65c 73 yJ8_newLength_cabcc, Cond.static yJ8_newLength_cabcc, Cond.initialized RJ8, Cond.code yJ8_newLength_cabcc cJ8_newLength_cabcc 4 (some .int), Cond.methodLink RJ8 194 Lib.Math.max.name, Cond.constant RJ8 200 (2147483639), Cond.methodLink RJ8 201 yJ8_hugeLength_7cf53]
def wsJx4a65c_add_72be8_r2 : List Cond := [Cond.static yJ8_hugeLength_7cf53, Cond.code yJ8_hugeLength_7cf53 cJ8_hugeLength_7cf53 3 (some .int), Cond.methodLink RJx4a65c 66 yJ7_copyOf_1904c, Cond.static yJ7_copyOf_1904c, Cond.initialized RJ7, Cond.code yJ7_copyOf_1904c cJ7_copyOf_1904c 2 (some (.array (.object "java/lang/Object"))), Cond.methodLink RJ7 86 ⟨"java/lang/Object", "getClass", "()Ljava/lang/Class;"⟩, Cond.selects "[Ljava/lang/Object;" ⟨"java/lang/Object", "getClass", "()Ljava/lang/Class;"⟩ ⟨"java/lang/Object", "getClass", "()Ljava/lang/Class;"⟩, Cond.instanceMethod ⟨"java/lang/Object", "getClass", "()Ljava/lang/Class;"⟩, Cond.native ⟨"java/lang/Object", "getClass", "()Ljava/lang/Class;"⟩, Cond.methodLink RJ7 300 yJ7_copyOf_6403c, Cond.static yJ7_copyOf_6403c, Cond.code yJ7_copyOf_6403c cJ7_copyOf_6403c 4 (some (.array (.object "java/lang/Object"))), Cond.classLink RJ7 110 "[Ljava/lang/Object;", Cond.classLink RJ7 2 "java/lang/Object", Cond.methodLink RJ7 304 Lib.Math.min.name, Cond.static Lib.Math.min.name, Cond.code Lib.Math.min.name Lib.Math.min.code 2 (some .int), Cond.methodLink RJ7 150 arraycopyName, Cond.native arraycopyName, Cond.static arraycopyName, Cond.initialized "java/lang/System"]
def wsJx4a65c_add_72be8 : List Cond := .code yJx4a65c_add_72be8 cJx4a65c_add_72be8 4 none :: ((wsJx4a65c_add_72be8_r1 ++ wsJx4a65c_add_72be8_r2) ++ wsJx4a65c0)
def wsJx4a65c_add_9ea2d_r1 : List Cond := [Cond.fieldLink RJx4a65c 63 "java/util/ArrayList" "modCount" "I", Cond.sameField "java/util/ArrayList" "java/util/AbstractList" "modCount" "I", Cond.fieldLink RJx4a65c 9 "java/util/ArrayList" "elementData" "[Ljava/lang/Object;", Cond.fieldLink RJx4a65c 48 "java/util/ArrayList" "size" "I", Cond.methodLink RJx4a65c 131 yJx4a65c_add_72be8, Cond.instanceMethod yJx4a65c_add_72be8, Cond.selects RJx4a65c yJx4a65c_add_72be8 yJx4a65c_add_72be8, Cond.initialized RJx4a65c, Cond.code yJx4a65c_add_72be8 cJx4a65c_add_72be8 4 none, Cond.methodLink RJx4a65c 129 yJx4a65c_grow_d5877, Cond.instanceMethod yJx4a65c_grow_d5877, Cond.selects RJx4a65c yJx4a65c_grow_d5877 yJx4a65c_grow_d5877, Cond.code yJx4a65c_grow_d5877 cJx4a65c_grow_d5877 1 (some (.array (.object "java/lang/Object"))), Cond.methodLink RJx4a65c 69 yJx4a65c_grow_92f84, Cond.instanceMethod yJx4a65c_grow_92f84, Cond.selects RJx4a65c yJx4a65c_grow_92f84 yJx4a65c_grow_92f84, Cond.code yJx4a65c_grow_92f84 cJx4a65c_grow_92f84 4 (some (.array (.object "java/lang/Object"))), Cond.fieldLink RJx4a65c 39 "java/util/ArrayList" "DEFAULTCAPACITY_EMPTY_ELEMENTDATA" "[Ljava/lang/Object;", Cond.methodLink RJx4a65c 79 Lib.Math.max.name, Cond.static Lib.Math.max.name, Cond.initialized "java/lang/Math", Cond.code Lib.Math.max.name Lib.Math.max.code 2 (some .int), Cond.classLink RJx4a65c 7 "java/lang/Object", Cond.methodLink RJx4a65c 73 yJ8_newLength_cabcc]
def wsJx4a65c_add_9ea2d_r2 : List Cond := [Cond.static yJ8_newLength_cabcc, Cond.initialized RJ8, Cond.code yJ8_newLength_cabcc cJ8_newLength_cabcc 4 (some .int), Cond.methodLink RJ8 194 Lib.Math.max.name, Cond.constant RJ8 200 (2147483639), Cond.methodLink RJ8 201 yJ8_hugeLength_7cf53, Cond.static yJ8_hugeLength_7cf53, Cond.code yJ8_hugeLength_7cf53 cJ8_hugeLength_7cf53 3 (some .int), Cond.methodLink RJx4a65c 66 yJ7_copyOf_1904c, Cond.static yJ7_copyOf_1904c, Cond.initialized RJ7, Cond.code yJ7_copyOf_1904c cJ7_copyOf_1904c 2 (some (.array (.object "java/lang/Object"))), Cond.methodLink RJ7 86 ⟨"java/lang/Object", "getClass", "()Ljava/lang/Class;"⟩, Cond.selects "[Ljava/lang/Object;" ⟨"java/lang/Object", "getClass", "()Ljava/lang/Class;"⟩ ⟨"java/lang/Object", "getClass", "()Ljava/lang/Class;"⟩, Cond.instanceMethod ⟨"java/lang/Object", "getClass", "()Ljava/lang/Class;"⟩, Cond.native ⟨"java/lang/Object", "getClass", "()Ljava/lang/Class;"⟩, Cond.methodLink RJ7 300 yJ7_copyOf_6403c, Cond.static yJ7_copyOf_6403c, Cond.code yJ7_copyOf_6403c cJ7_copyOf_6403c 4 (some (.array (.object "java/lang/Object"))), Cond.classLink RJ7 110 "[Ljava/lang/Object;", Cond.classLink RJ7 2 "java/lang/Object", Cond.methodLink RJ7 304 Lib.Math.min.name, Cond.static Lib.Math.min.name, Cond.code Lib.Math.min.name Lib.Math.min.code 2 (some .int)]
def wsJx4a65c_add_9ea2d_r3 : List Cond := [Cond.methodLink RJ7 150 arraycopyName, Cond.native arraycopyName, Cond.static arraycopyName, Cond.initialized "java/lang/System"]
def wsJx4a65c_add_9ea2d : List Cond := .code yJx4a65c_add_9ea2d cJx4a65c_add_9ea2d 2 (some .boolean) :: ((wsJx4a65c_add_9ea2d_r1 ++ (wsJx4a65c_add_9ea2d_r2 ++ wsJx4a65c_add_9ea2d_r3)) ++ wsJx4a65c0)
def wsX3_addLoan_r1 : List Cond := [Cond.classLink RX3 54 "java/lang/IllegalStateException", Cond.initialized "java/lang/IllegalStateException", Cond.fieldLink RX3 10 "Coverpool" "loans" "Ljava/util/ArrayList;", Cond.classLink RX3 61 RX1, Cond.instantiable RX1 6, Cond.initialized RX1, Cond.methodLink RX3 42 yX3_requireWithin, Cond.static yX3_requireWithin, Cond.initialized RX3, Cond.code yX3_requireWithin cX3_requireWithin 3 none, Cond.classLink RX3 160 "java/lang/IllegalArgumentException", Cond.initialized "java/lang/IllegalArgumentException", Cond.methodLink RX3 46 yX3_requireDueAhead, Cond.instanceMethod yX3_requireDueAhead, Cond.selects RX3 yX3_requireDueAhead yX3_requireDueAhead, Cond.code yX3_requireDueAhead cX3_requireDueAhead 2 none, Cond.fieldLink RX3 26 "Coverpool" "month" "I", Cond.methodLink RX3 50 yJx4a65c_size_8abf5, Cond.instanceMethod yJx4a65c_size_8abf5, Cond.selects RJx4a65c yJx4a65c_size_8abf5 yJx4a65c_size_8abf5, Cond.initialized RJx4a65c, Cond.code yJx4a65c_size_8abf5 cJx4a65c_size_8abf5 1 (some .int), Cond.fieldLink RJx4a65c 48 "java/util/ArrayList" "size" "I", Cond.methodLink RX3 63 yX1_init]
def wsX3_addLoan_r2 : List Cond := [Cond.instanceMethod yX1_init, Cond.code yX1_init cX1_init 5 none, Cond.methodLink RX1 3 objectInit, Cond.instanceMethod objectInit, Cond.code objectInit ⟨#[0xb1]⟩ 1 none, Cond.fieldLink RX1 9 "Coverpool$Loan" "arrears" "I", Cond.fieldLink RX1 15 "Coverpool$Loan" "state" "I", Cond.fieldLink RX1 18 "Coverpool$Loan" "amount" "I", Cond.fieldLink RX1 21 "Coverpool$Loan" "worth" "I", Cond.fieldLink RX1 24 "Coverpool$Loan" "rank" "I", Cond.fieldLink RX1 27 "Coverpool$Loan" "due" "I", Cond.methodLink RX3 66 yJx4a65c_add_9ea2d, Cond.instanceMethod yJx4a65c_add_9ea2d, Cond.selects RJx4a65c yJx4a65c_add_9ea2d yJx4a65c_add_9ea2d, Cond.code yJx4a65c_add_9ea2d cJx4a65c_add_9ea2d 2 (some .boolean), Cond.fieldLink RJx4a65c 63 "java/util/ArrayList" "modCount" "I", Cond.sameField "java/util/ArrayList" "java/util/AbstractList" "modCount" "I", Cond.fieldLink RJx4a65c 9 "java/util/ArrayList" "elementData" "[Ljava/lang/Object;", Cond.methodLink RJx4a65c 131 yJx4a65c_add_72be8, Cond.instanceMethod yJx4a65c_add_72be8, Cond.selects RJx4a65c yJx4a65c_add_72be8 yJx4a65c_add_72be8, Cond.code yJx4a65c_add_72be8 cJx4a65c_add_72be8 4 none, Cond.methodLink RJx4a65c 129 yJx4a65c_grow_d5877, Cond.instanceMethod yJx4a65c_grow_d5877]
def wsX3_addLoan_r3 : List Cond := [Cond.selects RJx4a65c yJx4a65c_grow_d5877 yJx4a65c_grow_d5877, Cond.code yJx4a65c_grow_d5877 cJx4a65c_grow_d5877 1 (some (.array (.object "java/lang/Object"))), Cond.methodLink RJx4a65c 69 yJx4a65c_grow_92f84, Cond.instanceMethod yJx4a65c_grow_92f84, Cond.selects RJx4a65c yJx4a65c_grow_92f84 yJx4a65c_grow_92f84, Cond.code yJx4a65c_grow_92f84 cJx4a65c_grow_92f84 4 (some (.array (.object "java/lang/Object"))), Cond.fieldLink RJx4a65c 39 "java/util/ArrayList" "DEFAULTCAPACITY_EMPTY_ELEMENTDATA" "[Ljava/lang/Object;", Cond.methodLink RJx4a65c 79 Lib.Math.max.name, Cond.static Lib.Math.max.name, Cond.initialized "java/lang/Math", Cond.code Lib.Math.max.name Lib.Math.max.code 2 (some .int), Cond.classLink RJx4a65c 7 "java/lang/Object", Cond.methodLink RJx4a65c 73 yJ8_newLength_cabcc, Cond.static yJ8_newLength_cabcc, Cond.initialized RJ8, Cond.code yJ8_newLength_cabcc cJ8_newLength_cabcc 4 (some .int), Cond.methodLink RJ8 194 Lib.Math.max.name, Cond.constant RJ8 200 (2147483639), Cond.methodLink RJ8 201 yJ8_hugeLength_7cf53, Cond.static yJ8_hugeLength_7cf53, Cond.code yJ8_hugeLength_7cf53 cJ8_hugeLength_7cf53 3 (some .int), Cond.methodLink RJx4a65c 66 yJ7_copyOf_1904c, Cond.static yJ7_copyOf_1904c, Cond.initialized RJ7]
def wsX3_addLoan_r4 : List Cond := [Cond.code yJ7_copyOf_1904c cJ7_copyOf_1904c 2 (some (.array (.object "java/lang/Object"))), Cond.methodLink RJ7 86 ⟨"java/lang/Object", "getClass", "()Ljava/lang/Class;"⟩, Cond.selects "[Ljava/lang/Object;" ⟨"java/lang/Object", "getClass", "()Ljava/lang/Class;"⟩ ⟨"java/lang/Object", "getClass", "()Ljava/lang/Class;"⟩, Cond.instanceMethod ⟨"java/lang/Object", "getClass", "()Ljava/lang/Class;"⟩, Cond.native ⟨"java/lang/Object", "getClass", "()Ljava/lang/Class;"⟩, Cond.methodLink RJ7 300 yJ7_copyOf_6403c, Cond.static yJ7_copyOf_6403c, Cond.code yJ7_copyOf_6403c cJ7_copyOf_6403c 4 (some (.array (.object "java/lang/Object"))), Cond.classLink RJ7 110 "[Ljava/lang/Object;", Cond.classLink RJ7 2 "java/lang/Object", Cond.methodLink RJ7 304 Lib.Math.min.name, Cond.static Lib.Math.min.name, Cond.code Lib.Math.min.name Lib.Math.min.code 2 (some .int), Cond.methodLink RJ7 150 arraycopyName, Cond.native arraycopyName, Cond.static arraycopyName, Cond.initialized "java/lang/System"]
def wsX3_addLoan : List Cond := .code yX3_addLoan cX3_addLoan 5 (some .int) :: ((wsX3_addLoan_r1 ++ (wsX3_addLoan_r2 ++ (wsX3_addLoan_r3 ++ wsX3_addLoan_r4))) ++ wsX30 ++ wsX10 ++ wsJx4a65c0 ++ (vx_atS RX3 58 "java/lang/IllegalStateException" ["java/lang/RuntimeException", "java/lang/Exception"]).filter goodWord ++ (vx_atS RX3 164 "java/lang/IllegalArgumentException" ["java/lang/RuntimeException", "java/lang/Exception"]).filter goodWord)
def wsJ3_checkIndex_8e157 : List Cond := .code yJ3_checkIndex_8e157 cJ3_checkIndex_8e157 3 (some .int) :: ([])
def wsJ15_checkIndex_7cf53 : List Cond := .code yJ15_checkIndex_7cf53 cJ15_checkIndex_7cf53 2 (some .int) :: ([.methodLink RJ15 105 yJ3_checkIndex_8e157, .static yJ3_checkIndex_8e157, .initialized RJ3, .code yJ3_checkIndex_8e157 cJ3_checkIndex_8e157 3 (some .int)])
def wsJx4a65c_elementData_915e3 : List Cond := .code yJx4a65c_elementData_915e3 cJx4a65c_elementData_915e3 2 (some (.object "java/lang/Object")) :: ([.fieldLink RJx4a65c 9 "java/util/ArrayList" "elementData" "[Ljava/lang/Object;"] ++ wsJx4a65c0)
def wsJx4a65c_get_915e3 : List Cond := .code yJx4a65c_get_915e3 cJx4a65c_get_915e3 2 (some (.object "java/lang/Object")) :: ([.fieldLink RJx4a65c 48 "java/util/ArrayList" "size" "I", .methodLink RJx4a65c 118 yJ15_checkIndex_7cf53, .static yJ15_checkIndex_7cf53, .initialized RJ15, .code yJ15_checkIndex_7cf53 cJ15_checkIndex_7cf53 2 (some .int), .methodLink RJ15 105 yJ3_checkIndex_8e157, .static yJ3_checkIndex_8e157, .initialized RJ3, .code yJ3_checkIndex_8e157 cJ3_checkIndex_8e157 3 (some .int), .methodLink RJx4a65c 123 yJx4a65c_elementData_915e3, .instanceMethod yJx4a65c_elementData_915e3, .selects RJx4a65c yJx4a65c_elementData_915e3 yJx4a65c_elementData_915e3, .initialized RJx4a65c, .code yJx4a65c_elementData_915e3 cJx4a65c_elementData_915e3 2 (some (.object "java/lang/Object")), .fieldLink RJx4a65c 9 "java/util/ArrayList" "elementData" "[Ljava/lang/Object;"] ++ wsJx4a65c0)
def wsX3_loanAt_r1 : List Cond := [Cond.classLink RX3 169 "java/lang/IndexOutOfBoundsException", Cond.initialized "java/lang/IndexOutOfBoundsException", Cond.fieldLink RX3 10 "Coverpool" "loans" "Ljava/util/ArrayList;", Cond.classLink RX3 61 "Coverpool$Loan", Cond.methodLink RX3 50 yJx4a65c_size_8abf5, Cond.instanceMethod yJx4a65c_size_8abf5, Cond.selects RJx4a65c yJx4a65c_size_8abf5 yJx4a65c_size_8abf5, Cond.initialized RJx4a65c, Cond.code yJx4a65c_size_8abf5 cJx4a65c_size_8abf5 1 (some .int), Cond.fieldLink RJx4a65c 48 "java/util/ArrayList" "size" "I", Cond.methodLink RX3 127 yJx4a65c_get_915e3, Cond.instanceMethod yJx4a65c_get_915e3, Cond.selects RJx4a65c yJx4a65c_get_915e3 yJx4a65c_get_915e3, Cond.code yJx4a65c_get_915e3 cJx4a65c_get_915e3 2 (some (.object "java/lang/Object")), Cond.methodLink RJx4a65c 118 yJ15_checkIndex_7cf53, Cond.static yJ15_checkIndex_7cf53, Cond.initialized RJ15, Cond.code yJ15_checkIndex_7cf53 cJ15_checkIndex_7cf53 2 (some .int), Cond.methodLink RJ15 105 yJ3_checkIndex_8e157, Cond.static yJ3_checkIndex_8e157, Cond.initialized RJ3, Cond.code yJ3_checkIndex_8e157 cJ3_checkIndex_8e157 3 (some .int), Cond.methodLink RJx4a65c 123 yJx4a65c_elementData_915e3, Cond.instanceMethod yJx4a65c_elementData_915e3]
def wsX3_loanAt_r2 : List Cond := [Cond.selects RJx4a65c yJx4a65c_elementData_915e3 yJx4a65c_elementData_915e3, Cond.code yJx4a65c_elementData_915e3 cJx4a65c_elementData_915e3 2 (some (.object "java/lang/Object")), Cond.fieldLink RJx4a65c 9 "java/util/ArrayList" "elementData" "[Ljava/lang/Object;"]
def wsX3_loanAt : List Cond := .code yX3_loanAt cX3_loanAt 2 (some (.object "Coverpool$Loan")) :: ((wsX3_loanAt_r1 ++ wsX3_loanAt_r2) ++ wsX30 ++ wsJx4a65c0 ++ (vx_atS RX3 173 "java/lang/IndexOutOfBoundsException" ["java/lang/RuntimeException", "java/lang/Exception"]).filter goodWord)
def wsX3_requireState : List Cond := .code yX3_requireState cX3_requireState 2 none :: ([.classLink RX3 54 "java/lang/IllegalStateException", .initialized "java/lang/IllegalStateException", .fieldLink RX3 78 "Coverpool$Loan" "state" "I"] ++ wsX10 ++ (vx_atS RX3 58 "java/lang/IllegalStateException" ["java/lang/RuntimeException", "java/lang/Exception"]).filter goodWord)
def wsX3_countOf : List Cond := .code yX3_countOf cX3_countOf 2 (some .int) :: ([.fieldLink RX3 102 "Coverpool$Loan" "arrears" "I", .fieldLink RX3 186 "Coverpool$Loan" "rank" "I", .fieldLink RX3 33 "Coverpool" "rankThatCounts" "I", .fieldLink RX3 177 "Coverpool$Loan" "amount" "I", .fieldLink RX3 105 "Coverpool$Loan" "worth" "I", .methodLink RX3 137 Lib.Math.min.name, .static Lib.Math.min.name, .initialized "java/lang/Math", .code Lib.Math.min.name Lib.Math.min.code 2 (some .int)] ++ wsX10 ++ wsX30)
def wsX3_enter_r1 : List Cond := [Cond.fieldLink RX3 78 "Coverpool$Loan" "state" "I", Cond.methodLink RX3 70 yX3_loanAt, Cond.instanceMethod yX3_loanAt, Cond.selects RX3 yX3_loanAt yX3_loanAt, Cond.initialized RX3, Cond.code yX3_loanAt cX3_loanAt 2 (some (.object "Coverpool$Loan")), Cond.classLink RX3 169 "java/lang/IndexOutOfBoundsException", Cond.initialized "java/lang/IndexOutOfBoundsException", Cond.fieldLink RX3 10 "Coverpool" "loans" "Ljava/util/ArrayList;", Cond.classLink RX3 61 "Coverpool$Loan", Cond.methodLink RX3 50 yJx4a65c_size_8abf5, Cond.instanceMethod yJx4a65c_size_8abf5, Cond.selects RJx4a65c yJx4a65c_size_8abf5 yJx4a65c_size_8abf5, Cond.initialized RJx4a65c, Cond.code yJx4a65c_size_8abf5 cJx4a65c_size_8abf5 1 (some .int), Cond.fieldLink RJx4a65c 48 "java/util/ArrayList" "size" "I", Cond.methodLink RX3 127 yJx4a65c_get_915e3, Cond.instanceMethod yJx4a65c_get_915e3, Cond.selects RJx4a65c yJx4a65c_get_915e3 yJx4a65c_get_915e3, Cond.code yJx4a65c_get_915e3 cJx4a65c_get_915e3 2 (some (.object "java/lang/Object")), Cond.methodLink RJx4a65c 118 yJ15_checkIndex_7cf53, Cond.static yJ15_checkIndex_7cf53, Cond.initialized RJ15, Cond.code yJ15_checkIndex_7cf53 cJ15_checkIndex_7cf53 2 (some .int)]
def wsX3_enter_r2 : List Cond := [Cond.methodLink RJ15 105 yJ3_checkIndex_8e157, Cond.static yJ3_checkIndex_8e157, Cond.initialized RJ3, Cond.code yJ3_checkIndex_8e157 cJ3_checkIndex_8e157 3 (some .int), Cond.methodLink RJx4a65c 123 yJx4a65c_elementData_915e3, Cond.instanceMethod yJx4a65c_elementData_915e3, Cond.selects RJx4a65c yJx4a65c_elementData_915e3 yJx4a65c_elementData_915e3, Cond.code yJx4a65c_elementData_915e3 cJx4a65c_elementData_915e3 2 (some (.object "java/lang/Object")), Cond.fieldLink RJx4a65c 9 "java/util/ArrayList" "elementData" "[Ljava/lang/Object;", Cond.methodLink RX3 74 yX3_requireState, Cond.static yX3_requireState, Cond.code yX3_requireState cX3_requireState 2 none, Cond.classLink RX3 54 "java/lang/IllegalStateException", Cond.initialized "java/lang/IllegalStateException", Cond.methodLink RX3 81 yX3_countOf, Cond.instanceMethod yX3_countOf, Cond.selects RX3 yX3_countOf yX3_countOf, Cond.code yX3_countOf cX3_countOf 2 (some .int), Cond.fieldLink RX3 102 "Coverpool$Loan" "arrears" "I", Cond.fieldLink RX3 186 "Coverpool$Loan" "rank" "I", Cond.fieldLink RX3 33 "Coverpool" "rankThatCounts" "I", Cond.fieldLink RX3 177 "Coverpool$Loan" "amount" "I", Cond.fieldLink RX3 105 "Coverpool$Loan" "worth" "I", Cond.methodLink RX3 137 Lib.Math.min.name]
def wsX3_enter_r3 : List Cond := [Cond.static Lib.Math.min.name, Cond.initialized "java/lang/Math", Cond.code Lib.Math.min.name Lib.Math.min.code 2 (some .int)]
def wsX3_enter : List Cond := .code yX3_enter cX3_enter 3 (some .int) :: ((wsX3_enter_r1 ++ (wsX3_enter_r2 ++ wsX3_enter_r3)) ++ wsX10 ++ wsX30 ++ wsJx4a65c0 ++ (vx_atS RX3 173 "java/lang/IndexOutOfBoundsException" ["java/lang/RuntimeException", "java/lang/Exception"]).filter goodWord ++ (vx_atS RX3 58 "java/lang/IllegalStateException" ["java/lang/RuntimeException", "java/lang/Exception"]).filter goodWord)
def wsX3_worthNow : List Cond := .code yX3_worthNow cX3_worthNow 4 (some .int) :: ([.fieldLink RX3 39 "Coverpool" "rate" "I", .fieldLink RX3 26 "Coverpool" "month" "I", .methodLink RX3 189 Lib.Math.max.name, .static Lib.Math.max.name, .initialized "java/lang/Math", .code Lib.Math.max.name Lib.Math.max.code 2 (some .int)] ++ wsX30)
def wsX3_fillRow : List Cond := .code yX3_fillRow cX3_fillRow 5 none :: ([.fieldLink RX3 26 "Coverpool" "month" "I", .methodLink RX3 212 yX3_worthNow, .instanceMethod yX3_worthNow, .selects RX3 yX3_worthNow yX3_worthNow, .initialized RX3, .code yX3_worthNow cX3_worthNow 4 (some .int), .fieldLink RX3 39 "Coverpool" "rate" "I", .methodLink RX3 189 Lib.Math.max.name, .static Lib.Math.max.name, .initialized "java/lang/Math", .code Lib.Math.max.name Lib.Math.max.code 2 (some .int)] ++ wsX30)
def wsX3_debt_r1 : List Cond := [Cond.fieldLink RX3 16 "Coverpool" "bonds" "Ljava/util/ArrayList;", Cond.classLink RX3 111 "Coverpool$Bond", Cond.fieldLink RX3 123 "Coverpool$Bond" "state" "I", Cond.fieldLink RX3 131 "Coverpool$Bond" "amount" "I", Cond.methodLink RX3 50 yJx4a65c_size_8abf5, Cond.instanceMethod yJx4a65c_size_8abf5, Cond.selects RJx4a65c yJx4a65c_size_8abf5 yJx4a65c_size_8abf5, Cond.initialized RJx4a65c, Cond.code yJx4a65c_size_8abf5 cJx4a65c_size_8abf5 1 (some .int), Cond.fieldLink RJx4a65c 48 "java/util/ArrayList" "size" "I", Cond.methodLink RX3 127 yJx4a65c_get_915e3, Cond.instanceMethod yJx4a65c_get_915e3, Cond.selects RJx4a65c yJx4a65c_get_915e3 yJx4a65c_get_915e3, Cond.code yJx4a65c_get_915e3 cJx4a65c_get_915e3 2 (some (.object "java/lang/Object")), Cond.methodLink RJx4a65c 118 yJ15_checkIndex_7cf53, Cond.static yJ15_checkIndex_7cf53, Cond.initialized RJ15, Cond.code yJ15_checkIndex_7cf53 cJ15_checkIndex_7cf53 2 (some .int), Cond.methodLink RJ15 105 yJ3_checkIndex_8e157, Cond.static yJ3_checkIndex_8e157, Cond.initialized RJ3, Cond.code yJ3_checkIndex_8e157 cJ3_checkIndex_8e157 3 (some .int), Cond.methodLink RJx4a65c 123 yJx4a65c_elementData_915e3, Cond.instanceMethod yJx4a65c_elementData_915e3]
def wsX3_debt_r2 : List Cond := [Cond.selects RJx4a65c yJx4a65c_elementData_915e3 yJx4a65c_elementData_915e3, Cond.code yJx4a65c_elementData_915e3 cJx4a65c_elementData_915e3 2 (some (.object "java/lang/Object")), Cond.fieldLink RJx4a65c 9 "java/util/ArrayList" "elementData" "[Ljava/lang/Object;"]
def wsX3_debt : List Cond := .code yX3_debt cX3_debt 4 (some .int) :: ((wsX3_debt_r1 ++ wsX3_debt_r2) ++ wsX30 ++ wsX00 ++ wsJx4a65c0)
def wsX3_substitutes_r1 : List Cond := [Cond.fieldLink RX3 30 "Coverpool" "cash" "I", Cond.methodLink RX3 137 Lib.Math.min.name, Cond.static Lib.Math.min.name, Cond.initialized "java/lang/Math", Cond.code Lib.Math.min.name Lib.Math.min.code 2 (some .int), Cond.methodLink RX3 134 yX3_debt, Cond.instanceMethod yX3_debt, Cond.selects RX3 yX3_debt yX3_debt, Cond.initialized RX3, Cond.code yX3_debt cX3_debt 4 (some .int), Cond.fieldLink RX3 16 "Coverpool" "bonds" "Ljava/util/ArrayList;", Cond.classLink RX3 111 "Coverpool$Bond", Cond.fieldLink RX3 123 "Coverpool$Bond" "state" "I", Cond.fieldLink RX3 131 "Coverpool$Bond" "amount" "I", Cond.methodLink RX3 50 yJx4a65c_size_8abf5, Cond.instanceMethod yJx4a65c_size_8abf5, Cond.selects RJx4a65c yJx4a65c_size_8abf5 yJx4a65c_size_8abf5, Cond.initialized RJx4a65c, Cond.code yJx4a65c_size_8abf5 cJx4a65c_size_8abf5 1 (some .int), Cond.fieldLink RJx4a65c 48 "java/util/ArrayList" "size" "I", Cond.methodLink RX3 127 yJx4a65c_get_915e3, Cond.instanceMethod yJx4a65c_get_915e3, Cond.selects RJx4a65c yJx4a65c_get_915e3 yJx4a65c_get_915e3, Cond.code yJx4a65c_get_915e3 cJx4a65c_get_915e3 2 (some (.object "java/lang/Object"))]
def wsX3_substitutes_r2 : List Cond := [Cond.methodLink RJx4a65c 118 yJ15_checkIndex_7cf53, Cond.static yJ15_checkIndex_7cf53, Cond.initialized RJ15, Cond.code yJ15_checkIndex_7cf53 cJ15_checkIndex_7cf53 2 (some .int), Cond.methodLink RJ15 105 yJ3_checkIndex_8e157, Cond.static yJ3_checkIndex_8e157, Cond.initialized RJ3, Cond.code yJ3_checkIndex_8e157 cJ3_checkIndex_8e157 3 (some .int), Cond.methodLink RJx4a65c 123 yJx4a65c_elementData_915e3, Cond.instanceMethod yJx4a65c_elementData_915e3, Cond.selects RJx4a65c yJx4a65c_elementData_915e3 yJx4a65c_elementData_915e3, Cond.code yJx4a65c_elementData_915e3 cJx4a65c_elementData_915e3 2 (some (.object "java/lang/Object")), Cond.fieldLink RJx4a65c 9 "java/util/ArrayList" "elementData" "[Ljava/lang/Object;"]
def wsX3_substitutes : List Cond := .code yX3_substitutes cX3_substitutes 1 (some .int) :: ((wsX3_substitutes_r1 ++ wsX3_substitutes_r2) ++ wsX30 ++ wsX00 ++ wsJx4a65c0)
def wsX3_startWithCashAndSubstitutes_r1 : List Cond := [Cond.fieldLink RX3 30 "Coverpool" "cash" "I", Cond.methodLink RX3 215 yX3_substitutes, Cond.instanceMethod yX3_substitutes, Cond.selects RX3 yX3_substitutes yX3_substitutes, Cond.initialized RX3, Cond.code yX3_substitutes cX3_substitutes 1 (some .int), Cond.methodLink RX3 137 Lib.Math.min.name, Cond.static Lib.Math.min.name, Cond.initialized "java/lang/Math", Cond.code Lib.Math.min.name Lib.Math.min.code 2 (some .int), Cond.methodLink RX3 134 yX3_debt, Cond.instanceMethod yX3_debt, Cond.selects RX3 yX3_debt yX3_debt, Cond.code yX3_debt cX3_debt 4 (some .int), Cond.fieldLink RX3 16 "Coverpool" "bonds" "Ljava/util/ArrayList;", Cond.classLink RX3 111 "Coverpool$Bond", Cond.fieldLink RX3 123 "Coverpool$Bond" "state" "I", Cond.fieldLink RX3 131 "Coverpool$Bond" "amount" "I", Cond.methodLink RX3 50 yJx4a65c_size_8abf5, Cond.instanceMethod yJx4a65c_size_8abf5, Cond.selects RJx4a65c yJx4a65c_size_8abf5 yJx4a65c_size_8abf5, Cond.initialized RJx4a65c, Cond.code yJx4a65c_size_8abf5 cJx4a65c_size_8abf5 1 (some .int), Cond.fieldLink RJx4a65c 48 "java/util/ArrayList" "size" "I"]
def wsX3_startWithCashAndSubstitutes_r2 : List Cond := [Cond.methodLink RX3 127 yJx4a65c_get_915e3, Cond.instanceMethod yJx4a65c_get_915e3, Cond.selects RJx4a65c yJx4a65c_get_915e3 yJx4a65c_get_915e3, Cond.code yJx4a65c_get_915e3 cJx4a65c_get_915e3 2 (some (.object "java/lang/Object")), Cond.methodLink RJx4a65c 118 yJ15_checkIndex_7cf53, Cond.static yJ15_checkIndex_7cf53, Cond.initialized RJ15, Cond.code yJ15_checkIndex_7cf53 cJ15_checkIndex_7cf53 2 (some .int), Cond.methodLink RJ15 105 yJ3_checkIndex_8e157, Cond.static yJ3_checkIndex_8e157, Cond.initialized RJ3, Cond.code yJ3_checkIndex_8e157 cJ3_checkIndex_8e157 3 (some .int), Cond.methodLink RJx4a65c 123 yJx4a65c_elementData_915e3, Cond.instanceMethod yJx4a65c_elementData_915e3, Cond.selects RJx4a65c yJx4a65c_elementData_915e3 yJx4a65c_elementData_915e3, Cond.code yJx4a65c_elementData_915e3 cJx4a65c_elementData_915e3 2 (some (.object "java/lang/Object")), Cond.fieldLink RJx4a65c 9 "java/util/ArrayList" "elementData" "[Ljava/lang/Object;"]
def wsX3_startWithCashAndSubstitutes : List Cond := .code yX3_startWithCashAndSubstitutes cX3_startWithCashAndSubstitutes 4 none :: ((wsX3_startWithCashAndSubstitutes_r1 ++ wsX3_startWithCashAndSubstitutes_r2) ++ wsX30 ++ wsX00 ++ wsJx4a65c0)
def wsX3_addBondTo : List Cond := .code yX3_addBondTo cX3_addBondTo 4 none :: ([.fieldLink RX3 131 "Coverpool$Bond" "amount" "I", .fieldLink RX3 36 "Coverpool" "cover" "I", .fieldLink RX3 124 "Coverpool$Bond" "due" "I", .fieldLink RX3 26 "Coverpool" "month" "I", .methodLink RX3 212 yX3_worthNow, .instanceMethod yX3_worthNow, .selects RX3 yX3_worthNow yX3_worthNow, .initialized RX3, .code yX3_worthNow cX3_worthNow 4 (some .int), .fieldLink RX3 39 "Coverpool" "rate" "I", .methodLink RX3 189 Lib.Math.max.name, .static Lib.Math.max.name, .initialized "java/lang/Math", .code Lib.Math.max.name Lib.Math.max.code 2 (some .int)] ++ wsX00 ++ wsX30)
def wsX3_fillSheet_r1 : List Cond := [Cond.fieldLink RX3 10 "Coverpool" "loans" "Ljava/util/ArrayList;", Cond.classLink RX3 61 "Coverpool$Loan", Cond.fieldLink RX3 22 "Coverpool" "sheet" "LCoverpool$Sheet;", Cond.fieldLink RX3 192 "Coverpool$Sheet" "gives" "[[I", Cond.fieldLink RX3 176 "Coverpool$Loan" "due" "I", Cond.fieldLink RX3 200 "Coverpool$Sheet" "needs" "[I", Cond.fieldLink RX3 16 "Coverpool" "bonds" "Ljava/util/ArrayList;", Cond.classLink RX3 111 "Coverpool$Bond", Cond.fieldLink RX3 123 "Coverpool$Bond" "state" "I", Cond.methodLink RX3 50 yJx4a65c_size_8abf5, Cond.instanceMethod yJx4a65c_size_8abf5, Cond.selects RJx4a65c yJx4a65c_size_8abf5 yJx4a65c_size_8abf5, Cond.initialized RJx4a65c, Cond.code yJx4a65c_size_8abf5 cJx4a65c_size_8abf5 1 (some .int), Cond.fieldLink RJx4a65c 48 "java/util/ArrayList" "size" "I", Cond.methodLink RX3 127 yJx4a65c_get_915e3, Cond.instanceMethod yJx4a65c_get_915e3, Cond.selects RJx4a65c yJx4a65c_get_915e3 yJx4a65c_get_915e3, Cond.code yJx4a65c_get_915e3 cJx4a65c_get_915e3 2 (some (.object "java/lang/Object")), Cond.methodLink RJx4a65c 118 yJ15_checkIndex_7cf53, Cond.static yJ15_checkIndex_7cf53, Cond.initialized RJ15, Cond.code yJ15_checkIndex_7cf53 cJ15_checkIndex_7cf53 2 (some .int), Cond.methodLink RJ15 105 yJ3_checkIndex_8e157]
def wsX3_fillSheet_r2 : List Cond := [Cond.static yJ3_checkIndex_8e157, Cond.initialized RJ3, Cond.code yJ3_checkIndex_8e157 cJ3_checkIndex_8e157 3 (some .int), Cond.methodLink RJx4a65c 123 yJx4a65c_elementData_915e3, Cond.instanceMethod yJx4a65c_elementData_915e3, Cond.selects RJx4a65c yJx4a65c_elementData_915e3 yJx4a65c_elementData_915e3, Cond.code yJx4a65c_elementData_915e3 cJx4a65c_elementData_915e3 2 (some (.object "java/lang/Object")), Cond.fieldLink RJx4a65c 9 "java/util/ArrayList" "elementData" "[Ljava/lang/Object;", Cond.methodLink RX3 81 yX3_countOf, Cond.instanceMethod yX3_countOf, Cond.selects RX3 yX3_countOf yX3_countOf, Cond.initialized RX3, Cond.code yX3_countOf cX3_countOf 2 (some .int), Cond.fieldLink RX3 102 "Coverpool$Loan" "arrears" "I", Cond.fieldLink RX3 186 "Coverpool$Loan" "rank" "I", Cond.fieldLink RX3 33 "Coverpool" "rankThatCounts" "I", Cond.fieldLink RX3 177 "Coverpool$Loan" "amount" "I", Cond.fieldLink RX3 105 "Coverpool$Loan" "worth" "I", Cond.methodLink RX3 137 Lib.Math.min.name, Cond.static Lib.Math.min.name, Cond.initialized "java/lang/Math", Cond.code Lib.Math.min.name Lib.Math.min.code 2 (some .int), Cond.methodLink RX3 196 yX3_fillRow, Cond.instanceMethod yX3_fillRow]
def wsX3_fillSheet_r3 : List Cond := [Cond.selects RX3 yX3_fillRow yX3_fillRow, Cond.code yX3_fillRow cX3_fillRow 5 none, Cond.fieldLink RX3 26 "Coverpool" "month" "I", Cond.methodLink RX3 212 yX3_worthNow, Cond.instanceMethod yX3_worthNow, Cond.selects RX3 yX3_worthNow yX3_worthNow, Cond.code yX3_worthNow cX3_worthNow 4 (some .int), Cond.fieldLink RX3 39 "Coverpool" "rate" "I", Cond.methodLink RX3 189 Lib.Math.max.name, Cond.static Lib.Math.max.name, Cond.code Lib.Math.max.name Lib.Math.max.code 2 (some .int), Cond.methodLink RX3 204 yX3_startWithCashAndSubstitutes, Cond.instanceMethod yX3_startWithCashAndSubstitutes, Cond.selects RX3 yX3_startWithCashAndSubstitutes yX3_startWithCashAndSubstitutes, Cond.code yX3_startWithCashAndSubstitutes cX3_startWithCashAndSubstitutes 4 none, Cond.fieldLink RX3 30 "Coverpool" "cash" "I", Cond.methodLink RX3 215 yX3_substitutes, Cond.instanceMethod yX3_substitutes, Cond.selects RX3 yX3_substitutes yX3_substitutes, Cond.code yX3_substitutes cX3_substitutes 1 (some .int), Cond.methodLink RX3 134 yX3_debt, Cond.instanceMethod yX3_debt, Cond.selects RX3 yX3_debt yX3_debt, Cond.code yX3_debt cX3_debt 4 (some .int)]
def wsX3_fillSheet_r4 : List Cond := [Cond.fieldLink RX3 131 "Coverpool$Bond" "amount" "I", Cond.methodLink RX3 208 yX3_addBondTo, Cond.instanceMethod yX3_addBondTo, Cond.selects RX3 yX3_addBondTo yX3_addBondTo, Cond.code yX3_addBondTo cX3_addBondTo 4 none, Cond.fieldLink RX3 36 "Coverpool" "cover" "I", Cond.fieldLink RX3 124 "Coverpool$Bond" "due" "I"]
def wsX3_fillSheet : List Cond := .code yX3_fillSheet cX3_fillSheet 3 none :: ((wsX3_fillSheet_r1 ++ (wsX3_fillSheet_r2 ++ (wsX3_fillSheet_r3 ++ wsX3_fillSheet_r4))) ++ wsX30 ++ wsX20 ++ wsX10 ++ wsX00 ++ wsJx4a65c0)
def wsX3_loansThatAre_r1 : List Cond := [Cond.fieldLink RX3 10 "Coverpool" "loans" "Ljava/util/ArrayList;", Cond.classLink RX3 61 "Coverpool$Loan", Cond.fieldLink RX3 78 "Coverpool$Loan" "state" "I", Cond.methodLink RX3 50 yJx4a65c_size_8abf5, Cond.instanceMethod yJx4a65c_size_8abf5, Cond.selects RJx4a65c yJx4a65c_size_8abf5 yJx4a65c_size_8abf5, Cond.initialized RJx4a65c, Cond.code yJx4a65c_size_8abf5 cJx4a65c_size_8abf5 1 (some .int), Cond.fieldLink RJx4a65c 48 "java/util/ArrayList" "size" "I", Cond.methodLink RX3 127 yJx4a65c_get_915e3, Cond.instanceMethod yJx4a65c_get_915e3, Cond.selects RJx4a65c yJx4a65c_get_915e3 yJx4a65c_get_915e3, Cond.code yJx4a65c_get_915e3 cJx4a65c_get_915e3 2 (some (.object "java/lang/Object")), Cond.methodLink RJx4a65c 118 yJ15_checkIndex_7cf53, Cond.static yJ15_checkIndex_7cf53, Cond.initialized RJ15, Cond.code yJ15_checkIndex_7cf53 cJ15_checkIndex_7cf53 2 (some .int), Cond.methodLink RJ15 105 yJ3_checkIndex_8e157, Cond.static yJ3_checkIndex_8e157, Cond.initialized RJ3, Cond.code yJ3_checkIndex_8e157 cJ3_checkIndex_8e157 3 (some .int), Cond.methodLink RJx4a65c 123 yJx4a65c_elementData_915e3, Cond.instanceMethod yJx4a65c_elementData_915e3, Cond.selects RJx4a65c yJx4a65c_elementData_915e3 yJx4a65c_elementData_915e3]
def wsX3_loansThatAre_r2 : List Cond := [Cond.code yJx4a65c_elementData_915e3 cJx4a65c_elementData_915e3 2 (some (.object "java/lang/Object")), Cond.fieldLink RJx4a65c 9 "java/util/ArrayList" "elementData" "[Ljava/lang/Object;"]
def wsX3_loansThatAre : List Cond := .code yX3_loansThatAre cX3_loansThatAre 4 (some .int) :: ((wsX3_loansThatAre_r1 ++ wsX3_loansThatAre_r2) ++ wsX30 ++ wsX10 ++ wsJx4a65c0)
def wsX3_leave_r1 : List Cond := [Cond.fieldLink RX3 22 "Coverpool" "sheet" "LCoverpool$Sheet;", Cond.fieldLink RX3 78 "Coverpool$Loan" "state" "I", Cond.methodLink RX3 70 yX3_loanAt, Cond.instanceMethod yX3_loanAt, Cond.selects RX3 yX3_loanAt yX3_loanAt, Cond.initialized RX3, Cond.code yX3_loanAt cX3_loanAt 2 (some (.object "Coverpool$Loan")), Cond.classLink RX3 169 "java/lang/IndexOutOfBoundsException", Cond.initialized "java/lang/IndexOutOfBoundsException", Cond.fieldLink RX3 10 "Coverpool" "loans" "Ljava/util/ArrayList;", Cond.classLink RX3 61 "Coverpool$Loan", Cond.methodLink RX3 50 yJx4a65c_size_8abf5, Cond.instanceMethod yJx4a65c_size_8abf5, Cond.selects RJx4a65c yJx4a65c_size_8abf5 yJx4a65c_size_8abf5, Cond.initialized RJx4a65c, Cond.code yJx4a65c_size_8abf5 cJx4a65c_size_8abf5 1 (some .int), Cond.fieldLink RJx4a65c 48 "java/util/ArrayList" "size" "I", Cond.methodLink RX3 127 yJx4a65c_get_915e3, Cond.instanceMethod yJx4a65c_get_915e3, Cond.selects RJx4a65c yJx4a65c_get_915e3 yJx4a65c_get_915e3, Cond.code yJx4a65c_get_915e3 cJx4a65c_get_915e3 2 (some (.object "java/lang/Object")), Cond.methodLink RJx4a65c 118 yJ15_checkIndex_7cf53, Cond.static yJ15_checkIndex_7cf53, Cond.initialized RJ15]
def wsX3_leave_r2 : List Cond := [Cond.code yJ15_checkIndex_7cf53 cJ15_checkIndex_7cf53 2 (some .int), Cond.methodLink RJ15 105 yJ3_checkIndex_8e157, Cond.static yJ3_checkIndex_8e157, Cond.initialized RJ3, Cond.code yJ3_checkIndex_8e157 cJ3_checkIndex_8e157 3 (some .int), Cond.methodLink RJx4a65c 123 yJx4a65c_elementData_915e3, Cond.instanceMethod yJx4a65c_elementData_915e3, Cond.selects RJx4a65c yJx4a65c_elementData_915e3 yJx4a65c_elementData_915e3, Cond.code yJx4a65c_elementData_915e3 cJx4a65c_elementData_915e3 2 (some (.object "java/lang/Object")), Cond.fieldLink RJx4a65c 9 "java/util/ArrayList" "elementData" "[Ljava/lang/Object;", Cond.methodLink RX3 74 yX3_requireState, Cond.static yX3_requireState, Cond.code yX3_requireState cX3_requireState 2 none, Cond.classLink RX3 54 "java/lang/IllegalStateException", Cond.initialized "java/lang/IllegalStateException", Cond.methodLink RX3 85 yX3_fillSheet, Cond.instanceMethod yX3_fillSheet, Cond.selects RX3 yX3_fillSheet yX3_fillSheet, Cond.code yX3_fillSheet cX3_fillSheet 3 none, Cond.fieldLink RX3 192 "Coverpool$Sheet" "gives" "[[I", Cond.fieldLink RX3 176 "Coverpool$Loan" "due" "I", Cond.fieldLink RX3 200 "Coverpool$Sheet" "needs" "[I", Cond.fieldLink RX3 16 "Coverpool" "bonds" "Ljava/util/ArrayList;", Cond.classLink RX3 111 "Coverpool$Bond"]
def wsX3_leave_r3 : List Cond := [Cond.fieldLink RX3 123 "Coverpool$Bond" "state" "I", Cond.methodLink RX3 81 yX3_countOf, Cond.instanceMethod yX3_countOf, Cond.selects RX3 yX3_countOf yX3_countOf, Cond.code yX3_countOf cX3_countOf 2 (some .int), Cond.fieldLink RX3 102 "Coverpool$Loan" "arrears" "I", Cond.fieldLink RX3 186 "Coverpool$Loan" "rank" "I", Cond.fieldLink RX3 33 "Coverpool" "rankThatCounts" "I", Cond.fieldLink RX3 177 "Coverpool$Loan" "amount" "I", Cond.fieldLink RX3 105 "Coverpool$Loan" "worth" "I", Cond.methodLink RX3 137 Lib.Math.min.name, Cond.static Lib.Math.min.name, Cond.initialized "java/lang/Math", Cond.code Lib.Math.min.name Lib.Math.min.code 2 (some .int), Cond.methodLink RX3 196 yX3_fillRow, Cond.instanceMethod yX3_fillRow, Cond.selects RX3 yX3_fillRow yX3_fillRow, Cond.code yX3_fillRow cX3_fillRow 5 none, Cond.fieldLink RX3 26 "Coverpool" "month" "I", Cond.methodLink RX3 212 yX3_worthNow, Cond.instanceMethod yX3_worthNow, Cond.selects RX3 yX3_worthNow yX3_worthNow, Cond.code yX3_worthNow cX3_worthNow 4 (some .int), Cond.fieldLink RX3 39 "Coverpool" "rate" "I"]
def wsX3_leave_r4 : List Cond := [Cond.methodLink RX3 189 Lib.Math.max.name, Cond.static Lib.Math.max.name, Cond.code Lib.Math.max.name Lib.Math.max.code 2 (some .int), Cond.methodLink RX3 204 yX3_startWithCashAndSubstitutes, Cond.instanceMethod yX3_startWithCashAndSubstitutes, Cond.selects RX3 yX3_startWithCashAndSubstitutes yX3_startWithCashAndSubstitutes, Cond.code yX3_startWithCashAndSubstitutes cX3_startWithCashAndSubstitutes 4 none, Cond.fieldLink RX3 30 "Coverpool" "cash" "I", Cond.methodLink RX3 215 yX3_substitutes, Cond.instanceMethod yX3_substitutes, Cond.selects RX3 yX3_substitutes yX3_substitutes, Cond.code yX3_substitutes cX3_substitutes 1 (some .int), Cond.methodLink RX3 134 yX3_debt, Cond.instanceMethod yX3_debt, Cond.selects RX3 yX3_debt yX3_debt, Cond.code yX3_debt cX3_debt 4 (some .int), Cond.fieldLink RX3 131 "Coverpool$Bond" "amount" "I", Cond.methodLink RX3 208 yX3_addBondTo, Cond.instanceMethod yX3_addBondTo, Cond.selects RX3 yX3_addBondTo yX3_addBondTo, Cond.code yX3_addBondTo cX3_addBondTo 4 none, Cond.fieldLink RX3 36 "Coverpool" "cover" "I", Cond.fieldLink RX3 124 "Coverpool$Bond" "due" "I", Cond.methodLink RX3 88 yX3_loansThatAre]
def wsX3_leave_r5 : List Cond := [Cond.instanceMethod yX3_loansThatAre, Cond.selects RX3 yX3_loansThatAre yX3_loansThatAre, Cond.code yX3_loansThatAre cX3_loansThatAre 4 (some .int), Cond.methodLink RX3 92 yX2_allHold, Cond.instanceMethod yX2_allHold, Cond.selects RX2 yX2_allHold yX2_allHold, Cond.initialized RX2, Cond.code yX2_allHold cX2_allHold 3 (some .boolean), Cond.methodLink RX2 20 yX2_missing, Cond.instanceMethod yX2_missing, Cond.selects RX2 yX2_missing yX2_missing, Cond.code yX2_missing cX2_missing 5 (some .int), Cond.fieldLink RX2 11 "Coverpool$Sheet" "needs" "[I", Cond.fieldLink RX2 17 "Coverpool$Sheet" "gives" "[[I"]
def wsX3_leave : List Cond := .code yX3_leave cX3_leave 3 (some .boolean) :: ((wsX3_leave_r1 ++ (wsX3_leave_r2 ++ (wsX3_leave_r3 ++ (wsX3_leave_r4 ++ wsX3_leave_r5)))) ++ wsX30 ++ wsX10 ++ wsJx4a65c0 ++ wsX20 ++ wsX00 ++ (vx_atS RX3 173 "java/lang/IndexOutOfBoundsException" ["java/lang/RuntimeException", "java/lang/Exception"]).filter goodWord ++ (vx_atS RX3 58 "java/lang/IllegalStateException" ["java/lang/RuntimeException", "java/lang/Exception"]).filter goodWord)
def wsX3_swap_r1 : List Cond := [Cond.fieldLink RX3 22 "Coverpool" "sheet" "LCoverpool$Sheet;", Cond.fieldLink RX3 78 "Coverpool$Loan" "state" "I", Cond.methodLink RX3 70 yX3_loanAt, Cond.instanceMethod yX3_loanAt, Cond.selects RX3 yX3_loanAt yX3_loanAt, Cond.initialized RX3, Cond.code yX3_loanAt cX3_loanAt 2 (some (.object "Coverpool$Loan")), Cond.classLink RX3 169 "java/lang/IndexOutOfBoundsException", Cond.initialized "java/lang/IndexOutOfBoundsException", Cond.fieldLink RX3 10 "Coverpool" "loans" "Ljava/util/ArrayList;", Cond.classLink RX3 61 "Coverpool$Loan", Cond.methodLink RX3 50 yJx4a65c_size_8abf5, Cond.instanceMethod yJx4a65c_size_8abf5, Cond.selects RJx4a65c yJx4a65c_size_8abf5 yJx4a65c_size_8abf5, Cond.initialized RJx4a65c, Cond.code yJx4a65c_size_8abf5 cJx4a65c_size_8abf5 1 (some .int), Cond.fieldLink RJx4a65c 48 "java/util/ArrayList" "size" "I", Cond.methodLink RX3 127 yJx4a65c_get_915e3, Cond.instanceMethod yJx4a65c_get_915e3, Cond.selects RJx4a65c yJx4a65c_get_915e3 yJx4a65c_get_915e3, Cond.code yJx4a65c_get_915e3 cJx4a65c_get_915e3 2 (some (.object "java/lang/Object")), Cond.methodLink RJx4a65c 118 yJ15_checkIndex_7cf53, Cond.static yJ15_checkIndex_7cf53, Cond.initialized RJ15]
def wsX3_swap_r2 : List Cond := [Cond.code yJ15_checkIndex_7cf53 cJ15_checkIndex_7cf53 2 (some .int), Cond.methodLink RJ15 105 yJ3_checkIndex_8e157, Cond.static yJ3_checkIndex_8e157, Cond.initialized RJ3, Cond.code yJ3_checkIndex_8e157 cJ3_checkIndex_8e157 3 (some .int), Cond.methodLink RJx4a65c 123 yJx4a65c_elementData_915e3, Cond.instanceMethod yJx4a65c_elementData_915e3, Cond.selects RJx4a65c yJx4a65c_elementData_915e3 yJx4a65c_elementData_915e3, Cond.code yJx4a65c_elementData_915e3 cJx4a65c_elementData_915e3 2 (some (.object "java/lang/Object")), Cond.fieldLink RJx4a65c 9 "java/util/ArrayList" "elementData" "[Ljava/lang/Object;", Cond.methodLink RX3 74 yX3_requireState, Cond.static yX3_requireState, Cond.code yX3_requireState cX3_requireState 2 none, Cond.classLink RX3 54 "java/lang/IllegalStateException", Cond.initialized "java/lang/IllegalStateException", Cond.methodLink RX3 88 yX3_loansThatAre, Cond.instanceMethod yX3_loansThatAre, Cond.selects RX3 yX3_loansThatAre yX3_loansThatAre, Cond.code yX3_loansThatAre cX3_loansThatAre 4 (some .int), Cond.methodLink RX3 85 yX3_fillSheet, Cond.instanceMethod yX3_fillSheet, Cond.selects RX3 yX3_fillSheet yX3_fillSheet, Cond.code yX3_fillSheet cX3_fillSheet 3 none, Cond.fieldLink RX3 192 "Coverpool$Sheet" "gives" "[[I"]
def wsX3_swap_r3 : List Cond := [Cond.fieldLink RX3 176 "Coverpool$Loan" "due" "I", Cond.fieldLink RX3 200 "Coverpool$Sheet" "needs" "[I", Cond.fieldLink RX3 16 "Coverpool" "bonds" "Ljava/util/ArrayList;", Cond.classLink RX3 111 "Coverpool$Bond", Cond.fieldLink RX3 123 "Coverpool$Bond" "state" "I", Cond.methodLink RX3 81 yX3_countOf, Cond.instanceMethod yX3_countOf, Cond.selects RX3 yX3_countOf yX3_countOf, Cond.code yX3_countOf cX3_countOf 2 (some .int), Cond.fieldLink RX3 102 "Coverpool$Loan" "arrears" "I", Cond.fieldLink RX3 186 "Coverpool$Loan" "rank" "I", Cond.fieldLink RX3 33 "Coverpool" "rankThatCounts" "I", Cond.fieldLink RX3 177 "Coverpool$Loan" "amount" "I", Cond.fieldLink RX3 105 "Coverpool$Loan" "worth" "I", Cond.methodLink RX3 137 Lib.Math.min.name, Cond.static Lib.Math.min.name, Cond.initialized "java/lang/Math", Cond.code Lib.Math.min.name Lib.Math.min.code 2 (some .int), Cond.methodLink RX3 196 yX3_fillRow, Cond.instanceMethod yX3_fillRow, Cond.selects RX3 yX3_fillRow yX3_fillRow, Cond.code yX3_fillRow cX3_fillRow 5 none, Cond.fieldLink RX3 26 "Coverpool" "month" "I", Cond.methodLink RX3 212 yX3_worthNow]
def wsX3_swap_r4 : List Cond := [Cond.instanceMethod yX3_worthNow, Cond.selects RX3 yX3_worthNow yX3_worthNow, Cond.code yX3_worthNow cX3_worthNow 4 (some .int), Cond.fieldLink RX3 39 "Coverpool" "rate" "I", Cond.methodLink RX3 189 Lib.Math.max.name, Cond.static Lib.Math.max.name, Cond.code Lib.Math.max.name Lib.Math.max.code 2 (some .int), Cond.methodLink RX3 204 yX3_startWithCashAndSubstitutes, Cond.instanceMethod yX3_startWithCashAndSubstitutes, Cond.selects RX3 yX3_startWithCashAndSubstitutes yX3_startWithCashAndSubstitutes, Cond.code yX3_startWithCashAndSubstitutes cX3_startWithCashAndSubstitutes 4 none, Cond.fieldLink RX3 30 "Coverpool" "cash" "I", Cond.methodLink RX3 215 yX3_substitutes, Cond.instanceMethod yX3_substitutes, Cond.selects RX3 yX3_substitutes yX3_substitutes, Cond.code yX3_substitutes cX3_substitutes 1 (some .int), Cond.methodLink RX3 134 yX3_debt, Cond.instanceMethod yX3_debt, Cond.selects RX3 yX3_debt yX3_debt, Cond.code yX3_debt cX3_debt 4 (some .int), Cond.fieldLink RX3 131 "Coverpool$Bond" "amount" "I", Cond.methodLink RX3 208 yX3_addBondTo, Cond.instanceMethod yX3_addBondTo, Cond.selects RX3 yX3_addBondTo yX3_addBondTo]
def wsX3_swap_r5 : List Cond := [Cond.code yX3_addBondTo cX3_addBondTo 4 none, Cond.fieldLink RX3 36 "Coverpool" "cover" "I", Cond.fieldLink RX3 124 "Coverpool$Bond" "due" "I", Cond.methodLink RX3 96 yX2_mostMissing, Cond.instanceMethod yX2_mostMissing, Cond.selects RX2 yX2_mostMissing yX2_mostMissing, Cond.initialized RX2, Cond.code yX2_mostMissing cX2_mostMissing 5 (some .int), Cond.methodLink RX2 28 Lib.Math.max.name, Cond.methodLink RX2 24 yX2_testOf, Cond.static yX2_testOf, Cond.code yX2_testOf cX2_testOf 1 (some .int), Cond.methodLink RX2 20 yX2_missing, Cond.instanceMethod yX2_missing, Cond.selects RX2 yX2_missing yX2_missing, Cond.code yX2_missing cX2_missing 5 (some .int), Cond.fieldLink RX2 11 "Coverpool$Sheet" "needs" "[I", Cond.fieldLink RX2 17 "Coverpool$Sheet" "gives" "[[I"]
def wsX3_swap : List Cond := .code yX3_swap cX3_swap 8 (some .boolean) :: ((wsX3_swap_r1 ++ (wsX3_swap_r2 ++ (wsX3_swap_r3 ++ (wsX3_swap_r4 ++ wsX3_swap_r5)))) ++ wsX30 ++ wsX10 ++ wsJx4a65c0 ++ wsX20 ++ wsX00 ++ (vx_atS RX3 173 "java/lang/IndexOutOfBoundsException" ["java/lang/RuntimeException", "java/lang/Exception"]).filter goodWord ++ (vx_atS RX3 58 "java/lang/IllegalStateException" ["java/lang/RuntimeException", "java/lang/Exception"]).filter goodWord)
def wsX3_setArrears_r1 : List Cond := [Cond.classLink RX3 54 "java/lang/IllegalStateException", Cond.initialized "java/lang/IllegalStateException", Cond.fieldLink RX3 78 "Coverpool$Loan" "state" "I", Cond.fieldLink RX3 102 "Coverpool$Loan" "arrears" "I", Cond.methodLink RX3 70 yX3_loanAt, Cond.instanceMethod yX3_loanAt, Cond.selects RX3 yX3_loanAt yX3_loanAt, Cond.initialized RX3, Cond.code yX3_loanAt cX3_loanAt 2 (some (.object "Coverpool$Loan")), Cond.classLink RX3 169 "java/lang/IndexOutOfBoundsException", Cond.initialized "java/lang/IndexOutOfBoundsException", Cond.fieldLink RX3 10 "Coverpool" "loans" "Ljava/util/ArrayList;", Cond.classLink RX3 61 "Coverpool$Loan", Cond.methodLink RX3 50 yJx4a65c_size_8abf5, Cond.instanceMethod yJx4a65c_size_8abf5, Cond.selects RJx4a65c yJx4a65c_size_8abf5 yJx4a65c_size_8abf5, Cond.initialized RJx4a65c, Cond.code yJx4a65c_size_8abf5 cJx4a65c_size_8abf5 1 (some .int), Cond.fieldLink RJx4a65c 48 "java/util/ArrayList" "size" "I", Cond.methodLink RX3 127 yJx4a65c_get_915e3, Cond.instanceMethod yJx4a65c_get_915e3, Cond.selects RJx4a65c yJx4a65c_get_915e3 yJx4a65c_get_915e3, Cond.code yJx4a65c_get_915e3 cJx4a65c_get_915e3 2 (some (.object "java/lang/Object")), Cond.methodLink RJx4a65c 118 yJ15_checkIndex_7cf53]
def wsX3_setArrears_r2 : List Cond := [Cond.static yJ15_checkIndex_7cf53, Cond.initialized RJ15, Cond.code yJ15_checkIndex_7cf53 cJ15_checkIndex_7cf53 2 (some .int), Cond.methodLink RJ15 105 yJ3_checkIndex_8e157, Cond.static yJ3_checkIndex_8e157, Cond.initialized RJ3, Cond.code yJ3_checkIndex_8e157 cJ3_checkIndex_8e157 3 (some .int), Cond.methodLink RJx4a65c 123 yJx4a65c_elementData_915e3, Cond.instanceMethod yJx4a65c_elementData_915e3, Cond.selects RJx4a65c yJx4a65c_elementData_915e3 yJx4a65c_elementData_915e3, Cond.code yJx4a65c_elementData_915e3 cJx4a65c_elementData_915e3 2 (some (.object "java/lang/Object")), Cond.fieldLink RJx4a65c 9 "java/util/ArrayList" "elementData" "[Ljava/lang/Object;", Cond.methodLink RX3 42 yX3_requireWithin, Cond.static yX3_requireWithin, Cond.code yX3_requireWithin cX3_requireWithin 3 none, Cond.classLink RX3 160 "java/lang/IllegalArgumentException", Cond.initialized "java/lang/IllegalArgumentException"]
def wsX3_setArrears : List Cond := .code yX3_setArrears cX3_setArrears 5 (some .int) :: ((wsX3_setArrears_r1 ++ wsX3_setArrears_r2) ++ wsX10 ++ wsX30 ++ wsJx4a65c0 ++ (vx_atS RX3 58 "java/lang/IllegalStateException" ["java/lang/RuntimeException", "java/lang/Exception"]).filter goodWord ++ (vx_atS RX3 173 "java/lang/IndexOutOfBoundsException" ["java/lang/RuntimeException", "java/lang/Exception"]).filter goodWord ++ (vx_atS RX3 164 "java/lang/IllegalArgumentException" ["java/lang/RuntimeException", "java/lang/Exception"]).filter goodWord)
def wsX3_setWorth_r1 : List Cond := [Cond.fieldLink RX3 105 "Coverpool$Loan" "worth" "I", Cond.methodLink RX3 70 yX3_loanAt, Cond.instanceMethod yX3_loanAt, Cond.selects RX3 yX3_loanAt yX3_loanAt, Cond.initialized RX3, Cond.code yX3_loanAt cX3_loanAt 2 (some (.object "Coverpool$Loan")), Cond.classLink RX3 169 "java/lang/IndexOutOfBoundsException", Cond.initialized "java/lang/IndexOutOfBoundsException", Cond.fieldLink RX3 10 "Coverpool" "loans" "Ljava/util/ArrayList;", Cond.classLink RX3 61 "Coverpool$Loan", Cond.methodLink RX3 50 yJx4a65c_size_8abf5, Cond.instanceMethod yJx4a65c_size_8abf5, Cond.selects RJx4a65c yJx4a65c_size_8abf5 yJx4a65c_size_8abf5, Cond.initialized RJx4a65c, Cond.code yJx4a65c_size_8abf5 cJx4a65c_size_8abf5 1 (some .int), Cond.fieldLink RJx4a65c 48 "java/util/ArrayList" "size" "I", Cond.methodLink RX3 127 yJx4a65c_get_915e3, Cond.instanceMethod yJx4a65c_get_915e3, Cond.selects RJx4a65c yJx4a65c_get_915e3 yJx4a65c_get_915e3, Cond.code yJx4a65c_get_915e3 cJx4a65c_get_915e3 2 (some (.object "java/lang/Object")), Cond.methodLink RJx4a65c 118 yJ15_checkIndex_7cf53, Cond.static yJ15_checkIndex_7cf53, Cond.initialized RJ15, Cond.code yJ15_checkIndex_7cf53 cJ15_checkIndex_7cf53 2 (some .int)]
def wsX3_setWorth_r2 : List Cond := [Cond.methodLink RJ15 105 yJ3_checkIndex_8e157, Cond.static yJ3_checkIndex_8e157, Cond.initialized RJ3, Cond.code yJ3_checkIndex_8e157 cJ3_checkIndex_8e157 3 (some .int), Cond.methodLink RJx4a65c 123 yJx4a65c_elementData_915e3, Cond.instanceMethod yJx4a65c_elementData_915e3, Cond.selects RJx4a65c yJx4a65c_elementData_915e3 yJx4a65c_elementData_915e3, Cond.code yJx4a65c_elementData_915e3 cJx4a65c_elementData_915e3 2 (some (.object "java/lang/Object")), Cond.fieldLink RJx4a65c 9 "java/util/ArrayList" "elementData" "[Ljava/lang/Object;", Cond.methodLink RX3 42 yX3_requireWithin, Cond.static yX3_requireWithin, Cond.code yX3_requireWithin cX3_requireWithin 3 none, Cond.classLink RX3 160 "java/lang/IllegalArgumentException", Cond.initialized "java/lang/IllegalArgumentException"]
def wsX3_setWorth : List Cond := .code yX3_setWorth cX3_setWorth 5 (some .int) :: ((wsX3_setWorth_r1 ++ wsX3_setWorth_r2) ++ wsX10 ++ wsX30 ++ wsJx4a65c0 ++ (vx_atS RX3 173 "java/lang/IndexOutOfBoundsException" ["java/lang/RuntimeException", "java/lang/Exception"]).filter goodWord ++ (vx_atS RX3 164 "java/lang/IllegalArgumentException" ["java/lang/RuntimeException", "java/lang/Exception"]).filter goodWord)
def wsX3_stateOf_r1 : List Cond := [Cond.fieldLink RX3 78 "Coverpool$Loan" "state" "I", Cond.methodLink RX3 70 yX3_loanAt, Cond.instanceMethod yX3_loanAt, Cond.selects RX3 yX3_loanAt yX3_loanAt, Cond.initialized RX3, Cond.code yX3_loanAt cX3_loanAt 2 (some (.object "Coverpool$Loan")), Cond.classLink RX3 169 "java/lang/IndexOutOfBoundsException", Cond.initialized "java/lang/IndexOutOfBoundsException", Cond.fieldLink RX3 10 "Coverpool" "loans" "Ljava/util/ArrayList;", Cond.classLink RX3 61 "Coverpool$Loan", Cond.methodLink RX3 50 yJx4a65c_size_8abf5, Cond.instanceMethod yJx4a65c_size_8abf5, Cond.selects RJx4a65c yJx4a65c_size_8abf5 yJx4a65c_size_8abf5, Cond.initialized RJx4a65c, Cond.code yJx4a65c_size_8abf5 cJx4a65c_size_8abf5 1 (some .int), Cond.fieldLink RJx4a65c 48 "java/util/ArrayList" "size" "I", Cond.methodLink RX3 127 yJx4a65c_get_915e3, Cond.instanceMethod yJx4a65c_get_915e3, Cond.selects RJx4a65c yJx4a65c_get_915e3 yJx4a65c_get_915e3, Cond.code yJx4a65c_get_915e3 cJx4a65c_get_915e3 2 (some (.object "java/lang/Object")), Cond.methodLink RJx4a65c 118 yJ15_checkIndex_7cf53, Cond.static yJ15_checkIndex_7cf53, Cond.initialized RJ15, Cond.code yJ15_checkIndex_7cf53 cJ15_checkIndex_7cf53 2 (some .int)]
def wsX3_stateOf_r2 : List Cond := [Cond.methodLink RJ15 105 yJ3_checkIndex_8e157, Cond.static yJ3_checkIndex_8e157, Cond.initialized RJ3, Cond.code yJ3_checkIndex_8e157 cJ3_checkIndex_8e157 3 (some .int), Cond.methodLink RJx4a65c 123 yJx4a65c_elementData_915e3, Cond.instanceMethod yJx4a65c_elementData_915e3, Cond.selects RJx4a65c yJx4a65c_elementData_915e3 yJx4a65c_elementData_915e3, Cond.code yJx4a65c_elementData_915e3 cJx4a65c_elementData_915e3 2 (some (.object "java/lang/Object")), Cond.fieldLink RJx4a65c 9 "java/util/ArrayList" "elementData" "[Ljava/lang/Object;"]
def wsX3_stateOf : List Cond := .code yX3_stateOf cX3_stateOf 2 (some .int) :: ((wsX3_stateOf_r1 ++ wsX3_stateOf_r2) ++ wsX10 ++ wsX30 ++ wsJx4a65c0 ++ (vx_atS RX3 173 "java/lang/IndexOutOfBoundsException" ["java/lang/RuntimeException", "java/lang/Exception"]).filter goodWord)
def wsX3_counts_r1 : List Cond := [Cond.methodLink RX3 70 yX3_loanAt, Cond.instanceMethod yX3_loanAt, Cond.selects RX3 yX3_loanAt yX3_loanAt, Cond.initialized RX3, Cond.code yX3_loanAt cX3_loanAt 2 (some (.object "Coverpool$Loan")), Cond.classLink RX3 169 "java/lang/IndexOutOfBoundsException", Cond.initialized "java/lang/IndexOutOfBoundsException", Cond.fieldLink RX3 10 "Coverpool" "loans" "Ljava/util/ArrayList;", Cond.classLink RX3 61 "Coverpool$Loan", Cond.methodLink RX3 50 yJx4a65c_size_8abf5, Cond.instanceMethod yJx4a65c_size_8abf5, Cond.selects RJx4a65c yJx4a65c_size_8abf5 yJx4a65c_size_8abf5, Cond.initialized RJx4a65c, Cond.code yJx4a65c_size_8abf5 cJx4a65c_size_8abf5 1 (some .int), Cond.fieldLink RJx4a65c 48 "java/util/ArrayList" "size" "I", Cond.methodLink RX3 127 yJx4a65c_get_915e3, Cond.instanceMethod yJx4a65c_get_915e3, Cond.selects RJx4a65c yJx4a65c_get_915e3 yJx4a65c_get_915e3, Cond.code yJx4a65c_get_915e3 cJx4a65c_get_915e3 2 (some (.object "java/lang/Object")), Cond.methodLink RJx4a65c 118 yJ15_checkIndex_7cf53, Cond.static yJ15_checkIndex_7cf53, Cond.initialized RJ15, Cond.code yJ15_checkIndex_7cf53 cJ15_checkIndex_7cf53 2 (some .int), Cond.methodLink RJ15 105 yJ3_checkIndex_8e157]
def wsX3_counts_r2 : List Cond := [Cond.static yJ3_checkIndex_8e157, Cond.initialized RJ3, Cond.code yJ3_checkIndex_8e157 cJ3_checkIndex_8e157 3 (some .int), Cond.methodLink RJx4a65c 123 yJx4a65c_elementData_915e3, Cond.instanceMethod yJx4a65c_elementData_915e3, Cond.selects RJx4a65c yJx4a65c_elementData_915e3 yJx4a65c_elementData_915e3, Cond.code yJx4a65c_elementData_915e3 cJx4a65c_elementData_915e3 2 (some (.object "java/lang/Object")), Cond.fieldLink RJx4a65c 9 "java/util/ArrayList" "elementData" "[Ljava/lang/Object;", Cond.methodLink RX3 81 yX3_countOf, Cond.instanceMethod yX3_countOf, Cond.selects RX3 yX3_countOf yX3_countOf, Cond.code yX3_countOf cX3_countOf 2 (some .int), Cond.fieldLink RX3 102 "Coverpool$Loan" "arrears" "I", Cond.fieldLink RX3 186 "Coverpool$Loan" "rank" "I", Cond.fieldLink RX3 33 "Coverpool" "rankThatCounts" "I", Cond.fieldLink RX3 177 "Coverpool$Loan" "amount" "I", Cond.fieldLink RX3 105 "Coverpool$Loan" "worth" "I", Cond.methodLink RX3 137 Lib.Math.min.name, Cond.static Lib.Math.min.name, Cond.initialized "java/lang/Math", Cond.code Lib.Math.min.name Lib.Math.min.code 2 (some .int)]
def wsX3_counts : List Cond := .code yX3_counts cX3_counts 2 (some .int) :: ((wsX3_counts_r1 ++ wsX3_counts_r2) ++ wsX30 ++ wsJx4a65c0 ++ wsX10 ++ (vx_atS RX3 173 "java/lang/IndexOutOfBoundsException" ["java/lang/RuntimeException", "java/lang/Exception"]).filter goodWord)
def wsX3_addBond_r1 : List Cond := [Cond.classLink RX3 54 "java/lang/IllegalStateException", Cond.initialized "java/lang/IllegalStateException", Cond.constant RX3 108 (50000), Cond.fieldLink RX3 16 "Coverpool" "bonds" "Ljava/util/ArrayList;", Cond.classLink RX3 111 RX0, Cond.instantiable RX0 4, Cond.initialized RX0, Cond.fieldLink RX3 30 "Coverpool" "cash" "I", Cond.methodLink RX3 42 yX3_requireWithin, Cond.static yX3_requireWithin, Cond.initialized RX3, Cond.code yX3_requireWithin cX3_requireWithin 3 none, Cond.classLink RX3 160 "java/lang/IllegalArgumentException", Cond.initialized "java/lang/IllegalArgumentException", Cond.methodLink RX3 46 yX3_requireDueAhead, Cond.instanceMethod yX3_requireDueAhead, Cond.selects RX3 yX3_requireDueAhead yX3_requireDueAhead, Cond.code yX3_requireDueAhead cX3_requireDueAhead 2 none, Cond.fieldLink RX3 26 "Coverpool" "month" "I", Cond.methodLink RX3 50 yJx4a65c_size_8abf5, Cond.instanceMethod yJx4a65c_size_8abf5, Cond.selects RJx4a65c yJx4a65c_size_8abf5 yJx4a65c_size_8abf5, Cond.initialized RJx4a65c, Cond.code yJx4a65c_size_8abf5 cJx4a65c_size_8abf5 1 (some .int)]
def wsX3_addBond_r2 : List Cond := [Cond.fieldLink RJx4a65c 48 "java/util/ArrayList" "size" "I", Cond.methodLink RX3 113 yX0_init, Cond.instanceMethod yX0_init, Cond.code yX0_init cX0_init 3 none, Cond.methodLink RX0 3 objectInit, Cond.instanceMethod objectInit, Cond.code objectInit ⟨#[0xb1]⟩ 1 none, Cond.fieldLink RX0 9 "Coverpool$Bond" "state" "I", Cond.fieldLink RX0 15 "Coverpool$Bond" "wasPutOff" "Z", Cond.fieldLink RX0 19 "Coverpool$Bond" "amount" "I", Cond.fieldLink RX0 22 "Coverpool$Bond" "due" "I", Cond.methodLink RX3 66 yJx4a65c_add_9ea2d, Cond.instanceMethod yJx4a65c_add_9ea2d, Cond.selects RJx4a65c yJx4a65c_add_9ea2d yJx4a65c_add_9ea2d, Cond.code yJx4a65c_add_9ea2d cJx4a65c_add_9ea2d 2 (some .boolean), Cond.fieldLink RJx4a65c 63 "java/util/ArrayList" "modCount" "I", Cond.sameField "java/util/ArrayList" "java/util/AbstractList" "modCount" "I", Cond.fieldLink RJx4a65c 9 "java/util/ArrayList" "elementData" "[Ljava/lang/Object;", Cond.methodLink RJx4a65c 131 yJx4a65c_add_72be8, Cond.instanceMethod yJx4a65c_add_72be8, Cond.selects RJx4a65c yJx4a65c_add_72be8 yJx4a65c_add_72be8, Cond.code yJx4a65c_add_72be8 cJx4a65c_add_72be8 4 none, Cond.methodLink RJx4a65c 129 yJx4a65c_grow_d5877, Cond.instanceMethod yJx4a65c_grow_d5877]
def wsX3_addBond_r3 : List Cond := [Cond.selects RJx4a65c yJx4a65c_grow_d5877 yJx4a65c_grow_d5877, Cond.code yJx4a65c_grow_d5877 cJx4a65c_grow_d5877 1 (some (.array (.object "java/lang/Object"))), Cond.methodLink RJx4a65c 69 yJx4a65c_grow_92f84, Cond.instanceMethod yJx4a65c_grow_92f84, Cond.selects RJx4a65c yJx4a65c_grow_92f84 yJx4a65c_grow_92f84, Cond.code yJx4a65c_grow_92f84 cJx4a65c_grow_92f84 4 (some (.array (.object "java/lang/Object"))), Cond.fieldLink RJx4a65c 39 "java/util/ArrayList" "DEFAULTCAPACITY_EMPTY_ELEMENTDATA" "[Ljava/lang/Object;", Cond.methodLink RJx4a65c 79 Lib.Math.max.name, Cond.static Lib.Math.max.name, Cond.initialized "java/lang/Math", Cond.code Lib.Math.max.name Lib.Math.max.code 2 (some .int), Cond.classLink RJx4a65c 7 "java/lang/Object", Cond.methodLink RJx4a65c 73 yJ8_newLength_cabcc, Cond.static yJ8_newLength_cabcc, Cond.initialized RJ8, Cond.code yJ8_newLength_cabcc cJ8_newLength_cabcc 4 (some .int), Cond.methodLink RJ8 194 Lib.Math.max.name, Cond.constant RJ8 200 (2147483639), Cond.methodLink RJ8 201 yJ8_hugeLength_7cf53, Cond.static yJ8_hugeLength_7cf53, Cond.code yJ8_hugeLength_7cf53 cJ8_hugeLength_7cf53 3 (some .int), Cond.methodLink RJx4a65c 66 yJ7_copyOf_1904c, Cond.static yJ7_copyOf_1904c, Cond.initialized RJ7]
def wsX3_addBond_r4 : List Cond := [Cond.code yJ7_copyOf_1904c cJ7_copyOf_1904c 2 (some (.array (.object "java/lang/Object"))), Cond.methodLink RJ7 86 ⟨"java/lang/Object", "getClass", "()Ljava/lang/Class;"⟩, Cond.selects "[Ljava/lang/Object;" ⟨"java/lang/Object", "getClass", "()Ljava/lang/Class;"⟩ ⟨"java/lang/Object", "getClass", "()Ljava/lang/Class;"⟩, Cond.instanceMethod ⟨"java/lang/Object", "getClass", "()Ljava/lang/Class;"⟩, Cond.native ⟨"java/lang/Object", "getClass", "()Ljava/lang/Class;"⟩, Cond.methodLink RJ7 300 yJ7_copyOf_6403c, Cond.static yJ7_copyOf_6403c, Cond.code yJ7_copyOf_6403c cJ7_copyOf_6403c 4 (some (.array (.object "java/lang/Object"))), Cond.classLink RJ7 110 "[Ljava/lang/Object;", Cond.classLink RJ7 2 "java/lang/Object", Cond.methodLink RJ7 304 Lib.Math.min.name, Cond.static Lib.Math.min.name, Cond.code Lib.Math.min.name Lib.Math.min.code 2 (some .int), Cond.methodLink RJ7 150 arraycopyName, Cond.native arraycopyName, Cond.static arraycopyName, Cond.initialized "java/lang/System"]
def wsX3_addBond : List Cond := .code yX3_addBond cX3_addBond 3 (some .int) :: ((wsX3_addBond_r1 ++ (wsX3_addBond_r2 ++ (wsX3_addBond_r3 ++ wsX3_addBond_r4))) ++ wsX30 ++ wsX00 ++ wsJx4a65c0 ++ (vx_atS RX3 58 "java/lang/IllegalStateException" ["java/lang/RuntimeException", "java/lang/Exception"]).filter goodWord ++ (vx_atS RX3 164 "java/lang/IllegalArgumentException" ["java/lang/RuntimeException", "java/lang/Exception"]).filter goodWord)
def wsX3_takeCash : List Cond := .code yX3_takeCash cX3_takeCash 2 (some .int) :: ([.classLink RX3 54 "java/lang/IllegalStateException", .initialized "java/lang/IllegalStateException", .constant RX3 116 (100000), .fieldLink RX3 30 "Coverpool" "cash" "I", .methodLink RX3 42 yX3_requireWithin, .static yX3_requireWithin, .initialized RX3, .code yX3_requireWithin cX3_requireWithin 3 none, .classLink RX3 160 "java/lang/IllegalArgumentException", .initialized "java/lang/IllegalArgumentException"] ++ wsX30 ++ (vx_atS RX3 58 "java/lang/IllegalStateException" ["java/lang/RuntimeException", "java/lang/Exception"]).filter goodWord ++ (vx_atS RX3 164 "java/lang/IllegalArgumentException" ["java/lang/RuntimeException", "java/lang/Exception"]).filter goodWord)
def wsX3_setRules : List Cond := .code yX3_setRules cX3_setRules 4 none :: ([.fieldLink RX3 33 "Coverpool" "rankThatCounts" "I", .fieldLink RX3 36 "Coverpool" "cover" "I", .fieldLink RX3 39 "Coverpool" "rate" "I", .methodLink RX3 42 yX3_requireWithin, .static yX3_requireWithin, .initialized RX3, .code yX3_requireWithin cX3_requireWithin 3 none, .classLink RX3 160 "java/lang/IllegalArgumentException", .initialized "java/lang/IllegalArgumentException"] ++ wsX30 ++ (vx_atS RX3 164 "java/lang/IllegalArgumentException" ["java/lang/RuntimeException", "java/lang/Exception"]).filter goodWord)
def wsX3_bondAt_r1 : List Cond := [Cond.classLink RX3 169 "java/lang/IndexOutOfBoundsException", Cond.initialized "java/lang/IndexOutOfBoundsException", Cond.fieldLink RX3 16 "Coverpool" "bonds" "Ljava/util/ArrayList;", Cond.classLink RX3 111 "Coverpool$Bond", Cond.methodLink RX3 50 yJx4a65c_size_8abf5, Cond.instanceMethod yJx4a65c_size_8abf5, Cond.selects RJx4a65c yJx4a65c_size_8abf5 yJx4a65c_size_8abf5, Cond.initialized RJx4a65c, Cond.code yJx4a65c_size_8abf5 cJx4a65c_size_8abf5 1 (some .int), Cond.fieldLink RJx4a65c 48 "java/util/ArrayList" "size" "I", Cond.methodLink RX3 127 yJx4a65c_get_915e3, Cond.instanceMethod yJx4a65c_get_915e3, Cond.selects RJx4a65c yJx4a65c_get_915e3 yJx4a65c_get_915e3, Cond.code yJx4a65c_get_915e3 cJx4a65c_get_915e3 2 (some (.object "java/lang/Object")), Cond.methodLink RJx4a65c 118 yJ15_checkIndex_7cf53, Cond.static yJ15_checkIndex_7cf53, Cond.initialized RJ15, Cond.code yJ15_checkIndex_7cf53 cJ15_checkIndex_7cf53 2 (some .int), Cond.methodLink RJ15 105 yJ3_checkIndex_8e157, Cond.static yJ3_checkIndex_8e157, Cond.initialized RJ3, Cond.code yJ3_checkIndex_8e157 cJ3_checkIndex_8e157 3 (some .int), Cond.methodLink RJx4a65c 123 yJx4a65c_elementData_915e3, Cond.instanceMethod yJx4a65c_elementData_915e3]
def wsX3_bondAt_r2 : List Cond := [Cond.selects RJx4a65c yJx4a65c_elementData_915e3 yJx4a65c_elementData_915e3, Cond.code yJx4a65c_elementData_915e3 cJx4a65c_elementData_915e3 2 (some (.object "java/lang/Object")), Cond.fieldLink RJx4a65c 9 "java/util/ArrayList" "elementData" "[Ljava/lang/Object;"]
def wsX3_bondAt : List Cond := .code yX3_bondAt cX3_bondAt 2 (some (.object "Coverpool$Bond")) :: ((wsX3_bondAt_r1 ++ wsX3_bondAt_r2) ++ wsX30 ++ wsJx4a65c0 ++ (vx_atS RX3 173 "java/lang/IndexOutOfBoundsException" ["java/lang/RuntimeException", "java/lang/Exception"]).filter goodWord)
def wsX3_bondState_r1 : List Cond := [Cond.fieldLink RX3 123 "Coverpool$Bond" "state" "I", Cond.methodLink RX3 119 yX3_bondAt, Cond.instanceMethod yX3_bondAt, Cond.selects RX3 yX3_bondAt yX3_bondAt, Cond.initialized RX3, Cond.code yX3_bondAt cX3_bondAt 2 (some (.object "Coverpool$Bond")), Cond.classLink RX3 169 "java/lang/IndexOutOfBoundsException", Cond.initialized "java/lang/IndexOutOfBoundsException", Cond.fieldLink RX3 16 "Coverpool" "bonds" "Ljava/util/ArrayList;", Cond.classLink RX3 111 "Coverpool$Bond", Cond.methodLink RX3 50 yJx4a65c_size_8abf5, Cond.instanceMethod yJx4a65c_size_8abf5, Cond.selects RJx4a65c yJx4a65c_size_8abf5 yJx4a65c_size_8abf5, Cond.initialized RJx4a65c, Cond.code yJx4a65c_size_8abf5 cJx4a65c_size_8abf5 1 (some .int), Cond.fieldLink RJx4a65c 48 "java/util/ArrayList" "size" "I", Cond.methodLink RX3 127 yJx4a65c_get_915e3, Cond.instanceMethod yJx4a65c_get_915e3, Cond.selects RJx4a65c yJx4a65c_get_915e3 yJx4a65c_get_915e3, Cond.code yJx4a65c_get_915e3 cJx4a65c_get_915e3 2 (some (.object "java/lang/Object")), Cond.methodLink RJx4a65c 118 yJ15_checkIndex_7cf53, Cond.static yJ15_checkIndex_7cf53, Cond.initialized RJ15, Cond.code yJ15_checkIndex_7cf53 cJ15_checkIndex_7cf53 2 (some .int)]
def wsX3_bondState_r2 : List Cond := [Cond.methodLink RJ15 105 yJ3_checkIndex_8e157, Cond.static yJ3_checkIndex_8e157, Cond.initialized RJ3, Cond.code yJ3_checkIndex_8e157 cJ3_checkIndex_8e157 3 (some .int), Cond.methodLink RJx4a65c 123 yJx4a65c_elementData_915e3, Cond.instanceMethod yJx4a65c_elementData_915e3, Cond.selects RJx4a65c yJx4a65c_elementData_915e3 yJx4a65c_elementData_915e3, Cond.code yJx4a65c_elementData_915e3 cJx4a65c_elementData_915e3 2 (some (.object "java/lang/Object")), Cond.fieldLink RJx4a65c 9 "java/util/ArrayList" "elementData" "[Ljava/lang/Object;"]
def wsX3_bondState : List Cond := .code yX3_bondState cX3_bondState 2 (some .int) :: ((wsX3_bondState_r1 ++ wsX3_bondState_r2) ++ wsX00 ++ wsX30 ++ wsJx4a65c0 ++ (vx_atS RX3 173 "java/lang/IndexOutOfBoundsException" ["java/lang/RuntimeException", "java/lang/Exception"]).filter goodWord)
def wsX3_dueOf_r1 : List Cond := [Cond.fieldLink RX3 124 "Coverpool$Bond" "due" "I", Cond.methodLink RX3 119 yX3_bondAt, Cond.instanceMethod yX3_bondAt, Cond.selects RX3 yX3_bondAt yX3_bondAt, Cond.initialized RX3, Cond.code yX3_bondAt cX3_bondAt 2 (some (.object "Coverpool$Bond")), Cond.classLink RX3 169 "java/lang/IndexOutOfBoundsException", Cond.initialized "java/lang/IndexOutOfBoundsException", Cond.fieldLink RX3 16 "Coverpool" "bonds" "Ljava/util/ArrayList;", Cond.classLink RX3 111 "Coverpool$Bond", Cond.methodLink RX3 50 yJx4a65c_size_8abf5, Cond.instanceMethod yJx4a65c_size_8abf5, Cond.selects RJx4a65c yJx4a65c_size_8abf5 yJx4a65c_size_8abf5, Cond.initialized RJx4a65c, Cond.code yJx4a65c_size_8abf5 cJx4a65c_size_8abf5 1 (some .int), Cond.fieldLink RJx4a65c 48 "java/util/ArrayList" "size" "I", Cond.methodLink RX3 127 yJx4a65c_get_915e3, Cond.instanceMethod yJx4a65c_get_915e3, Cond.selects RJx4a65c yJx4a65c_get_915e3 yJx4a65c_get_915e3, Cond.code yJx4a65c_get_915e3 cJx4a65c_get_915e3 2 (some (.object "java/lang/Object")), Cond.methodLink RJx4a65c 118 yJ15_checkIndex_7cf53, Cond.static yJ15_checkIndex_7cf53, Cond.initialized RJ15, Cond.code yJ15_checkIndex_7cf53 cJ15_checkIndex_7cf53 2 (some .int)]
def wsX3_dueOf_r2 : List Cond := [Cond.methodLink RJ15 105 yJ3_checkIndex_8e157, Cond.static yJ3_checkIndex_8e157, Cond.initialized RJ3, Cond.code yJ3_checkIndex_8e157 cJ3_checkIndex_8e157 3 (some .int), Cond.methodLink RJx4a65c 123 yJx4a65c_elementData_915e3, Cond.instanceMethod yJx4a65c_elementData_915e3, Cond.selects RJx4a65c yJx4a65c_elementData_915e3 yJx4a65c_elementData_915e3, Cond.code yJx4a65c_elementData_915e3 cJx4a65c_elementData_915e3 2 (some (.object "java/lang/Object")), Cond.fieldLink RJx4a65c 9 "java/util/ArrayList" "elementData" "[Ljava/lang/Object;"]
def wsX3_dueOf : List Cond := .code yX3_dueOf cX3_dueOf 2 (some .int) :: ((wsX3_dueOf_r1 ++ wsX3_dueOf_r2) ++ wsX00 ++ wsX30 ++ wsJx4a65c0 ++ (vx_atS RX3 173 "java/lang/IndexOutOfBoundsException" ["java/lang/RuntimeException", "java/lang/Exception"]).filter goodWord)
def wsX3_cash : List Cond := .code yX3_cash cX3_cash 1 (some .int) :: ([.fieldLink RX3 30 "Coverpool" "cash" "I"] ++ wsX30)
def wsX3_receiveDueLoans_r1 : List Cond := [Cond.fieldLink RX3 10 "Coverpool" "loans" "Ljava/util/ArrayList;", Cond.classLink RX3 61 "Coverpool$Loan", Cond.fieldLink RX3 78 "Coverpool$Loan" "state" "I", Cond.fieldLink RX3 176 "Coverpool$Loan" "due" "I", Cond.fieldLink RX3 26 "Coverpool" "month" "I", Cond.fieldLink RX3 102 "Coverpool$Loan" "arrears" "I", Cond.fieldLink RX3 30 "Coverpool" "cash" "I", Cond.fieldLink RX3 177 "Coverpool$Loan" "amount" "I", Cond.methodLink RX3 50 yJx4a65c_size_8abf5, Cond.instanceMethod yJx4a65c_size_8abf5, Cond.selects RJx4a65c yJx4a65c_size_8abf5 yJx4a65c_size_8abf5, Cond.initialized RJx4a65c, Cond.code yJx4a65c_size_8abf5 cJx4a65c_size_8abf5 1 (some .int), Cond.fieldLink RJx4a65c 48 "java/util/ArrayList" "size" "I", Cond.methodLink RX3 127 yJx4a65c_get_915e3, Cond.instanceMethod yJx4a65c_get_915e3, Cond.selects RJx4a65c yJx4a65c_get_915e3 yJx4a65c_get_915e3, Cond.code yJx4a65c_get_915e3 cJx4a65c_get_915e3 2 (some (.object "java/lang/Object")), Cond.methodLink RJx4a65c 118 yJ15_checkIndex_7cf53, Cond.static yJ15_checkIndex_7cf53, Cond.initialized RJ15, Cond.code yJ15_checkIndex_7cf53 cJ15_checkIndex_7cf53 2 (some .int), Cond.methodLink RJ15 105 yJ3_checkIndex_8e157, Cond.static yJ3_checkIndex_8e157]
def wsX3_receiveDueLoans_r2 : List Cond := [Cond.initialized RJ3, Cond.code yJ3_checkIndex_8e157 cJ3_checkIndex_8e157 3 (some .int), Cond.methodLink RJx4a65c 123 yJx4a65c_elementData_915e3, Cond.instanceMethod yJx4a65c_elementData_915e3, Cond.selects RJx4a65c yJx4a65c_elementData_915e3 yJx4a65c_elementData_915e3, Cond.code yJx4a65c_elementData_915e3 cJx4a65c_elementData_915e3 2 (some (.object "java/lang/Object")), Cond.fieldLink RJx4a65c 9 "java/util/ArrayList" "elementData" "[Ljava/lang/Object;"]
def wsX3_receiveDueLoans : List Cond := .code yX3_receiveDueLoans cX3_receiveDueLoans 3 none :: ((wsX3_receiveDueLoans_r1 ++ wsX3_receiveDueLoans_r2) ++ wsX30 ++ wsX10 ++ wsJx4a65c0)
def wsX3_settle : List Cond := .code yX3_settle cX3_settle 2 none :: ([.fieldLink RX3 30 "Coverpool" "cash" "I", .fieldLink RX3 131 "Coverpool$Bond" "amount" "I", .fieldLink RX3 123 "Coverpool$Bond" "state" "I", .fieldLink RX3 182 "Coverpool$Bond" "wasPutOff" "Z", .fieldLink RX3 26 "Coverpool" "month" "I", .fieldLink RX3 124 "Coverpool$Bond" "due" "I"] ++ wsX30 ++ wsX00)
def wsX3_settleDueBonds_r1 : List Cond := [Cond.fieldLink RX3 16 "Coverpool" "bonds" "Ljava/util/ArrayList;", Cond.classLink RX3 111 "Coverpool$Bond", Cond.fieldLink RX3 123 "Coverpool$Bond" "state" "I", Cond.fieldLink RX3 124 "Coverpool$Bond" "due" "I", Cond.fieldLink RX3 26 "Coverpool" "month" "I", Cond.methodLink RX3 50 yJx4a65c_size_8abf5, Cond.instanceMethod yJx4a65c_size_8abf5, Cond.selects RJx4a65c yJx4a65c_size_8abf5 yJx4a65c_size_8abf5, Cond.initialized RJx4a65c, Cond.code yJx4a65c_size_8abf5 cJx4a65c_size_8abf5 1 (some .int), Cond.fieldLink RJx4a65c 48 "java/util/ArrayList" "size" "I", Cond.methodLink RX3 127 yJx4a65c_get_915e3, Cond.instanceMethod yJx4a65c_get_915e3, Cond.selects RJx4a65c yJx4a65c_get_915e3 yJx4a65c_get_915e3, Cond.code yJx4a65c_get_915e3 cJx4a65c_get_915e3 2 (some (.object "java/lang/Object")), Cond.methodLink RJx4a65c 118 yJ15_checkIndex_7cf53, Cond.static yJ15_checkIndex_7cf53, Cond.initialized RJ15, Cond.code yJ15_checkIndex_7cf53 cJ15_checkIndex_7cf53 2 (some .int), Cond.methodLink RJ15 105 yJ3_checkIndex_8e157, Cond.static yJ3_checkIndex_8e157, Cond.initialized RJ3, Cond.code yJ3_checkIndex_8e157 cJ3_checkIndex_8e157 3 (some .int), Cond.methodLink RJx4a65c 123 yJx4a65c_elementData_915e3]
def wsX3_settleDueBonds_r2 : List Cond := [Cond.instanceMethod yJx4a65c_elementData_915e3, Cond.selects RJx4a65c yJx4a65c_elementData_915e3 yJx4a65c_elementData_915e3, Cond.code yJx4a65c_elementData_915e3 cJx4a65c_elementData_915e3 2 (some (.object "java/lang/Object")), Cond.fieldLink RJx4a65c 9 "java/util/ArrayList" "elementData" "[Ljava/lang/Object;", Cond.methodLink RX3 178 yX3_settle, Cond.instanceMethod yX3_settle, Cond.selects RX3 yX3_settle yX3_settle, Cond.initialized RX3, Cond.code yX3_settle cX3_settle 2 none, Cond.fieldLink RX3 30 "Coverpool" "cash" "I", Cond.fieldLink RX3 131 "Coverpool$Bond" "amount" "I", Cond.fieldLink RX3 182 "Coverpool$Bond" "wasPutOff" "Z"]
def wsX3_settleDueBonds : List Cond := .code yX3_settleDueBonds cX3_settleDueBonds 3 none :: ((wsX3_settleDueBonds_r1 ++ wsX3_settleDueBonds_r2) ++ wsX30 ++ wsX00 ++ wsJx4a65c0)
def wsX3_pass_r1 : List Cond := [Cond.fieldLink RX3 26 "Coverpool" "month" "I", Cond.methodLink RX3 42 yX3_requireWithin, Cond.static yX3_requireWithin, Cond.initialized RX3, Cond.code yX3_requireWithin cX3_requireWithin 3 none, Cond.classLink RX3 160 "java/lang/IllegalArgumentException", Cond.initialized "java/lang/IllegalArgumentException", Cond.methodLink RX3 142 yX3_receiveDueLoans, Cond.instanceMethod yX3_receiveDueLoans, Cond.selects RX3 yX3_receiveDueLoans yX3_receiveDueLoans, Cond.code yX3_receiveDueLoans cX3_receiveDueLoans 3 none, Cond.fieldLink RX3 10 "Coverpool" "loans" "Ljava/util/ArrayList;", Cond.classLink RX3 61 "Coverpool$Loan", Cond.fieldLink RX3 78 "Coverpool$Loan" "state" "I", Cond.fieldLink RX3 176 "Coverpool$Loan" "due" "I", Cond.fieldLink RX3 102 "Coverpool$Loan" "arrears" "I", Cond.fieldLink RX3 30 "Coverpool" "cash" "I", Cond.fieldLink RX3 177 "Coverpool$Loan" "amount" "I", Cond.methodLink RX3 50 yJx4a65c_size_8abf5, Cond.instanceMethod yJx4a65c_size_8abf5, Cond.selects RJx4a65c yJx4a65c_size_8abf5 yJx4a65c_size_8abf5, Cond.initialized RJx4a65c, Cond.code yJx4a65c_size_8abf5 cJx4a65c_size_8abf5 1 (some .int), Cond.fieldLink RJx4a65c 48 "java/util/ArrayList" "size" "I"]
def wsX3_pass_r2 : List Cond := [Cond.methodLink RX3 127 yJx4a65c_get_915e3, Cond.instanceMethod yJx4a65c_get_915e3, Cond.selects RJx4a65c yJx4a65c_get_915e3 yJx4a65c_get_915e3, Cond.code yJx4a65c_get_915e3 cJx4a65c_get_915e3 2 (some (.object "java/lang/Object")), Cond.methodLink RJx4a65c 118 yJ15_checkIndex_7cf53, Cond.static yJ15_checkIndex_7cf53, Cond.initialized RJ15, Cond.code yJ15_checkIndex_7cf53 cJ15_checkIndex_7cf53 2 (some .int), Cond.methodLink RJ15 105 yJ3_checkIndex_8e157, Cond.static yJ3_checkIndex_8e157, Cond.initialized RJ3, Cond.code yJ3_checkIndex_8e157 cJ3_checkIndex_8e157 3 (some .int), Cond.methodLink RJx4a65c 123 yJx4a65c_elementData_915e3, Cond.instanceMethod yJx4a65c_elementData_915e3, Cond.selects RJx4a65c yJx4a65c_elementData_915e3 yJx4a65c_elementData_915e3, Cond.code yJx4a65c_elementData_915e3 cJx4a65c_elementData_915e3 2 (some (.object "java/lang/Object")), Cond.fieldLink RJx4a65c 9 "java/util/ArrayList" "elementData" "[Ljava/lang/Object;", Cond.methodLink RX3 145 yX3_settleDueBonds, Cond.instanceMethod yX3_settleDueBonds, Cond.selects RX3 yX3_settleDueBonds yX3_settleDueBonds, Cond.code yX3_settleDueBonds cX3_settleDueBonds 3 none, Cond.fieldLink RX3 16 "Coverpool" "bonds" "Ljava/util/ArrayList;", Cond.classLink RX3 111 "Coverpool$Bond", Cond.fieldLink RX3 123 "Coverpool$Bond" "state" "I"]
def wsX3_pass_r3 : List Cond := [Cond.fieldLink RX3 124 "Coverpool$Bond" "due" "I", Cond.methodLink RX3 178 yX3_settle, Cond.instanceMethod yX3_settle, Cond.selects RX3 yX3_settle yX3_settle, Cond.code yX3_settle cX3_settle 2 none, Cond.fieldLink RX3 131 "Coverpool$Bond" "amount" "I", Cond.fieldLink RX3 182 "Coverpool$Bond" "wasPutOff" "Z"]
def wsX3_pass : List Cond := .code yX3_pass cX3_pass 3 (some .int) :: ((wsX3_pass_r1 ++ (wsX3_pass_r2 ++ wsX3_pass_r3)) ++ wsX30 ++ wsX10 ++ wsJx4a65c0 ++ wsX00 ++ (vx_atS RX3 164 "java/lang/IllegalArgumentException" ["java/lang/RuntimeException", "java/lang/Exception"]).filter goodWord)
def wsX3_lacking_r1 : List Cond := [Cond.fieldLink RX3 22 "Coverpool" "sheet" "LCoverpool$Sheet;", Cond.methodLink RX3 42 yX3_requireWithin, Cond.static yX3_requireWithin, Cond.initialized RX3, Cond.code yX3_requireWithin cX3_requireWithin 3 none, Cond.classLink RX3 160 "java/lang/IllegalArgumentException", Cond.initialized "java/lang/IllegalArgumentException", Cond.methodLink RX3 85 yX3_fillSheet, Cond.instanceMethod yX3_fillSheet, Cond.selects RX3 yX3_fillSheet yX3_fillSheet, Cond.code yX3_fillSheet cX3_fillSheet 3 none, Cond.fieldLink RX3 10 "Coverpool" "loans" "Ljava/util/ArrayList;", Cond.classLink RX3 61 "Coverpool$Loan", Cond.fieldLink RX3 192 "Coverpool$Sheet" "gives" "[[I", Cond.fieldLink RX3 176 "Coverpool$Loan" "due" "I", Cond.fieldLink RX3 200 "Coverpool$Sheet" "needs" "[I", Cond.fieldLink RX3 16 "Coverpool" "bonds" "Ljava/util/ArrayList;", Cond.classLink RX3 111 "Coverpool$Bond", Cond.fieldLink RX3 123 "Coverpool$Bond" "state" "I", Cond.methodLink RX3 50 yJx4a65c_size_8abf5, Cond.instanceMethod yJx4a65c_size_8abf5, Cond.selects RJx4a65c yJx4a65c_size_8abf5 yJx4a65c_size_8abf5, Cond.initialized RJx4a65c, Cond.code yJx4a65c_size_8abf5 cJx4a65c_size_8abf5 1 (some .int)]
def wsX3_lacking_r2 : List Cond := [Cond.fieldLink RJx4a65c 48 "java/util/ArrayList" "size" "I", Cond.methodLink RX3 127 yJx4a65c_get_915e3, Cond.instanceMethod yJx4a65c_get_915e3, Cond.selects RJx4a65c yJx4a65c_get_915e3 yJx4a65c_get_915e3, Cond.code yJx4a65c_get_915e3 cJx4a65c_get_915e3 2 (some (.object "java/lang/Object")), Cond.methodLink RJx4a65c 118 yJ15_checkIndex_7cf53, Cond.static yJ15_checkIndex_7cf53, Cond.initialized RJ15, Cond.code yJ15_checkIndex_7cf53 cJ15_checkIndex_7cf53 2 (some .int), Cond.methodLink RJ15 105 yJ3_checkIndex_8e157, Cond.static yJ3_checkIndex_8e157, Cond.initialized RJ3, Cond.code yJ3_checkIndex_8e157 cJ3_checkIndex_8e157 3 (some .int), Cond.methodLink RJx4a65c 123 yJx4a65c_elementData_915e3, Cond.instanceMethod yJx4a65c_elementData_915e3, Cond.selects RJx4a65c yJx4a65c_elementData_915e3 yJx4a65c_elementData_915e3, Cond.code yJx4a65c_elementData_915e3 cJx4a65c_elementData_915e3 2 (some (.object "java/lang/Object")), Cond.fieldLink RJx4a65c 9 "java/util/ArrayList" "elementData" "[Ljava/lang/Object;", Cond.methodLink RX3 81 yX3_countOf, Cond.instanceMethod yX3_countOf, Cond.selects RX3 yX3_countOf yX3_countOf, Cond.code yX3_countOf cX3_countOf 2 (some .int), Cond.fieldLink RX3 102 "Coverpool$Loan" "arrears" "I", Cond.fieldLink RX3 186 "Coverpool$Loan" "rank" "I"]
def wsX3_lacking_r3 : List Cond := [Cond.fieldLink RX3 33 "Coverpool" "rankThatCounts" "I", Cond.fieldLink RX3 177 "Coverpool$Loan" "amount" "I", Cond.fieldLink RX3 105 "Coverpool$Loan" "worth" "I", Cond.methodLink RX3 137 Lib.Math.min.name, Cond.static Lib.Math.min.name, Cond.initialized "java/lang/Math", Cond.code Lib.Math.min.name Lib.Math.min.code 2 (some .int), Cond.methodLink RX3 196 yX3_fillRow, Cond.instanceMethod yX3_fillRow, Cond.selects RX3 yX3_fillRow yX3_fillRow, Cond.code yX3_fillRow cX3_fillRow 5 none, Cond.fieldLink RX3 26 "Coverpool" "month" "I", Cond.methodLink RX3 212 yX3_worthNow, Cond.instanceMethod yX3_worthNow, Cond.selects RX3 yX3_worthNow yX3_worthNow, Cond.code yX3_worthNow cX3_worthNow 4 (some .int), Cond.fieldLink RX3 39 "Coverpool" "rate" "I", Cond.methodLink RX3 189 Lib.Math.max.name, Cond.static Lib.Math.max.name, Cond.code Lib.Math.max.name Lib.Math.max.code 2 (some .int), Cond.methodLink RX3 204 yX3_startWithCashAndSubstitutes, Cond.instanceMethod yX3_startWithCashAndSubstitutes, Cond.selects RX3 yX3_startWithCashAndSubstitutes yX3_startWithCashAndSubstitutes, Cond.code yX3_startWithCashAndSubstitutes cX3_startWithCashAndSubstitutes 4 none]
def wsX3_lacking_r4 : List Cond := [Cond.fieldLink RX3 30 "Coverpool" "cash" "I", Cond.methodLink RX3 215 yX3_substitutes, Cond.instanceMethod yX3_substitutes, Cond.selects RX3 yX3_substitutes yX3_substitutes, Cond.code yX3_substitutes cX3_substitutes 1 (some .int), Cond.methodLink RX3 134 yX3_debt, Cond.instanceMethod yX3_debt, Cond.selects RX3 yX3_debt yX3_debt, Cond.code yX3_debt cX3_debt 4 (some .int), Cond.fieldLink RX3 131 "Coverpool$Bond" "amount" "I", Cond.methodLink RX3 208 yX3_addBondTo, Cond.instanceMethod yX3_addBondTo, Cond.selects RX3 yX3_addBondTo yX3_addBondTo, Cond.code yX3_addBondTo cX3_addBondTo 4 none, Cond.fieldLink RX3 36 "Coverpool" "cover" "I", Cond.fieldLink RX3 124 "Coverpool$Bond" "due" "I", Cond.methodLink RX3 88 yX3_loansThatAre, Cond.instanceMethod yX3_loansThatAre, Cond.selects RX3 yX3_loansThatAre yX3_loansThatAre, Cond.code yX3_loansThatAre cX3_loansThatAre 4 (some .int), Cond.fieldLink RX3 78 "Coverpool$Loan" "state" "I", Cond.methodLink RX3 96 yX2_mostMissing, Cond.instanceMethod yX2_mostMissing, Cond.selects RX2 yX2_mostMissing yX2_mostMissing]
def wsX3_lacking_r5 : List Cond := [Cond.initialized RX2, Cond.code yX2_mostMissing cX2_mostMissing 5 (some .int), Cond.methodLink RX2 28 Lib.Math.max.name, Cond.methodLink RX2 24 yX2_testOf, Cond.static yX2_testOf, Cond.code yX2_testOf cX2_testOf 1 (some .int), Cond.methodLink RX2 20 yX2_missing, Cond.instanceMethod yX2_missing, Cond.selects RX2 yX2_missing yX2_missing, Cond.code yX2_missing cX2_missing 5 (some .int), Cond.fieldLink RX2 11 "Coverpool$Sheet" "needs" "[I", Cond.fieldLink RX2 17 "Coverpool$Sheet" "gives" "[[I"]
def wsX3_lacking : List Cond := .code yX3_lacking cX3_lacking 2 (some .long) :: ((wsX3_lacking_r1 ++ (wsX3_lacking_r2 ++ (wsX3_lacking_r3 ++ (wsX3_lacking_r4 ++ wsX3_lacking_r5)))) ++ wsX30 ++ wsX20 ++ wsX10 ++ wsX00 ++ wsJx4a65c0 ++ (vx_atS RX3 164 "java/lang/IllegalArgumentException" ["java/lang/RuntimeException", "java/lang/Exception"]).filter goodWord)
def wsX3_holds_r1 : List Cond := [Cond.methodLink RX3 148 yX3_lacking, Cond.instanceMethod yX3_lacking, Cond.selects RX3 yX3_lacking yX3_lacking, Cond.initialized RX3, Cond.code yX3_lacking cX3_lacking 2 (some .long), Cond.fieldLink RX3 22 "Coverpool" "sheet" "LCoverpool$Sheet;", Cond.methodLink RX3 42 yX3_requireWithin, Cond.static yX3_requireWithin, Cond.code yX3_requireWithin cX3_requireWithin 3 none, Cond.classLink RX3 160 "java/lang/IllegalArgumentException", Cond.initialized "java/lang/IllegalArgumentException", Cond.methodLink RX3 85 yX3_fillSheet, Cond.instanceMethod yX3_fillSheet, Cond.selects RX3 yX3_fillSheet yX3_fillSheet, Cond.code yX3_fillSheet cX3_fillSheet 3 none, Cond.fieldLink RX3 10 "Coverpool" "loans" "Ljava/util/ArrayList;", Cond.classLink RX3 61 "Coverpool$Loan", Cond.fieldLink RX3 192 "Coverpool$Sheet" "gives" "[[I", Cond.fieldLink RX3 176 "Coverpool$Loan" "due" "I", Cond.fieldLink RX3 200 "Coverpool$Sheet" "needs" "[I", Cond.fieldLink RX3 16 "Coverpool" "bonds" "Ljava/util/ArrayList;", Cond.classLink RX3 111 "Coverpool$Bond", Cond.fieldLink RX3 123 "Coverpool$Bond" "state" "I", Cond.methodLink RX3 50 yJx4a65c_size_8abf5]
def wsX3_holds_r2 : List Cond := [Cond.instanceMethod yJx4a65c_size_8abf5, Cond.selects RJx4a65c yJx4a65c_size_8abf5 yJx4a65c_size_8abf5, Cond.initialized RJx4a65c, Cond.code yJx4a65c_size_8abf5 cJx4a65c_size_8abf5 1 (some .int), Cond.fieldLink RJx4a65c 48 "java/util/ArrayList" "size" "I", Cond.methodLink RX3 127 yJx4a65c_get_915e3, Cond.instanceMethod yJx4a65c_get_915e3, Cond.selects RJx4a65c yJx4a65c_get_915e3 yJx4a65c_get_915e3, Cond.code yJx4a65c_get_915e3 cJx4a65c_get_915e3 2 (some (.object "java/lang/Object")), Cond.methodLink RJx4a65c 118 yJ15_checkIndex_7cf53, Cond.static yJ15_checkIndex_7cf53, Cond.initialized RJ15, Cond.code yJ15_checkIndex_7cf53 cJ15_checkIndex_7cf53 2 (some .int), Cond.methodLink RJ15 105 yJ3_checkIndex_8e157, Cond.static yJ3_checkIndex_8e157, Cond.initialized RJ3, Cond.code yJ3_checkIndex_8e157 cJ3_checkIndex_8e157 3 (some .int), Cond.methodLink RJx4a65c 123 yJx4a65c_elementData_915e3, Cond.instanceMethod yJx4a65c_elementData_915e3, Cond.selects RJx4a65c yJx4a65c_elementData_915e3 yJx4a65c_elementData_915e3, Cond.code yJx4a65c_elementData_915e3 cJx4a65c_elementData_915e3 2 (some (.object "java/lang/Object")), Cond.fieldLink RJx4a65c 9 "java/util/ArrayList" "elementData" "[Ljava/lang/Object;", Cond.methodLink RX3 81 yX3_countOf, Cond.instanceMethod yX3_countOf]
def wsX3_holds_r3 : List Cond := [Cond.selects RX3 yX3_countOf yX3_countOf, Cond.code yX3_countOf cX3_countOf 2 (some .int), Cond.fieldLink RX3 102 "Coverpool$Loan" "arrears" "I", Cond.fieldLink RX3 186 "Coverpool$Loan" "rank" "I", Cond.fieldLink RX3 33 "Coverpool" "rankThatCounts" "I", Cond.fieldLink RX3 177 "Coverpool$Loan" "amount" "I", Cond.fieldLink RX3 105 "Coverpool$Loan" "worth" "I", Cond.methodLink RX3 137 Lib.Math.min.name, Cond.static Lib.Math.min.name, Cond.initialized "java/lang/Math", Cond.code Lib.Math.min.name Lib.Math.min.code 2 (some .int), Cond.methodLink RX3 196 yX3_fillRow, Cond.instanceMethod yX3_fillRow, Cond.selects RX3 yX3_fillRow yX3_fillRow, Cond.code yX3_fillRow cX3_fillRow 5 none, Cond.fieldLink RX3 26 "Coverpool" "month" "I", Cond.methodLink RX3 212 yX3_worthNow, Cond.instanceMethod yX3_worthNow, Cond.selects RX3 yX3_worthNow yX3_worthNow, Cond.code yX3_worthNow cX3_worthNow 4 (some .int), Cond.fieldLink RX3 39 "Coverpool" "rate" "I", Cond.methodLink RX3 189 Lib.Math.max.name, Cond.static Lib.Math.max.name, Cond.code Lib.Math.max.name Lib.Math.max.code 2 (some .int)]
def wsX3_holds_r4 : List Cond := [Cond.methodLink RX3 204 yX3_startWithCashAndSubstitutes, Cond.instanceMethod yX3_startWithCashAndSubstitutes, Cond.selects RX3 yX3_startWithCashAndSubstitutes yX3_startWithCashAndSubstitutes, Cond.code yX3_startWithCashAndSubstitutes cX3_startWithCashAndSubstitutes 4 none, Cond.fieldLink RX3 30 "Coverpool" "cash" "I", Cond.methodLink RX3 215 yX3_substitutes, Cond.instanceMethod yX3_substitutes, Cond.selects RX3 yX3_substitutes yX3_substitutes, Cond.code yX3_substitutes cX3_substitutes 1 (some .int), Cond.methodLink RX3 134 yX3_debt, Cond.instanceMethod yX3_debt, Cond.selects RX3 yX3_debt yX3_debt, Cond.code yX3_debt cX3_debt 4 (some .int), Cond.fieldLink RX3 131 "Coverpool$Bond" "amount" "I", Cond.methodLink RX3 208 yX3_addBondTo, Cond.instanceMethod yX3_addBondTo, Cond.selects RX3 yX3_addBondTo yX3_addBondTo, Cond.code yX3_addBondTo cX3_addBondTo 4 none, Cond.fieldLink RX3 36 "Coverpool" "cover" "I", Cond.fieldLink RX3 124 "Coverpool$Bond" "due" "I", Cond.methodLink RX3 88 yX3_loansThatAre, Cond.instanceMethod yX3_loansThatAre, Cond.selects RX3 yX3_loansThatAre yX3_loansThatAre, Cond.code yX3_loansThatAre cX3_loansThatAre 4 (some .int)]
def wsX3_holds_r5 : List Cond := [Cond.fieldLink RX3 78 "Coverpool$Loan" "state" "I", Cond.methodLink RX3 96 yX2_mostMissing, Cond.instanceMethod yX2_mostMissing, Cond.selects RX2 yX2_mostMissing yX2_mostMissing, Cond.initialized RX2, Cond.code yX2_mostMissing cX2_mostMissing 5 (some .int), Cond.methodLink RX2 28 Lib.Math.max.name, Cond.methodLink RX2 24 yX2_testOf, Cond.static yX2_testOf, Cond.code yX2_testOf cX2_testOf 1 (some .int), Cond.methodLink RX2 20 yX2_missing, Cond.instanceMethod yX2_missing, Cond.selects RX2 yX2_missing yX2_missing, Cond.code yX2_missing cX2_missing 5 (some .int), Cond.fieldLink RX2 11 "Coverpool$Sheet" "needs" "[I", Cond.fieldLink RX2 17 "Coverpool$Sheet" "gives" "[[I"]
def wsX3_holds : List Cond := .code yX3_holds cX3_holds 2 (some .boolean) :: ((wsX3_holds_r1 ++ (wsX3_holds_r2 ++ (wsX3_holds_r3 ++ (wsX3_holds_r4 ++ wsX3_holds_r5)))) ++ wsX30 ++ wsX20 ++ wsX10 ++ wsX00 ++ wsJx4a65c0 ++ (vx_atS RX3 164 "java/lang/IllegalArgumentException" ["java/lang/RuntimeException", "java/lang/Exception"]).filter goodWord)
def wsJ6_bitCount_0f7a4 : List Cond := .code yJ6_bitCount_0f7a4 cJ6_bitCount_0f7a4 1 (some .int) :: ([.constant RJ6 265 (1431655765), .constant RJ6 266 (858993459), .constant RJ6 267 (252645135)])
def wsX3_isLess : List Cond := .code yX3_isLess cX3_isLess 3 (some .boolean) :: ([.methodLink RX3 218 yJ6_bitCount_0f7a4, .static yJ6_bitCount_0f7a4, .initialized RJ6, .code yJ6_bitCount_0f7a4 cJ6_bitCount_0f7a4 1 (some .int), .constant RJ6 265 (1431655765), .constant RJ6 266 (858993459), .constant RJ6 267 (252645135)])
def wsX3_leastWith : List Cond := .code yX3_leastWith cX3_leastWith 8 (some .int) :: ([.methodLink RX3 156 yX3_isLess, .static yX3_isLess, .initialized RX3, .code yX3_isLess cX3_isLess 3 (some .boolean), .methodLink RX3 218 yJ6_bitCount_0f7a4, .static yJ6_bitCount_0f7a4, .initialized RJ6, .code yJ6_bitCount_0f7a4 cJ6_bitCount_0f7a4 1 (some .int), .constant RJ6 265 (1431655765), .constant RJ6 266 (858993459), .constant RJ6 267 (252645135), .methodLink RX3 92 yX2_allHold, .instanceMethod yX2_allHold, .selects RX2 yX2_allHold yX2_allHold, .initialized RX2, .code yX2_allHold cX2_allHold 3 (some .boolean), .methodLink RX2 20 yX2_missing, .instanceMethod yX2_missing, .selects RX2 yX2_missing yX2_missing, .code yX2_missing cX2_missing 5 (some .int), .fieldLink RX2 11 "Coverpool$Sheet" "needs" "[I", .fieldLink RX2 17 "Coverpool$Sheet" "gives" "[[I", .methodLink RX3 152 yX3_leastWith, .static yX3_leastWith] ++ wsX20)
def wsX3_leastToAdd_r1 : List Cond := [Cond.fieldLink RX3 22 "Coverpool" "sheet" "LCoverpool$Sheet;", Cond.methodLink RX3 85 yX3_fillSheet, Cond.instanceMethod yX3_fillSheet, Cond.selects RX3 yX3_fillSheet yX3_fillSheet, Cond.initialized RX3, Cond.code yX3_fillSheet cX3_fillSheet 3 none, Cond.fieldLink RX3 10 "Coverpool" "loans" "Ljava/util/ArrayList;", Cond.classLink RX3 61 "Coverpool$Loan", Cond.fieldLink RX3 192 "Coverpool$Sheet" "gives" "[[I", Cond.fieldLink RX3 176 "Coverpool$Loan" "due" "I", Cond.fieldLink RX3 200 "Coverpool$Sheet" "needs" "[I", Cond.fieldLink RX3 16 "Coverpool" "bonds" "Ljava/util/ArrayList;", Cond.classLink RX3 111 "Coverpool$Bond", Cond.fieldLink RX3 123 "Coverpool$Bond" "state" "I", Cond.methodLink RX3 50 yJx4a65c_size_8abf5, Cond.instanceMethod yJx4a65c_size_8abf5, Cond.selects RJx4a65c yJx4a65c_size_8abf5 yJx4a65c_size_8abf5, Cond.initialized RJx4a65c, Cond.code yJx4a65c_size_8abf5 cJx4a65c_size_8abf5 1 (some .int), Cond.fieldLink RJx4a65c 48 "java/util/ArrayList" "size" "I", Cond.methodLink RX3 127 yJx4a65c_get_915e3, Cond.instanceMethod yJx4a65c_get_915e3, Cond.selects RJx4a65c yJx4a65c_get_915e3 yJx4a65c_get_915e3, Cond.code yJx4a65c_get_915e3 cJx4a65c_get_915e3 2 (some (.object "java/lang/Object"))]
def wsX3_leastToAdd_r2 : List Cond := [Cond.methodLink RJx4a65c 118 yJ15_checkIndex_7cf53, Cond.static yJ15_checkIndex_7cf53, Cond.initialized RJ15, Cond.code yJ15_checkIndex_7cf53 cJ15_checkIndex_7cf53 2 (some .int), Cond.methodLink RJ15 105 yJ3_checkIndex_8e157, Cond.static yJ3_checkIndex_8e157, Cond.initialized RJ3, Cond.code yJ3_checkIndex_8e157 cJ3_checkIndex_8e157 3 (some .int), Cond.methodLink RJx4a65c 123 yJx4a65c_elementData_915e3, Cond.instanceMethod yJx4a65c_elementData_915e3, Cond.selects RJx4a65c yJx4a65c_elementData_915e3 yJx4a65c_elementData_915e3, Cond.code yJx4a65c_elementData_915e3 cJx4a65c_elementData_915e3 2 (some (.object "java/lang/Object")), Cond.fieldLink RJx4a65c 9 "java/util/ArrayList" "elementData" "[Ljava/lang/Object;", Cond.methodLink RX3 81 yX3_countOf, Cond.instanceMethod yX3_countOf, Cond.selects RX3 yX3_countOf yX3_countOf, Cond.code yX3_countOf cX3_countOf 2 (some .int), Cond.fieldLink RX3 102 "Coverpool$Loan" "arrears" "I", Cond.fieldLink RX3 186 "Coverpool$Loan" "rank" "I", Cond.fieldLink RX3 33 "Coverpool" "rankThatCounts" "I", Cond.fieldLink RX3 177 "Coverpool$Loan" "amount" "I", Cond.fieldLink RX3 105 "Coverpool$Loan" "worth" "I", Cond.methodLink RX3 137 Lib.Math.min.name, Cond.static Lib.Math.min.name]
def wsX3_leastToAdd_r3 : List Cond := [Cond.initialized "java/lang/Math", Cond.code Lib.Math.min.name Lib.Math.min.code 2 (some .int), Cond.methodLink RX3 196 yX3_fillRow, Cond.instanceMethod yX3_fillRow, Cond.selects RX3 yX3_fillRow yX3_fillRow, Cond.code yX3_fillRow cX3_fillRow 5 none, Cond.fieldLink RX3 26 "Coverpool" "month" "I", Cond.methodLink RX3 212 yX3_worthNow, Cond.instanceMethod yX3_worthNow, Cond.selects RX3 yX3_worthNow yX3_worthNow, Cond.code yX3_worthNow cX3_worthNow 4 (some .int), Cond.fieldLink RX3 39 "Coverpool" "rate" "I", Cond.methodLink RX3 189 Lib.Math.max.name, Cond.static Lib.Math.max.name, Cond.code Lib.Math.max.name Lib.Math.max.code 2 (some .int), Cond.methodLink RX3 204 yX3_startWithCashAndSubstitutes, Cond.instanceMethod yX3_startWithCashAndSubstitutes, Cond.selects RX3 yX3_startWithCashAndSubstitutes yX3_startWithCashAndSubstitutes, Cond.code yX3_startWithCashAndSubstitutes cX3_startWithCashAndSubstitutes 4 none, Cond.fieldLink RX3 30 "Coverpool" "cash" "I", Cond.methodLink RX3 215 yX3_substitutes, Cond.instanceMethod yX3_substitutes, Cond.selects RX3 yX3_substitutes yX3_substitutes, Cond.code yX3_substitutes cX3_substitutes 1 (some .int)]
def wsX3_leastToAdd_r4 : List Cond := [Cond.methodLink RX3 134 yX3_debt, Cond.instanceMethod yX3_debt, Cond.selects RX3 yX3_debt yX3_debt, Cond.code yX3_debt cX3_debt 4 (some .int), Cond.fieldLink RX3 131 "Coverpool$Bond" "amount" "I", Cond.methodLink RX3 208 yX3_addBondTo, Cond.instanceMethod yX3_addBondTo, Cond.selects RX3 yX3_addBondTo yX3_addBondTo, Cond.code yX3_addBondTo cX3_addBondTo 4 none, Cond.fieldLink RX3 36 "Coverpool" "cover" "I", Cond.fieldLink RX3 124 "Coverpool$Bond" "due" "I", Cond.methodLink RX3 88 yX3_loansThatAre, Cond.instanceMethod yX3_loansThatAre, Cond.selects RX3 yX3_loansThatAre yX3_loansThatAre, Cond.code yX3_loansThatAre cX3_loansThatAre 4 (some .int), Cond.fieldLink RX3 78 "Coverpool$Loan" "state" "I", Cond.methodLink RX3 152 yX3_leastWith, Cond.static yX3_leastWith, Cond.code yX3_leastWith cX3_leastWith 8 (some .int), Cond.methodLink RX3 156 yX3_isLess, Cond.static yX3_isLess, Cond.code yX3_isLess cX3_isLess 3 (some .boolean), Cond.methodLink RX3 218 yJ6_bitCount_0f7a4, Cond.static yJ6_bitCount_0f7a4]
def wsX3_leastToAdd_r5 : List Cond := [Cond.initialized RJ6, Cond.code yJ6_bitCount_0f7a4 cJ6_bitCount_0f7a4 1 (some .int), Cond.constant RJ6 265 (1431655765), Cond.constant RJ6 266 (858993459), Cond.constant RJ6 267 (252645135), Cond.methodLink RX3 92 yX2_allHold, Cond.instanceMethod yX2_allHold, Cond.selects RX2 yX2_allHold yX2_allHold, Cond.initialized RX2, Cond.code yX2_allHold cX2_allHold 3 (some .boolean), Cond.methodLink RX2 20 yX2_missing, Cond.instanceMethod yX2_missing, Cond.selects RX2 yX2_missing yX2_missing, Cond.code yX2_missing cX2_missing 5 (some .int), Cond.fieldLink RX2 11 "Coverpool$Sheet" "needs" "[I", Cond.fieldLink RX2 17 "Coverpool$Sheet" "gives" "[[I"]
def wsX3_leastToAdd : List Cond := .code yX3_leastToAdd cX3_leastToAdd 1 (some .int) :: ((wsX3_leastToAdd_r1 ++ (wsX3_leastToAdd_r2 ++ (wsX3_leastToAdd_r3 ++ (wsX3_leastToAdd_r4 ++ wsX3_leastToAdd_r5)))) ++ wsX30 ++ wsX20 ++ wsX10 ++ wsX00 ++ wsJx4a65c0)
def wsX3_leastToAddByAll_r1 : List Cond := [Cond.fieldLink RX3 10 "Coverpool" "loans" "Ljava/util/ArrayList;", Cond.fieldLink RX3 22 "Coverpool" "sheet" "LCoverpool$Sheet;", Cond.methodLink RX3 85 yX3_fillSheet, Cond.instanceMethod yX3_fillSheet, Cond.selects RX3 yX3_fillSheet yX3_fillSheet, Cond.initialized RX3, Cond.code yX3_fillSheet cX3_fillSheet 3 none, Cond.classLink RX3 61 "Coverpool$Loan", Cond.fieldLink RX3 192 "Coverpool$Sheet" "gives" "[[I", Cond.fieldLink RX3 176 "Coverpool$Loan" "due" "I", Cond.fieldLink RX3 200 "Coverpool$Sheet" "needs" "[I", Cond.fieldLink RX3 16 "Coverpool" "bonds" "Ljava/util/ArrayList;", Cond.classLink RX3 111 "Coverpool$Bond", Cond.fieldLink RX3 123 "Coverpool$Bond" "state" "I", Cond.methodLink RX3 50 yJx4a65c_size_8abf5, Cond.instanceMethod yJx4a65c_size_8abf5, Cond.selects RJx4a65c yJx4a65c_size_8abf5 yJx4a65c_size_8abf5, Cond.initialized RJx4a65c, Cond.code yJx4a65c_size_8abf5 cJx4a65c_size_8abf5 1 (some .int), Cond.fieldLink RJx4a65c 48 "java/util/ArrayList" "size" "I", Cond.methodLink RX3 127 yJx4a65c_get_915e3, Cond.instanceMethod yJx4a65c_get_915e3, Cond.selects RJx4a65c yJx4a65c_get_915e3 yJx4a65c_get_915e3, Cond.code yJx4a65c_get_915e3 cJx4a65c_get_915e3 2 (some (.object "java/lang/Object"))]
def wsX3_leastToAddByAll_r2 : List Cond := [Cond.methodLink RJx4a65c 118 yJ15_checkIndex_7cf53, Cond.static yJ15_checkIndex_7cf53, Cond.initialized RJ15, Cond.code yJ15_checkIndex_7cf53 cJ15_checkIndex_7cf53 2 (some .int), Cond.methodLink RJ15 105 yJ3_checkIndex_8e157, Cond.static yJ3_checkIndex_8e157, Cond.initialized RJ3, Cond.code yJ3_checkIndex_8e157 cJ3_checkIndex_8e157 3 (some .int), Cond.methodLink RJx4a65c 123 yJx4a65c_elementData_915e3, Cond.instanceMethod yJx4a65c_elementData_915e3, Cond.selects RJx4a65c yJx4a65c_elementData_915e3 yJx4a65c_elementData_915e3, Cond.code yJx4a65c_elementData_915e3 cJx4a65c_elementData_915e3 2 (some (.object "java/lang/Object")), Cond.fieldLink RJx4a65c 9 "java/util/ArrayList" "elementData" "[Ljava/lang/Object;", Cond.methodLink RX3 81 yX3_countOf, Cond.instanceMethod yX3_countOf, Cond.selects RX3 yX3_countOf yX3_countOf, Cond.code yX3_countOf cX3_countOf 2 (some .int), Cond.fieldLink RX3 102 "Coverpool$Loan" "arrears" "I", Cond.fieldLink RX3 186 "Coverpool$Loan" "rank" "I", Cond.fieldLink RX3 33 "Coverpool" "rankThatCounts" "I", Cond.fieldLink RX3 177 "Coverpool$Loan" "amount" "I", Cond.fieldLink RX3 105 "Coverpool$Loan" "worth" "I", Cond.methodLink RX3 137 Lib.Math.min.name, Cond.static Lib.Math.min.name]
def wsX3_leastToAddByAll_r3 : List Cond := [Cond.initialized "java/lang/Math", Cond.code Lib.Math.min.name Lib.Math.min.code 2 (some .int), Cond.methodLink RX3 196 yX3_fillRow, Cond.instanceMethod yX3_fillRow, Cond.selects RX3 yX3_fillRow yX3_fillRow, Cond.code yX3_fillRow cX3_fillRow 5 none, Cond.fieldLink RX3 26 "Coverpool" "month" "I", Cond.methodLink RX3 212 yX3_worthNow, Cond.instanceMethod yX3_worthNow, Cond.selects RX3 yX3_worthNow yX3_worthNow, Cond.code yX3_worthNow cX3_worthNow 4 (some .int), Cond.fieldLink RX3 39 "Coverpool" "rate" "I", Cond.methodLink RX3 189 Lib.Math.max.name, Cond.static Lib.Math.max.name, Cond.code Lib.Math.max.name Lib.Math.max.code 2 (some .int), Cond.methodLink RX3 204 yX3_startWithCashAndSubstitutes, Cond.instanceMethod yX3_startWithCashAndSubstitutes, Cond.selects RX3 yX3_startWithCashAndSubstitutes yX3_startWithCashAndSubstitutes, Cond.code yX3_startWithCashAndSubstitutes cX3_startWithCashAndSubstitutes 4 none, Cond.fieldLink RX3 30 "Coverpool" "cash" "I", Cond.methodLink RX3 215 yX3_substitutes, Cond.instanceMethod yX3_substitutes, Cond.selects RX3 yX3_substitutes yX3_substitutes, Cond.code yX3_substitutes cX3_substitutes 1 (some .int)]
def wsX3_leastToAddByAll_r4 : List Cond := [Cond.methodLink RX3 134 yX3_debt, Cond.instanceMethod yX3_debt, Cond.selects RX3 yX3_debt yX3_debt, Cond.code yX3_debt cX3_debt 4 (some .int), Cond.fieldLink RX3 131 "Coverpool$Bond" "amount" "I", Cond.methodLink RX3 208 yX3_addBondTo, Cond.instanceMethod yX3_addBondTo, Cond.selects RX3 yX3_addBondTo yX3_addBondTo, Cond.code yX3_addBondTo cX3_addBondTo 4 none, Cond.fieldLink RX3 36 "Coverpool" "cover" "I", Cond.fieldLink RX3 124 "Coverpool$Bond" "due" "I", Cond.methodLink RX3 88 yX3_loansThatAre, Cond.instanceMethod yX3_loansThatAre, Cond.selects RX3 yX3_loansThatAre yX3_loansThatAre, Cond.code yX3_loansThatAre cX3_loansThatAre 4 (some .int), Cond.fieldLink RX3 78 "Coverpool$Loan" "state" "I", Cond.methodLink RX3 156 yX3_isLess, Cond.static yX3_isLess, Cond.code yX3_isLess cX3_isLess 3 (some .boolean), Cond.methodLink RX3 218 yJ6_bitCount_0f7a4, Cond.static yJ6_bitCount_0f7a4, Cond.initialized RJ6, Cond.code yJ6_bitCount_0f7a4 cJ6_bitCount_0f7a4 1 (some .int), Cond.constant RJ6 265 (1431655765)]
def wsX3_leastToAddByAll_r5 : List Cond := [Cond.constant RJ6 266 (858993459), Cond.constant RJ6 267 (252645135), Cond.methodLink RX3 92 yX2_allHold, Cond.instanceMethod yX2_allHold, Cond.selects RX2 yX2_allHold yX2_allHold, Cond.initialized RX2, Cond.code yX2_allHold cX2_allHold 3 (some .boolean), Cond.methodLink RX2 20 yX2_missing, Cond.instanceMethod yX2_missing, Cond.selects RX2 yX2_missing yX2_missing, Cond.code yX2_missing cX2_missing 5 (some .int), Cond.fieldLink RX2 11 "Coverpool$Sheet" "needs" "[I", Cond.fieldLink RX2 17 "Coverpool$Sheet" "gives" "[[I"]
def wsX3_leastToAddByAll : List Cond := .code yX3_leastToAddByAll cX3_leastToAddByAll 5 (some .int) :: ((wsX3_leastToAddByAll_r1 ++ (wsX3_leastToAddByAll_r2 ++ (wsX3_leastToAddByAll_r3 ++ (wsX3_leastToAddByAll_r4 ++ wsX3_leastToAddByAll_r5)))) ++ wsX30 ++ wsX20 ++ wsX10 ++ wsX00 ++ wsJx4a65c0)
def wsX4_init : List Cond := .code yX4_init cX4_init 1 none :: ([.methodLink RX4 1 objectInit, .instanceMethod objectInit, .code objectInit ⟨#[0xb1]⟩ 1 none, .fieldLink RX4 7 "CoverpoolModel" "greatest" "I", .fieldLink RX4 13 "CoverpoolModel" "cover" "I", .fieldLink RX4 16 "CoverpoolModel" "stress" "I", .arrayClass .int, .fieldLink RX4 19 "CoverpoolModel" "amount" "[I", .fieldLink RX4 23 "CoverpoolModel" "worth" "[I", .fieldLink RX4 26 "CoverpoolModel" "rank" "[I", .fieldLink RX4 29 "CoverpoolModel" "due" "[I", .fieldLink RX4 32 "CoverpoolModel" "arrears" "[I", .fieldLink RX4 35 "CoverpoolModel" "state" "[I", .fieldLink RX4 38 "CoverpoolModel" "bondAmount" "[I", .fieldLink RX4 41 "CoverpoolModel" "bondDue" "[I", .fieldLink RX4 44 "CoverpoolModel" "bondState" "[I", .arrayClass .boolean, .fieldLink RX4 47 "CoverpoolModel" "isPutOff" "[Z"] ++ wsX40)
def wsX4_thrown : List Cond := .code yX4_thrown cX4_thrown 1 (some .int) :: ([.fieldLink RX4 51 "CoverpoolModel" "thrown" "I"] ++ wsX40)
def wsX4_goes : List Cond := .code yX4_goes cX4_goes 4 (some .boolean) :: ([.fieldLink RX4 51 "CoverpoolModel" "thrown" "I"] ++ wsX40)
def wsX4_isWithin : List Cond := .code yX4_isWithin cX4_isWithin 3 (some .boolean) :: ([])
def wsX4_isLoan : List Cond := .code yX4_isLoan cX4_isLoan 2 (some .boolean) :: ([.fieldLink RX4 54 "CoverpoolModel" "loans" "I"] ++ wsX40)
def wsX4_isBond : List Cond := .code yX4_isBond cX4_isBond 2 (some .boolean) :: ([.fieldLink RX4 57 "CoverpoolModel" "bonds" "I"] ++ wsX40)
def wsX4_countOf : List Cond := .code yX4_countOf cX4_countOf 4 (some .int) :: ([.fieldLink RX4 23 "CoverpoolModel" "worth" "[I", .fieldLink RX4 19 "CoverpoolModel" "amount" "[I", .fieldLink RX4 32 "CoverpoolModel" "arrears" "[I", .fieldLink RX4 26 "CoverpoolModel" "rank" "[I", .fieldLink RX4 7 "CoverpoolModel" "greatest" "I"] ++ wsX40)
def wsX4_pool : List Cond := .code yX4_pool cX4_pool 3 (some .int) :: ([.fieldLink RX4 54 "CoverpoolModel" "loans" "I", .fieldLink RX4 35 "CoverpoolModel" "state" "[I"] ++ wsX40)
def wsX4_owed : List Cond := .code yX4_owed cX4_owed 3 (some .int) :: ([.fieldLink RX4 57 "CoverpoolModel" "bonds" "I", .fieldLink RX4 44 "CoverpoolModel" "bondState" "[I", .fieldLink RX4 38 "CoverpoolModel" "bondAmount" "[I"] ++ wsX40)
def wsX4_beside : List Cond := .code yX4_beside cX4_beside 2 (some .int) :: ([.fieldLink RX4 64 "CoverpoolModel" "cash" "I", .methodLink RX4 60 yX4_owed, .instanceMethod yX4_owed, .selects RX4 yX4_owed yX4_owed, .initialized RX4, .code yX4_owed cX4_owed 3 (some .int), .fieldLink RX4 57 "CoverpoolModel" "bonds" "I", .fieldLink RX4 44 "CoverpoolModel" "bondState" "[I", .fieldLink RX4 38 "CoverpoolModel" "bondAmount" "[I"] ++ wsX40)
def wsX4_valued : List Cond := .code yX4_valued cX4_valued 5 (some .int) :: ([.fieldLink RX4 67 "CoverpoolModel" "month" "I"] ++ wsX40)
def wsX4_lackOfFace_r1 : List Cond := [Cond.fieldLink RX4 54 "CoverpoolModel" "loans" "I", Cond.fieldLink RX4 13 "CoverpoolModel" "cover" "I", Cond.constantLong RX4 77 (100), Cond.methodLink RX4 70 yX4_beside, Cond.instanceMethod yX4_beside, Cond.selects RX4 yX4_beside yX4_beside, Cond.initialized RX4, Cond.code yX4_beside cX4_beside 2 (some .int), Cond.fieldLink RX4 64 "CoverpoolModel" "cash" "I", Cond.methodLink RX4 60 yX4_owed, Cond.instanceMethod yX4_owed, Cond.selects RX4 yX4_owed yX4_owed, Cond.code yX4_owed cX4_owed 3 (some .int), Cond.fieldLink RX4 57 "CoverpoolModel" "bonds" "I", Cond.fieldLink RX4 44 "CoverpoolModel" "bondState" "[I", Cond.fieldLink RX4 38 "CoverpoolModel" "bondAmount" "[I", Cond.methodLink RX4 73 yX4_countOf, Cond.instanceMethod yX4_countOf, Cond.selects RX4 yX4_countOf yX4_countOf, Cond.code yX4_countOf cX4_countOf 4 (some .int), Cond.fieldLink RX4 23 "CoverpoolModel" "worth" "[I", Cond.fieldLink RX4 19 "CoverpoolModel" "amount" "[I", Cond.fieldLink RX4 32 "CoverpoolModel" "arrears" "[I", Cond.fieldLink RX4 26 "CoverpoolModel" "rank" "[I"]
def wsX4_lackOfFace_r2 : List Cond := [Cond.fieldLink RX4 7 "CoverpoolModel" "greatest" "I"]
def wsX4_lackOfFace : List Cond := .code yX4_lackOfFace cX4_lackOfFace 6 (some .long) :: ((wsX4_lackOfFace_r1 ++ wsX4_lackOfFace_r2) ++ wsX40)
def wsX4_lackOfWorth_r1 : List Cond := [Cond.fieldLink RX4 57 "CoverpoolModel" "bonds" "I", Cond.fieldLink RX4 44 "CoverpoolModel" "bondState" "[I", Cond.fieldLink RX4 38 "CoverpoolModel" "bondAmount" "[I", Cond.fieldLink RX4 41 "CoverpoolModel" "bondDue" "[I", Cond.fieldLink RX4 54 "CoverpoolModel" "loans" "I", Cond.fieldLink RX4 29 "CoverpoolModel" "due" "[I", Cond.methodLink RX4 70 yX4_beside, Cond.instanceMethod yX4_beside, Cond.selects RX4 yX4_beside yX4_beside, Cond.initialized RX4, Cond.code yX4_beside cX4_beside 2 (some .int), Cond.fieldLink RX4 64 "CoverpoolModel" "cash" "I", Cond.methodLink RX4 60 yX4_owed, Cond.instanceMethod yX4_owed, Cond.selects RX4 yX4_owed yX4_owed, Cond.code yX4_owed cX4_owed 3 (some .int), Cond.methodLink RX4 79 yX4_valued, Cond.instanceMethod yX4_valued, Cond.selects RX4 yX4_valued yX4_valued, Cond.code yX4_valued cX4_valued 5 (some .int), Cond.fieldLink RX4 67 "CoverpoolModel" "month" "I", Cond.methodLink RX4 73 yX4_countOf, Cond.instanceMethod yX4_countOf, Cond.selects RX4 yX4_countOf yX4_countOf]
def wsX4_lackOfWorth_r2 : List Cond := [Cond.code yX4_countOf cX4_countOf 4 (some .int), Cond.fieldLink RX4 23 "CoverpoolModel" "worth" "[I", Cond.fieldLink RX4 19 "CoverpoolModel" "amount" "[I", Cond.fieldLink RX4 32 "CoverpoolModel" "arrears" "[I", Cond.fieldLink RX4 26 "CoverpoolModel" "rank" "[I", Cond.fieldLink RX4 7 "CoverpoolModel" "greatest" "I"]
def wsX4_lackOfWorth : List Cond := .code yX4_lackOfWorth cX4_lackOfWorth 6 (some .long) :: ((wsX4_lackOfWorth_r1 ++ wsX4_lackOfWorth_r2) ++ wsX40)
def wsX4_lackOfMoney : List Cond := .code yX4_lackOfMoney cX4_lackOfMoney 8 (some .long) :: ([.fieldLink RX4 64 "CoverpoolModel" "cash" "I", .fieldLink RX4 57 "CoverpoolModel" "bonds" "I", .fieldLink RX4 44 "CoverpoolModel" "bondState" "[I", .fieldLink RX4 41 "CoverpoolModel" "bondDue" "[I", .fieldLink RX4 67 "CoverpoolModel" "month" "I", .fieldLink RX4 38 "CoverpoolModel" "bondAmount" "[I", .fieldLink RX4 54 "CoverpoolModel" "loans" "I", .fieldLink RX4 29 "CoverpoolModel" "due" "[I", .methodLink RX4 73 yX4_countOf, .instanceMethod yX4_countOf, .selects RX4 yX4_countOf yX4_countOf, .initialized RX4, .code yX4_countOf cX4_countOf 4 (some .int), .fieldLink RX4 23 "CoverpoolModel" "worth" "[I", .fieldLink RX4 19 "CoverpoolModel" "amount" "[I", .fieldLink RX4 32 "CoverpoolModel" "arrears" "[I", .fieldLink RX4 26 "CoverpoolModel" "rank" "[I", .fieldLink RX4 7 "CoverpoolModel" "greatest" "I"] ++ wsX40)
def wsX4_lack_r1 : List Cond := [Cond.fieldLink RX4 16 "CoverpoolModel" "stress" "I", Cond.methodLink RX4 83 yX4_lackOfFace, Cond.instanceMethod yX4_lackOfFace, Cond.selects RX4 yX4_lackOfFace yX4_lackOfFace, Cond.initialized RX4, Cond.code yX4_lackOfFace cX4_lackOfFace 6 (some .long), Cond.fieldLink RX4 54 "CoverpoolModel" "loans" "I", Cond.fieldLink RX4 13 "CoverpoolModel" "cover" "I", Cond.constantLong RX4 77 (100), Cond.methodLink RX4 70 yX4_beside, Cond.instanceMethod yX4_beside, Cond.selects RX4 yX4_beside yX4_beside, Cond.code yX4_beside cX4_beside 2 (some .int), Cond.fieldLink RX4 64 "CoverpoolModel" "cash" "I", Cond.methodLink RX4 60 yX4_owed, Cond.instanceMethod yX4_owed, Cond.selects RX4 yX4_owed yX4_owed, Cond.code yX4_owed cX4_owed 3 (some .int), Cond.fieldLink RX4 57 "CoverpoolModel" "bonds" "I", Cond.fieldLink RX4 44 "CoverpoolModel" "bondState" "[I", Cond.fieldLink RX4 38 "CoverpoolModel" "bondAmount" "[I", Cond.methodLink RX4 73 yX4_countOf, Cond.instanceMethod yX4_countOf, Cond.selects RX4 yX4_countOf yX4_countOf]
def wsX4_lack_r2 : List Cond := [Cond.code yX4_countOf cX4_countOf 4 (some .int), Cond.fieldLink RX4 23 "CoverpoolModel" "worth" "[I", Cond.fieldLink RX4 19 "CoverpoolModel" "amount" "[I", Cond.fieldLink RX4 32 "CoverpoolModel" "arrears" "[I", Cond.fieldLink RX4 26 "CoverpoolModel" "rank" "[I", Cond.fieldLink RX4 7 "CoverpoolModel" "greatest" "I", Cond.methodLink RX4 87 yX4_lackOfMoney, Cond.instanceMethod yX4_lackOfMoney, Cond.selects RX4 yX4_lackOfMoney yX4_lackOfMoney, Cond.code yX4_lackOfMoney cX4_lackOfMoney 8 (some .long), Cond.fieldLink RX4 41 "CoverpoolModel" "bondDue" "[I", Cond.fieldLink RX4 67 "CoverpoolModel" "month" "I", Cond.fieldLink RX4 29 "CoverpoolModel" "due" "[I", Cond.methodLink RX4 90 yX4_lackOfWorth, Cond.instanceMethod yX4_lackOfWorth, Cond.selects RX4 yX4_lackOfWorth yX4_lackOfWorth, Cond.code yX4_lackOfWorth cX4_lackOfWorth 6 (some .long), Cond.methodLink RX4 79 yX4_valued, Cond.instanceMethod yX4_valued, Cond.selects RX4 yX4_valued yX4_valued, Cond.code yX4_valued cX4_valued 5 (some .int)]
def wsX4_lack : List Cond := .code yX4_lack cX4_lack 7 (some .long) :: ((wsX4_lack_r1 ++ wsX4_lack_r2) ++ wsX40)
def wsX4_isSafe_r1 : List Cond := [Cond.methodLink RX4 94 yX4_lack, Cond.instanceMethod yX4_lack, Cond.selects RX4 yX4_lack yX4_lack, Cond.initialized RX4, Cond.code yX4_lack cX4_lack 7 (some .long), Cond.fieldLink RX4 16 "CoverpoolModel" "stress" "I", Cond.methodLink RX4 83 yX4_lackOfFace, Cond.instanceMethod yX4_lackOfFace, Cond.selects RX4 yX4_lackOfFace yX4_lackOfFace, Cond.code yX4_lackOfFace cX4_lackOfFace 6 (some .long), Cond.fieldLink RX4 54 "CoverpoolModel" "loans" "I", Cond.fieldLink RX4 13 "CoverpoolModel" "cover" "I", Cond.constantLong RX4 77 (100), Cond.methodLink RX4 70 yX4_beside, Cond.instanceMethod yX4_beside, Cond.selects RX4 yX4_beside yX4_beside, Cond.code yX4_beside cX4_beside 2 (some .int), Cond.fieldLink RX4 64 "CoverpoolModel" "cash" "I", Cond.methodLink RX4 60 yX4_owed, Cond.instanceMethod yX4_owed, Cond.selects RX4 yX4_owed yX4_owed, Cond.code yX4_owed cX4_owed 3 (some .int), Cond.fieldLink RX4 57 "CoverpoolModel" "bonds" "I", Cond.fieldLink RX4 44 "CoverpoolModel" "bondState" "[I"]
def wsX4_isSafe_r2 : List Cond := [Cond.fieldLink RX4 38 "CoverpoolModel" "bondAmount" "[I", Cond.methodLink RX4 73 yX4_countOf, Cond.instanceMethod yX4_countOf, Cond.selects RX4 yX4_countOf yX4_countOf, Cond.code yX4_countOf cX4_countOf 4 (some .int), Cond.fieldLink RX4 23 "CoverpoolModel" "worth" "[I", Cond.fieldLink RX4 19 "CoverpoolModel" "amount" "[I", Cond.fieldLink RX4 32 "CoverpoolModel" "arrears" "[I", Cond.fieldLink RX4 26 "CoverpoolModel" "rank" "[I", Cond.fieldLink RX4 7 "CoverpoolModel" "greatest" "I", Cond.methodLink RX4 87 yX4_lackOfMoney, Cond.instanceMethod yX4_lackOfMoney, Cond.selects RX4 yX4_lackOfMoney yX4_lackOfMoney, Cond.code yX4_lackOfMoney cX4_lackOfMoney 8 (some .long), Cond.fieldLink RX4 41 "CoverpoolModel" "bondDue" "[I", Cond.fieldLink RX4 67 "CoverpoolModel" "month" "I", Cond.fieldLink RX4 29 "CoverpoolModel" "due" "[I", Cond.methodLink RX4 90 yX4_lackOfWorth, Cond.instanceMethod yX4_lackOfWorth, Cond.selects RX4 yX4_lackOfWorth yX4_lackOfWorth, Cond.code yX4_lackOfWorth cX4_lackOfWorth 6 (some .long), Cond.methodLink RX4 79 yX4_valued, Cond.instanceMethod yX4_valued, Cond.selects RX4 yX4_valued yX4_valued]
def wsX4_isSafe_r3 : List Cond := [Cond.code yX4_valued cX4_valued 5 (some .int)]
def wsX4_isSafe : List Cond := .code yX4_isSafe cX4_isSafe 2 (some .boolean) :: ((wsX4_isSafe_r1 ++ (wsX4_isSafe_r2 ++ wsX4_isSafe_r3)) ++ wsX40)
def wsX4_addLoan : List Cond := .code yX4_addLoan cX4_addLoan 6 (some .int) :: ([.fieldLink RX4 67 "CoverpoolModel" "month" "I", .fieldLink RX4 54 "CoverpoolModel" "loans" "I", .fieldLink RX4 19 "CoverpoolModel" "amount" "[I", .fieldLink RX4 23 "CoverpoolModel" "worth" "[I", .fieldLink RX4 26 "CoverpoolModel" "rank" "[I", .fieldLink RX4 29 "CoverpoolModel" "due" "[I", .methodLink RX4 97 yX4_isWithin, .static yX4_isWithin, .initialized RX4, .code yX4_isWithin cX4_isWithin 3 (some .boolean), .methodLink RX4 101 yX4_goes, .instanceMethod yX4_goes, .selects RX4 yX4_goes yX4_goes, .code yX4_goes cX4_goes 4 (some .boolean), .fieldLink RX4 51 "CoverpoolModel" "thrown" "I"] ++ wsX40)
def wsX4_enter : List Cond := .code yX4_enter cX4_enter 3 (some .int) :: ([.fieldLink RX4 35 "CoverpoolModel" "state" "[I", .methodLink RX4 105 yX4_isLoan, .instanceMethod yX4_isLoan, .selects RX4 yX4_isLoan yX4_isLoan, .initialized RX4, .code yX4_isLoan cX4_isLoan 2 (some .boolean), .fieldLink RX4 54 "CoverpoolModel" "loans" "I", .methodLink RX4 101 yX4_goes, .instanceMethod yX4_goes, .selects RX4 yX4_goes yX4_goes, .code yX4_goes cX4_goes 4 (some .boolean), .fieldLink RX4 51 "CoverpoolModel" "thrown" "I", .methodLink RX4 73 yX4_countOf, .instanceMethod yX4_countOf, .selects RX4 yX4_countOf yX4_countOf, .code yX4_countOf cX4_countOf 4 (some .int), .fieldLink RX4 23 "CoverpoolModel" "worth" "[I", .fieldLink RX4 19 "CoverpoolModel" "amount" "[I", .fieldLink RX4 32 "CoverpoolModel" "arrears" "[I", .fieldLink RX4 26 "CoverpoolModel" "rank" "[I", .fieldLink RX4 7 "CoverpoolModel" "greatest" "I"] ++ wsX40)
def wsX4_leave_r1 : List Cond := [Cond.fieldLink RX4 35 "CoverpoolModel" "state" "[I", Cond.methodLink RX4 105 yX4_isLoan, Cond.instanceMethod yX4_isLoan, Cond.selects RX4 yX4_isLoan yX4_isLoan, Cond.initialized RX4, Cond.code yX4_isLoan cX4_isLoan 2 (some .boolean), Cond.fieldLink RX4 54 "CoverpoolModel" "loans" "I", Cond.methodLink RX4 101 yX4_goes, Cond.instanceMethod yX4_goes, Cond.selects RX4 yX4_goes yX4_goes, Cond.code yX4_goes cX4_goes 4 (some .boolean), Cond.fieldLink RX4 51 "CoverpoolModel" "thrown" "I", Cond.methodLink RX4 109 yX4_pool, Cond.instanceMethod yX4_pool, Cond.selects RX4 yX4_pool yX4_pool, Cond.code yX4_pool cX4_pool 3 (some .int), Cond.methodLink RX4 112 yX4_isSafe, Cond.instanceMethod yX4_isSafe, Cond.selects RX4 yX4_isSafe yX4_isSafe, Cond.code yX4_isSafe cX4_isSafe 2 (some .boolean), Cond.methodLink RX4 94 yX4_lack, Cond.instanceMethod yX4_lack, Cond.selects RX4 yX4_lack yX4_lack, Cond.code yX4_lack cX4_lack 7 (some .long)]
def wsX4_leave_r2 : List Cond := [Cond.fieldLink RX4 16 "CoverpoolModel" "stress" "I", Cond.methodLink RX4 83 yX4_lackOfFace, Cond.instanceMethod yX4_lackOfFace, Cond.selects RX4 yX4_lackOfFace yX4_lackOfFace, Cond.code yX4_lackOfFace cX4_lackOfFace 6 (some .long), Cond.fieldLink RX4 13 "CoverpoolModel" "cover" "I", Cond.constantLong RX4 77 (100), Cond.methodLink RX4 70 yX4_beside, Cond.instanceMethod yX4_beside, Cond.selects RX4 yX4_beside yX4_beside, Cond.code yX4_beside cX4_beside 2 (some .int), Cond.fieldLink RX4 64 "CoverpoolModel" "cash" "I", Cond.methodLink RX4 60 yX4_owed, Cond.instanceMethod yX4_owed, Cond.selects RX4 yX4_owed yX4_owed, Cond.code yX4_owed cX4_owed 3 (some .int), Cond.fieldLink RX4 57 "CoverpoolModel" "bonds" "I", Cond.fieldLink RX4 44 "CoverpoolModel" "bondState" "[I", Cond.fieldLink RX4 38 "CoverpoolModel" "bondAmount" "[I", Cond.methodLink RX4 73 yX4_countOf, Cond.instanceMethod yX4_countOf, Cond.selects RX4 yX4_countOf yX4_countOf, Cond.code yX4_countOf cX4_countOf 4 (some .int), Cond.fieldLink RX4 23 "CoverpoolModel" "worth" "[I"]
def wsX4_leave_r3 : List Cond := [Cond.fieldLink RX4 19 "CoverpoolModel" "amount" "[I", Cond.fieldLink RX4 32 "CoverpoolModel" "arrears" "[I", Cond.fieldLink RX4 26 "CoverpoolModel" "rank" "[I", Cond.fieldLink RX4 7 "CoverpoolModel" "greatest" "I", Cond.methodLink RX4 87 yX4_lackOfMoney, Cond.instanceMethod yX4_lackOfMoney, Cond.selects RX4 yX4_lackOfMoney yX4_lackOfMoney, Cond.code yX4_lackOfMoney cX4_lackOfMoney 8 (some .long), Cond.fieldLink RX4 41 "CoverpoolModel" "bondDue" "[I", Cond.fieldLink RX4 67 "CoverpoolModel" "month" "I", Cond.fieldLink RX4 29 "CoverpoolModel" "due" "[I", Cond.methodLink RX4 90 yX4_lackOfWorth, Cond.instanceMethod yX4_lackOfWorth, Cond.selects RX4 yX4_lackOfWorth yX4_lackOfWorth, Cond.code yX4_lackOfWorth cX4_lackOfWorth 6 (some .long), Cond.methodLink RX4 79 yX4_valued, Cond.instanceMethod yX4_valued, Cond.selects RX4 yX4_valued yX4_valued, Cond.code yX4_valued cX4_valued 5 (some .int)]
def wsX4_leave : List Cond := .code yX4_leave cX4_leave 4 (some .boolean) :: ((wsX4_leave_r1 ++ (wsX4_leave_r2 ++ wsX4_leave_r3)) ++ wsX40)
def wsX4_swap_r1 : List Cond := [Cond.fieldLink RX4 35 "CoverpoolModel" "state" "[I", Cond.methodLink RX4 105 yX4_isLoan, Cond.instanceMethod yX4_isLoan, Cond.selects RX4 yX4_isLoan yX4_isLoan, Cond.initialized RX4, Cond.code yX4_isLoan cX4_isLoan 2 (some .boolean), Cond.fieldLink RX4 54 "CoverpoolModel" "loans" "I", Cond.methodLink RX4 101 yX4_goes, Cond.instanceMethod yX4_goes, Cond.selects RX4 yX4_goes yX4_goes, Cond.code yX4_goes cX4_goes 4 (some .boolean), Cond.fieldLink RX4 51 "CoverpoolModel" "thrown" "I", Cond.methodLink RX4 109 yX4_pool, Cond.instanceMethod yX4_pool, Cond.selects RX4 yX4_pool yX4_pool, Cond.code yX4_pool cX4_pool 3 (some .int), Cond.methodLink RX4 94 yX4_lack, Cond.instanceMethod yX4_lack, Cond.selects RX4 yX4_lack yX4_lack, Cond.code yX4_lack cX4_lack 7 (some .long), Cond.fieldLink RX4 16 "CoverpoolModel" "stress" "I", Cond.methodLink RX4 83 yX4_lackOfFace, Cond.instanceMethod yX4_lackOfFace, Cond.selects RX4 yX4_lackOfFace yX4_lackOfFace]
def wsX4_swap_r2 : List Cond := [Cond.code yX4_lackOfFace cX4_lackOfFace 6 (some .long), Cond.fieldLink RX4 13 "CoverpoolModel" "cover" "I", Cond.constantLong RX4 77 (100), Cond.methodLink RX4 70 yX4_beside, Cond.instanceMethod yX4_beside, Cond.selects RX4 yX4_beside yX4_beside, Cond.code yX4_beside cX4_beside 2 (some .int), Cond.fieldLink RX4 64 "CoverpoolModel" "cash" "I", Cond.methodLink RX4 60 yX4_owed, Cond.instanceMethod yX4_owed, Cond.selects RX4 yX4_owed yX4_owed, Cond.code yX4_owed cX4_owed 3 (some .int), Cond.fieldLink RX4 57 "CoverpoolModel" "bonds" "I", Cond.fieldLink RX4 44 "CoverpoolModel" "bondState" "[I", Cond.fieldLink RX4 38 "CoverpoolModel" "bondAmount" "[I", Cond.methodLink RX4 73 yX4_countOf, Cond.instanceMethod yX4_countOf, Cond.selects RX4 yX4_countOf yX4_countOf, Cond.code yX4_countOf cX4_countOf 4 (some .int), Cond.fieldLink RX4 23 "CoverpoolModel" "worth" "[I", Cond.fieldLink RX4 19 "CoverpoolModel" "amount" "[I", Cond.fieldLink RX4 32 "CoverpoolModel" "arrears" "[I", Cond.fieldLink RX4 26 "CoverpoolModel" "rank" "[I", Cond.fieldLink RX4 7 "CoverpoolModel" "greatest" "I"]
def wsX4_swap_r3 : List Cond := [Cond.methodLink RX4 87 yX4_lackOfMoney, Cond.instanceMethod yX4_lackOfMoney, Cond.selects RX4 yX4_lackOfMoney yX4_lackOfMoney, Cond.code yX4_lackOfMoney cX4_lackOfMoney 8 (some .long), Cond.fieldLink RX4 41 "CoverpoolModel" "bondDue" "[I", Cond.fieldLink RX4 67 "CoverpoolModel" "month" "I", Cond.fieldLink RX4 29 "CoverpoolModel" "due" "[I", Cond.methodLink RX4 90 yX4_lackOfWorth, Cond.instanceMethod yX4_lackOfWorth, Cond.selects RX4 yX4_lackOfWorth yX4_lackOfWorth, Cond.code yX4_lackOfWorth cX4_lackOfWorth 6 (some .long), Cond.methodLink RX4 79 yX4_valued, Cond.instanceMethod yX4_valued, Cond.selects RX4 yX4_valued yX4_valued, Cond.code yX4_valued cX4_valued 5 (some .int)]
def wsX4_swap : List Cond := .code yX4_swap cX4_swap 8 (some .boolean) :: ((wsX4_swap_r1 ++ (wsX4_swap_r2 ++ wsX4_swap_r3)) ++ wsX40)
def wsX4_setArrears : List Cond := .code yX4_setArrears cX4_setArrears 5 (some .int) :: ([.fieldLink RX4 35 "CoverpoolModel" "state" "[I", .fieldLink RX4 32 "CoverpoolModel" "arrears" "[I", .methodLink RX4 105 yX4_isLoan, .instanceMethod yX4_isLoan, .selects RX4 yX4_isLoan yX4_isLoan, .initialized RX4, .code yX4_isLoan cX4_isLoan 2 (some .boolean), .fieldLink RX4 54 "CoverpoolModel" "loans" "I", .methodLink RX4 97 yX4_isWithin, .static yX4_isWithin, .code yX4_isWithin cX4_isWithin 3 (some .boolean), .methodLink RX4 101 yX4_goes, .instanceMethod yX4_goes, .selects RX4 yX4_goes yX4_goes, .code yX4_goes cX4_goes 4 (some .boolean), .fieldLink RX4 51 "CoverpoolModel" "thrown" "I"] ++ wsX40)
def wsX4_setWorth : List Cond := .code yX4_setWorth cX4_setWorth 4 (some .int) :: ([.fieldLink RX4 23 "CoverpoolModel" "worth" "[I", .methodLink RX4 105 yX4_isLoan, .instanceMethod yX4_isLoan, .selects RX4 yX4_isLoan yX4_isLoan, .initialized RX4, .code yX4_isLoan cX4_isLoan 2 (some .boolean), .fieldLink RX4 54 "CoverpoolModel" "loans" "I", .methodLink RX4 97 yX4_isWithin, .static yX4_isWithin, .code yX4_isWithin cX4_isWithin 3 (some .boolean), .methodLink RX4 101 yX4_goes, .instanceMethod yX4_goes, .selects RX4 yX4_goes yX4_goes, .code yX4_goes cX4_goes 4 (some .boolean), .fieldLink RX4 51 "CoverpoolModel" "thrown" "I"] ++ wsX40)
def wsX4_stateOf : List Cond := .code yX4_stateOf cX4_stateOf 2 (some .int) :: ([.fieldLink RX4 35 "CoverpoolModel" "state" "[I", .methodLink RX4 105 yX4_isLoan, .instanceMethod yX4_isLoan, .selects RX4 yX4_isLoan yX4_isLoan, .initialized RX4, .code yX4_isLoan cX4_isLoan 2 (some .boolean), .fieldLink RX4 54 "CoverpoolModel" "loans" "I", .methodLink RX4 101 yX4_goes, .instanceMethod yX4_goes, .selects RX4 yX4_goes yX4_goes, .code yX4_goes cX4_goes 4 (some .boolean), .fieldLink RX4 51 "CoverpoolModel" "thrown" "I"] ++ wsX40)
def wsX4_counts : List Cond := .code yX4_counts cX4_counts 2 (some .int) :: ([.methodLink RX4 105 yX4_isLoan, .instanceMethod yX4_isLoan, .selects RX4 yX4_isLoan yX4_isLoan, .initialized RX4, .code yX4_isLoan cX4_isLoan 2 (some .boolean), .fieldLink RX4 54 "CoverpoolModel" "loans" "I", .methodLink RX4 101 yX4_goes, .instanceMethod yX4_goes, .selects RX4 yX4_goes yX4_goes, .code yX4_goes cX4_goes 4 (some .boolean), .fieldLink RX4 51 "CoverpoolModel" "thrown" "I", .methodLink RX4 73 yX4_countOf, .instanceMethod yX4_countOf, .selects RX4 yX4_countOf yX4_countOf, .code yX4_countOf cX4_countOf 4 (some .int), .fieldLink RX4 23 "CoverpoolModel" "worth" "[I", .fieldLink RX4 19 "CoverpoolModel" "amount" "[I", .fieldLink RX4 32 "CoverpoolModel" "arrears" "[I", .fieldLink RX4 26 "CoverpoolModel" "rank" "[I", .fieldLink RX4 7 "CoverpoolModel" "greatest" "I"] ++ wsX40)
def wsX4_addBond : List Cond := .code yX4_addBond cX4_addBond 3 (some .int) :: ([.constant RX4 115 (50000), .fieldLink RX4 67 "CoverpoolModel" "month" "I", .fieldLink RX4 57 "CoverpoolModel" "bonds" "I", .fieldLink RX4 38 "CoverpoolModel" "bondAmount" "[I", .fieldLink RX4 41 "CoverpoolModel" "bondDue" "[I", .fieldLink RX4 64 "CoverpoolModel" "cash" "I", .methodLink RX4 97 yX4_isWithin, .static yX4_isWithin, .initialized RX4, .code yX4_isWithin cX4_isWithin 3 (some .boolean), .methodLink RX4 101 yX4_goes, .instanceMethod yX4_goes, .selects RX4 yX4_goes yX4_goes, .code yX4_goes cX4_goes 4 (some .boolean), .fieldLink RX4 51 "CoverpoolModel" "thrown" "I"] ++ wsX40)
def wsX4_takeCash : List Cond := .code yX4_takeCash cX4_takeCash 2 (some .int) :: ([.constant RX4 116 (100000), .fieldLink RX4 64 "CoverpoolModel" "cash" "I", .methodLink RX4 97 yX4_isWithin, .static yX4_isWithin, .initialized RX4, .code yX4_isWithin cX4_isWithin 3 (some .boolean), .methodLink RX4 101 yX4_goes, .instanceMethod yX4_goes, .selects RX4 yX4_goes yX4_goes, .code yX4_goes cX4_goes 4 (some .boolean), .fieldLink RX4 51 "CoverpoolModel" "thrown" "I"] ++ wsX40)
def wsX4_setRules : List Cond := .code yX4_setRules cX4_setRules 4 none :: ([.fieldLink RX4 7 "CoverpoolModel" "greatest" "I", .fieldLink RX4 13 "CoverpoolModel" "cover" "I", .fieldLink RX4 16 "CoverpoolModel" "stress" "I", .methodLink RX4 97 yX4_isWithin, .static yX4_isWithin, .initialized RX4, .code yX4_isWithin cX4_isWithin 3 (some .boolean), .methodLink RX4 101 yX4_goes, .instanceMethod yX4_goes, .selects RX4 yX4_goes yX4_goes, .code yX4_goes cX4_goes 4 (some .boolean), .fieldLink RX4 51 "CoverpoolModel" "thrown" "I"] ++ wsX40)
def wsX4_bondState : List Cond := .code yX4_bondState cX4_bondState 2 (some .int) :: ([.fieldLink RX4 44 "CoverpoolModel" "bondState" "[I", .methodLink RX4 117 yX4_isBond, .instanceMethod yX4_isBond, .selects RX4 yX4_isBond yX4_isBond, .initialized RX4, .code yX4_isBond cX4_isBond 2 (some .boolean), .fieldLink RX4 57 "CoverpoolModel" "bonds" "I", .methodLink RX4 101 yX4_goes, .instanceMethod yX4_goes, .selects RX4 yX4_goes yX4_goes, .code yX4_goes cX4_goes 4 (some .boolean), .fieldLink RX4 51 "CoverpoolModel" "thrown" "I"] ++ wsX40)
def wsX4_dueOf : List Cond := .code yX4_dueOf cX4_dueOf 2 (some .int) :: ([.fieldLink RX4 41 "CoverpoolModel" "bondDue" "[I", .methodLink RX4 117 yX4_isBond, .instanceMethod yX4_isBond, .selects RX4 yX4_isBond yX4_isBond, .initialized RX4, .code yX4_isBond cX4_isBond 2 (some .boolean), .fieldLink RX4 57 "CoverpoolModel" "bonds" "I", .methodLink RX4 101 yX4_goes, .instanceMethod yX4_goes, .selects RX4 yX4_goes yX4_goes, .code yX4_goes cX4_goes 4 (some .boolean), .fieldLink RX4 51 "CoverpoolModel" "thrown" "I"] ++ wsX40)
def wsX4_cash : List Cond := .code yX4_cash cX4_cash 1 (some .int) :: ([.fieldLink RX4 51 "CoverpoolModel" "thrown" "I", .fieldLink RX4 64 "CoverpoolModel" "cash" "I"] ++ wsX40)
def wsX4_debt : List Cond := .code yX4_debt cX4_debt 1 (some .int) :: ([.fieldLink RX4 51 "CoverpoolModel" "thrown" "I", .methodLink RX4 60 yX4_owed, .instanceMethod yX4_owed, .selects RX4 yX4_owed yX4_owed, .initialized RX4, .code yX4_owed cX4_owed 3 (some .int), .fieldLink RX4 57 "CoverpoolModel" "bonds" "I", .fieldLink RX4 44 "CoverpoolModel" "bondState" "[I", .fieldLink RX4 38 "CoverpoolModel" "bondAmount" "[I"] ++ wsX40)
def wsX4_substitutes : List Cond := .code yX4_substitutes cX4_substitutes 1 (some .int) :: ([.fieldLink RX4 51 "CoverpoolModel" "thrown" "I", .methodLink RX4 70 yX4_beside, .instanceMethod yX4_beside, .selects RX4 yX4_beside yX4_beside, .initialized RX4, .code yX4_beside cX4_beside 2 (some .int), .fieldLink RX4 64 "CoverpoolModel" "cash" "I", .methodLink RX4 60 yX4_owed, .instanceMethod yX4_owed, .selects RX4 yX4_owed yX4_owed, .code yX4_owed cX4_owed 3 (some .int), .fieldLink RX4 57 "CoverpoolModel" "bonds" "I", .fieldLink RX4 44 "CoverpoolModel" "bondState" "[I", .fieldLink RX4 38 "CoverpoolModel" "bondAmount" "[I"] ++ wsX40)
def wsX4_lives : List Cond := .code yX4_lives cX4_lives 2 none :: ([.fieldLink RX4 67 "CoverpoolModel" "month" "I", .fieldLink RX4 54 "CoverpoolModel" "loans" "I", .fieldLink RX4 35 "CoverpoolModel" "state" "[I", .fieldLink RX4 29 "CoverpoolModel" "due" "[I", .fieldLink RX4 32 "CoverpoolModel" "arrears" "[I", .fieldLink RX4 64 "CoverpoolModel" "cash" "I", .fieldLink RX4 19 "CoverpoolModel" "amount" "[I", .fieldLink RX4 57 "CoverpoolModel" "bonds" "I", .fieldLink RX4 44 "CoverpoolModel" "bondState" "[I", .fieldLink RX4 41 "CoverpoolModel" "bondDue" "[I", .fieldLink RX4 38 "CoverpoolModel" "bondAmount" "[I", .fieldLink RX4 47 "CoverpoolModel" "isPutOff" "[Z"] ++ wsX40)
def wsX4_pass_r1 : List Cond := [Cond.fieldLink RX4 67 "CoverpoolModel" "month" "I", Cond.methodLink RX4 97 yX4_isWithin, Cond.static yX4_isWithin, Cond.initialized RX4, Cond.code yX4_isWithin cX4_isWithin 3 (some .boolean), Cond.methodLink RX4 101 yX4_goes, Cond.instanceMethod yX4_goes, Cond.selects RX4 yX4_goes yX4_goes, Cond.code yX4_goes cX4_goes 4 (some .boolean), Cond.fieldLink RX4 51 "CoverpoolModel" "thrown" "I", Cond.methodLink RX4 120 yX4_lives, Cond.instanceMethod yX4_lives, Cond.selects RX4 yX4_lives yX4_lives, Cond.code yX4_lives cX4_lives 2 none, Cond.fieldLink RX4 54 "CoverpoolModel" "loans" "I", Cond.fieldLink RX4 35 "CoverpoolModel" "state" "[I", Cond.fieldLink RX4 29 "CoverpoolModel" "due" "[I", Cond.fieldLink RX4 32 "CoverpoolModel" "arrears" "[I", Cond.fieldLink RX4 64 "CoverpoolModel" "cash" "I", Cond.fieldLink RX4 19 "CoverpoolModel" "amount" "[I", Cond.fieldLink RX4 57 "CoverpoolModel" "bonds" "I", Cond.fieldLink RX4 44 "CoverpoolModel" "bondState" "[I", Cond.fieldLink RX4 41 "CoverpoolModel" "bondDue" "[I", Cond.fieldLink RX4 38 "CoverpoolModel" "bondAmount" "[I"]
def wsX4_pass_r2 : List Cond := [Cond.fieldLink RX4 47 "CoverpoolModel" "isPutOff" "[Z"]
def wsX4_pass : List Cond := .code yX4_pass cX4_pass 3 (some .int) :: ((wsX4_pass_r1 ++ wsX4_pass_r2) ++ wsX40)
def wsX4_holds_r1 : List Cond := [Cond.methodLink RX4 97 yX4_isWithin, Cond.static yX4_isWithin, Cond.initialized RX4, Cond.code yX4_isWithin cX4_isWithin 3 (some .boolean), Cond.methodLink RX4 101 yX4_goes, Cond.instanceMethod yX4_goes, Cond.selects RX4 yX4_goes yX4_goes, Cond.code yX4_goes cX4_goes 4 (some .boolean), Cond.fieldLink RX4 51 "CoverpoolModel" "thrown" "I", Cond.methodLink RX4 109 yX4_pool, Cond.instanceMethod yX4_pool, Cond.selects RX4 yX4_pool yX4_pool, Cond.code yX4_pool cX4_pool 3 (some .int), Cond.fieldLink RX4 54 "CoverpoolModel" "loans" "I", Cond.fieldLink RX4 35 "CoverpoolModel" "state" "[I", Cond.methodLink RX4 94 yX4_lack, Cond.instanceMethod yX4_lack, Cond.selects RX4 yX4_lack yX4_lack, Cond.code yX4_lack cX4_lack 7 (some .long), Cond.fieldLink RX4 16 "CoverpoolModel" "stress" "I", Cond.methodLink RX4 83 yX4_lackOfFace, Cond.instanceMethod yX4_lackOfFace, Cond.selects RX4 yX4_lackOfFace yX4_lackOfFace, Cond.code yX4_lackOfFace cX4_lackOfFace 6 (some .long)]
def wsX4_holds_r2 : List Cond := [Cond.fieldLink RX4 13 "CoverpoolModel" "cover" "I", Cond.constantLong RX4 77 (100), Cond.methodLink RX4 70 yX4_beside, Cond.instanceMethod yX4_beside, Cond.selects RX4 yX4_beside yX4_beside, Cond.code yX4_beside cX4_beside 2 (some .int), Cond.fieldLink RX4 64 "CoverpoolModel" "cash" "I", Cond.methodLink RX4 60 yX4_owed, Cond.instanceMethod yX4_owed, Cond.selects RX4 yX4_owed yX4_owed, Cond.code yX4_owed cX4_owed 3 (some .int), Cond.fieldLink RX4 57 "CoverpoolModel" "bonds" "I", Cond.fieldLink RX4 44 "CoverpoolModel" "bondState" "[I", Cond.fieldLink RX4 38 "CoverpoolModel" "bondAmount" "[I", Cond.methodLink RX4 73 yX4_countOf, Cond.instanceMethod yX4_countOf, Cond.selects RX4 yX4_countOf yX4_countOf, Cond.code yX4_countOf cX4_countOf 4 (some .int), Cond.fieldLink RX4 23 "CoverpoolModel" "worth" "[I", Cond.fieldLink RX4 19 "CoverpoolModel" "amount" "[I", Cond.fieldLink RX4 32 "CoverpoolModel" "arrears" "[I", Cond.fieldLink RX4 26 "CoverpoolModel" "rank" "[I", Cond.fieldLink RX4 7 "CoverpoolModel" "greatest" "I", Cond.methodLink RX4 87 yX4_lackOfMoney]
def wsX4_holds_r3 : List Cond := [Cond.instanceMethod yX4_lackOfMoney, Cond.selects RX4 yX4_lackOfMoney yX4_lackOfMoney, Cond.code yX4_lackOfMoney cX4_lackOfMoney 8 (some .long), Cond.fieldLink RX4 41 "CoverpoolModel" "bondDue" "[I", Cond.fieldLink RX4 67 "CoverpoolModel" "month" "I", Cond.fieldLink RX4 29 "CoverpoolModel" "due" "[I", Cond.methodLink RX4 90 yX4_lackOfWorth, Cond.instanceMethod yX4_lackOfWorth, Cond.selects RX4 yX4_lackOfWorth yX4_lackOfWorth, Cond.code yX4_lackOfWorth cX4_lackOfWorth 6 (some .long), Cond.methodLink RX4 79 yX4_valued, Cond.instanceMethod yX4_valued, Cond.selects RX4 yX4_valued yX4_valued, Cond.code yX4_valued cX4_valued 5 (some .int)]
def wsX4_holds : List Cond := .code yX4_holds cX4_holds 2 (some .boolean) :: ((wsX4_holds_r1 ++ (wsX4_holds_r2 ++ wsX4_holds_r3)) ++ wsX40)
def wsX4_lacking_r1 : List Cond := [Cond.methodLink RX4 97 yX4_isWithin, Cond.static yX4_isWithin, Cond.initialized RX4, Cond.code yX4_isWithin cX4_isWithin 3 (some .boolean), Cond.methodLink RX4 101 yX4_goes, Cond.instanceMethod yX4_goes, Cond.selects RX4 yX4_goes yX4_goes, Cond.code yX4_goes cX4_goes 4 (some .boolean), Cond.fieldLink RX4 51 "CoverpoolModel" "thrown" "I", Cond.methodLink RX4 109 yX4_pool, Cond.instanceMethod yX4_pool, Cond.selects RX4 yX4_pool yX4_pool, Cond.code yX4_pool cX4_pool 3 (some .int), Cond.fieldLink RX4 54 "CoverpoolModel" "loans" "I", Cond.fieldLink RX4 35 "CoverpoolModel" "state" "[I", Cond.methodLink RX4 94 yX4_lack, Cond.instanceMethod yX4_lack, Cond.selects RX4 yX4_lack yX4_lack, Cond.code yX4_lack cX4_lack 7 (some .long), Cond.fieldLink RX4 16 "CoverpoolModel" "stress" "I", Cond.methodLink RX4 83 yX4_lackOfFace, Cond.instanceMethod yX4_lackOfFace, Cond.selects RX4 yX4_lackOfFace yX4_lackOfFace, Cond.code yX4_lackOfFace cX4_lackOfFace 6 (some .long)]
def wsX4_lacking_r2 : List Cond := [Cond.fieldLink RX4 13 "CoverpoolModel" "cover" "I", Cond.constantLong RX4 77 (100), Cond.methodLink RX4 70 yX4_beside, Cond.instanceMethod yX4_beside, Cond.selects RX4 yX4_beside yX4_beside, Cond.code yX4_beside cX4_beside 2 (some .int), Cond.fieldLink RX4 64 "CoverpoolModel" "cash" "I", Cond.methodLink RX4 60 yX4_owed, Cond.instanceMethod yX4_owed, Cond.selects RX4 yX4_owed yX4_owed, Cond.code yX4_owed cX4_owed 3 (some .int), Cond.fieldLink RX4 57 "CoverpoolModel" "bonds" "I", Cond.fieldLink RX4 44 "CoverpoolModel" "bondState" "[I", Cond.fieldLink RX4 38 "CoverpoolModel" "bondAmount" "[I", Cond.methodLink RX4 73 yX4_countOf, Cond.instanceMethod yX4_countOf, Cond.selects RX4 yX4_countOf yX4_countOf, Cond.code yX4_countOf cX4_countOf 4 (some .int), Cond.fieldLink RX4 23 "CoverpoolModel" "worth" "[I", Cond.fieldLink RX4 19 "CoverpoolModel" "amount" "[I", Cond.fieldLink RX4 32 "CoverpoolModel" "arrears" "[I", Cond.fieldLink RX4 26 "CoverpoolModel" "rank" "[I", Cond.fieldLink RX4 7 "CoverpoolModel" "greatest" "I", Cond.methodLink RX4 87 yX4_lackOfMoney]
def wsX4_lacking_r3 : List Cond := [Cond.instanceMethod yX4_lackOfMoney, Cond.selects RX4 yX4_lackOfMoney yX4_lackOfMoney, Cond.code yX4_lackOfMoney cX4_lackOfMoney 8 (some .long), Cond.fieldLink RX4 41 "CoverpoolModel" "bondDue" "[I", Cond.fieldLink RX4 67 "CoverpoolModel" "month" "I", Cond.fieldLink RX4 29 "CoverpoolModel" "due" "[I", Cond.methodLink RX4 90 yX4_lackOfWorth, Cond.instanceMethod yX4_lackOfWorth, Cond.selects RX4 yX4_lackOfWorth yX4_lackOfWorth, Cond.code yX4_lackOfWorth cX4_lackOfWorth 6 (some .long), Cond.methodLink RX4 79 yX4_valued, Cond.instanceMethod yX4_valued, Cond.selects RX4 yX4_valued yX4_valued, Cond.code yX4_valued cX4_valued 5 (some .int)]
def wsX4_lacking : List Cond := .code yX4_lacking cX4_lacking 2 (some .long) :: ((wsX4_lacking_r1 ++ (wsX4_lacking_r2 ++ wsX4_lacking_r3)) ++ wsX40)
def wsX4_size : List Cond := .code yX4_size cX4_size 3 (some .int) :: ([])
def wsX4_leastToAdd_r1 : List Cond := [Cond.fieldLink RX4 51 "CoverpoolModel" "thrown" "I", Cond.fieldLink RX4 54 "CoverpoolModel" "loans" "I", Cond.fieldLink RX4 35 "CoverpoolModel" "state" "[I", Cond.methodLink RX4 109 yX4_pool, Cond.instanceMethod yX4_pool, Cond.selects RX4 yX4_pool yX4_pool, Cond.initialized RX4, Cond.code yX4_pool cX4_pool 3 (some .int), Cond.methodLink RX4 123 yX4_size, Cond.static yX4_size, Cond.code yX4_size cX4_size 3 (some .int), Cond.methodLink RX4 112 yX4_isSafe, Cond.instanceMethod yX4_isSafe, Cond.selects RX4 yX4_isSafe yX4_isSafe, Cond.code yX4_isSafe cX4_isSafe 2 (some .boolean), Cond.methodLink RX4 94 yX4_lack, Cond.instanceMethod yX4_lack, Cond.selects RX4 yX4_lack yX4_lack, Cond.code yX4_lack cX4_lack 7 (some .long), Cond.fieldLink RX4 16 "CoverpoolModel" "stress" "I", Cond.methodLink RX4 83 yX4_lackOfFace, Cond.instanceMethod yX4_lackOfFace, Cond.selects RX4 yX4_lackOfFace yX4_lackOfFace, Cond.code yX4_lackOfFace cX4_lackOfFace 6 (some .long)]
def wsX4_leastToAdd_r2 : List Cond := [Cond.fieldLink RX4 13 "CoverpoolModel" "cover" "I", Cond.constantLong RX4 77 (100), Cond.methodLink RX4 70 yX4_beside, Cond.instanceMethod yX4_beside, Cond.selects RX4 yX4_beside yX4_beside, Cond.code yX4_beside cX4_beside 2 (some .int), Cond.fieldLink RX4 64 "CoverpoolModel" "cash" "I", Cond.methodLink RX4 60 yX4_owed, Cond.instanceMethod yX4_owed, Cond.selects RX4 yX4_owed yX4_owed, Cond.code yX4_owed cX4_owed 3 (some .int), Cond.fieldLink RX4 57 "CoverpoolModel" "bonds" "I", Cond.fieldLink RX4 44 "CoverpoolModel" "bondState" "[I", Cond.fieldLink RX4 38 "CoverpoolModel" "bondAmount" "[I", Cond.methodLink RX4 73 yX4_countOf, Cond.instanceMethod yX4_countOf, Cond.selects RX4 yX4_countOf yX4_countOf, Cond.code yX4_countOf cX4_countOf 4 (some .int), Cond.fieldLink RX4 23 "CoverpoolModel" "worth" "[I", Cond.fieldLink RX4 19 "CoverpoolModel" "amount" "[I", Cond.fieldLink RX4 32 "CoverpoolModel" "arrears" "[I", Cond.fieldLink RX4 26 "CoverpoolModel" "rank" "[I", Cond.fieldLink RX4 7 "CoverpoolModel" "greatest" "I", Cond.methodLink RX4 87 yX4_lackOfMoney]
def wsX4_leastToAdd_r3 : List Cond := [Cond.instanceMethod yX4_lackOfMoney, Cond.selects RX4 yX4_lackOfMoney yX4_lackOfMoney, Cond.code yX4_lackOfMoney cX4_lackOfMoney 8 (some .long), Cond.fieldLink RX4 41 "CoverpoolModel" "bondDue" "[I", Cond.fieldLink RX4 67 "CoverpoolModel" "month" "I", Cond.fieldLink RX4 29 "CoverpoolModel" "due" "[I", Cond.methodLink RX4 90 yX4_lackOfWorth, Cond.instanceMethod yX4_lackOfWorth, Cond.selects RX4 yX4_lackOfWorth yX4_lackOfWorth, Cond.code yX4_lackOfWorth cX4_lackOfWorth 6 (some .long), Cond.methodLink RX4 79 yX4_valued, Cond.instanceMethod yX4_valued, Cond.selects RX4 yX4_valued yX4_valued, Cond.code yX4_valued cX4_valued 5 (some .int)]
def wsX4_leastToAdd : List Cond := .code yX4_leastToAdd cX4_leastToAdd 5 (some .int) :: ((wsX4_leastToAdd_r1 ++ (wsX4_leastToAdd_r2 ++ wsX4_leastToAdd_r3)) ++ wsX40)
def wsX4_leastToAddByAll_r1 : List Cond := [Cond.methodLink RX4 126 yX4_leastToAdd, Cond.instanceMethod yX4_leastToAdd, Cond.selects RX4 yX4_leastToAdd yX4_leastToAdd, Cond.initialized RX4, Cond.code yX4_leastToAdd cX4_leastToAdd 5 (some .int), Cond.fieldLink RX4 51 "CoverpoolModel" "thrown" "I", Cond.fieldLink RX4 54 "CoverpoolModel" "loans" "I", Cond.fieldLink RX4 35 "CoverpoolModel" "state" "[I", Cond.methodLink RX4 109 yX4_pool, Cond.instanceMethod yX4_pool, Cond.selects RX4 yX4_pool yX4_pool, Cond.code yX4_pool cX4_pool 3 (some .int), Cond.methodLink RX4 123 yX4_size, Cond.static yX4_size, Cond.code yX4_size cX4_size 3 (some .int), Cond.methodLink RX4 112 yX4_isSafe, Cond.instanceMethod yX4_isSafe, Cond.selects RX4 yX4_isSafe yX4_isSafe, Cond.code yX4_isSafe cX4_isSafe 2 (some .boolean), Cond.methodLink RX4 94 yX4_lack, Cond.instanceMethod yX4_lack, Cond.selects RX4 yX4_lack yX4_lack, Cond.code yX4_lack cX4_lack 7 (some .long), Cond.fieldLink RX4 16 "CoverpoolModel" "stress" "I"]
def wsX4_leastToAddByAll_r2 : List Cond := [Cond.methodLink RX4 83 yX4_lackOfFace, Cond.instanceMethod yX4_lackOfFace, Cond.selects RX4 yX4_lackOfFace yX4_lackOfFace, Cond.code yX4_lackOfFace cX4_lackOfFace 6 (some .long), Cond.fieldLink RX4 13 "CoverpoolModel" "cover" "I", Cond.constantLong RX4 77 (100), Cond.methodLink RX4 70 yX4_beside, Cond.instanceMethod yX4_beside, Cond.selects RX4 yX4_beside yX4_beside, Cond.code yX4_beside cX4_beside 2 (some .int), Cond.fieldLink RX4 64 "CoverpoolModel" "cash" "I", Cond.methodLink RX4 60 yX4_owed, Cond.instanceMethod yX4_owed, Cond.selects RX4 yX4_owed yX4_owed, Cond.code yX4_owed cX4_owed 3 (some .int), Cond.fieldLink RX4 57 "CoverpoolModel" "bonds" "I", Cond.fieldLink RX4 44 "CoverpoolModel" "bondState" "[I", Cond.fieldLink RX4 38 "CoverpoolModel" "bondAmount" "[I", Cond.methodLink RX4 73 yX4_countOf, Cond.instanceMethod yX4_countOf, Cond.selects RX4 yX4_countOf yX4_countOf, Cond.code yX4_countOf cX4_countOf 4 (some .int), Cond.fieldLink RX4 23 "CoverpoolModel" "worth" "[I", Cond.fieldLink RX4 19 "CoverpoolModel" "amount" "[I"]
def wsX4_leastToAddByAll_r3 : List Cond := [Cond.fieldLink RX4 32 "CoverpoolModel" "arrears" "[I", Cond.fieldLink RX4 26 "CoverpoolModel" "rank" "[I", Cond.fieldLink RX4 7 "CoverpoolModel" "greatest" "I", Cond.methodLink RX4 87 yX4_lackOfMoney, Cond.instanceMethod yX4_lackOfMoney, Cond.selects RX4 yX4_lackOfMoney yX4_lackOfMoney, Cond.code yX4_lackOfMoney cX4_lackOfMoney 8 (some .long), Cond.fieldLink RX4 41 "CoverpoolModel" "bondDue" "[I", Cond.fieldLink RX4 67 "CoverpoolModel" "month" "I", Cond.fieldLink RX4 29 "CoverpoolModel" "due" "[I", Cond.methodLink RX4 90 yX4_lackOfWorth, Cond.instanceMethod yX4_lackOfWorth, Cond.selects RX4 yX4_lackOfWorth yX4_lackOfWorth, Cond.code yX4_lackOfWorth cX4_lackOfWorth 6 (some .long), Cond.methodLink RX4 79 yX4_valued, Cond.instanceMethod yX4_valued, Cond.selects RX4 yX4_valued yX4_valued, Cond.code yX4_valued cX4_valued 5 (some .int)]
def wsX4_leastToAddByAll : List Cond := .code yX4_leastToAddByAll cX4_leastToAddByAll 1 (some .int) :: ((wsX4_leastToAddByAll_r1 ++ (wsX4_leastToAddByAll_r2 ++ wsX4_leastToAddByAll_r3)) ++ wsX40)
def wsJ9_max_7cf53 : List Cond := .code yJ9_max_7cf53 cJ9_max_7cf53 2 (some .int) :: ([])
def wsJ9_min_7cf53 : List Cond := .code yJ9_min_7cf53 cJ9_min_7cf53 2 (some .int) :: ([])
def wsL_addLoan_r1 : List Cond := [Cond.classLink RL 13 "java/lang/IllegalArgumentException", Cond.classLink RL 15 "java/lang/IllegalStateException", Cond.methodLink RL 7 yX3_addLoan, Cond.instanceMethod yX3_addLoan, Cond.selects RX3 yX3_addLoan yX3_addLoan, Cond.initialized RX3, Cond.code yX3_addLoan cX3_addLoan 5 (some .int), Cond.classLink RX3 54 "java/lang/IllegalStateException", Cond.initialized "java/lang/IllegalStateException", Cond.fieldLink RX3 10 "Coverpool" "loans" "Ljava/util/ArrayList;", Cond.classLink RX3 61 RX1, Cond.instantiable RX1 6, Cond.initialized RX1, Cond.methodLink RX3 42 yX3_requireWithin, Cond.static yX3_requireWithin, Cond.code yX3_requireWithin cX3_requireWithin 3 none, Cond.classLink RX3 160 "java/lang/IllegalArgumentException", Cond.initialized "java/lang/IllegalArgumentException", Cond.methodLink RX3 46 yX3_requireDueAhead, Cond.instanceMethod yX3_requireDueAhead, Cond.selects RX3 yX3_requireDueAhead yX3_requireDueAhead, Cond.code yX3_requireDueAhead cX3_requireDueAhead 2 none, Cond.fieldLink RX3 26 "Coverpool" "month" "I", Cond.methodLink RX3 50 yJx4a65c_size_8abf5]
def wsL_addLoan_r2 : List Cond := [Cond.instanceMethod yJx4a65c_size_8abf5, Cond.selects RJx4a65c yJx4a65c_size_8abf5 yJx4a65c_size_8abf5, Cond.initialized RJx4a65c, Cond.code yJx4a65c_size_8abf5 cJx4a65c_size_8abf5 1 (some .int), Cond.fieldLink RJx4a65c 48 "java/util/ArrayList" "size" "I", Cond.methodLink RX3 63 yX1_init, Cond.instanceMethod yX1_init, Cond.code yX1_init cX1_init 5 none, Cond.methodLink RX1 3 objectInit, Cond.instanceMethod objectInit, Cond.code objectInit ⟨#[0xb1]⟩ 1 none, Cond.fieldLink RX1 9 "Coverpool$Loan" "arrears" "I", Cond.fieldLink RX1 15 "Coverpool$Loan" "state" "I", Cond.fieldLink RX1 18 "Coverpool$Loan" "amount" "I", Cond.fieldLink RX1 21 "Coverpool$Loan" "worth" "I", Cond.fieldLink RX1 24 "Coverpool$Loan" "rank" "I", Cond.fieldLink RX1 27 "Coverpool$Loan" "due" "I", Cond.methodLink RX3 66 yJx4a65c_add_9ea2d, Cond.instanceMethod yJx4a65c_add_9ea2d, Cond.selects RJx4a65c yJx4a65c_add_9ea2d yJx4a65c_add_9ea2d, Cond.code yJx4a65c_add_9ea2d cJx4a65c_add_9ea2d 2 (some .boolean), Cond.fieldLink RJx4a65c 63 "java/util/ArrayList" "modCount" "I", Cond.sameField "java/util/ArrayList" "java/util/AbstractList" "modCount" "I", Cond.fieldLink RJx4a65c 9 "java/util/ArrayList" "elementData" "[Ljava/lang/Object;"]
def wsL_addLoan_r3 : List Cond := [Cond.methodLink RJx4a65c 131 yJx4a65c_add_72be8, Cond.instanceMethod yJx4a65c_add_72be8, Cond.selects RJx4a65c yJx4a65c_add_72be8 yJx4a65c_add_72be8, Cond.code yJx4a65c_add_72be8 cJx4a65c_add_72be8 4 none, Cond.methodLink RJx4a65c 129 yJx4a65c_grow_d5877, Cond.instanceMethod yJx4a65c_grow_d5877, Cond.selects RJx4a65c yJx4a65c_grow_d5877 yJx4a65c_grow_d5877, Cond.code yJx4a65c_grow_d5877 cJx4a65c_grow_d5877 1 (some (.array (.object "java/lang/Object"))), Cond.methodLink RJx4a65c 69 yJx4a65c_grow_92f84, Cond.instanceMethod yJx4a65c_grow_92f84, Cond.selects RJx4a65c yJx4a65c_grow_92f84 yJx4a65c_grow_92f84, Cond.code yJx4a65c_grow_92f84 cJx4a65c_grow_92f84 4 (some (.array (.object "java/lang/Object"))), Cond.fieldLink RJx4a65c 39 "java/util/ArrayList" "DEFAULTCAPACITY_EMPTY_ELEMENTDATA" "[Ljava/lang/Object;", Cond.methodLink RJx4a65c 79 Lib.Math.max.name, Cond.static Lib.Math.max.name, Cond.initialized "java/lang/Math", Cond.code Lib.Math.max.name Lib.Math.max.code 2 (some .int), Cond.classLink RJx4a65c 7 "java/lang/Object", Cond.methodLink RJx4a65c 73 yJ8_newLength_cabcc, Cond.static yJ8_newLength_cabcc, Cond.initialized RJ8, Cond.code yJ8_newLength_cabcc cJ8_newLength_cabcc 4 (some .int), Cond.methodLink RJ8 194 Lib.Math.max.name, Cond.constant RJ8 200 (2147483639)]
def wsL_addLoan_r4 : List Cond := [Cond.methodLink RJ8 201 yJ8_hugeLength_7cf53, Cond.static yJ8_hugeLength_7cf53, Cond.code yJ8_hugeLength_7cf53 cJ8_hugeLength_7cf53 3 (some .int), Cond.methodLink RJx4a65c 66 yJ7_copyOf_1904c, Cond.static yJ7_copyOf_1904c, Cond.initialized RJ7, Cond.code yJ7_copyOf_1904c cJ7_copyOf_1904c 2 (some (.array (.object "java/lang/Object"))), Cond.methodLink RJ7 86 ⟨"java/lang/Object", "getClass", "()Ljava/lang/Class;"⟩, Cond.selects "[Ljava/lang/Object;" ⟨"java/lang/Object", "getClass", "()Ljava/lang/Class;"⟩ ⟨"java/lang/Object", "getClass", "()Ljava/lang/Class;"⟩, Cond.instanceMethod ⟨"java/lang/Object", "getClass", "()Ljava/lang/Class;"⟩, Cond.native ⟨"java/lang/Object", "getClass", "()Ljava/lang/Class;"⟩, Cond.methodLink RJ7 300 yJ7_copyOf_6403c, Cond.static yJ7_copyOf_6403c, Cond.code yJ7_copyOf_6403c cJ7_copyOf_6403c 4 (some (.array (.object "java/lang/Object"))), Cond.classLink RJ7 110 "[Ljava/lang/Object;", Cond.classLink RJ7 2 "java/lang/Object", Cond.methodLink RJ7 304 Lib.Math.min.name, Cond.static Lib.Math.min.name, Cond.code Lib.Math.min.name Lib.Math.min.code 2 (some .int), Cond.methodLink RJ7 150 arraycopyName, Cond.native arraycopyName, Cond.static arraycopyName, Cond.initialized "java/lang/System"]
def wsL_addLoan : List Cond := .codeWith yL_addLoan cL_addLoan 7 (some .int) [(0, 14, 17, 13), (0, 14, 21, 15)] :: ((wsL_addLoan_r1 ++ (wsL_addLoan_r2 ++ (wsL_addLoan_r3 ++ wsL_addLoan_r4))) ++ wsX30 ++ wsX10 ++ wsJx4a65c0 ++ (vx_atS RX3 58 "java/lang/IllegalStateException" ["java/lang/RuntimeException", "java/lang/Exception"]).filter goodWord ++ (vx_atS RX3 164 "java/lang/IllegalArgumentException" ["java/lang/RuntimeException", "java/lang/Exception"]).filter goodWord)
def wsL_enter_r1 : List Cond := [Cond.classLink RL 21 "java/lang/IndexOutOfBoundsException", Cond.classLink RL 15 "java/lang/IllegalStateException", Cond.methodLink RL 17 yX3_enter, Cond.instanceMethod yX3_enter, Cond.selects RX3 yX3_enter yX3_enter, Cond.initialized RX3, Cond.code yX3_enter cX3_enter 3 (some .int), Cond.fieldLink RX3 78 "Coverpool$Loan" "state" "I", Cond.methodLink RX3 70 yX3_loanAt, Cond.instanceMethod yX3_loanAt, Cond.selects RX3 yX3_loanAt yX3_loanAt, Cond.code yX3_loanAt cX3_loanAt 2 (some (.object "Coverpool$Loan")), Cond.classLink RX3 169 "java/lang/IndexOutOfBoundsException", Cond.initialized "java/lang/IndexOutOfBoundsException", Cond.fieldLink RX3 10 "Coverpool" "loans" "Ljava/util/ArrayList;", Cond.classLink RX3 61 "Coverpool$Loan", Cond.methodLink RX3 50 yJx4a65c_size_8abf5, Cond.instanceMethod yJx4a65c_size_8abf5, Cond.selects RJx4a65c yJx4a65c_size_8abf5 yJx4a65c_size_8abf5, Cond.initialized RJx4a65c, Cond.code yJx4a65c_size_8abf5 cJx4a65c_size_8abf5 1 (some .int), Cond.fieldLink RJx4a65c 48 "java/util/ArrayList" "size" "I", Cond.methodLink RX3 127 yJx4a65c_get_915e3, Cond.instanceMethod yJx4a65c_get_915e3]
def wsL_enter_r2 : List Cond := [Cond.selects RJx4a65c yJx4a65c_get_915e3 yJx4a65c_get_915e3, Cond.code yJx4a65c_get_915e3 cJx4a65c_get_915e3 2 (some (.object "java/lang/Object")), Cond.methodLink RJx4a65c 118 yJ15_checkIndex_7cf53, Cond.static yJ15_checkIndex_7cf53, Cond.initialized RJ15, Cond.code yJ15_checkIndex_7cf53 cJ15_checkIndex_7cf53 2 (some .int), Cond.methodLink RJ15 105 yJ3_checkIndex_8e157, Cond.static yJ3_checkIndex_8e157, Cond.initialized RJ3, Cond.code yJ3_checkIndex_8e157 cJ3_checkIndex_8e157 3 (some .int), Cond.methodLink RJx4a65c 123 yJx4a65c_elementData_915e3, Cond.instanceMethod yJx4a65c_elementData_915e3, Cond.selects RJx4a65c yJx4a65c_elementData_915e3 yJx4a65c_elementData_915e3, Cond.code yJx4a65c_elementData_915e3 cJx4a65c_elementData_915e3 2 (some (.object "java/lang/Object")), Cond.fieldLink RJx4a65c 9 "java/util/ArrayList" "elementData" "[Ljava/lang/Object;", Cond.methodLink RX3 74 yX3_requireState, Cond.static yX3_requireState, Cond.code yX3_requireState cX3_requireState 2 none, Cond.classLink RX3 54 "java/lang/IllegalStateException", Cond.initialized "java/lang/IllegalStateException", Cond.methodLink RX3 81 yX3_countOf, Cond.instanceMethod yX3_countOf, Cond.selects RX3 yX3_countOf yX3_countOf, Cond.code yX3_countOf cX3_countOf 2 (some .int)]
def wsL_enter_r3 : List Cond := [Cond.fieldLink RX3 102 "Coverpool$Loan" "arrears" "I", Cond.fieldLink RX3 186 "Coverpool$Loan" "rank" "I", Cond.fieldLink RX3 33 "Coverpool" "rankThatCounts" "I", Cond.fieldLink RX3 177 "Coverpool$Loan" "amount" "I", Cond.fieldLink RX3 105 "Coverpool$Loan" "worth" "I", Cond.methodLink RX3 137 Lib.Math.min.name, Cond.static Lib.Math.min.name, Cond.initialized "java/lang/Math", Cond.code Lib.Math.min.name Lib.Math.min.code 2 (some .int)]
def wsL_enter : List Cond := .codeWith yL_enter cL_enter 4 (some .int) [(0, 9, 12, 21), (0, 9, 15, 15)] :: ((wsL_enter_r1 ++ (wsL_enter_r2 ++ wsL_enter_r3)) ++ wsX10 ++ wsX30 ++ wsJx4a65c0 ++ (vx_atS RX3 173 "java/lang/IndexOutOfBoundsException" ["java/lang/RuntimeException", "java/lang/Exception"]).filter goodWord ++ (vx_atS RX3 58 "java/lang/IllegalStateException" ["java/lang/RuntimeException", "java/lang/Exception"]).filter goodWord)
def wsL_leave_r1 : List Cond := [Cond.classLink RL 21 "java/lang/IndexOutOfBoundsException", Cond.classLink RL 15 "java/lang/IllegalStateException", Cond.methodLink RL 23 yX3_leave, Cond.instanceMethod yX3_leave, Cond.selects RX3 yX3_leave yX3_leave, Cond.initialized RX3, Cond.code yX3_leave cX3_leave 3 (some .boolean), Cond.fieldLink RX3 22 "Coverpool" "sheet" "LCoverpool$Sheet;", Cond.fieldLink RX3 78 "Coverpool$Loan" "state" "I", Cond.methodLink RX3 70 yX3_loanAt, Cond.instanceMethod yX3_loanAt, Cond.selects RX3 yX3_loanAt yX3_loanAt, Cond.code yX3_loanAt cX3_loanAt 2 (some (.object "Coverpool$Loan")), Cond.classLink RX3 169 "java/lang/IndexOutOfBoundsException", Cond.initialized "java/lang/IndexOutOfBoundsException", Cond.fieldLink RX3 10 "Coverpool" "loans" "Ljava/util/ArrayList;", Cond.classLink RX3 61 "Coverpool$Loan", Cond.methodLink RX3 50 yJx4a65c_size_8abf5, Cond.instanceMethod yJx4a65c_size_8abf5, Cond.selects RJx4a65c yJx4a65c_size_8abf5 yJx4a65c_size_8abf5, Cond.initialized RJx4a65c, Cond.code yJx4a65c_size_8abf5 cJx4a65c_size_8abf5 1 (some .int), Cond.fieldLink RJx4a65c 48 "java/util/ArrayList" "size" "I", Cond.methodLink RX3 127 yJx4a65c_get_915e3]
def wsL_leave_r2 : List Cond := [Cond.instanceMethod yJx4a65c_get_915e3, Cond.selects RJx4a65c yJx4a65c_get_915e3 yJx4a65c_get_915e3, Cond.code yJx4a65c_get_915e3 cJx4a65c_get_915e3 2 (some (.object "java/lang/Object")), Cond.methodLink RJx4a65c 118 yJ15_checkIndex_7cf53, Cond.static yJ15_checkIndex_7cf53, Cond.initialized RJ15, Cond.code yJ15_checkIndex_7cf53 cJ15_checkIndex_7cf53 2 (some .int), Cond.methodLink RJ15 105 yJ3_checkIndex_8e157, Cond.static yJ3_checkIndex_8e157, Cond.initialized RJ3, Cond.code yJ3_checkIndex_8e157 cJ3_checkIndex_8e157 3 (some .int), Cond.methodLink RJx4a65c 123 yJx4a65c_elementData_915e3, Cond.instanceMethod yJx4a65c_elementData_915e3, Cond.selects RJx4a65c yJx4a65c_elementData_915e3 yJx4a65c_elementData_915e3, Cond.code yJx4a65c_elementData_915e3 cJx4a65c_elementData_915e3 2 (some (.object "java/lang/Object")), Cond.fieldLink RJx4a65c 9 "java/util/ArrayList" "elementData" "[Ljava/lang/Object;", Cond.methodLink RX3 74 yX3_requireState, Cond.static yX3_requireState, Cond.code yX3_requireState cX3_requireState 2 none, Cond.classLink RX3 54 "java/lang/IllegalStateException", Cond.initialized "java/lang/IllegalStateException", Cond.methodLink RX3 85 yX3_fillSheet, Cond.instanceMethod yX3_fillSheet, Cond.selects RX3 yX3_fillSheet yX3_fillSheet]
def wsL_leave_r3 : List Cond := [Cond.code yX3_fillSheet cX3_fillSheet 3 none, Cond.fieldLink RX3 192 "Coverpool$Sheet" "gives" "[[I", Cond.fieldLink RX3 176 "Coverpool$Loan" "due" "I", Cond.fieldLink RX3 200 "Coverpool$Sheet" "needs" "[I", Cond.fieldLink RX3 16 "Coverpool" "bonds" "Ljava/util/ArrayList;", Cond.classLink RX3 111 "Coverpool$Bond", Cond.fieldLink RX3 123 "Coverpool$Bond" "state" "I", Cond.methodLink RX3 81 yX3_countOf, Cond.instanceMethod yX3_countOf, Cond.selects RX3 yX3_countOf yX3_countOf, Cond.code yX3_countOf cX3_countOf 2 (some .int), Cond.fieldLink RX3 102 "Coverpool$Loan" "arrears" "I", Cond.fieldLink RX3 186 "Coverpool$Loan" "rank" "I", Cond.fieldLink RX3 33 "Coverpool" "rankThatCounts" "I", Cond.fieldLink RX3 177 "Coverpool$Loan" "amount" "I", Cond.fieldLink RX3 105 "Coverpool$Loan" "worth" "I", Cond.methodLink RX3 137 Lib.Math.min.name, Cond.static Lib.Math.min.name, Cond.initialized "java/lang/Math", Cond.code Lib.Math.min.name Lib.Math.min.code 2 (some .int), Cond.methodLink RX3 196 yX3_fillRow, Cond.instanceMethod yX3_fillRow, Cond.selects RX3 yX3_fillRow yX3_fillRow, Cond.code yX3_fillRow cX3_fillRow 5 none]
def wsL_leave_r4 : List Cond := [Cond.fieldLink RX3 26 "Coverpool" "month" "I", Cond.methodLink RX3 212 yX3_worthNow, Cond.instanceMethod yX3_worthNow, Cond.selects RX3 yX3_worthNow yX3_worthNow, Cond.code yX3_worthNow cX3_worthNow 4 (some .int), Cond.fieldLink RX3 39 "Coverpool" "rate" "I", Cond.methodLink RX3 189 Lib.Math.max.name, Cond.static Lib.Math.max.name, Cond.code Lib.Math.max.name Lib.Math.max.code 2 (some .int), Cond.methodLink RX3 204 yX3_startWithCashAndSubstitutes, Cond.instanceMethod yX3_startWithCashAndSubstitutes, Cond.selects RX3 yX3_startWithCashAndSubstitutes yX3_startWithCashAndSubstitutes, Cond.code yX3_startWithCashAndSubstitutes cX3_startWithCashAndSubstitutes 4 none, Cond.fieldLink RX3 30 "Coverpool" "cash" "I", Cond.methodLink RX3 215 yX3_substitutes, Cond.instanceMethod yX3_substitutes, Cond.selects RX3 yX3_substitutes yX3_substitutes, Cond.code yX3_substitutes cX3_substitutes 1 (some .int), Cond.methodLink RX3 134 yX3_debt, Cond.instanceMethod yX3_debt, Cond.selects RX3 yX3_debt yX3_debt, Cond.code yX3_debt cX3_debt 4 (some .int), Cond.fieldLink RX3 131 "Coverpool$Bond" "amount" "I", Cond.methodLink RX3 208 yX3_addBondTo]
def wsL_leave_r5 : List Cond := [Cond.instanceMethod yX3_addBondTo, Cond.selects RX3 yX3_addBondTo yX3_addBondTo, Cond.code yX3_addBondTo cX3_addBondTo 4 none, Cond.fieldLink RX3 36 "Coverpool" "cover" "I", Cond.fieldLink RX3 124 "Coverpool$Bond" "due" "I", Cond.methodLink RX3 88 yX3_loansThatAre, Cond.instanceMethod yX3_loansThatAre, Cond.selects RX3 yX3_loansThatAre yX3_loansThatAre, Cond.code yX3_loansThatAre cX3_loansThatAre 4 (some .int), Cond.methodLink RX3 92 yX2_allHold, Cond.instanceMethod yX2_allHold, Cond.selects RX2 yX2_allHold yX2_allHold, Cond.initialized RX2, Cond.code yX2_allHold cX2_allHold 3 (some .boolean), Cond.methodLink RX2 20 yX2_missing, Cond.instanceMethod yX2_missing, Cond.selects RX2 yX2_missing yX2_missing, Cond.code yX2_missing cX2_missing 5 (some .int), Cond.fieldLink RX2 11 "Coverpool$Sheet" "needs" "[I", Cond.fieldLink RX2 17 "Coverpool$Sheet" "gives" "[[I"]
def wsL_leave : List Cond := .codeWith yL_leave cL_leave 4 (some .int) [(0, 16, 19, 21), (0, 16, 22, 15)] :: ((wsL_leave_r1 ++ (wsL_leave_r2 ++ (wsL_leave_r3 ++ (wsL_leave_r4 ++ wsL_leave_r5)))) ++ wsX30 ++ wsX10 ++ wsJx4a65c0 ++ wsX20 ++ wsX00 ++ (vx_atS RX3 173 "java/lang/IndexOutOfBoundsException" ["java/lang/RuntimeException", "java/lang/Exception"]).filter goodWord ++ (vx_atS RX3 58 "java/lang/IllegalStateException" ["java/lang/RuntimeException", "java/lang/Exception"]).filter goodWord)
def wsL_swap_r1 : List Cond := [Cond.classLink RL 21 "java/lang/IndexOutOfBoundsException", Cond.classLink RL 15 "java/lang/IllegalStateException", Cond.methodLink RL 27 yX3_swap, Cond.instanceMethod yX3_swap, Cond.selects RX3 yX3_swap yX3_swap, Cond.initialized RX3, Cond.code yX3_swap cX3_swap 8 (some .boolean), Cond.fieldLink RX3 22 "Coverpool" "sheet" "LCoverpool$Sheet;", Cond.fieldLink RX3 78 "Coverpool$Loan" "state" "I", Cond.methodLink RX3 70 yX3_loanAt, Cond.instanceMethod yX3_loanAt, Cond.selects RX3 yX3_loanAt yX3_loanAt, Cond.code yX3_loanAt cX3_loanAt 2 (some (.object "Coverpool$Loan")), Cond.classLink RX3 169 "java/lang/IndexOutOfBoundsException", Cond.initialized "java/lang/IndexOutOfBoundsException", Cond.fieldLink RX3 10 "Coverpool" "loans" "Ljava/util/ArrayList;", Cond.classLink RX3 61 "Coverpool$Loan", Cond.methodLink RX3 50 yJx4a65c_size_8abf5, Cond.instanceMethod yJx4a65c_size_8abf5, Cond.selects RJx4a65c yJx4a65c_size_8abf5 yJx4a65c_size_8abf5, Cond.initialized RJx4a65c, Cond.code yJx4a65c_size_8abf5 cJx4a65c_size_8abf5 1 (some .int), Cond.fieldLink RJx4a65c 48 "java/util/ArrayList" "size" "I", Cond.methodLink RX3 127 yJx4a65c_get_915e3]
def wsL_swap_r2 : List Cond := [Cond.instanceMethod yJx4a65c_get_915e3, Cond.selects RJx4a65c yJx4a65c_get_915e3 yJx4a65c_get_915e3, Cond.code yJx4a65c_get_915e3 cJx4a65c_get_915e3 2 (some (.object "java/lang/Object")), Cond.methodLink RJx4a65c 118 yJ15_checkIndex_7cf53, Cond.static yJ15_checkIndex_7cf53, Cond.initialized RJ15, Cond.code yJ15_checkIndex_7cf53 cJ15_checkIndex_7cf53 2 (some .int), Cond.methodLink RJ15 105 yJ3_checkIndex_8e157, Cond.static yJ3_checkIndex_8e157, Cond.initialized RJ3, Cond.code yJ3_checkIndex_8e157 cJ3_checkIndex_8e157 3 (some .int), Cond.methodLink RJx4a65c 123 yJx4a65c_elementData_915e3, Cond.instanceMethod yJx4a65c_elementData_915e3, Cond.selects RJx4a65c yJx4a65c_elementData_915e3 yJx4a65c_elementData_915e3, Cond.code yJx4a65c_elementData_915e3 cJx4a65c_elementData_915e3 2 (some (.object "java/lang/Object")), Cond.fieldLink RJx4a65c 9 "java/util/ArrayList" "elementData" "[Ljava/lang/Object;", Cond.methodLink RX3 74 yX3_requireState, Cond.static yX3_requireState, Cond.code yX3_requireState cX3_requireState 2 none, Cond.classLink RX3 54 "java/lang/IllegalStateException", Cond.initialized "java/lang/IllegalStateException", Cond.methodLink RX3 88 yX3_loansThatAre, Cond.instanceMethod yX3_loansThatAre, Cond.selects RX3 yX3_loansThatAre yX3_loansThatAre]
def wsL_swap_r3 : List Cond := [Cond.code yX3_loansThatAre cX3_loansThatAre 4 (some .int), Cond.methodLink RX3 85 yX3_fillSheet, Cond.instanceMethod yX3_fillSheet, Cond.selects RX3 yX3_fillSheet yX3_fillSheet, Cond.code yX3_fillSheet cX3_fillSheet 3 none, Cond.fieldLink RX3 192 "Coverpool$Sheet" "gives" "[[I", Cond.fieldLink RX3 176 "Coverpool$Loan" "due" "I", Cond.fieldLink RX3 200 "Coverpool$Sheet" "needs" "[I", Cond.fieldLink RX3 16 "Coverpool" "bonds" "Ljava/util/ArrayList;", Cond.classLink RX3 111 "Coverpool$Bond", Cond.fieldLink RX3 123 "Coverpool$Bond" "state" "I", Cond.methodLink RX3 81 yX3_countOf, Cond.instanceMethod yX3_countOf, Cond.selects RX3 yX3_countOf yX3_countOf, Cond.code yX3_countOf cX3_countOf 2 (some .int), Cond.fieldLink RX3 102 "Coverpool$Loan" "arrears" "I", Cond.fieldLink RX3 186 "Coverpool$Loan" "rank" "I", Cond.fieldLink RX3 33 "Coverpool" "rankThatCounts" "I", Cond.fieldLink RX3 177 "Coverpool$Loan" "amount" "I", Cond.fieldLink RX3 105 "Coverpool$Loan" "worth" "I", Cond.methodLink RX3 137 Lib.Math.min.name, Cond.static Lib.Math.min.name, Cond.initialized "java/lang/Math", Cond.code Lib.Math.min.name Lib.Math.min.code 2 (some .int)]
def wsL_swap_r4 : List Cond := [Cond.methodLink RX3 196 yX3_fillRow, Cond.instanceMethod yX3_fillRow, Cond.selects RX3 yX3_fillRow yX3_fillRow, Cond.code yX3_fillRow cX3_fillRow 5 none, Cond.fieldLink RX3 26 "Coverpool" "month" "I", Cond.methodLink RX3 212 yX3_worthNow, Cond.instanceMethod yX3_worthNow, Cond.selects RX3 yX3_worthNow yX3_worthNow, Cond.code yX3_worthNow cX3_worthNow 4 (some .int), Cond.fieldLink RX3 39 "Coverpool" "rate" "I", Cond.methodLink RX3 189 Lib.Math.max.name, Cond.static Lib.Math.max.name, Cond.code Lib.Math.max.name Lib.Math.max.code 2 (some .int), Cond.methodLink RX3 204 yX3_startWithCashAndSubstitutes, Cond.instanceMethod yX3_startWithCashAndSubstitutes, Cond.selects RX3 yX3_startWithCashAndSubstitutes yX3_startWithCashAndSubstitutes, Cond.code yX3_startWithCashAndSubstitutes cX3_startWithCashAndSubstitutes 4 none, Cond.fieldLink RX3 30 "Coverpool" "cash" "I", Cond.methodLink RX3 215 yX3_substitutes, Cond.instanceMethod yX3_substitutes, Cond.selects RX3 yX3_substitutes yX3_substitutes, Cond.code yX3_substitutes cX3_substitutes 1 (some .int), Cond.methodLink RX3 134 yX3_debt, Cond.instanceMethod yX3_debt]
def wsL_swap_r5 : List Cond := [Cond.selects RX3 yX3_debt yX3_debt, Cond.code yX3_debt cX3_debt 4 (some .int), Cond.fieldLink RX3 131 "Coverpool$Bond" "amount" "I", Cond.methodLink RX3 208 yX3_addBondTo, Cond.instanceMethod yX3_addBondTo, Cond.selects RX3 yX3_addBondTo yX3_addBondTo, Cond.code yX3_addBondTo cX3_addBondTo 4 none, Cond.fieldLink RX3 36 "Coverpool" "cover" "I", Cond.fieldLink RX3 124 "Coverpool$Bond" "due" "I", Cond.methodLink RX3 96 yX2_mostMissing, Cond.instanceMethod yX2_mostMissing, Cond.selects RX2 yX2_mostMissing yX2_mostMissing, Cond.initialized RX2, Cond.code yX2_mostMissing cX2_mostMissing 5 (some .int), Cond.methodLink RX2 28 Lib.Math.max.name, Cond.methodLink RX2 24 yX2_testOf, Cond.static yX2_testOf, Cond.code yX2_testOf cX2_testOf 1 (some .int), Cond.methodLink RX2 20 yX2_missing, Cond.instanceMethod yX2_missing, Cond.selects RX2 yX2_missing yX2_missing, Cond.code yX2_missing cX2_missing 5 (some .int), Cond.fieldLink RX2 11 "Coverpool$Sheet" "needs" "[I", Cond.fieldLink RX2 17 "Coverpool$Sheet" "gives" "[[I"]
def wsL_swap : List Cond := .codeWith yL_swap cL_swap 5 (some .int) [(0, 17, 20, 21), (0, 17, 24, 15)] :: ((wsL_swap_r1 ++ (wsL_swap_r2 ++ (wsL_swap_r3 ++ (wsL_swap_r4 ++ wsL_swap_r5)))) ++ wsX30 ++ wsX10 ++ wsJx4a65c0 ++ wsX20 ++ wsX00 ++ (vx_atS RX3 173 "java/lang/IndexOutOfBoundsException" ["java/lang/RuntimeException", "java/lang/Exception"]).filter goodWord ++ (vx_atS RX3 58 "java/lang/IllegalStateException" ["java/lang/RuntimeException", "java/lang/Exception"]).filter goodWord)
def wsL_setArrears_r1 : List Cond := [Cond.classLink RL 21 "java/lang/IndexOutOfBoundsException", Cond.classLink RL 13 "java/lang/IllegalArgumentException", Cond.classLink RL 15 "java/lang/IllegalStateException", Cond.methodLink RL 31 yX3_setArrears, Cond.instanceMethod yX3_setArrears, Cond.selects RX3 yX3_setArrears yX3_setArrears, Cond.initialized RX3, Cond.code yX3_setArrears cX3_setArrears 5 (some .int), Cond.classLink RX3 54 "java/lang/IllegalStateException", Cond.initialized "java/lang/IllegalStateException", Cond.fieldLink RX3 78 "Coverpool$Loan" "state" "I", Cond.fieldLink RX3 102 "Coverpool$Loan" "arrears" "I", Cond.methodLink RX3 70 yX3_loanAt, Cond.instanceMethod yX3_loanAt, Cond.selects RX3 yX3_loanAt yX3_loanAt, Cond.code yX3_loanAt cX3_loanAt 2 (some (.object "Coverpool$Loan")), Cond.classLink RX3 169 "java/lang/IndexOutOfBoundsException", Cond.initialized "java/lang/IndexOutOfBoundsException", Cond.fieldLink RX3 10 "Coverpool" "loans" "Ljava/util/ArrayList;", Cond.classLink RX3 61 "Coverpool$Loan", Cond.methodLink RX3 50 yJx4a65c_size_8abf5, Cond.instanceMethod yJx4a65c_size_8abf5, Cond.selects RJx4a65c yJx4a65c_size_8abf5 yJx4a65c_size_8abf5, Cond.initialized RJx4a65c]
def wsL_setArrears_r2 : List Cond := [Cond.code yJx4a65c_size_8abf5 cJx4a65c_size_8abf5 1 (some .int), Cond.fieldLink RJx4a65c 48 "java/util/ArrayList" "size" "I", Cond.methodLink RX3 127 yJx4a65c_get_915e3, Cond.instanceMethod yJx4a65c_get_915e3, Cond.selects RJx4a65c yJx4a65c_get_915e3 yJx4a65c_get_915e3, Cond.code yJx4a65c_get_915e3 cJx4a65c_get_915e3 2 (some (.object "java/lang/Object")), Cond.methodLink RJx4a65c 118 yJ15_checkIndex_7cf53, Cond.static yJ15_checkIndex_7cf53, Cond.initialized RJ15, Cond.code yJ15_checkIndex_7cf53 cJ15_checkIndex_7cf53 2 (some .int), Cond.methodLink RJ15 105 yJ3_checkIndex_8e157, Cond.static yJ3_checkIndex_8e157, Cond.initialized RJ3, Cond.code yJ3_checkIndex_8e157 cJ3_checkIndex_8e157 3 (some .int), Cond.methodLink RJx4a65c 123 yJx4a65c_elementData_915e3, Cond.instanceMethod yJx4a65c_elementData_915e3, Cond.selects RJx4a65c yJx4a65c_elementData_915e3 yJx4a65c_elementData_915e3, Cond.code yJx4a65c_elementData_915e3 cJx4a65c_elementData_915e3 2 (some (.object "java/lang/Object")), Cond.fieldLink RJx4a65c 9 "java/util/ArrayList" "elementData" "[Ljava/lang/Object;", Cond.methodLink RX3 42 yX3_requireWithin, Cond.static yX3_requireWithin, Cond.code yX3_requireWithin cX3_requireWithin 3 none, Cond.classLink RX3 160 "java/lang/IllegalArgumentException", Cond.initialized "java/lang/IllegalArgumentException"]
def wsL_setArrears : List Cond := .codeWith yL_setArrears cL_setArrears 5 (some .int) [(0, 10, 13, 21), (0, 10, 17, 13), (0, 10, 21, 15)] :: ((wsL_setArrears_r1 ++ wsL_setArrears_r2) ++ wsX10 ++ wsX30 ++ wsJx4a65c0 ++ (vx_atS RX3 58 "java/lang/IllegalStateException" ["java/lang/RuntimeException", "java/lang/Exception"]).filter goodWord ++ (vx_atS RX3 173 "java/lang/IndexOutOfBoundsException" ["java/lang/RuntimeException", "java/lang/Exception"]).filter goodWord ++ (vx_atS RX3 164 "java/lang/IllegalArgumentException" ["java/lang/RuntimeException", "java/lang/Exception"]).filter goodWord)
def wsL_setWorth_r1 : List Cond := [Cond.classLink RL 21 "java/lang/IndexOutOfBoundsException", Cond.classLink RL 13 "java/lang/IllegalArgumentException", Cond.methodLink RL 35 yX3_setWorth, Cond.instanceMethod yX3_setWorth, Cond.selects RX3 yX3_setWorth yX3_setWorth, Cond.initialized RX3, Cond.code yX3_setWorth cX3_setWorth 5 (some .int), Cond.fieldLink RX3 105 "Coverpool$Loan" "worth" "I", Cond.methodLink RX3 70 yX3_loanAt, Cond.instanceMethod yX3_loanAt, Cond.selects RX3 yX3_loanAt yX3_loanAt, Cond.code yX3_loanAt cX3_loanAt 2 (some (.object "Coverpool$Loan")), Cond.classLink RX3 169 "java/lang/IndexOutOfBoundsException", Cond.initialized "java/lang/IndexOutOfBoundsException", Cond.fieldLink RX3 10 "Coverpool" "loans" "Ljava/util/ArrayList;", Cond.classLink RX3 61 "Coverpool$Loan", Cond.methodLink RX3 50 yJx4a65c_size_8abf5, Cond.instanceMethod yJx4a65c_size_8abf5, Cond.selects RJx4a65c yJx4a65c_size_8abf5 yJx4a65c_size_8abf5, Cond.initialized RJx4a65c, Cond.code yJx4a65c_size_8abf5 cJx4a65c_size_8abf5 1 (some .int), Cond.fieldLink RJx4a65c 48 "java/util/ArrayList" "size" "I", Cond.methodLink RX3 127 yJx4a65c_get_915e3, Cond.instanceMethod yJx4a65c_get_915e3]
def wsL_setWorth_r2 : List Cond := [Cond.selects RJx4a65c yJx4a65c_get_915e3 yJx4a65c_get_915e3, Cond.code yJx4a65c_get_915e3 cJx4a65c_get_915e3 2 (some (.object "java/lang/Object")), Cond.methodLink RJx4a65c 118 yJ15_checkIndex_7cf53, Cond.static yJ15_checkIndex_7cf53, Cond.initialized RJ15, Cond.code yJ15_checkIndex_7cf53 cJ15_checkIndex_7cf53 2 (some .int), Cond.methodLink RJ15 105 yJ3_checkIndex_8e157, Cond.static yJ3_checkIndex_8e157, Cond.initialized RJ3, Cond.code yJ3_checkIndex_8e157 cJ3_checkIndex_8e157 3 (some .int), Cond.methodLink RJx4a65c 123 yJx4a65c_elementData_915e3, Cond.instanceMethod yJx4a65c_elementData_915e3, Cond.selects RJx4a65c yJx4a65c_elementData_915e3 yJx4a65c_elementData_915e3, Cond.code yJx4a65c_elementData_915e3 cJx4a65c_elementData_915e3 2 (some (.object "java/lang/Object")), Cond.fieldLink RJx4a65c 9 "java/util/ArrayList" "elementData" "[Ljava/lang/Object;", Cond.methodLink RX3 42 yX3_requireWithin, Cond.static yX3_requireWithin, Cond.code yX3_requireWithin cX3_requireWithin 3 none, Cond.classLink RX3 160 "java/lang/IllegalArgumentException", Cond.initialized "java/lang/IllegalArgumentException"]
def wsL_setWorth : List Cond := .codeWith yL_setWorth cL_setWorth 5 (some .int) [(0, 10, 13, 21), (0, 10, 17, 13)] :: ((wsL_setWorth_r1 ++ wsL_setWorth_r2) ++ wsX10 ++ wsX30 ++ wsJx4a65c0 ++ (vx_atS RX3 173 "java/lang/IndexOutOfBoundsException" ["java/lang/RuntimeException", "java/lang/Exception"]).filter goodWord ++ (vx_atS RX3 164 "java/lang/IllegalArgumentException" ["java/lang/RuntimeException", "java/lang/Exception"]).filter goodWord)
def wsL_stateOf_r1 : List Cond := [Cond.classLink RL 21 "java/lang/IndexOutOfBoundsException", Cond.methodLink RL 38 yX3_stateOf, Cond.instanceMethod yX3_stateOf, Cond.selects RX3 yX3_stateOf yX3_stateOf, Cond.initialized RX3, Cond.code yX3_stateOf cX3_stateOf 2 (some .int), Cond.fieldLink RX3 78 "Coverpool$Loan" "state" "I", Cond.methodLink RX3 70 yX3_loanAt, Cond.instanceMethod yX3_loanAt, Cond.selects RX3 yX3_loanAt yX3_loanAt, Cond.code yX3_loanAt cX3_loanAt 2 (some (.object "Coverpool$Loan")), Cond.classLink RX3 169 "java/lang/IndexOutOfBoundsException", Cond.initialized "java/lang/IndexOutOfBoundsException", Cond.fieldLink RX3 10 "Coverpool" "loans" "Ljava/util/ArrayList;", Cond.classLink RX3 61 "Coverpool$Loan", Cond.methodLink RX3 50 yJx4a65c_size_8abf5, Cond.instanceMethod yJx4a65c_size_8abf5, Cond.selects RJx4a65c yJx4a65c_size_8abf5 yJx4a65c_size_8abf5, Cond.initialized RJx4a65c, Cond.code yJx4a65c_size_8abf5 cJx4a65c_size_8abf5 1 (some .int), Cond.fieldLink RJx4a65c 48 "java/util/ArrayList" "size" "I", Cond.methodLink RX3 127 yJx4a65c_get_915e3, Cond.instanceMethod yJx4a65c_get_915e3, Cond.selects RJx4a65c yJx4a65c_get_915e3 yJx4a65c_get_915e3]
def wsL_stateOf_r2 : List Cond := [Cond.code yJx4a65c_get_915e3 cJx4a65c_get_915e3 2 (some (.object "java/lang/Object")), Cond.methodLink RJx4a65c 118 yJ15_checkIndex_7cf53, Cond.static yJ15_checkIndex_7cf53, Cond.initialized RJ15, Cond.code yJ15_checkIndex_7cf53 cJ15_checkIndex_7cf53 2 (some .int), Cond.methodLink RJ15 105 yJ3_checkIndex_8e157, Cond.static yJ3_checkIndex_8e157, Cond.initialized RJ3, Cond.code yJ3_checkIndex_8e157 cJ3_checkIndex_8e157 3 (some .int), Cond.methodLink RJx4a65c 123 yJx4a65c_elementData_915e3, Cond.instanceMethod yJx4a65c_elementData_915e3, Cond.selects RJx4a65c yJx4a65c_elementData_915e3 yJx4a65c_elementData_915e3, Cond.code yJx4a65c_elementData_915e3 cJx4a65c_elementData_915e3 2 (some (.object "java/lang/Object")), Cond.fieldLink RJx4a65c 9 "java/util/ArrayList" "elementData" "[Ljava/lang/Object;"]
def wsL_stateOf : List Cond := .codeWith yL_stateOf cL_stateOf 4 (some .int) [(0, 9, 12, 21)] :: ((wsL_stateOf_r1 ++ wsL_stateOf_r2) ++ wsX10 ++ wsX30 ++ wsJx4a65c0 ++ (vx_atS RX3 173 "java/lang/IndexOutOfBoundsException" ["java/lang/RuntimeException", "java/lang/Exception"]).filter goodWord)
def wsL_counts_r1 : List Cond := [Cond.classLink RL 21 "java/lang/IndexOutOfBoundsException", Cond.methodLink RL 41 yX3_counts, Cond.instanceMethod yX3_counts, Cond.selects RX3 yX3_counts yX3_counts, Cond.initialized RX3, Cond.code yX3_counts cX3_counts 2 (some .int), Cond.methodLink RX3 70 yX3_loanAt, Cond.instanceMethod yX3_loanAt, Cond.selects RX3 yX3_loanAt yX3_loanAt, Cond.code yX3_loanAt cX3_loanAt 2 (some (.object "Coverpool$Loan")), Cond.classLink RX3 169 "java/lang/IndexOutOfBoundsException", Cond.initialized "java/lang/IndexOutOfBoundsException", Cond.fieldLink RX3 10 "Coverpool" "loans" "Ljava/util/ArrayList;", Cond.classLink RX3 61 "Coverpool$Loan", Cond.methodLink RX3 50 yJx4a65c_size_8abf5, Cond.instanceMethod yJx4a65c_size_8abf5, Cond.selects RJx4a65c yJx4a65c_size_8abf5 yJx4a65c_size_8abf5, Cond.initialized RJx4a65c, Cond.code yJx4a65c_size_8abf5 cJx4a65c_size_8abf5 1 (some .int), Cond.fieldLink RJx4a65c 48 "java/util/ArrayList" "size" "I", Cond.methodLink RX3 127 yJx4a65c_get_915e3, Cond.instanceMethod yJx4a65c_get_915e3, Cond.selects RJx4a65c yJx4a65c_get_915e3 yJx4a65c_get_915e3, Cond.code yJx4a65c_get_915e3 cJx4a65c_get_915e3 2 (some (.object "java/lang/Object"))]
def wsL_counts_r2 : List Cond := [Cond.methodLink RJx4a65c 118 yJ15_checkIndex_7cf53, Cond.static yJ15_checkIndex_7cf53, Cond.initialized RJ15, Cond.code yJ15_checkIndex_7cf53 cJ15_checkIndex_7cf53 2 (some .int), Cond.methodLink RJ15 105 yJ3_checkIndex_8e157, Cond.static yJ3_checkIndex_8e157, Cond.initialized RJ3, Cond.code yJ3_checkIndex_8e157 cJ3_checkIndex_8e157 3 (some .int), Cond.methodLink RJx4a65c 123 yJx4a65c_elementData_915e3, Cond.instanceMethod yJx4a65c_elementData_915e3, Cond.selects RJx4a65c yJx4a65c_elementData_915e3 yJx4a65c_elementData_915e3, Cond.code yJx4a65c_elementData_915e3 cJx4a65c_elementData_915e3 2 (some (.object "java/lang/Object")), Cond.fieldLink RJx4a65c 9 "java/util/ArrayList" "elementData" "[Ljava/lang/Object;", Cond.methodLink RX3 81 yX3_countOf, Cond.instanceMethod yX3_countOf, Cond.selects RX3 yX3_countOf yX3_countOf, Cond.code yX3_countOf cX3_countOf 2 (some .int), Cond.fieldLink RX3 102 "Coverpool$Loan" "arrears" "I", Cond.fieldLink RX3 186 "Coverpool$Loan" "rank" "I", Cond.fieldLink RX3 33 "Coverpool" "rankThatCounts" "I", Cond.fieldLink RX3 177 "Coverpool$Loan" "amount" "I", Cond.fieldLink RX3 105 "Coverpool$Loan" "worth" "I", Cond.methodLink RX3 137 Lib.Math.min.name, Cond.static Lib.Math.min.name]
def wsL_counts_r3 : List Cond := [Cond.initialized "java/lang/Math", Cond.code Lib.Math.min.name Lib.Math.min.code 2 (some .int)]
def wsL_counts : List Cond := .codeWith yL_counts cL_counts 4 (some .int) [(0, 9, 12, 21)] :: ((wsL_counts_r1 ++ (wsL_counts_r2 ++ wsL_counts_r3)) ++ wsX30 ++ wsJx4a65c0 ++ wsX10 ++ (vx_atS RX3 173 "java/lang/IndexOutOfBoundsException" ["java/lang/RuntimeException", "java/lang/Exception"]).filter goodWord)
def wsL_addBond_r1 : List Cond := [Cond.classLink RL 13 "java/lang/IllegalArgumentException", Cond.classLink RL 15 "java/lang/IllegalStateException", Cond.methodLink RL 44 yX3_addBond, Cond.instanceMethod yX3_addBond, Cond.selects RX3 yX3_addBond yX3_addBond, Cond.initialized RX3, Cond.code yX3_addBond cX3_addBond 3 (some .int), Cond.classLink RX3 54 "java/lang/IllegalStateException", Cond.initialized "java/lang/IllegalStateException", Cond.constant RX3 108 (50000), Cond.fieldLink RX3 16 "Coverpool" "bonds" "Ljava/util/ArrayList;", Cond.classLink RX3 111 RX0, Cond.instantiable RX0 4, Cond.initialized RX0, Cond.fieldLink RX3 30 "Coverpool" "cash" "I", Cond.methodLink RX3 42 yX3_requireWithin, Cond.static yX3_requireWithin, Cond.code yX3_requireWithin cX3_requireWithin 3 none, Cond.classLink RX3 160 "java/lang/IllegalArgumentException", Cond.initialized "java/lang/IllegalArgumentException", Cond.methodLink RX3 46 yX3_requireDueAhead, Cond.instanceMethod yX3_requireDueAhead, Cond.selects RX3 yX3_requireDueAhead yX3_requireDueAhead, Cond.code yX3_requireDueAhead cX3_requireDueAhead 2 none]
def wsL_addBond_r2 : List Cond := [Cond.fieldLink RX3 26 "Coverpool" "month" "I", Cond.methodLink RX3 50 yJx4a65c_size_8abf5, Cond.instanceMethod yJx4a65c_size_8abf5, Cond.selects RJx4a65c yJx4a65c_size_8abf5 yJx4a65c_size_8abf5, Cond.initialized RJx4a65c, Cond.code yJx4a65c_size_8abf5 cJx4a65c_size_8abf5 1 (some .int), Cond.fieldLink RJx4a65c 48 "java/util/ArrayList" "size" "I", Cond.methodLink RX3 113 yX0_init, Cond.instanceMethod yX0_init, Cond.code yX0_init cX0_init 3 none, Cond.methodLink RX0 3 objectInit, Cond.instanceMethod objectInit, Cond.code objectInit ⟨#[0xb1]⟩ 1 none, Cond.fieldLink RX0 9 "Coverpool$Bond" "state" "I", Cond.fieldLink RX0 15 "Coverpool$Bond" "wasPutOff" "Z", Cond.fieldLink RX0 19 "Coverpool$Bond" "amount" "I", Cond.fieldLink RX0 22 "Coverpool$Bond" "due" "I", Cond.methodLink RX3 66 yJx4a65c_add_9ea2d, Cond.instanceMethod yJx4a65c_add_9ea2d, Cond.selects RJx4a65c yJx4a65c_add_9ea2d yJx4a65c_add_9ea2d, Cond.code yJx4a65c_add_9ea2d cJx4a65c_add_9ea2d 2 (some .boolean), Cond.fieldLink RJx4a65c 63 "java/util/ArrayList" "modCount" "I", Cond.sameField "java/util/ArrayList" "java/util/AbstractList" "modCount" "I", Cond.fieldLink RJx4a65c 9 "java/util/ArrayList" "elementData" "[Ljava/lang/Object;"]
def wsL_addBond_r3 : List Cond := [Cond.methodLink RJx4a65c 131 yJx4a65c_add_72be8, Cond.instanceMethod yJx4a65c_add_72be8, Cond.selects RJx4a65c yJx4a65c_add_72be8 yJx4a65c_add_72be8, Cond.code yJx4a65c_add_72be8 cJx4a65c_add_72be8 4 none, Cond.methodLink RJx4a65c 129 yJx4a65c_grow_d5877, Cond.instanceMethod yJx4a65c_grow_d5877, Cond.selects RJx4a65c yJx4a65c_grow_d5877 yJx4a65c_grow_d5877, Cond.code yJx4a65c_grow_d5877 cJx4a65c_grow_d5877 1 (some (.array (.object "java/lang/Object"))), Cond.methodLink RJx4a65c 69 yJx4a65c_grow_92f84, Cond.instanceMethod yJx4a65c_grow_92f84, Cond.selects RJx4a65c yJx4a65c_grow_92f84 yJx4a65c_grow_92f84, Cond.code yJx4a65c_grow_92f84 cJx4a65c_grow_92f84 4 (some (.array (.object "java/lang/Object"))), Cond.fieldLink RJx4a65c 39 "java/util/ArrayList" "DEFAULTCAPACITY_EMPTY_ELEMENTDATA" "[Ljava/lang/Object;", Cond.methodLink RJx4a65c 79 Lib.Math.max.name, Cond.static Lib.Math.max.name, Cond.initialized "java/lang/Math", Cond.code Lib.Math.max.name Lib.Math.max.code 2 (some .int), Cond.classLink RJx4a65c 7 "java/lang/Object", Cond.methodLink RJx4a65c 73 yJ8_newLength_cabcc, Cond.static yJ8_newLength_cabcc, Cond.initialized RJ8, Cond.code yJ8_newLength_cabcc cJ8_newLength_cabcc 4 (some .int), Cond.methodLink RJ8 194 Lib.Math.max.name, Cond.constant RJ8 200 (2147483639)]
def wsL_addBond_r4 : List Cond := [Cond.methodLink RJ8 201 yJ8_hugeLength_7cf53, Cond.static yJ8_hugeLength_7cf53, Cond.code yJ8_hugeLength_7cf53 cJ8_hugeLength_7cf53 3 (some .int), Cond.methodLink RJx4a65c 66 yJ7_copyOf_1904c, Cond.static yJ7_copyOf_1904c, Cond.initialized RJ7, Cond.code yJ7_copyOf_1904c cJ7_copyOf_1904c 2 (some (.array (.object "java/lang/Object"))), Cond.methodLink RJ7 86 ⟨"java/lang/Object", "getClass", "()Ljava/lang/Class;"⟩, Cond.selects "[Ljava/lang/Object;" ⟨"java/lang/Object", "getClass", "()Ljava/lang/Class;"⟩ ⟨"java/lang/Object", "getClass", "()Ljava/lang/Class;"⟩, Cond.instanceMethod ⟨"java/lang/Object", "getClass", "()Ljava/lang/Class;"⟩, Cond.native ⟨"java/lang/Object", "getClass", "()Ljava/lang/Class;"⟩, Cond.methodLink RJ7 300 yJ7_copyOf_6403c, Cond.static yJ7_copyOf_6403c, Cond.code yJ7_copyOf_6403c cJ7_copyOf_6403c 4 (some (.array (.object "java/lang/Object"))), Cond.classLink RJ7 110 "[Ljava/lang/Object;", Cond.classLink RJ7 2 "java/lang/Object", Cond.methodLink RJ7 304 Lib.Math.min.name, Cond.static Lib.Math.min.name, Cond.code Lib.Math.min.name Lib.Math.min.code 2 (some .int), Cond.methodLink RJ7 150 arraycopyName, Cond.native arraycopyName, Cond.static arraycopyName, Cond.initialized "java/lang/System"]
def wsL_addBond : List Cond := .codeWith yL_addBond cL_addBond 5 (some .int) [(0, 10, 13, 13), (0, 10, 17, 15)] :: ((wsL_addBond_r1 ++ (wsL_addBond_r2 ++ (wsL_addBond_r3 ++ wsL_addBond_r4))) ++ wsX30 ++ wsX00 ++ wsJx4a65c0 ++ (vx_atS RX3 58 "java/lang/IllegalStateException" ["java/lang/RuntimeException", "java/lang/Exception"]).filter goodWord ++ (vx_atS RX3 164 "java/lang/IllegalArgumentException" ["java/lang/RuntimeException", "java/lang/Exception"]).filter goodWord)
def wsL_takeCash : List Cond := .codeWith yL_takeCash cL_takeCash 4 (some .int) [(0, 9, 12, 13), (0, 9, 15, 15)] :: ([.classLink RL 13 "java/lang/IllegalArgumentException", .classLink RL 15 "java/lang/IllegalStateException", .methodLink RL 47 yX3_takeCash, .instanceMethod yX3_takeCash, .selects RX3 yX3_takeCash yX3_takeCash, .initialized RX3, .code yX3_takeCash cX3_takeCash 2 (some .int), .classLink RX3 54 "java/lang/IllegalStateException", .initialized "java/lang/IllegalStateException", .constant RX3 116 (100000), .fieldLink RX3 30 "Coverpool" "cash" "I", .methodLink RX3 42 yX3_requireWithin, .static yX3_requireWithin, .code yX3_requireWithin cX3_requireWithin 3 none, .classLink RX3 160 "java/lang/IllegalArgumentException", .initialized "java/lang/IllegalArgumentException"] ++ wsX30 ++ (vx_atS RX3 58 "java/lang/IllegalStateException" ["java/lang/RuntimeException", "java/lang/Exception"]).filter goodWord ++ (vx_atS RX3 164 "java/lang/IllegalArgumentException" ["java/lang/RuntimeException", "java/lang/Exception"]).filter goodWord)
def wsL_setRules : List Cond := .codeWith yL_setRules cL_setRules 5 (some .int) [(0, 7, 10, 13)] :: ([.classLink RL 13 "java/lang/IllegalArgumentException", .methodLink RL 50 yX3_setRules, .instanceMethod yX3_setRules, .selects RX3 yX3_setRules yX3_setRules, .initialized RX3, .code yX3_setRules cX3_setRules 4 none, .fieldLink RX3 33 "Coverpool" "rankThatCounts" "I", .fieldLink RX3 36 "Coverpool" "cover" "I", .fieldLink RX3 39 "Coverpool" "rate" "I", .methodLink RX3 42 yX3_requireWithin, .static yX3_requireWithin, .code yX3_requireWithin cX3_requireWithin 3 none, .classLink RX3 160 "java/lang/IllegalArgumentException", .initialized "java/lang/IllegalArgumentException"] ++ wsX30 ++ (vx_atS RX3 164 "java/lang/IllegalArgumentException" ["java/lang/RuntimeException", "java/lang/Exception"]).filter goodWord)
def wsL_bondState_r1 : List Cond := [Cond.classLink RL 21 "java/lang/IndexOutOfBoundsException", Cond.methodLink RL 54 yX3_bondState, Cond.instanceMethod yX3_bondState, Cond.selects RX3 yX3_bondState yX3_bondState, Cond.initialized RX3, Cond.code yX3_bondState cX3_bondState 2 (some .int), Cond.fieldLink RX3 123 "Coverpool$Bond" "state" "I", Cond.methodLink RX3 119 yX3_bondAt, Cond.instanceMethod yX3_bondAt, Cond.selects RX3 yX3_bondAt yX3_bondAt, Cond.code yX3_bondAt cX3_bondAt 2 (some (.object "Coverpool$Bond")), Cond.classLink RX3 169 "java/lang/IndexOutOfBoundsException", Cond.initialized "java/lang/IndexOutOfBoundsException", Cond.fieldLink RX3 16 "Coverpool" "bonds" "Ljava/util/ArrayList;", Cond.classLink RX3 111 "Coverpool$Bond", Cond.methodLink RX3 50 yJx4a65c_size_8abf5, Cond.instanceMethod yJx4a65c_size_8abf5, Cond.selects RJx4a65c yJx4a65c_size_8abf5 yJx4a65c_size_8abf5, Cond.initialized RJx4a65c, Cond.code yJx4a65c_size_8abf5 cJx4a65c_size_8abf5 1 (some .int), Cond.fieldLink RJx4a65c 48 "java/util/ArrayList" "size" "I", Cond.methodLink RX3 127 yJx4a65c_get_915e3, Cond.instanceMethod yJx4a65c_get_915e3, Cond.selects RJx4a65c yJx4a65c_get_915e3 yJx4a65c_get_915e3]
def wsL_bondState_r2 : List Cond := [Cond.code yJx4a65c_get_915e3 cJx4a65c_get_915e3 2 (some (.object "java/lang/Object")), Cond.methodLink RJx4a65c 118 yJ15_checkIndex_7cf53, Cond.static yJ15_checkIndex_7cf53, Cond.initialized RJ15, Cond.code yJ15_checkIndex_7cf53 cJ15_checkIndex_7cf53 2 (some .int), Cond.methodLink RJ15 105 yJ3_checkIndex_8e157, Cond.static yJ3_checkIndex_8e157, Cond.initialized RJ3, Cond.code yJ3_checkIndex_8e157 cJ3_checkIndex_8e157 3 (some .int), Cond.methodLink RJx4a65c 123 yJx4a65c_elementData_915e3, Cond.instanceMethod yJx4a65c_elementData_915e3, Cond.selects RJx4a65c yJx4a65c_elementData_915e3 yJx4a65c_elementData_915e3, Cond.code yJx4a65c_elementData_915e3 cJx4a65c_elementData_915e3 2 (some (.object "java/lang/Object")), Cond.fieldLink RJx4a65c 9 "java/util/ArrayList" "elementData" "[Ljava/lang/Object;"]
def wsL_bondState : List Cond := .codeWith yL_bondState cL_bondState 4 (some .int) [(0, 9, 12, 21)] :: ((wsL_bondState_r1 ++ wsL_bondState_r2) ++ wsX00 ++ wsX30 ++ wsJx4a65c0 ++ (vx_atS RX3 173 "java/lang/IndexOutOfBoundsException" ["java/lang/RuntimeException", "java/lang/Exception"]).filter goodWord)
def wsL_dueOf_r1 : List Cond := [Cond.classLink RL 21 "java/lang/IndexOutOfBoundsException", Cond.methodLink RL 57 yX3_dueOf, Cond.instanceMethod yX3_dueOf, Cond.selects RX3 yX3_dueOf yX3_dueOf, Cond.initialized RX3, Cond.code yX3_dueOf cX3_dueOf 2 (some .int), Cond.fieldLink RX3 124 "Coverpool$Bond" "due" "I", Cond.methodLink RX3 119 yX3_bondAt, Cond.instanceMethod yX3_bondAt, Cond.selects RX3 yX3_bondAt yX3_bondAt, Cond.code yX3_bondAt cX3_bondAt 2 (some (.object "Coverpool$Bond")), Cond.classLink RX3 169 "java/lang/IndexOutOfBoundsException", Cond.initialized "java/lang/IndexOutOfBoundsException", Cond.fieldLink RX3 16 "Coverpool" "bonds" "Ljava/util/ArrayList;", Cond.classLink RX3 111 "Coverpool$Bond", Cond.methodLink RX3 50 yJx4a65c_size_8abf5, Cond.instanceMethod yJx4a65c_size_8abf5, Cond.selects RJx4a65c yJx4a65c_size_8abf5 yJx4a65c_size_8abf5, Cond.initialized RJx4a65c, Cond.code yJx4a65c_size_8abf5 cJx4a65c_size_8abf5 1 (some .int), Cond.fieldLink RJx4a65c 48 "java/util/ArrayList" "size" "I", Cond.methodLink RX3 127 yJx4a65c_get_915e3, Cond.instanceMethod yJx4a65c_get_915e3, Cond.selects RJx4a65c yJx4a65c_get_915e3 yJx4a65c_get_915e3]
def wsL_dueOf_r2 : List Cond := [Cond.code yJx4a65c_get_915e3 cJx4a65c_get_915e3 2 (some (.object "java/lang/Object")), Cond.methodLink RJx4a65c 118 yJ15_checkIndex_7cf53, Cond.static yJ15_checkIndex_7cf53, Cond.initialized RJ15, Cond.code yJ15_checkIndex_7cf53 cJ15_checkIndex_7cf53 2 (some .int), Cond.methodLink RJ15 105 yJ3_checkIndex_8e157, Cond.static yJ3_checkIndex_8e157, Cond.initialized RJ3, Cond.code yJ3_checkIndex_8e157 cJ3_checkIndex_8e157 3 (some .int), Cond.methodLink RJx4a65c 123 yJx4a65c_elementData_915e3, Cond.instanceMethod yJx4a65c_elementData_915e3, Cond.selects RJx4a65c yJx4a65c_elementData_915e3 yJx4a65c_elementData_915e3, Cond.code yJx4a65c_elementData_915e3 cJx4a65c_elementData_915e3 2 (some (.object "java/lang/Object")), Cond.fieldLink RJx4a65c 9 "java/util/ArrayList" "elementData" "[Ljava/lang/Object;"]
def wsL_dueOf : List Cond := .codeWith yL_dueOf cL_dueOf 4 (some .int) [(0, 9, 12, 21)] :: ((wsL_dueOf_r1 ++ wsL_dueOf_r2) ++ wsX00 ++ wsX30 ++ wsJx4a65c0 ++ (vx_atS RX3 173 "java/lang/IndexOutOfBoundsException" ["java/lang/RuntimeException", "java/lang/Exception"]).filter goodWord)
def wsL_pass_r1 : List Cond := [Cond.classLink RL 13 "java/lang/IllegalArgumentException", Cond.methodLink RL 60 yX3_pass, Cond.instanceMethod yX3_pass, Cond.selects RX3 yX3_pass yX3_pass, Cond.initialized RX3, Cond.code yX3_pass cX3_pass 3 (some .int), Cond.fieldLink RX3 26 "Coverpool" "month" "I", Cond.methodLink RX3 42 yX3_requireWithin, Cond.static yX3_requireWithin, Cond.code yX3_requireWithin cX3_requireWithin 3 none, Cond.classLink RX3 160 "java/lang/IllegalArgumentException", Cond.initialized "java/lang/IllegalArgumentException", Cond.methodLink RX3 142 yX3_receiveDueLoans, Cond.instanceMethod yX3_receiveDueLoans, Cond.selects RX3 yX3_receiveDueLoans yX3_receiveDueLoans, Cond.code yX3_receiveDueLoans cX3_receiveDueLoans 3 none, Cond.fieldLink RX3 10 "Coverpool" "loans" "Ljava/util/ArrayList;", Cond.classLink RX3 61 "Coverpool$Loan", Cond.fieldLink RX3 78 "Coverpool$Loan" "state" "I", Cond.fieldLink RX3 176 "Coverpool$Loan" "due" "I", Cond.fieldLink RX3 102 "Coverpool$Loan" "arrears" "I", Cond.fieldLink RX3 30 "Coverpool" "cash" "I", Cond.fieldLink RX3 177 "Coverpool$Loan" "amount" "I", Cond.methodLink RX3 50 yJx4a65c_size_8abf5]
def wsL_pass_r2 : List Cond := [Cond.instanceMethod yJx4a65c_size_8abf5, Cond.selects RJx4a65c yJx4a65c_size_8abf5 yJx4a65c_size_8abf5, Cond.initialized RJx4a65c, Cond.code yJx4a65c_size_8abf5 cJx4a65c_size_8abf5 1 (some .int), Cond.fieldLink RJx4a65c 48 "java/util/ArrayList" "size" "I", Cond.methodLink RX3 127 yJx4a65c_get_915e3, Cond.instanceMethod yJx4a65c_get_915e3, Cond.selects RJx4a65c yJx4a65c_get_915e3 yJx4a65c_get_915e3, Cond.code yJx4a65c_get_915e3 cJx4a65c_get_915e3 2 (some (.object "java/lang/Object")), Cond.methodLink RJx4a65c 118 yJ15_checkIndex_7cf53, Cond.static yJ15_checkIndex_7cf53, Cond.initialized RJ15, Cond.code yJ15_checkIndex_7cf53 cJ15_checkIndex_7cf53 2 (some .int), Cond.methodLink RJ15 105 yJ3_checkIndex_8e157, Cond.static yJ3_checkIndex_8e157, Cond.initialized RJ3, Cond.code yJ3_checkIndex_8e157 cJ3_checkIndex_8e157 3 (some .int), Cond.methodLink RJx4a65c 123 yJx4a65c_elementData_915e3, Cond.instanceMethod yJx4a65c_elementData_915e3, Cond.selects RJx4a65c yJx4a65c_elementData_915e3 yJx4a65c_elementData_915e3, Cond.code yJx4a65c_elementData_915e3 cJx4a65c_elementData_915e3 2 (some (.object "java/lang/Object")), Cond.fieldLink RJx4a65c 9 "java/util/ArrayList" "elementData" "[Ljava/lang/Object;", Cond.methodLink RX3 145 yX3_settleDueBonds, Cond.instanceMethod yX3_settleDueBonds]
def wsL_pass_r3 : List Cond := [Cond.selects RX3 yX3_settleDueBonds yX3_settleDueBonds, Cond.code yX3_settleDueBonds cX3_settleDueBonds 3 none, Cond.fieldLink RX3 16 "Coverpool" "bonds" "Ljava/util/ArrayList;", Cond.classLink RX3 111 "Coverpool$Bond", Cond.fieldLink RX3 123 "Coverpool$Bond" "state" "I", Cond.fieldLink RX3 124 "Coverpool$Bond" "due" "I", Cond.methodLink RX3 178 yX3_settle, Cond.instanceMethod yX3_settle, Cond.selects RX3 yX3_settle yX3_settle, Cond.code yX3_settle cX3_settle 2 none, Cond.fieldLink RX3 131 "Coverpool$Bond" "amount" "I", Cond.fieldLink RX3 182 "Coverpool$Bond" "wasPutOff" "Z"]
def wsL_pass : List Cond := .codeWith yL_pass cL_pass 4 (some .int) [(0, 9, 12, 13)] :: ((wsL_pass_r1 ++ (wsL_pass_r2 ++ wsL_pass_r3)) ++ wsX30 ++ wsX10 ++ wsJx4a65c0 ++ wsX00 ++ (vx_atS RX3 164 "java/lang/IllegalArgumentException" ["java/lang/RuntimeException", "java/lang/Exception"]).filter goodWord)
def wsL_holds_r1 : List Cond := [Cond.classLink RL 13 "java/lang/IllegalArgumentException", Cond.methodLink RL 63 yX3_holds, Cond.instanceMethod yX3_holds, Cond.selects RX3 yX3_holds yX3_holds, Cond.initialized RX3, Cond.code yX3_holds cX3_holds 2 (some .boolean), Cond.methodLink RX3 148 yX3_lacking, Cond.instanceMethod yX3_lacking, Cond.selects RX3 yX3_lacking yX3_lacking, Cond.code yX3_lacking cX3_lacking 2 (some .long), Cond.fieldLink RX3 22 "Coverpool" "sheet" "LCoverpool$Sheet;", Cond.methodLink RX3 42 yX3_requireWithin, Cond.static yX3_requireWithin, Cond.code yX3_requireWithin cX3_requireWithin 3 none, Cond.classLink RX3 160 "java/lang/IllegalArgumentException", Cond.initialized "java/lang/IllegalArgumentException", Cond.methodLink RX3 85 yX3_fillSheet, Cond.instanceMethod yX3_fillSheet, Cond.selects RX3 yX3_fillSheet yX3_fillSheet, Cond.code yX3_fillSheet cX3_fillSheet 3 none, Cond.fieldLink RX3 10 "Coverpool" "loans" "Ljava/util/ArrayList;", Cond.classLink RX3 61 "Coverpool$Loan", Cond.fieldLink RX3 192 "Coverpool$Sheet" "gives" "[[I", Cond.fieldLink RX3 176 "Coverpool$Loan" "due" "I"]
def wsL_holds_r2 : List Cond := [Cond.fieldLink RX3 200 "Coverpool$Sheet" "needs" "[I", Cond.fieldLink RX3 16 "Coverpool" "bonds" "Ljava/util/ArrayList;", Cond.classLink RX3 111 "Coverpool$Bond", Cond.fieldLink RX3 123 "Coverpool$Bond" "state" "I", Cond.methodLink RX3 50 yJx4a65c_size_8abf5, Cond.instanceMethod yJx4a65c_size_8abf5, Cond.selects RJx4a65c yJx4a65c_size_8abf5 yJx4a65c_size_8abf5, Cond.initialized RJx4a65c, Cond.code yJx4a65c_size_8abf5 cJx4a65c_size_8abf5 1 (some .int), Cond.fieldLink RJx4a65c 48 "java/util/ArrayList" "size" "I", Cond.methodLink RX3 127 yJx4a65c_get_915e3, Cond.instanceMethod yJx4a65c_get_915e3, Cond.selects RJx4a65c yJx4a65c_get_915e3 yJx4a65c_get_915e3, Cond.code yJx4a65c_get_915e3 cJx4a65c_get_915e3 2 (some (.object "java/lang/Object")), Cond.methodLink RJx4a65c 118 yJ15_checkIndex_7cf53, Cond.static yJ15_checkIndex_7cf53, Cond.initialized RJ15, Cond.code yJ15_checkIndex_7cf53 cJ15_checkIndex_7cf53 2 (some .int), Cond.methodLink RJ15 105 yJ3_checkIndex_8e157, Cond.static yJ3_checkIndex_8e157, Cond.initialized RJ3, Cond.code yJ3_checkIndex_8e157 cJ3_checkIndex_8e157 3 (some .int), Cond.methodLink RJx4a65c 123 yJx4a65c_elementData_915e3, Cond.instanceMethod yJx4a65c_elementData_915e3]
def wsL_holds_r3 : List Cond := [Cond.selects RJx4a65c yJx4a65c_elementData_915e3 yJx4a65c_elementData_915e3, Cond.code yJx4a65c_elementData_915e3 cJx4a65c_elementData_915e3 2 (some (.object "java/lang/Object")), Cond.fieldLink RJx4a65c 9 "java/util/ArrayList" "elementData" "[Ljava/lang/Object;", Cond.methodLink RX3 81 yX3_countOf, Cond.instanceMethod yX3_countOf, Cond.selects RX3 yX3_countOf yX3_countOf, Cond.code yX3_countOf cX3_countOf 2 (some .int), Cond.fieldLink RX3 102 "Coverpool$Loan" "arrears" "I", Cond.fieldLink RX3 186 "Coverpool$Loan" "rank" "I", Cond.fieldLink RX3 33 "Coverpool" "rankThatCounts" "I", Cond.fieldLink RX3 177 "Coverpool$Loan" "amount" "I", Cond.fieldLink RX3 105 "Coverpool$Loan" "worth" "I", Cond.methodLink RX3 137 Lib.Math.min.name, Cond.static Lib.Math.min.name, Cond.initialized "java/lang/Math", Cond.code Lib.Math.min.name Lib.Math.min.code 2 (some .int), Cond.methodLink RX3 196 yX3_fillRow, Cond.instanceMethod yX3_fillRow, Cond.selects RX3 yX3_fillRow yX3_fillRow, Cond.code yX3_fillRow cX3_fillRow 5 none, Cond.fieldLink RX3 26 "Coverpool" "month" "I", Cond.methodLink RX3 212 yX3_worthNow, Cond.instanceMethod yX3_worthNow, Cond.selects RX3 yX3_worthNow yX3_worthNow]
def wsL_holds_r4 : List Cond := [Cond.code yX3_worthNow cX3_worthNow 4 (some .int), Cond.fieldLink RX3 39 "Coverpool" "rate" "I", Cond.methodLink RX3 189 Lib.Math.max.name, Cond.static Lib.Math.max.name, Cond.code Lib.Math.max.name Lib.Math.max.code 2 (some .int), Cond.methodLink RX3 204 yX3_startWithCashAndSubstitutes, Cond.instanceMethod yX3_startWithCashAndSubstitutes, Cond.selects RX3 yX3_startWithCashAndSubstitutes yX3_startWithCashAndSubstitutes, Cond.code yX3_startWithCashAndSubstitutes cX3_startWithCashAndSubstitutes 4 none, Cond.fieldLink RX3 30 "Coverpool" "cash" "I", Cond.methodLink RX3 215 yX3_substitutes, Cond.instanceMethod yX3_substitutes, Cond.selects RX3 yX3_substitutes yX3_substitutes, Cond.code yX3_substitutes cX3_substitutes 1 (some .int), Cond.methodLink RX3 134 yX3_debt, Cond.instanceMethod yX3_debt, Cond.selects RX3 yX3_debt yX3_debt, Cond.code yX3_debt cX3_debt 4 (some .int), Cond.fieldLink RX3 131 "Coverpool$Bond" "amount" "I", Cond.methodLink RX3 208 yX3_addBondTo, Cond.instanceMethod yX3_addBondTo, Cond.selects RX3 yX3_addBondTo yX3_addBondTo, Cond.code yX3_addBondTo cX3_addBondTo 4 none, Cond.fieldLink RX3 36 "Coverpool" "cover" "I"]
def wsL_holds_r5 : List Cond := [Cond.fieldLink RX3 124 "Coverpool$Bond" "due" "I", Cond.methodLink RX3 88 yX3_loansThatAre, Cond.instanceMethod yX3_loansThatAre, Cond.selects RX3 yX3_loansThatAre yX3_loansThatAre, Cond.code yX3_loansThatAre cX3_loansThatAre 4 (some .int), Cond.fieldLink RX3 78 "Coverpool$Loan" "state" "I", Cond.methodLink RX3 96 yX2_mostMissing, Cond.instanceMethod yX2_mostMissing, Cond.selects RX2 yX2_mostMissing yX2_mostMissing, Cond.initialized RX2, Cond.code yX2_mostMissing cX2_mostMissing 5 (some .int), Cond.methodLink RX2 28 Lib.Math.max.name, Cond.methodLink RX2 24 yX2_testOf, Cond.static yX2_testOf, Cond.code yX2_testOf cX2_testOf 1 (some .int), Cond.methodLink RX2 20 yX2_missing, Cond.instanceMethod yX2_missing, Cond.selects RX2 yX2_missing yX2_missing, Cond.code yX2_missing cX2_missing 5 (some .int), Cond.fieldLink RX2 11 "Coverpool$Sheet" "needs" "[I", Cond.fieldLink RX2 17 "Coverpool$Sheet" "gives" "[[I"]
def wsL_holds : List Cond := .codeWith yL_holds cL_holds 4 (some .int) [(0, 16, 19, 13)] :: ((wsL_holds_r1 ++ (wsL_holds_r2 ++ (wsL_holds_r3 ++ (wsL_holds_r4 ++ wsL_holds_r5)))) ++ wsX30 ++ wsX20 ++ wsX10 ++ wsX00 ++ wsJx4a65c0 ++ (vx_atS RX3 164 "java/lang/IllegalArgumentException" ["java/lang/RuntimeException", "java/lang/Exception"]).filter goodWord)
def wsL_lacking_r1 : List Cond := [Cond.classLink RL 13 "java/lang/IllegalArgumentException", Cond.methodLink RL 66 yX3_lacking, Cond.instanceMethod yX3_lacking, Cond.selects RX3 yX3_lacking yX3_lacking, Cond.initialized RX3, Cond.code yX3_lacking cX3_lacking 2 (some .long), Cond.fieldLink RX3 22 "Coverpool" "sheet" "LCoverpool$Sheet;", Cond.methodLink RX3 42 yX3_requireWithin, Cond.static yX3_requireWithin, Cond.code yX3_requireWithin cX3_requireWithin 3 none, Cond.classLink RX3 160 "java/lang/IllegalArgumentException", Cond.initialized "java/lang/IllegalArgumentException", Cond.methodLink RX3 85 yX3_fillSheet, Cond.instanceMethod yX3_fillSheet, Cond.selects RX3 yX3_fillSheet yX3_fillSheet, Cond.code yX3_fillSheet cX3_fillSheet 3 none, Cond.fieldLink RX3 10 "Coverpool" "loans" "Ljava/util/ArrayList;", Cond.classLink RX3 61 "Coverpool$Loan", Cond.fieldLink RX3 192 "Coverpool$Sheet" "gives" "[[I", Cond.fieldLink RX3 176 "Coverpool$Loan" "due" "I", Cond.fieldLink RX3 200 "Coverpool$Sheet" "needs" "[I", Cond.fieldLink RX3 16 "Coverpool" "bonds" "Ljava/util/ArrayList;", Cond.classLink RX3 111 "Coverpool$Bond", Cond.fieldLink RX3 123 "Coverpool$Bond" "state" "I"]
def wsL_lacking_r2 : List Cond := [Cond.methodLink RX3 50 yJx4a65c_size_8abf5, Cond.instanceMethod yJx4a65c_size_8abf5, Cond.selects RJx4a65c yJx4a65c_size_8abf5 yJx4a65c_size_8abf5, Cond.initialized RJx4a65c, Cond.code yJx4a65c_size_8abf5 cJx4a65c_size_8abf5 1 (some .int), Cond.fieldLink RJx4a65c 48 "java/util/ArrayList" "size" "I", Cond.methodLink RX3 127 yJx4a65c_get_915e3, Cond.instanceMethod yJx4a65c_get_915e3, Cond.selects RJx4a65c yJx4a65c_get_915e3 yJx4a65c_get_915e3, Cond.code yJx4a65c_get_915e3 cJx4a65c_get_915e3 2 (some (.object "java/lang/Object")), Cond.methodLink RJx4a65c 118 yJ15_checkIndex_7cf53, Cond.static yJ15_checkIndex_7cf53, Cond.initialized RJ15, Cond.code yJ15_checkIndex_7cf53 cJ15_checkIndex_7cf53 2 (some .int), Cond.methodLink RJ15 105 yJ3_checkIndex_8e157, Cond.static yJ3_checkIndex_8e157, Cond.initialized RJ3, Cond.code yJ3_checkIndex_8e157 cJ3_checkIndex_8e157 3 (some .int), Cond.methodLink RJx4a65c 123 yJx4a65c_elementData_915e3, Cond.instanceMethod yJx4a65c_elementData_915e3, Cond.selects RJx4a65c yJx4a65c_elementData_915e3 yJx4a65c_elementData_915e3, Cond.code yJx4a65c_elementData_915e3 cJx4a65c_elementData_915e3 2 (some (.object "java/lang/Object")), Cond.fieldLink RJx4a65c 9 "java/util/ArrayList" "elementData" "[Ljava/lang/Object;", Cond.methodLink RX3 81 yX3_countOf]
def wsL_lacking_r3 : List Cond := [Cond.instanceMethod yX3_countOf, Cond.selects RX3 yX3_countOf yX3_countOf, Cond.code yX3_countOf cX3_countOf 2 (some .int), Cond.fieldLink RX3 102 "Coverpool$Loan" "arrears" "I", Cond.fieldLink RX3 186 "Coverpool$Loan" "rank" "I", Cond.fieldLink RX3 33 "Coverpool" "rankThatCounts" "I", Cond.fieldLink RX3 177 "Coverpool$Loan" "amount" "I", Cond.fieldLink RX3 105 "Coverpool$Loan" "worth" "I", Cond.methodLink RX3 137 Lib.Math.min.name, Cond.static Lib.Math.min.name, Cond.initialized "java/lang/Math", Cond.code Lib.Math.min.name Lib.Math.min.code 2 (some .int), Cond.methodLink RX3 196 yX3_fillRow, Cond.instanceMethod yX3_fillRow, Cond.selects RX3 yX3_fillRow yX3_fillRow, Cond.code yX3_fillRow cX3_fillRow 5 none, Cond.fieldLink RX3 26 "Coverpool" "month" "I", Cond.methodLink RX3 212 yX3_worthNow, Cond.instanceMethod yX3_worthNow, Cond.selects RX3 yX3_worthNow yX3_worthNow, Cond.code yX3_worthNow cX3_worthNow 4 (some .int), Cond.fieldLink RX3 39 "Coverpool" "rate" "I", Cond.methodLink RX3 189 Lib.Math.max.name, Cond.static Lib.Math.max.name]
def wsL_lacking_r4 : List Cond := [Cond.code Lib.Math.max.name Lib.Math.max.code 2 (some .int), Cond.methodLink RX3 204 yX3_startWithCashAndSubstitutes, Cond.instanceMethod yX3_startWithCashAndSubstitutes, Cond.selects RX3 yX3_startWithCashAndSubstitutes yX3_startWithCashAndSubstitutes, Cond.code yX3_startWithCashAndSubstitutes cX3_startWithCashAndSubstitutes 4 none, Cond.fieldLink RX3 30 "Coverpool" "cash" "I", Cond.methodLink RX3 215 yX3_substitutes, Cond.instanceMethod yX3_substitutes, Cond.selects RX3 yX3_substitutes yX3_substitutes, Cond.code yX3_substitutes cX3_substitutes 1 (some .int), Cond.methodLink RX3 134 yX3_debt, Cond.instanceMethod yX3_debt, Cond.selects RX3 yX3_debt yX3_debt, Cond.code yX3_debt cX3_debt 4 (some .int), Cond.fieldLink RX3 131 "Coverpool$Bond" "amount" "I", Cond.methodLink RX3 208 yX3_addBondTo, Cond.instanceMethod yX3_addBondTo, Cond.selects RX3 yX3_addBondTo yX3_addBondTo, Cond.code yX3_addBondTo cX3_addBondTo 4 none, Cond.fieldLink RX3 36 "Coverpool" "cover" "I", Cond.fieldLink RX3 124 "Coverpool$Bond" "due" "I", Cond.methodLink RX3 88 yX3_loansThatAre, Cond.instanceMethod yX3_loansThatAre, Cond.selects RX3 yX3_loansThatAre yX3_loansThatAre]
def wsL_lacking_r5 : List Cond := [Cond.code yX3_loansThatAre cX3_loansThatAre 4 (some .int), Cond.fieldLink RX3 78 "Coverpool$Loan" "state" "I", Cond.methodLink RX3 96 yX2_mostMissing, Cond.instanceMethod yX2_mostMissing, Cond.selects RX2 yX2_mostMissing yX2_mostMissing, Cond.initialized RX2, Cond.code yX2_mostMissing cX2_mostMissing 5 (some .int), Cond.methodLink RX2 28 Lib.Math.max.name, Cond.methodLink RX2 24 yX2_testOf, Cond.static yX2_testOf, Cond.code yX2_testOf cX2_testOf 1 (some .int), Cond.methodLink RX2 20 yX2_missing, Cond.instanceMethod yX2_missing, Cond.selects RX2 yX2_missing yX2_missing, Cond.code yX2_missing cX2_missing 5 (some .int), Cond.fieldLink RX2 11 "Coverpool$Sheet" "needs" "[I", Cond.fieldLink RX2 17 "Coverpool$Sheet" "gives" "[[I"]
def wsL_lacking : List Cond := .codeWith yL_lacking cL_lacking 4 (some .int) [(0, 8, 11, 13)] :: ((wsL_lacking_r1 ++ (wsL_lacking_r2 ++ (wsL_lacking_r3 ++ (wsL_lacking_r4 ++ wsL_lacking_r5)))) ++ wsX30 ++ wsX20 ++ wsX10 ++ wsX00 ++ wsJx4a65c0 ++ (vx_atS RX3 164 "java/lang/IllegalArgumentException" ["java/lang/RuntimeException", "java/lang/Exception"]).filter goodWord)
def wsL_law0_r1 : List Cond := [Cond.classLink RL 8 RX3, Cond.instantiable RX3 8, Cond.initialized RX3, Cond.classLink RL 71 RX4, Cond.instantiable RX4 18, Cond.initialized RX4, Cond.arrayClass .long, Cond.methodLink RL 70 yX3_init, Cond.instanceMethod yX3_init, Cond.code yX3_init cX3_init 1 none, Cond.methodLink RX3 1 objectInit, Cond.instanceMethod objectInit, Cond.code objectInit ⟨#[0xb1]⟩ 1 none, Cond.classLink RX3 7 RJx4a65c, Cond.instantiable RJx4a65c 3, Cond.initialized RJx4a65c, Cond.fieldLink RX3 10 "Coverpool" "loans" "Ljava/util/ArrayList;", Cond.fieldLink RX3 16 "Coverpool" "bonds" "Ljava/util/ArrayList;", Cond.classLink RX3 19 RX2, Cond.instantiable RX2 2, Cond.initialized RX2, Cond.fieldLink RX3 22 "Coverpool" "sheet" "LCoverpool$Sheet;", Cond.fieldLink RX3 26 "Coverpool" "month" "I", Cond.fieldLink RX3 30 "Coverpool" "cash" "I"]
def wsL_law0_r2 : List Cond := [Cond.fieldLink RX3 33 "Coverpool" "rankThatCounts" "I", Cond.fieldLink RX3 36 "Coverpool" "cover" "I", Cond.fieldLink RX3 39 "Coverpool" "rate" "I", Cond.methodLink RX3 9 yJx4a65c_init_da8c8, Cond.instanceMethod yJx4a65c_init_da8c8, Cond.code yJx4a65c_init_da8c8 cJx4a65c_init_da8c8 1 none, Cond.fieldLink RJx4a65c 39 "java/util/ArrayList" "DEFAULTCAPACITY_EMPTY_ELEMENTDATA" "[Ljava/lang/Object;", Cond.fieldLink RJx4a65c 9 "java/util/ArrayList" "elementData" "[Ljava/lang/Object;", Cond.methodLink RJx4a65c 1 yJxc12de_init_da8c8, Cond.instanceMethod yJxc12de_init_da8c8, Cond.initialized RJxc12de, Cond.code yJxc12de_init_da8c8 cJxc12de_init_da8c8 1 none, Cond.fieldLink RJxc12de 7 "java/util/AbstractList" "modCount" "I", Cond.methodLink RJxc12de 1 yJxa1e45_init_da8c8, Cond.instanceMethod yJxa1e45_init_da8c8, Cond.initialized RJxa1e45, Cond.code yJxa1e45_init_da8c8 cJxa1e45_init_da8c8 1 none, Cond.methodLink RJxa1e45 1 objectInit, Cond.instanceMethod yX2_init, Cond.code yX2_init cX2_init 1 none, Cond.methodLink RX2 5 objectInit, Cond.arrayClass .int, Cond.fieldLink RX2 11 "Coverpool$Sheet" "needs" "[I", Cond.classLink RX2 15 "[[I"]
def wsL_law0_r3 : List Cond := [Cond.fieldLink RX2 17 "Coverpool$Sheet" "gives" "[[I", Cond.methodLink RL 73 yX4_init, Cond.instanceMethod yX4_init, Cond.code yX4_init cX4_init 1 none, Cond.methodLink RX4 1 objectInit, Cond.fieldLink RX4 7 "CoverpoolModel" "greatest" "I", Cond.fieldLink RX4 13 "CoverpoolModel" "cover" "I", Cond.fieldLink RX4 16 "CoverpoolModel" "stress" "I", Cond.fieldLink RX4 19 "CoverpoolModel" "amount" "[I", Cond.fieldLink RX4 23 "CoverpoolModel" "worth" "[I", Cond.fieldLink RX4 26 "CoverpoolModel" "rank" "[I", Cond.fieldLink RX4 29 "CoverpoolModel" "due" "[I", Cond.fieldLink RX4 32 "CoverpoolModel" "arrears" "[I", Cond.fieldLink RX4 35 "CoverpoolModel" "state" "[I", Cond.fieldLink RX4 38 "CoverpoolModel" "bondAmount" "[I", Cond.fieldLink RX4 41 "CoverpoolModel" "bondDue" "[I", Cond.fieldLink RX4 44 "CoverpoolModel" "bondState" "[I", Cond.arrayClass .boolean, Cond.fieldLink RX4 47 "CoverpoolModel" "isPutOff" "[Z", Cond.methodLink RL 74 yL_addLoan, Cond.static yL_addLoan, Cond.initialized RL, Cond.codeWith yL_addLoan cL_addLoan 7 (some .int) [(0, 14, 17, 13), (0, 14, 21, 15)], Cond.classLink RL 13 "java/lang/IllegalArgumentException"]
def wsL_law0_r4 : List Cond := [Cond.classLink RL 15 "java/lang/IllegalStateException", Cond.methodLink RL 7 yX3_addLoan, Cond.instanceMethod yX3_addLoan, Cond.selects RX3 yX3_addLoan yX3_addLoan, Cond.code yX3_addLoan cX3_addLoan 5 (some .int), Cond.classLink RX3 54 "java/lang/IllegalStateException", Cond.initialized "java/lang/IllegalStateException", Cond.classLink RX3 61 RX1, Cond.instantiable RX1 6, Cond.initialized RX1, Cond.methodLink RX3 42 yX3_requireWithin, Cond.static yX3_requireWithin, Cond.code yX3_requireWithin cX3_requireWithin 3 none, Cond.classLink RX3 160 "java/lang/IllegalArgumentException", Cond.initialized "java/lang/IllegalArgumentException", Cond.methodLink RX3 46 yX3_requireDueAhead, Cond.instanceMethod yX3_requireDueAhead, Cond.selects RX3 yX3_requireDueAhead yX3_requireDueAhead, Cond.code yX3_requireDueAhead cX3_requireDueAhead 2 none, Cond.methodLink RX3 50 yJx4a65c_size_8abf5, Cond.instanceMethod yJx4a65c_size_8abf5, Cond.selects RJx4a65c yJx4a65c_size_8abf5 yJx4a65c_size_8abf5, Cond.code yJx4a65c_size_8abf5 cJx4a65c_size_8abf5 1 (some .int), Cond.fieldLink RJx4a65c 48 "java/util/ArrayList" "size" "I"]
def wsL_law0_r5 : List Cond := [Cond.methodLink RX3 63 yX1_init, Cond.instanceMethod yX1_init, Cond.code yX1_init cX1_init 5 none, Cond.methodLink RX1 3 objectInit, Cond.fieldLink RX1 9 "Coverpool$Loan" "arrears" "I", Cond.fieldLink RX1 15 "Coverpool$Loan" "state" "I", Cond.fieldLink RX1 18 "Coverpool$Loan" "amount" "I", Cond.fieldLink RX1 21 "Coverpool$Loan" "worth" "I", Cond.fieldLink RX1 24 "Coverpool$Loan" "rank" "I", Cond.fieldLink RX1 27 "Coverpool$Loan" "due" "I", Cond.methodLink RX3 66 yJx4a65c_add_9ea2d, Cond.instanceMethod yJx4a65c_add_9ea2d, Cond.selects RJx4a65c yJx4a65c_add_9ea2d yJx4a65c_add_9ea2d, Cond.code yJx4a65c_add_9ea2d cJx4a65c_add_9ea2d 2 (some .boolean), Cond.fieldLink RJx4a65c 63 "java/util/ArrayList" "modCount" "I", Cond.sameField "java/util/ArrayList" "java/util/AbstractList" "modCount" "I", Cond.methodLink RJx4a65c 131 yJx4a65c_add_72be8, Cond.instanceMethod yJx4a65c_add_72be8, Cond.selects RJx4a65c yJx4a65c_add_72be8 yJx4a65c_add_72be8, Cond.code yJx4a65c_add_72be8 cJx4a65c_add_72be8 4 none, Cond.methodLink RJx4a65c 129 yJx4a65c_grow_d5877, Cond.instanceMethod yJx4a65c_grow_d5877, Cond.selects RJx4a65c yJx4a65c_grow_d5877 yJx4a65c_grow_d5877, Cond.code yJx4a65c_grow_d5877 cJx4a65c_grow_d5877 1 (some (.array (.object "java/lang/Object")))]
def wsL_law0_r6 : List Cond := [Cond.methodLink RJx4a65c 69 yJx4a65c_grow_92f84, Cond.instanceMethod yJx4a65c_grow_92f84, Cond.selects RJx4a65c yJx4a65c_grow_92f84 yJx4a65c_grow_92f84, Cond.code yJx4a65c_grow_92f84 cJx4a65c_grow_92f84 4 (some (.array (.object "java/lang/Object"))), Cond.methodLink RJx4a65c 79 Lib.Math.max.name, Cond.static Lib.Math.max.name, Cond.initialized "java/lang/Math", Cond.code Lib.Math.max.name Lib.Math.max.code 2 (some .int), Cond.classLink RJx4a65c 7 "java/lang/Object", Cond.methodLink RJx4a65c 73 yJ8_newLength_cabcc, Cond.static yJ8_newLength_cabcc, Cond.initialized RJ8, Cond.code yJ8_newLength_cabcc cJ8_newLength_cabcc 4 (some .int), Cond.methodLink RJ8 194 Lib.Math.max.name, Cond.constant RJ8 200 (2147483639), Cond.methodLink RJ8 201 yJ8_hugeLength_7cf53, Cond.static yJ8_hugeLength_7cf53, Cond.code yJ8_hugeLength_7cf53 cJ8_hugeLength_7cf53 3 (some .int), Cond.methodLink RJx4a65c 66 yJ7_copyOf_1904c, Cond.static yJ7_copyOf_1904c, Cond.initialized RJ7, Cond.code yJ7_copyOf_1904c cJ7_copyOf_1904c 2 (some (.array (.object "java/lang/Object"))), Cond.methodLink RJ7 86 ⟨"java/lang/Object", "getClass", "()Ljava/lang/Class;"⟩, Cond.selects "[Ljava/lang/Object;" ⟨"java/lang/Object", "getClass", "()Ljava/lang/Class;"⟩ ⟨"java/lang/Object", "getClass", "()Ljava/lang/Class;"⟩]
def wsL_law0_r7 : List Cond := [Cond.instanceMethod ⟨"java/lang/Object", "getClass", "()Ljava/lang/Class;"⟩, Cond.native ⟨"java/lang/Object", "getClass", "()Ljava/lang/Class;"⟩, Cond.methodLink RJ7 300 yJ7_copyOf_6403c, Cond.static yJ7_copyOf_6403c, Cond.code yJ7_copyOf_6403c cJ7_copyOf_6403c 4 (some (.array (.object "java/lang/Object"))), Cond.classLink RJ7 110 "[Ljava/lang/Object;", Cond.classLink RJ7 2 "java/lang/Object", Cond.methodLink RJ7 304 Lib.Math.min.name, Cond.static Lib.Math.min.name, Cond.code Lib.Math.min.name Lib.Math.min.code 2 (some .int), Cond.methodLink RJ7 150 arraycopyName, Cond.native arraycopyName, Cond.static arraycopyName, Cond.initialized "java/lang/System", Cond.methodLink RL 79 yX4_addLoan, Cond.instanceMethod yX4_addLoan, Cond.selects RX4 yX4_addLoan yX4_addLoan, Cond.code yX4_addLoan cX4_addLoan 6 (some .int), Cond.fieldLink RX4 67 "CoverpoolModel" "month" "I", Cond.fieldLink RX4 54 "CoverpoolModel" "loans" "I", Cond.methodLink RX4 97 yX4_isWithin, Cond.static yX4_isWithin, Cond.code yX4_isWithin cX4_isWithin 3 (some .boolean), Cond.methodLink RX4 101 yX4_goes]
def wsL_law0_r8 : List Cond := [Cond.instanceMethod yX4_goes, Cond.selects RX4 yX4_goes yX4_goes, Cond.code yX4_goes cX4_goes 4 (some .boolean), Cond.fieldLink RX4 51 "CoverpoolModel" "thrown" "I", Cond.methodLink RL 80 yX4_thrown, Cond.instanceMethod yX4_thrown, Cond.selects RX4 yX4_thrown yX4_thrown, Cond.code yX4_thrown cX4_thrown 1 (some .int), Cond.methodLink RL 84 yL_enter, Cond.static yL_enter, Cond.codeWith yL_enter cL_enter 4 (some .int) [(0, 9, 12, 21), (0, 9, 15, 15)], Cond.classLink RL 21 "java/lang/IndexOutOfBoundsException", Cond.methodLink RL 17 yX3_enter, Cond.instanceMethod yX3_enter, Cond.selects RX3 yX3_enter yX3_enter, Cond.code yX3_enter cX3_enter 3 (some .int), Cond.fieldLink RX3 78 "Coverpool$Loan" "state" "I", Cond.methodLink RX3 70 yX3_loanAt, Cond.instanceMethod yX3_loanAt, Cond.selects RX3 yX3_loanAt yX3_loanAt, Cond.code yX3_loanAt cX3_loanAt 2 (some (.object "Coverpool$Loan")), Cond.classLink RX3 169 "java/lang/IndexOutOfBoundsException", Cond.initialized "java/lang/IndexOutOfBoundsException", Cond.classLink RX3 61 "Coverpool$Loan"]
def wsL_law0_r9 : List Cond := [Cond.methodLink RX3 127 yJx4a65c_get_915e3, Cond.instanceMethod yJx4a65c_get_915e3, Cond.selects RJx4a65c yJx4a65c_get_915e3 yJx4a65c_get_915e3, Cond.code yJx4a65c_get_915e3 cJx4a65c_get_915e3 2 (some (.object "java/lang/Object")), Cond.methodLink RJx4a65c 118 yJ15_checkIndex_7cf53, Cond.static yJ15_checkIndex_7cf53, Cond.initialized RJ15, Cond.code yJ15_checkIndex_7cf53 cJ15_checkIndex_7cf53 2 (some .int), Cond.methodLink RJ15 105 yJ3_checkIndex_8e157, Cond.static yJ3_checkIndex_8e157, Cond.initialized RJ3, Cond.code yJ3_checkIndex_8e157 cJ3_checkIndex_8e157 3 (some .int), Cond.methodLink RJx4a65c 123 yJx4a65c_elementData_915e3, Cond.instanceMethod yJx4a65c_elementData_915e3, Cond.selects RJx4a65c yJx4a65c_elementData_915e3 yJx4a65c_elementData_915e3, Cond.code yJx4a65c_elementData_915e3 cJx4a65c_elementData_915e3 2 (some (.object "java/lang/Object")), Cond.methodLink RX3 74 yX3_requireState, Cond.static yX3_requireState, Cond.code yX3_requireState cX3_requireState 2 none, Cond.methodLink RX3 81 yX3_countOf, Cond.instanceMethod yX3_countOf, Cond.selects RX3 yX3_countOf yX3_countOf, Cond.code yX3_countOf cX3_countOf 2 (some .int), Cond.fieldLink RX3 102 "Coverpool$Loan" "arrears" "I"]
def wsL_law0_r10 : List Cond := [Cond.fieldLink RX3 186 "Coverpool$Loan" "rank" "I", Cond.fieldLink RX3 177 "Coverpool$Loan" "amount" "I", Cond.fieldLink RX3 105 "Coverpool$Loan" "worth" "I", Cond.methodLink RX3 137 Lib.Math.min.name, Cond.methodLink RL 87 yX4_enter, Cond.instanceMethod yX4_enter, Cond.selects RX4 yX4_enter yX4_enter, Cond.code yX4_enter cX4_enter 3 (some .int), Cond.methodLink RX4 105 yX4_isLoan, Cond.instanceMethod yX4_isLoan, Cond.selects RX4 yX4_isLoan yX4_isLoan, Cond.code yX4_isLoan cX4_isLoan 2 (some .boolean), Cond.methodLink RX4 73 yX4_countOf, Cond.instanceMethod yX4_countOf, Cond.selects RX4 yX4_countOf yX4_countOf, Cond.code yX4_countOf cX4_countOf 4 (some .int), Cond.methodLink RL 88 yL_leave, Cond.static yL_leave, Cond.codeWith yL_leave cL_leave 4 (some .int) [(0, 16, 19, 21), (0, 16, 22, 15)], Cond.methodLink RL 23 yX3_leave, Cond.instanceMethod yX3_leave, Cond.selects RX3 yX3_leave yX3_leave, Cond.code yX3_leave cX3_leave 3 (some .boolean), Cond.methodLink RX3 85 yX3_fillSheet]
def wsL_law0_r11 : List Cond := [Cond.instanceMethod yX3_fillSheet, Cond.selects RX3 yX3_fillSheet yX3_fillSheet, Cond.code yX3_fillSheet cX3_fillSheet 3 none, Cond.fieldLink RX3 192 "Coverpool$Sheet" "gives" "[[I", Cond.fieldLink RX3 176 "Coverpool$Loan" "due" "I", Cond.fieldLink RX3 200 "Coverpool$Sheet" "needs" "[I", Cond.classLink RX3 111 "Coverpool$Bond", Cond.fieldLink RX3 123 "Coverpool$Bond" "state" "I", Cond.methodLink RX3 196 yX3_fillRow, Cond.instanceMethod yX3_fillRow, Cond.selects RX3 yX3_fillRow yX3_fillRow, Cond.code yX3_fillRow cX3_fillRow 5 none, Cond.methodLink RX3 212 yX3_worthNow, Cond.instanceMethod yX3_worthNow, Cond.selects RX3 yX3_worthNow yX3_worthNow, Cond.code yX3_worthNow cX3_worthNow 4 (some .int), Cond.methodLink RX3 189 Lib.Math.max.name, Cond.methodLink RX3 204 yX3_startWithCashAndSubstitutes, Cond.instanceMethod yX3_startWithCashAndSubstitutes, Cond.selects RX3 yX3_startWithCashAndSubstitutes yX3_startWithCashAndSubstitutes, Cond.code yX3_startWithCashAndSubstitutes cX3_startWithCashAndSubstitutes 4 none, Cond.methodLink RX3 215 yX3_substitutes, Cond.instanceMethod yX3_substitutes, Cond.selects RX3 yX3_substitutes yX3_substitutes]
def wsL_law0_r12 : List Cond := [Cond.code yX3_substitutes cX3_substitutes 1 (some .int), Cond.methodLink RX3 134 yX3_debt, Cond.instanceMethod yX3_debt, Cond.selects RX3 yX3_debt yX3_debt, Cond.code yX3_debt cX3_debt 4 (some .int), Cond.fieldLink RX3 131 "Coverpool$Bond" "amount" "I", Cond.methodLink RX3 208 yX3_addBondTo, Cond.instanceMethod yX3_addBondTo, Cond.selects RX3 yX3_addBondTo yX3_addBondTo, Cond.code yX3_addBondTo cX3_addBondTo 4 none, Cond.fieldLink RX3 124 "Coverpool$Bond" "due" "I", Cond.methodLink RX3 88 yX3_loansThatAre, Cond.instanceMethod yX3_loansThatAre, Cond.selects RX3 yX3_loansThatAre yX3_loansThatAre, Cond.code yX3_loansThatAre cX3_loansThatAre 4 (some .int), Cond.methodLink RX3 92 yX2_allHold, Cond.instanceMethod yX2_allHold, Cond.selects RX2 yX2_allHold yX2_allHold, Cond.code yX2_allHold cX2_allHold 3 (some .boolean), Cond.methodLink RX2 20 yX2_missing, Cond.instanceMethod yX2_missing, Cond.selects RX2 yX2_missing yX2_missing, Cond.code yX2_missing cX2_missing 5 (some .int), Cond.methodLink RL 90 yX4_leave]
def wsL_law0_r13 : List Cond := [Cond.instanceMethod yX4_leave, Cond.selects RX4 yX4_leave yX4_leave, Cond.code yX4_leave cX4_leave 4 (some .boolean), Cond.methodLink RX4 109 yX4_pool, Cond.instanceMethod yX4_pool, Cond.selects RX4 yX4_pool yX4_pool, Cond.code yX4_pool cX4_pool 3 (some .int), Cond.methodLink RX4 112 yX4_isSafe, Cond.instanceMethod yX4_isSafe, Cond.selects RX4 yX4_isSafe yX4_isSafe, Cond.code yX4_isSafe cX4_isSafe 2 (some .boolean), Cond.methodLink RX4 94 yX4_lack, Cond.instanceMethod yX4_lack, Cond.selects RX4 yX4_lack yX4_lack, Cond.code yX4_lack cX4_lack 7 (some .long), Cond.methodLink RX4 83 yX4_lackOfFace, Cond.instanceMethod yX4_lackOfFace, Cond.selects RX4 yX4_lackOfFace yX4_lackOfFace, Cond.code yX4_lackOfFace cX4_lackOfFace 6 (some .long), Cond.constantLong RX4 77 (100), Cond.methodLink RX4 70 yX4_beside, Cond.instanceMethod yX4_beside, Cond.selects RX4 yX4_beside yX4_beside, Cond.code yX4_beside cX4_beside 2 (some .int)]
def wsL_law0_r14 : List Cond := [Cond.fieldLink RX4 64 "CoverpoolModel" "cash" "I", Cond.methodLink RX4 60 yX4_owed, Cond.instanceMethod yX4_owed, Cond.selects RX4 yX4_owed yX4_owed, Cond.code yX4_owed cX4_owed 3 (some .int), Cond.fieldLink RX4 57 "CoverpoolModel" "bonds" "I", Cond.methodLink RX4 87 yX4_lackOfMoney, Cond.instanceMethod yX4_lackOfMoney, Cond.selects RX4 yX4_lackOfMoney yX4_lackOfMoney, Cond.code yX4_lackOfMoney cX4_lackOfMoney 8 (some .long), Cond.methodLink RX4 90 yX4_lackOfWorth, Cond.instanceMethod yX4_lackOfWorth, Cond.selects RX4 yX4_lackOfWorth yX4_lackOfWorth, Cond.code yX4_lackOfWorth cX4_lackOfWorth 6 (some .long), Cond.methodLink RX4 79 yX4_valued, Cond.instanceMethod yX4_valued, Cond.selects RX4 yX4_valued yX4_valued, Cond.code yX4_valued cX4_valued 5 (some .int), Cond.methodLink RL 91 yL_swap, Cond.static yL_swap, Cond.codeWith yL_swap cL_swap 5 (some .int) [(0, 17, 20, 21), (0, 17, 24, 15)], Cond.methodLink RL 27 yX3_swap, Cond.instanceMethod yX3_swap, Cond.selects RX3 yX3_swap yX3_swap]
def wsL_law0_r15 : List Cond := [Cond.code yX3_swap cX3_swap 8 (some .boolean), Cond.methodLink RX3 96 yX2_mostMissing, Cond.instanceMethod yX2_mostMissing, Cond.selects RX2 yX2_mostMissing yX2_mostMissing, Cond.code yX2_mostMissing cX2_mostMissing 5 (some .int), Cond.methodLink RX2 28 Lib.Math.max.name, Cond.methodLink RX2 24 yX2_testOf, Cond.static yX2_testOf, Cond.code yX2_testOf cX2_testOf 1 (some .int), Cond.methodLink RL 94 yX4_swap, Cond.instanceMethod yX4_swap, Cond.selects RX4 yX4_swap yX4_swap, Cond.code yX4_swap cX4_swap 8 (some .boolean), Cond.methodLink RL 95 yL_setArrears, Cond.static yL_setArrears, Cond.codeWith yL_setArrears cL_setArrears 5 (some .int) [(0, 10, 13, 21), (0, 10, 17, 13), (0, 10, 21, 15)], Cond.methodLink RL 31 yX3_setArrears, Cond.instanceMethod yX3_setArrears, Cond.selects RX3 yX3_setArrears yX3_setArrears, Cond.code yX3_setArrears cX3_setArrears 5 (some .int), Cond.methodLink RL 97 yX4_setArrears, Cond.instanceMethod yX4_setArrears, Cond.selects RX4 yX4_setArrears yX4_setArrears, Cond.code yX4_setArrears cX4_setArrears 5 (some .int)]
def wsL_law0_r16 : List Cond := [Cond.methodLink RL 98 yL_setWorth, Cond.static yL_setWorth, Cond.codeWith yL_setWorth cL_setWorth 5 (some .int) [(0, 10, 13, 21), (0, 10, 17, 13)], Cond.methodLink RL 35 yX3_setWorth, Cond.instanceMethod yX3_setWorth, Cond.selects RX3 yX3_setWorth yX3_setWorth, Cond.code yX3_setWorth cX3_setWorth 5 (some .int), Cond.methodLink RL 100 yX4_setWorth, Cond.instanceMethod yX4_setWorth, Cond.selects RX4 yX4_setWorth yX4_setWorth, Cond.code yX4_setWorth cX4_setWorth 4 (some .int), Cond.methodLink RL 101 yL_stateOf, Cond.static yL_stateOf, Cond.codeWith yL_stateOf cL_stateOf 4 (some .int) [(0, 9, 12, 21)], Cond.methodLink RL 38 yX3_stateOf, Cond.instanceMethod yX3_stateOf, Cond.selects RX3 yX3_stateOf yX3_stateOf, Cond.code yX3_stateOf cX3_stateOf 2 (some .int), Cond.methodLink RL 103 yX4_stateOf, Cond.instanceMethod yX4_stateOf, Cond.selects RX4 yX4_stateOf yX4_stateOf, Cond.code yX4_stateOf cX4_stateOf 2 (some .int), Cond.methodLink RL 104 yL_counts, Cond.static yL_counts]
def wsL_law0_r17 : List Cond := [Cond.codeWith yL_counts cL_counts 4 (some .int) [(0, 9, 12, 21)], Cond.methodLink RL 41 yX3_counts, Cond.instanceMethod yX3_counts, Cond.selects RX3 yX3_counts yX3_counts, Cond.code yX3_counts cX3_counts 2 (some .int), Cond.methodLink RL 106 yX4_counts, Cond.instanceMethod yX4_counts, Cond.selects RX4 yX4_counts yX4_counts, Cond.code yX4_counts cX4_counts 2 (some .int), Cond.methodLink RL 107 yL_addBond, Cond.static yL_addBond, Cond.codeWith yL_addBond cL_addBond 5 (some .int) [(0, 10, 13, 13), (0, 10, 17, 15)], Cond.methodLink RL 44 yX3_addBond, Cond.instanceMethod yX3_addBond, Cond.selects RX3 yX3_addBond yX3_addBond, Cond.code yX3_addBond cX3_addBond 3 (some .int), Cond.constant RX3 108 (50000), Cond.classLink RX3 111 RX0, Cond.instantiable RX0 4, Cond.initialized RX0, Cond.methodLink RX3 113 yX0_init, Cond.instanceMethod yX0_init, Cond.code yX0_init cX0_init 3 none, Cond.methodLink RX0 3 objectInit]
def wsL_law0_r18 : List Cond := [Cond.fieldLink RX0 9 "Coverpool$Bond" "state" "I", Cond.fieldLink RX0 15 "Coverpool$Bond" "wasPutOff" "Z", Cond.fieldLink RX0 19 "Coverpool$Bond" "amount" "I", Cond.fieldLink RX0 22 "Coverpool$Bond" "due" "I", Cond.methodLink RL 109 yX4_addBond, Cond.instanceMethod yX4_addBond, Cond.selects RX4 yX4_addBond yX4_addBond, Cond.code yX4_addBond cX4_addBond 3 (some .int), Cond.constant RX4 115 (50000), Cond.methodLink RL 110 yL_takeCash, Cond.static yL_takeCash, Cond.codeWith yL_takeCash cL_takeCash 4 (some .int) [(0, 9, 12, 13), (0, 9, 15, 15)], Cond.methodLink RL 47 yX3_takeCash, Cond.instanceMethod yX3_takeCash, Cond.selects RX3 yX3_takeCash yX3_takeCash, Cond.code yX3_takeCash cX3_takeCash 2 (some .int), Cond.constant RX3 116 (100000), Cond.methodLink RL 112 yX4_takeCash, Cond.instanceMethod yX4_takeCash, Cond.selects RX4 yX4_takeCash yX4_takeCash, Cond.code yX4_takeCash cX4_takeCash 2 (some .int), Cond.constant RX4 116 (100000), Cond.methodLink RL 113 yL_setRules, Cond.static yL_setRules]
def wsL_law0_r19 : List Cond := [Cond.codeWith yL_setRules cL_setRules 5 (some .int) [(0, 7, 10, 13)], Cond.methodLink RL 50 yX3_setRules, Cond.instanceMethod yX3_setRules, Cond.selects RX3 yX3_setRules yX3_setRules, Cond.code yX3_setRules cX3_setRules 4 none, Cond.methodLink RL 116 yX4_setRules, Cond.instanceMethod yX4_setRules, Cond.selects RX4 yX4_setRules yX4_setRules, Cond.code yX4_setRules cX4_setRules 4 none, Cond.methodLink RL 117 yL_bondState, Cond.static yL_bondState, Cond.codeWith yL_bondState cL_bondState 4 (some .int) [(0, 9, 12, 21)], Cond.methodLink RL 54 yX3_bondState, Cond.instanceMethod yX3_bondState, Cond.selects RX3 yX3_bondState yX3_bondState, Cond.code yX3_bondState cX3_bondState 2 (some .int), Cond.methodLink RX3 119 yX3_bondAt, Cond.instanceMethod yX3_bondAt, Cond.selects RX3 yX3_bondAt yX3_bondAt, Cond.code yX3_bondAt cX3_bondAt 2 (some (.object "Coverpool$Bond")), Cond.methodLink RL 119 yX4_bondState, Cond.instanceMethod yX4_bondState, Cond.selects RX4 yX4_bondState yX4_bondState, Cond.code yX4_bondState cX4_bondState 2 (some .int)]
def wsL_law0_r20 : List Cond := [Cond.methodLink RX4 117 yX4_isBond, Cond.instanceMethod yX4_isBond, Cond.selects RX4 yX4_isBond yX4_isBond, Cond.code yX4_isBond cX4_isBond 2 (some .boolean), Cond.methodLink RL 120 yL_dueOf, Cond.static yL_dueOf, Cond.codeWith yL_dueOf cL_dueOf 4 (some .int) [(0, 9, 12, 21)], Cond.methodLink RL 57 yX3_dueOf, Cond.instanceMethod yX3_dueOf, Cond.selects RX3 yX3_dueOf yX3_dueOf, Cond.code yX3_dueOf cX3_dueOf 2 (some .int), Cond.methodLink RL 122 yX4_dueOf, Cond.instanceMethod yX4_dueOf, Cond.selects RX4 yX4_dueOf yX4_dueOf, Cond.code yX4_dueOf cX4_dueOf 2 (some .int), Cond.methodLink RL 123 yX3_cash, Cond.instanceMethod yX3_cash, Cond.selects RX3 yX3_cash yX3_cash, Cond.code yX3_cash cX3_cash 1 (some .int), Cond.methodLink RL 126 yX4_cash, Cond.instanceMethod yX4_cash, Cond.selects RX4 yX4_cash yX4_cash, Cond.code yX4_cash cX4_cash 1 (some .int), Cond.methodLink RL 127 yX3_debt]
def wsL_law0_r21 : List Cond := [Cond.methodLink RL 130 yX4_debt, Cond.instanceMethod yX4_debt, Cond.selects RX4 yX4_debt yX4_debt, Cond.code yX4_debt cX4_debt 1 (some .int), Cond.methodLink RL 131 yX3_substitutes, Cond.methodLink RL 134 yX4_substitutes, Cond.instanceMethod yX4_substitutes, Cond.selects RX4 yX4_substitutes yX4_substitutes, Cond.code yX4_substitutes cX4_substitutes 1 (some .int), Cond.methodLink RL 135 yL_pass, Cond.static yL_pass, Cond.codeWith yL_pass cL_pass 4 (some .int) [(0, 9, 12, 13)], Cond.methodLink RL 60 yX3_pass, Cond.instanceMethod yX3_pass, Cond.selects RX3 yX3_pass yX3_pass, Cond.code yX3_pass cX3_pass 3 (some .int), Cond.methodLink RX3 142 yX3_receiveDueLoans, Cond.instanceMethod yX3_receiveDueLoans, Cond.selects RX3 yX3_receiveDueLoans yX3_receiveDueLoans, Cond.code yX3_receiveDueLoans cX3_receiveDueLoans 3 none, Cond.methodLink RX3 145 yX3_settleDueBonds, Cond.instanceMethod yX3_settleDueBonds, Cond.selects RX3 yX3_settleDueBonds yX3_settleDueBonds, Cond.code yX3_settleDueBonds cX3_settleDueBonds 3 none]
def wsL_law0_r22 : List Cond := [Cond.methodLink RX3 178 yX3_settle, Cond.instanceMethod yX3_settle, Cond.selects RX3 yX3_settle yX3_settle, Cond.code yX3_settle cX3_settle 2 none, Cond.fieldLink RX3 182 "Coverpool$Bond" "wasPutOff" "Z", Cond.methodLink RL 137 yX4_pass, Cond.instanceMethod yX4_pass, Cond.selects RX4 yX4_pass yX4_pass, Cond.code yX4_pass cX4_pass 3 (some .int), Cond.methodLink RX4 120 yX4_lives, Cond.instanceMethod yX4_lives, Cond.selects RX4 yX4_lives yX4_lives, Cond.code yX4_lives cX4_lives 2 none, Cond.methodLink RL 138 yL_holds, Cond.static yL_holds, Cond.codeWith yL_holds cL_holds 4 (some .int) [(0, 16, 19, 13)], Cond.methodLink RL 63 yX3_holds, Cond.instanceMethod yX3_holds, Cond.selects RX3 yX3_holds yX3_holds, Cond.code yX3_holds cX3_holds 2 (some .boolean), Cond.methodLink RX3 148 yX3_lacking, Cond.instanceMethod yX3_lacking, Cond.selects RX3 yX3_lacking yX3_lacking, Cond.code yX3_lacking cX3_lacking 2 (some .long)]
def wsL_law0_r23 : List Cond := [Cond.methodLink RL 140 yX4_holds, Cond.instanceMethod yX4_holds, Cond.selects RX4 yX4_holds yX4_holds, Cond.code yX4_holds cX4_holds 2 (some .boolean), Cond.methodLink RL 141 yL_lacking, Cond.static yL_lacking, Cond.codeWith yL_lacking cL_lacking 4 (some .int) [(0, 8, 11, 13)], Cond.methodLink RL 66 yX3_lacking, Cond.methodLink RL 143 yX4_lacking, Cond.instanceMethod yX4_lacking, Cond.selects RX4 yX4_lacking yX4_lacking, Cond.code yX4_lacking cX4_lacking 2 (some .long), Cond.methodLink RL 144 yX3_leastToAdd, Cond.instanceMethod yX3_leastToAdd, Cond.selects RX3 yX3_leastToAdd yX3_leastToAdd, Cond.code yX3_leastToAdd cX3_leastToAdd 1 (some .int), Cond.methodLink RX3 152 yX3_leastWith, Cond.static yX3_leastWith, Cond.code yX3_leastWith cX3_leastWith 8 (some .int), Cond.methodLink RX3 156 yX3_isLess, Cond.static yX3_isLess, Cond.code yX3_isLess cX3_isLess 3 (some .boolean), Cond.methodLink RX3 218 yJ6_bitCount_0f7a4, Cond.static yJ6_bitCount_0f7a4]
def wsL_law0_r24 : List Cond := [Cond.initialized RJ6, Cond.code yJ6_bitCount_0f7a4 cJ6_bitCount_0f7a4 1 (some .int), Cond.constant RJ6 265 (1431655765), Cond.constant RJ6 266 (858993459), Cond.constant RJ6 267 (252645135), Cond.methodLink RL 147 yX4_leastToAdd, Cond.instanceMethod yX4_leastToAdd, Cond.selects RX4 yX4_leastToAdd yX4_leastToAdd, Cond.code yX4_leastToAdd cX4_leastToAdd 5 (some .int), Cond.methodLink RX4 123 yX4_size, Cond.static yX4_size, Cond.code yX4_size cX4_size 3 (some .int), Cond.methodLink RL 148 yX3_leastToAddByAll, Cond.instanceMethod yX3_leastToAddByAll, Cond.selects RX3 yX3_leastToAddByAll yX3_leastToAddByAll, Cond.code yX3_leastToAddByAll cX3_leastToAddByAll 5 (some .int), Cond.methodLink RL 151 yX4_leastToAddByAll, Cond.instanceMethod yX4_leastToAddByAll, Cond.selects RX4 yX4_leastToAddByAll yX4_leastToAddByAll, Cond.code yX4_leastToAddByAll cX4_leastToAddByAll 1 (some .int), Cond.methodLink RX4 126 yX4_leastToAdd]
def wsL_law0 : List Cond := (wsL_law0_r1 ++ (wsL_law0_r2 ++ (wsL_law0_r3 ++ (wsL_law0_r4 ++ (wsL_law0_r5 ++ (wsL_law0_r6 ++ (wsL_law0_r7 ++ (wsL_law0_r8 ++ (wsL_law0_r9 ++ (wsL_law0_r10 ++ (wsL_law0_r11 ++ (wsL_law0_r12 ++ (wsL_law0_r13 ++ (wsL_law0_r14 ++ (wsL_law0_r15 ++ (wsL_law0_r16 ++ (wsL_law0_r17 ++ (wsL_law0_r18 ++ (wsL_law0_r19 ++ (wsL_law0_r20 ++ (wsL_law0_r21 ++ (wsL_law0_r22 ++ (wsL_law0_r23 ++ wsL_law0_r24))))))))))))))))))))))) ++ wsX30 ++ wsX40 ++ wsJx4a65c0 ++ wsX20 ++ wsX10 ++ wsX00 ++ ([] : List Cond)
def wsL_law : List Cond := wsL_law0 ++ (vx_atS RX3 58 "java/lang/IllegalStateException" ["java/lang/RuntimeException", "java/lang/Exception"]).filter goodWord ++ (vx_atS RX3 164 "java/lang/IllegalArgumentException" ["java/lang/RuntimeException", "java/lang/Exception"]).filter goodWord ++ (vx_atS RX3 173 "java/lang/IndexOutOfBoundsException" ["java/lang/RuntimeException", "java/lang/Exception"]).filter goodWord
end
section
set_option maxRecDepth 20000 in
theorem wsL_law_in0_r1 : ∀ w ∈ wsL_law0_r1, w ∈ lw_tbl := fun w h => (goodIn_p wsL_law0_r1 [58, 61] (by decide +kernel) (by decide +kernel) w h).1
set_option maxRecDepth 20000 in
theorem wsL_law_in0_r2 : ∀ w ∈ wsL_law0_r2, w ∈ lw_tbl := fun w h => (goodIn_p wsL_law0_r2 [66, 69, 72, 92] (by decide +kernel) (by decide +kernel) w h).1
set_option maxRecDepth 20000 in
theorem wsL_law_in0_r3 : ∀ w ∈ wsL_law0_r3, w ∈ lw_tbl := fun w h => (goodIn_p wsL_law0_r3 [597] (by decide +kernel) (by decide +kernel) w h).1
set_option maxRecDepth 20000 in
theorem wsL_law_in0_r4 : ∀ w ∈ wsL_law0_r4, w ∈ lw_tbl := fun w h => (goodIn_p wsL_law0_r4 [235, 238, 310, 142] (by decide +kernel) (by decide +kernel) w h).1
set_option maxRecDepth 20000 in
theorem wsL_law_in0_r5 : ∀ w ∈ wsL_law0_r5, w ∈ lw_tbl := fun w h => (goodIn_p wsL_law0_r5 [331, 361, 365, 369] (by decide +kernel) (by decide +kernel) w h).1
set_option maxRecDepth 20000 in
theorem wsL_law_in0_r6 : ∀ w ∈ wsL_law0_r6, w ∈ lw_tbl := fun w h => (goodIn_p wsL_law0_r6 [373, 189, 376, 381, 384] (by decide +kernel) (by decide +kernel) w h).1
set_option maxRecDepth 20000 in
theorem wsL_law_in0_r7 : ∀ w ∈ wsL_law0_r7, w ∈ lw_tbl := fun w h => (goodIn_p wsL_law0_r7 [400, 165, 662, 665] (by decide +kernel) (by decide +kernel) w h).1
set_option maxRecDepth 20000 in
theorem wsL_law_in0_r8 : ∀ w ∈ wsL_law0_r8, w ∈ lw_tbl := fun w h => (goodIn_p wsL_law0_r8 [669, 658, 417, 421] (by decide +kernel) (by decide +kernel) w h).1
set_option maxRecDepth 20000 in
theorem wsL_law_in0_r9 : ∀ w ∈ wsL_law0_r9, w ∈ lw_tbl := fun w h => (goodIn_p wsL_law0_r9 [146, 149, 152, 156, 440, 178] (by decide +kernel) (by decide +kernel) w h).1
set_option maxRecDepth 20000 in
theorem wsL_law_in0_r10 : ∀ w ∈ wsL_law0_r10, w ∈ lw_tbl := fun w h => (goodIn_p wsL_law0_r10 [673, 677, 681, 448] (by decide +kernel) (by decide +kernel) w h).1
set_option maxRecDepth 20000 in
theorem wsL_law_in0_r11 : ∀ w ∈ wsL_law0_r11, w ∈ lw_tbl := fun w h => (goodIn_p wsL_law0_r11 [173, 182, 186, 193] (by decide +kernel) (by decide +kernel) w h).1
set_option maxRecDepth 20000 in
theorem wsL_law_in0_r12 : ∀ w ∈ wsL_law0_r12, w ∈ lw_tbl := fun w h => (goodIn_p wsL_law0_r12 [161, 138, 198, 202, 218, 222] (by decide +kernel) (by decide +kernel) w h).1
set_option maxRecDepth 20000 in
theorem wsL_law_in0_r13 : ∀ w ∈ wsL_law0_r13, w ∈ lw_tbl := fun w h => (goodIn_p wsL_law0_r13 [685, 689, 693, 697, 701, 705] (by decide +kernel) (by decide +kernel) w h).1
set_option maxRecDepth 20000 in
theorem wsL_law_in0_r14 : ∀ w ∈ wsL_law0_r14, w ∈ lw_tbl := fun w h => (goodIn_p wsL_law0_r14 [709, 714, 718, 722] (by decide +kernel) (by decide +kernel) w h).1
set_option maxRecDepth 20000 in
theorem wsL_law_in0_r15 : ∀ w ∈ wsL_law0_r15, w ∈ lw_tbl := fun w h => (goodIn_p wsL_law0_r15 [455, 459, 462, 726, 470, 730] (by decide +kernel) (by decide +kernel) w h).1
set_option maxRecDepth 20000 in
theorem wsL_law_in0_r16 : ∀ w ∈ wsL_law0_r16, w ∈ lw_tbl := fun w h => (goodIn_p wsL_law0_r16 [478, 734, 485, 738] (by decide +kernel) (by decide +kernel) w h).1
set_option maxRecDepth 20000 in
theorem wsL_law_in0_r17 : ∀ w ∈ wsL_law0_r17, w ∈ lw_tbl := fun w h => (goodIn_p wsL_law0_r17 [492, 742, 499, 505] (by decide +kernel) (by decide +kernel) w h).1
set_option maxRecDepth 20000 in
theorem wsL_law_in0_r18 : ∀ w ∈ wsL_law0_r18, w ∈ lw_tbl := fun w h => (goodIn_p wsL_law0_r18 [746, 530, 751] (by decide +kernel) (by decide +kernel) w h).1
set_option maxRecDepth 20000 in
theorem wsL_law_in0_r19 : ∀ w ∈ wsL_law0_r19, w ∈ lw_tbl := fun w h => (goodIn_p wsL_law0_r19 [539, 756, 546, 550, 760] (by decide +kernel) (by decide +kernel) w h).1
set_option maxRecDepth 20000 in
theorem wsL_law_in0_r20 : ∀ w ∈ wsL_law0_r20, w ∈ lw_tbl := fun w h => (goodIn_p wsL_law0_r20 [764, 558, 768, 134, 772] (by decide +kernel) (by decide +kernel) w h).1
set_option maxRecDepth 20000 in
theorem wsL_law_in0_r21 : ∀ w ∈ wsL_law0_r21, w ∈ lw_tbl := fun w h => (goodIn_p wsL_law0_r21 [776, 780, 565, 569, 573] (by decide +kernel) (by decide +kernel) w h).1
set_option maxRecDepth 20000 in
theorem wsL_law_in0_r22 : ∀ w ∈ wsL_law0_r22, w ∈ lw_tbl := fun w h => (goodIn_p wsL_law0_r22 [577, 784, 788, 584, 588] (by decide +kernel) (by decide +kernel) w h).1
set_option maxRecDepth 20000 in
theorem wsL_law_in0_r23 : ∀ w ∈ wsL_law0_r23, w ∈ lw_tbl := fun w h => (goodIn_p wsL_law0_r23 [792, 796, 169, 205, 208] (by decide +kernel) (by decide +kernel) w h).1
set_option maxRecDepth 20000 in
theorem wsL_law_in0_r24 : ∀ w ∈ wsL_law0_r24, w ∈ lw_tbl := fun w h => (goodIn_p wsL_law0_r24 [211, 800, 803, 226, 807] (by decide +kernel) (by decide +kernel) w h).1
set_option maxRecDepth 20000 in
theorem wsL_law_in0_wsX30 : ∀ w ∈ wsX30, w ∈ lw_tbl := by decide +kernel
set_option maxRecDepth 20000 in
theorem wsL_law_in0_wsX40 : ∀ w ∈ wsX40, w ∈ lw_tbl := by decide +kernel
set_option maxRecDepth 20000 in
theorem wsL_law_in0_wsJx4a65c0 : ∀ w ∈ wsJx4a65c0, w ∈ lw_tbl := by decide +kernel
set_option maxRecDepth 20000 in
theorem wsL_law_in0_wsX20 : ∀ w ∈ wsX20, w ∈ lw_tbl := by decide +kernel
set_option maxRecDepth 20000 in
theorem wsL_law_in0_wsX10 : ∀ w ∈ wsX10, w ∈ lw_tbl := by decide +kernel
set_option maxRecDepth 20000 in
theorem wsL_law_in0_wsX00 : ∀ w ∈ wsX00, w ∈ lw_tbl := by decide +kernel
theorem m9_or {a b : List Cond} (ha : ∀ w ∈ a, w ∈ lw_tbl) (hb : ∀ w ∈ b, w ∈ lw_tbl) : ∀ w ∈ a ++ b, w ∈ lw_tbl := fun w h => (List.mem_append.mp h).elim (ha w) (hb w)
theorem wsL_law_in0 : ∀ w ∈ wsL_law0, w ∈ lw_tbl := (m9_or (m9_or (m9_or (m9_or (m9_or (m9_or (m9_or (m9_or wsL_law_in0_r1 (m9_or wsL_law_in0_r2 (m9_or wsL_law_in0_r3 (m9_or wsL_law_in0_r4 (m9_or wsL_law_in0_r5 (m9_or wsL_law_in0_r6 (m9_or wsL_law_in0_r7 (m9_or wsL_law_in0_r8 (m9_or wsL_law_in0_r9 (m9_or wsL_law_in0_r10 (m9_or wsL_law_in0_r11 (m9_or wsL_law_in0_r12 (m9_or wsL_law_in0_r13 (m9_or wsL_law_in0_r14 (m9_or wsL_law_in0_r15 (m9_or wsL_law_in0_r16 (m9_or wsL_law_in0_r17 (m9_or wsL_law_in0_r18 (m9_or wsL_law_in0_r19 (m9_or wsL_law_in0_r20 (m9_or wsL_law_in0_r21 (m9_or wsL_law_in0_r22 (m9_or wsL_law_in0_r23 wsL_law_in0_r24))))))))))))))))))))))) wsL_law_in0_wsX30) wsL_law_in0_wsX40) wsL_law_in0_wsJx4a65c0) wsL_law_in0_wsX20) wsL_law_in0_wsX10) wsL_law_in0_wsX00) (fun _ h => absurd h List.not_mem_nil))
end
section
theorem wsL_law_x0 : ∀ w ∈ (vx_atS RX3 58 "java/lang/IllegalStateException" ["java/lang/RuntimeException", "java/lang/Exception"]).filter goodWord, w ∈ lw_tbl := by decide +kernel
theorem wsL_law_x1 : ∀ w ∈ (vx_atS RX3 164 "java/lang/IllegalArgumentException" ["java/lang/RuntimeException", "java/lang/Exception"]).filter goodWord, w ∈ lw_tbl := by decide +kernel
theorem wsL_law_x2 : ∀ w ∈ (vx_atS RX3 173 "java/lang/IndexOutOfBoundsException" ["java/lang/RuntimeException", "java/lang/Exception"]).filter goodWord, w ∈ lw_tbl := by decide +kernel
theorem wsL_law_in : ∀ w ∈ wsL_law, w ∈ lw_tbl := fun w h => (List.mem_append.mp h).elim (fun h => (List.mem_append.mp h).elim (fun h => (List.mem_append.mp h).elim (fun h => wsL_law_in0 w h) (fun h => wsL_law_x0 w h)) (fun h => wsL_law_x1 w h)) (fun h => wsL_law_x2 w h)
theorem inlX0 : ∀ w ∈ wsX00, w ∈ wsL_law := fun _ h => List.mem_append_left _ (List.mem_append_left _ (List.mem_append_left _ (List.mem_append_left _ (List.mem_append_right _ h))))
theorem inX0 : ∀ w ∈ wsX00, w ∈ lw_tbl := fun w h => wsL_law_in w (inlX0 w h)
theorem inlX1 : ∀ w ∈ wsX10, w ∈ wsL_law := fun _ h => List.mem_append_left _ (List.mem_append_left _ (List.mem_append_left _ (List.mem_append_left _ (List.mem_append_left _ (List.mem_append_right _ h)))))
theorem inX1 : ∀ w ∈ wsX10, w ∈ lw_tbl := fun w h => wsL_law_in w (inlX1 w h)
theorem inlX2 : ∀ w ∈ wsX20, w ∈ wsL_law := fun _ h => List.mem_append_left _ (List.mem_append_left _ (List.mem_append_left _ (List.mem_append_left _ (List.mem_append_left _ (List.mem_append_left _ (List.mem_append_right _ h))))))
theorem inX2 : ∀ w ∈ wsX20, w ∈ lw_tbl := fun w h => wsL_law_in w (inlX2 w h)
theorem inlX3 : ∀ w ∈ wsX30, w ∈ wsL_law := fun _ h => List.mem_append_left _ (List.mem_append_left _ (List.mem_append_left _ (List.mem_append_left _ (List.mem_append_left _ (List.mem_append_left _ (List.mem_append_left _ (List.mem_append_left _ (List.mem_append_left _ (List.mem_append_right _ h)))))))))
theorem inX3 : ∀ w ∈ wsX30, w ∈ lw_tbl := fun w h => wsL_law_in w (inlX3 w h)
theorem inlX4 : ∀ w ∈ wsX40, w ∈ wsL_law := fun _ h => List.mem_append_left _ (List.mem_append_left _ (List.mem_append_left _ (List.mem_append_left _ (List.mem_append_left _ (List.mem_append_left _ (List.mem_append_left _ (List.mem_append_left _ (List.mem_append_right _ h))))))))
theorem inX4 : ∀ w ∈ wsX40, w ∈ lw_tbl := fun w h => wsL_law_in w (inlX4 w h)
theorem inJx145de : ∀ w ∈ wsJx145de0, w ∈ lw_tbl := by decide +kernel
theorem inJx8e188 : ∀ w ∈ wsJx8e1880, w ∈ lw_tbl := by decide +kernel
theorem inJ6 : ∀ w ∈ wsJ60, w ∈ lw_tbl := by decide +kernel
theorem inJxab1ab : ∀ w ∈ wsJxab1ab0, w ∈ lw_tbl := by decide +kernel
theorem inJ9 : ∀ w ∈ wsJ90, w ∈ lw_tbl := by decide +kernel
theorem inJ0 : ∀ w ∈ wsJ00, w ∈ lw_tbl := by decide +kernel
theorem inJ10 : ∀ w ∈ wsJ100, w ∈ lw_tbl := by decide +kernel
theorem inJxa1e45 : ∀ w ∈ wsJxa1e450, w ∈ lw_tbl := by decide +kernel
theorem inJxc12de : ∀ w ∈ wsJxc12de0, w ∈ lw_tbl := by decide +kernel
theorem inlJx4a65c : ∀ w ∈ wsJx4a65c0, w ∈ wsL_law := fun _ h => List.mem_append_left _ (List.mem_append_left _ (List.mem_append_left _ (List.mem_append_left _ (List.mem_append_left _ (List.mem_append_left _ (List.mem_append_left _ (List.mem_append_right _ h)))))))
theorem inJx4a65c : ∀ w ∈ wsJx4a65c0, w ∈ lw_tbl := fun w h => wsL_law_in w (inlJx4a65c w h)
theorem inJ7 : ∀ w ∈ wsJ70, w ∈ lw_tbl := by decide +kernel
theorem inJx5ef63 : ∀ w ∈ wsJx5ef630, w ∈ lw_tbl := by decide +kernel
theorem inJxbd725 : ∀ w ∈ wsJxbd7250, w ∈ lw_tbl := by decide +kernel
theorem inJ15 : ∀ w ∈ wsJ150, w ∈ lw_tbl := by decide +kernel
theorem inJxf0a74 : ∀ w ∈ wsJxf0a740, w ∈ lw_tbl := by decide +kernel
theorem inJxa66e6 : ∀ w ∈ wsJxa66e60, w ∈ lw_tbl := by decide +kernel
theorem inJ8 : ∀ w ∈ wsJ80, w ∈ lw_tbl := by decide +kernel
theorem inJ3 : ∀ w ∈ wsJ30, w ∈ lw_tbl := by decide +kernel
abbrev vwCl : List vw_C := [(RJx4a65c, TJx4a65c, 3), (RX0, TX0, 4), (RX1, TX1, 6), (RX2, TX2, 2), (RX3, TX3, 8), (RX4, TX4, 18)]
end
section
theorem dX0_init_0 : decode cX0_init 0 = .ok (.aload_n 0, 1) := by decide +kernel
theorem dX0_init_1 : decode cX0_init 1 = .ok (.invokespecial 3, 3) := by decide +kernel
theorem dX0_init_4 : decode cX0_init 4 = .ok (.aload_n 0, 1) := by decide +kernel
theorem dX0_init_5 : decode cX0_init 5 = .ok (.iconst 0, 1) := by decide +kernel
theorem dX0_init_6 : decode cX0_init 6 = .ok (.putfield 9, 3) := by decide +kernel
theorem dX0_init_9 : decode cX0_init 9 = .ok (.aload_n 0, 1) := by decide +kernel
theorem dX0_init_10 : decode cX0_init 10 = .ok (.iconst 0, 1) := by decide +kernel
theorem dX0_init_11 : decode cX0_init 11 = .ok (.putfield 15, 3) := by decide +kernel
theorem dX0_init_14 : decode cX0_init 14 = .ok (.aload_n 0, 1) := by decide +kernel
theorem dX0_init_15 : decode cX0_init 15 = .ok (.iload_n 1, 1) := by decide +kernel
theorem dX0_init_16 : decode cX0_init 16 = .ok (.putfield 19, 3) := by decide +kernel
theorem dX0_init_19 : decode cX0_init 19 = .ok (.aload_n 0, 1) := by decide +kernel
theorem dX0_init_20 : decode cX0_init 20 = .ok (.iload_n 2, 1) := by decide +kernel
theorem dX0_init_21 : decode cX0_init 21 = .ok (.putfield 22, 3) := by decide +kernel
theorem dX0_init_24 : decode cX0_init 24 = .ok (.return_, 1) := by decide +kernel
theorem dX1_init_0 : decode cX1_init 0 = .ok (.aload_n 0, 1) := by decide +kernel
theorem dX1_init_1 : decode cX1_init 1 = .ok (.invokespecial 3, 3) := by decide +kernel
theorem dX1_init_4 : decode cX1_init 4 = .ok (.aload_n 0, 1) := by decide +kernel
theorem dX1_init_5 : decode cX1_init 5 = .ok (.iconst 0, 1) := by decide +kernel
theorem dX1_init_6 : decode cX1_init 6 = .ok (.putfield 9, 3) := by decide +kernel
theorem dX1_init_9 : decode cX1_init 9 = .ok (.aload_n 0, 1) := by decide +kernel
theorem dX1_init_10 : decode cX1_init 10 = .ok (.iconst 0, 1) := by decide +kernel
theorem dX1_init_11 : decode cX1_init 11 = .ok (.putfield 15, 3) := by decide +kernel
theorem dX1_init_14 : decode cX1_init 14 = .ok (.aload_n 0, 1) := by decide +kernel
theorem dX1_init_15 : decode cX1_init 15 = .ok (.iload_n 1, 1) := by decide +kernel
theorem dX1_init_16 : decode cX1_init 16 = .ok (.putfield 18, 3) := by decide +kernel
theorem dX1_init_19 : decode cX1_init 19 = .ok (.aload_n 0, 1) := by decide +kernel
theorem dX1_init_20 : decode cX1_init 20 = .ok (.iload_n 2, 1) := by decide +kernel
theorem dX1_init_21 : decode cX1_init 21 = .ok (.putfield 21, 3) := by decide +kernel
theorem dX1_init_24 : decode cX1_init 24 = .ok (.aload_n 0, 1) := by decide +kernel
theorem dX1_init_25 : decode cX1_init 25 = .ok (.iload_n 3, 1) := by decide +kernel
theorem dX1_init_26 : decode cX1_init 26 = .ok (.putfield 24, 3) := by decide +kernel
theorem dX1_init_29 : decode cX1_init 29 = .ok (.aload_n 0, 1) := by decide +kernel
theorem dX1_init_30 : decode cX1_init 30 = .ok (.iload 4, 2) := by decide +kernel
theorem dX1_init_32 : decode cX1_init 32 = .ok (.putfield 27, 3) := by decide +kernel
theorem dX1_init_35 : decode cX1_init 35 = .ok (.return_, 1) := by decide +kernel
theorem dX2_init_0 : decode cX2_init 0 = .ok (.aload_n 0, 1) := by decide +kernel
theorem dX2_init_1 : decode cX2_init 1 = .ok (.invokespecial 5, 3) := by decide +kernel
theorem dX2_init_4 : decode cX2_init 4 = .ok (.aload_n 0, 1) := by decide +kernel
theorem dX2_init_5 : decode cX2_init 5 = .ok (.bipush 9, 2) := by decide +kernel
theorem dX2_init_7 : decode cX2_init 7 = .ok (.newarray .int, 2) := by decide +kernel
theorem dX2_init_9 : decode cX2_init 9 = .ok (.putfield 11, 3) := by decide +kernel
theorem dX2_init_12 : decode cX2_init 12 = .ok (.aload_n 0, 1) := by decide +kernel
theorem dX2_init_13 : decode cX2_init 13 = .ok (.bipush 12, 2) := by decide +kernel
theorem dX2_init_15 : decode cX2_init 15 = .ok (.bipush 9, 2) := by decide +kernel
theorem dX2_init_17 : decode cX2_init 17 = .ok (.multianewarray 15 2, 4) := by decide +kernel
theorem dX2_init_21 : decode cX2_init 21 = .ok (.putfield 17, 3) := by decide +kernel
theorem dX2_init_24 : decode cX2_init 24 = .ok (.return_, 1) := by decide +kernel
theorem dX2_allHold_0 : decode cX2_allHold 0 = .ok (.iconst 0, 1) := by decide +kernel
theorem dX2_allHold_1 : decode cX2_allHold 1 = .ok (.istore_n 2, 1) := by decide +kernel
theorem dX2_allHold_2 : decode cX2_allHold 2 = .ok (.iload_n 2, 1) := by decide +kernel
theorem dX2_allHold_3 : decode cX2_allHold 3 = .ok (.bipush 9, 2) := by decide +kernel
theorem dX2_allHold_5 : decode cX2_allHold 5 = .ok (.if_icmp .ge 20, 3) := by decide +kernel
theorem dX2_allHold_8 : decode cX2_allHold 8 = .ok (.aload_n 0, 1) := by decide +kernel
theorem dX2_allHold_9 : decode cX2_allHold 9 = .ok (.iload_n 2, 1) := by decide +kernel
theorem dX2_allHold_10 : decode cX2_allHold 10 = .ok (.iload_n 1, 1) := by decide +kernel
theorem dX2_allHold_11 : decode cX2_allHold 11 = .ok (.invokevirtual 20, 3) := by decide +kernel
theorem dX2_allHold_14 : decode cX2_allHold 14 = .ok (.ifCond .le 5, 3) := by decide +kernel
theorem dX2_allHold_17 : decode cX2_allHold 17 = .ok (.iconst 0, 1) := by decide +kernel
theorem dX2_allHold_18 : decode cX2_allHold 18 = .ok (.ireturn, 1) := by decide +kernel
theorem dX2_allHold_19 : decode cX2_allHold 19 = .ok (.iinc 2 1, 3) := by decide +kernel
theorem dX2_allHold_22 : decode cX2_allHold 22 = .ok (.goto (-20), 3) := by decide +kernel
theorem dX2_allHold_25 : decode cX2_allHold 25 = .ok (.iconst 1, 1) := by decide +kernel
theorem dX2_allHold_26 : decode cX2_allHold 26 = .ok (.ireturn, 1) := by decide +kernel
theorem dX2_mostMissing_0 : decode cX2_mostMissing 0 = .ok (.iconst 0, 1) := by decide +kernel
theorem dX2_mostMissing_1 : decode cX2_mostMissing 1 = .ok (.istore_n 3, 1) := by decide +kernel
theorem dX2_mostMissing_2 : decode cX2_mostMissing 2 = .ok (.iconst 0, 1) := by decide +kernel
theorem dX2_mostMissing_3 : decode cX2_mostMissing 3 = .ok (.istore 4, 2) := by decide +kernel
theorem dX2_mostMissing_5 : decode cX2_mostMissing 5 = .ok (.iload 4, 2) := by decide +kernel
theorem dX2_mostMissing_7 : decode cX2_mostMissing 7 = .ok (.bipush 9, 2) := by decide +kernel
theorem dX2_mostMissing_9 : decode cX2_mostMissing 9 = .ok (.if_icmp .ge 30, 3) := by decide +kernel
theorem dX2_mostMissing_12 : decode cX2_mostMissing 12 = .ok (.iload 4, 2) := by decide +kernel
theorem dX2_mostMissing_14 : decode cX2_mostMissing 14 = .ok (.invokestatic 24, 3) := by decide +kernel
theorem dX2_mostMissing_17 : decode cX2_mostMissing 17 = .ok (.iload_n 1, 1) := by decide +kernel
theorem dX2_mostMissing_18 : decode cX2_mostMissing 18 = .ok (.if_icmp .ne 15, 3) := by decide +kernel
theorem dX2_mostMissing_21 : decode cX2_mostMissing 21 = .ok (.iload_n 3, 1) := by decide +kernel
theorem dX2_mostMissing_22 : decode cX2_mostMissing 22 = .ok (.aload_n 0, 1) := by decide +kernel
theorem dX2_mostMissing_23 : decode cX2_mostMissing 23 = .ok (.iload 4, 2) := by decide +kernel
theorem dX2_mostMissing_25 : decode cX2_mostMissing 25 = .ok (.iload_n 2, 1) := by decide +kernel
theorem dX2_mostMissing_26 : decode cX2_mostMissing 26 = .ok (.invokevirtual 20, 3) := by decide +kernel
theorem dX2_mostMissing_29 : decode cX2_mostMissing 29 = .ok (.invokestatic 28, 3) := by decide +kernel
theorem dX2_mostMissing_32 : decode cX2_mostMissing 32 = .ok (.istore_n 3, 1) := by decide +kernel
theorem dX2_mostMissing_33 : decode cX2_mostMissing 33 = .ok (.iinc 4 1, 3) := by decide +kernel
theorem dX2_mostMissing_36 : decode cX2_mostMissing 36 = .ok (.goto (-31), 3) := by decide +kernel
theorem dX2_mostMissing_39 : decode cX2_mostMissing 39 = .ok (.iload_n 3, 1) := by decide +kernel
theorem dX2_mostMissing_40 : decode cX2_mostMissing 40 = .ok (.ireturn, 1) := by decide +kernel
theorem dX2_testOf_0 : decode cX2_testOf 0 = .ok (.iload_n 0, 1) := by decide +kernel
theorem dX2_testOf_1 : decode cX2_testOf 1 = .ok (.ifCond .ne 5, 3) := by decide +kernel
theorem dX2_testOf_4 : decode cX2_testOf 4 = .ok (.iconst 0, 1) := by decide +kernel
theorem dX2_testOf_5 : decode cX2_testOf 5 = .ok (.ireturn, 1) := by decide +kernel
theorem dX2_testOf_6 : decode cX2_testOf 6 = .ok (.iload_n 0, 1) := by decide +kernel
theorem dX2_testOf_7 : decode cX2_testOf 7 = .ok (.iconst 2, 1) := by decide +kernel
theorem dX2_testOf_8 : decode cX2_testOf 8 = .ok (.if_icmp .gt 7, 3) := by decide +kernel
theorem dX2_testOf_11 : decode cX2_testOf 11 = .ok (.iconst 1, 1) := by decide +kernel
theorem dX2_testOf_12 : decode cX2_testOf 12 = .ok (.goto 4, 3) := by decide +kernel
theorem dX2_testOf_15 : decode cX2_testOf 15 = .ok (.iconst 2, 1) := by decide +kernel
theorem dX2_testOf_16 : decode cX2_testOf 16 = .ok (.ireturn, 1) := by decide +kernel
theorem dX2_missing_0 : decode cX2_missing 0 = .ok (.aload_n 0, 1) := by decide +kernel
theorem dX2_missing_1 : decode cX2_missing 1 = .ok (.getfield 11, 3) := by decide +kernel
theorem dX2_missing_4 : decode cX2_missing 4 = .ok (.iload_n 1, 1) := by decide +kernel
theorem dX2_missing_5 : decode cX2_missing 5 = .ok (.iaload, 1) := by decide +kernel
theorem dX2_missing_6 : decode cX2_missing 6 = .ok (.istore_n 3, 1) := by decide +kernel
theorem dX2_missing_7 : decode cX2_missing 7 = .ok (.iconst 0, 1) := by decide +kernel
theorem dX2_missing_8 : decode cX2_missing 8 = .ok (.istore 4, 2) := by decide +kernel
theorem dX2_missing_10 : decode cX2_missing 10 = .ok (.iload 4, 2) := by decide +kernel
theorem dX2_missing_12 : decode cX2_missing 12 = .ok (.bipush 12, 2) := by decide +kernel
theorem dX2_missing_14 : decode cX2_missing 14 = .ok (.if_icmp .ge 30, 3) := by decide +kernel
theorem dX2_missing_17 : decode cX2_missing 17 = .ok (.iload_n 2, 1) := by decide +kernel
theorem dX2_missing_18 : decode cX2_missing 18 = .ok (.iconst 1, 1) := by decide +kernel
theorem dX2_missing_19 : decode cX2_missing 19 = .ok (.iload 4, 2) := by decide +kernel
theorem dX2_missing_21 : decode cX2_missing 21 = .ok (.ishl, 1) := by decide +kernel
theorem dX2_missing_22 : decode cX2_missing 22 = .ok (.iand, 1) := by decide +kernel
theorem dX2_missing_23 : decode cX2_missing 23 = .ok (.ifCond .eq 15, 3) := by decide +kernel
theorem dX2_missing_26 : decode cX2_missing 26 = .ok (.iload_n 3, 1) := by decide +kernel
theorem dX2_missing_27 : decode cX2_missing 27 = .ok (.aload_n 0, 1) := by decide +kernel
theorem dX2_missing_28 : decode cX2_missing 28 = .ok (.getfield 17, 3) := by decide +kernel
theorem dX2_missing_31 : decode cX2_missing 31 = .ok (.iload 4, 2) := by decide +kernel
theorem dX2_missing_33 : decode cX2_missing 33 = .ok (.aaload, 1) := by decide +kernel
theorem dX2_missing_34 : decode cX2_missing 34 = .ok (.iload_n 1, 1) := by decide +kernel
theorem dX2_missing_35 : decode cX2_missing 35 = .ok (.iaload, 1) := by decide +kernel
theorem dX2_missing_36 : decode cX2_missing 36 = .ok (.isub, 1) := by decide +kernel
theorem dX2_missing_37 : decode cX2_missing 37 = .ok (.istore_n 3, 1) := by decide +kernel
theorem dX2_missing_38 : decode cX2_missing 38 = .ok (.iinc 4 1, 3) := by decide +kernel
theorem dX2_missing_41 : decode cX2_missing 41 = .ok (.goto (-31), 3) := by decide +kernel
theorem dX2_missing_44 : decode cX2_missing 44 = .ok (.iload_n 3, 1) := by decide +kernel
theorem dX2_missing_45 : decode cX2_missing 45 = .ok (.ireturn, 1) := by decide +kernel
theorem dX3_init_0 : decode cX3_init 0 = .ok (.aload_n 0, 1) := by decide +kernel
theorem dX3_init_1 : decode cX3_init 1 = .ok (.invokespecial 1, 3) := by decide +kernel
theorem dX3_init_4 : decode cX3_init 4 = .ok (.aload_n 0, 1) := by decide +kernel
theorem dX3_init_5 : decode cX3_init 5 = .ok (.new 7, 3) := by decide +kernel
theorem dX3_init_8 : decode cX3_init 8 = .ok (.dup, 1) := by decide +kernel
theorem dX3_init_9 : decode cX3_init 9 = .ok (.invokespecial 9, 3) := by decide +kernel
theorem dX3_init_12 : decode cX3_init 12 = .ok (.putfield 10, 3) := by decide +kernel
theorem dX3_init_15 : decode cX3_init 15 = .ok (.aload_n 0, 1) := by decide +kernel
theorem dX3_init_16 : decode cX3_init 16 = .ok (.new 7, 3) := by decide +kernel
theorem dX3_init_19 : decode cX3_init 19 = .ok (.dup, 1) := by decide +kernel
theorem dX3_init_20 : decode cX3_init 20 = .ok (.invokespecial 9, 3) := by decide +kernel
theorem dX3_init_23 : decode cX3_init 23 = .ok (.putfield 16, 3) := by decide +kernel
theorem dX3_init_26 : decode cX3_init 26 = .ok (.aload_n 0, 1) := by decide +kernel
theorem dX3_init_27 : decode cX3_init 27 = .ok (.new 19, 3) := by decide +kernel
theorem dX3_init_30 : decode cX3_init 30 = .ok (.dup, 1) := by decide +kernel
theorem dX3_init_31 : decode cX3_init 31 = .ok (.invokespecial 21, 3) := by decide +kernel
theorem dX3_init_34 : decode cX3_init 34 = .ok (.putfield 22, 3) := by decide +kernel
theorem dX3_init_37 : decode cX3_init 37 = .ok (.aload_n 0, 1) := by decide +kernel
theorem dX3_init_38 : decode cX3_init 38 = .ok (.iconst 0, 1) := by decide +kernel
theorem dX3_init_39 : decode cX3_init 39 = .ok (.putfield 26, 3) := by decide +kernel
theorem dX3_init_42 : decode cX3_init 42 = .ok (.aload_n 0, 1) := by decide +kernel
theorem dX3_init_43 : decode cX3_init 43 = .ok (.iconst 0, 1) := by decide +kernel
theorem dX3_init_44 : decode cX3_init 44 = .ok (.putfield 30, 3) := by decide +kernel
theorem dX3_init_47 : decode cX3_init 47 = .ok (.aload_n 0, 1) := by decide +kernel
theorem dX3_init_48 : decode cX3_init 48 = .ok (.iconst 3, 1) := by decide +kernel
theorem dX3_init_49 : decode cX3_init 49 = .ok (.putfield 33, 3) := by decide +kernel
theorem dX3_init_52 : decode cX3_init 52 = .ok (.aload_n 0, 1) := by decide +kernel
theorem dX3_init_53 : decode cX3_init 53 = .ok (.iconst 5, 1) := by decide +kernel
theorem dX3_init_54 : decode cX3_init 54 = .ok (.putfield 36, 3) := by decide +kernel
theorem dX3_init_57 : decode cX3_init 57 = .ok (.aload_n 0, 1) := by decide +kernel
theorem dX3_init_58 : decode cX3_init 58 = .ok (.bipush 6, 2) := by decide +kernel
theorem dX3_init_60 : decode cX3_init 60 = .ok (.putfield 39, 3) := by decide +kernel
theorem dX3_init_63 : decode cX3_init 63 = .ok (.return_, 1) := by decide +kernel
theorem dX3_addLoan_0 : decode cX3_addLoan 0 = .ok (.iload_n 1, 1) := by decide +kernel
theorem dX3_addLoan_1 : decode cX3_addLoan 1 = .ok (.iconst 1, 1) := by decide +kernel
theorem dX3_addLoan_2 : decode cX3_addLoan 2 = .ok (.sipush 10000, 3) := by decide +kernel
theorem dX3_addLoan_5 : decode cX3_addLoan 5 = .ok (.invokestatic 42, 3) := by decide +kernel
theorem dX3_addLoan_8 : decode cX3_addLoan 8 = .ok (.iload_n 2, 1) := by decide +kernel
theorem dX3_addLoan_9 : decode cX3_addLoan 9 = .ok (.iconst 0, 1) := by decide +kernel
theorem dX3_addLoan_10 : decode cX3_addLoan 10 = .ok (.sipush 20000, 3) := by decide +kernel
theorem dX3_addLoan_13 : decode cX3_addLoan 13 = .ok (.invokestatic 42, 3) := by decide +kernel
theorem dX3_addLoan_16 : decode cX3_addLoan 16 = .ok (.iload_n 3, 1) := by decide +kernel
theorem dX3_addLoan_17 : decode cX3_addLoan 17 = .ok (.iconst 1, 1) := by decide +kernel
theorem dX3_addLoan_18 : decode cX3_addLoan 18 = .ok (.iconst 5, 1) := by decide +kernel
theorem dX3_addLoan_19 : decode cX3_addLoan 19 = .ok (.invokestatic 42, 3) := by decide +kernel
theorem dX3_addLoan_22 : decode cX3_addLoan 22 = .ok (.aload_n 0, 1) := by decide +kernel
theorem dX3_addLoan_23 : decode cX3_addLoan 23 = .ok (.iload 4, 2) := by decide +kernel
theorem dX3_addLoan_25 : decode cX3_addLoan 25 = .ok (.invokevirtual 46, 3) := by decide +kernel
theorem dX3_addLoan_28 : decode cX3_addLoan 28 = .ok (.aload_n 0, 1) := by decide +kernel
theorem dX3_addLoan_29 : decode cX3_addLoan 29 = .ok (.getfield 10, 3) := by decide +kernel
theorem dX3_addLoan_32 : decode cX3_addLoan 32 = .ok (.invokevirtual 50, 3) := by decide +kernel
theorem dX3_addLoan_35 : decode cX3_addLoan 35 = .ok (.bipush 12, 2) := by decide +kernel
theorem dX3_addLoan_37 : decode cX3_addLoan 37 = .ok (.if_icmp .lt 13, 3) := by decide +kernel
theorem dX3_addLoan_40 : decode cX3_addLoan 40 = .ok (.new 54, 3) := by decide +kernel
theorem dX3_addLoan_43 : decode cX3_addLoan 43 = .ok (.dup, 1) := by decide +kernel
theorem dX3_addLoan_44 : decode cX3_addLoan 44 = .ok (.ldc 56, 2) := by decide +kernel
theorem dX3_addLoan_46 : decode cX3_addLoan 46 = .ok (.invokespecial 58, 3) := by decide +kernel
theorem dX3_addLoan_49 : decode cX3_addLoan 49 = .ok (.athrow, 1) := by decide +kernel
theorem dX3_addLoan_50 : decode cX3_addLoan 50 = .ok (.aload_n 0, 1) := by decide +kernel
theorem dX3_addLoan_51 : decode cX3_addLoan 51 = .ok (.getfield 10, 3) := by decide +kernel
theorem dX3_addLoan_54 : decode cX3_addLoan 54 = .ok (.new 61, 3) := by decide +kernel
theorem dX3_addLoan_57 : decode cX3_addLoan 57 = .ok (.dup, 1) := by decide +kernel
theorem dX3_addLoan_58 : decode cX3_addLoan 58 = .ok (.iload_n 1, 1) := by decide +kernel
theorem dX3_addLoan_59 : decode cX3_addLoan 59 = .ok (.iload_n 2, 1) := by decide +kernel
theorem dX3_addLoan_60 : decode cX3_addLoan 60 = .ok (.iload_n 3, 1) := by decide +kernel
theorem dX3_addLoan_61 : decode cX3_addLoan 61 = .ok (.iload 4, 2) := by decide +kernel
theorem dX3_addLoan_63 : decode cX3_addLoan 63 = .ok (.invokespecial 63, 3) := by decide +kernel
theorem dX3_addLoan_66 : decode cX3_addLoan 66 = .ok (.invokevirtual 66, 3) := by decide +kernel
theorem dX3_addLoan_69 : decode cX3_addLoan 69 = .ok (.pop, 1) := by decide +kernel
theorem dX3_addLoan_70 : decode cX3_addLoan 70 = .ok (.aload_n 0, 1) := by decide +kernel
theorem dX3_addLoan_71 : decode cX3_addLoan 71 = .ok (.getfield 10, 3) := by decide +kernel
theorem dX3_addLoan_74 : decode cX3_addLoan 74 = .ok (.invokevirtual 50, 3) := by decide +kernel
theorem dX3_addLoan_77 : decode cX3_addLoan 77 = .ok (.iconst 1, 1) := by decide +kernel
theorem dX3_addLoan_78 : decode cX3_addLoan 78 = .ok (.isub, 1) := by decide +kernel
theorem dX3_addLoan_79 : decode cX3_addLoan 79 = .ok (.ireturn, 1) := by decide +kernel
theorem dX3_enter_0 : decode cX3_enter 0 = .ok (.aload_n 0, 1) := by decide +kernel
theorem dX3_enter_1 : decode cX3_enter 1 = .ok (.iload_n 1, 1) := by decide +kernel
theorem dX3_enter_2 : decode cX3_enter 2 = .ok (.invokevirtual 70, 3) := by decide +kernel
theorem dX3_enter_5 : decode cX3_enter 5 = .ok (.astore_n 2, 1) := by decide +kernel
theorem dX3_enter_6 : decode cX3_enter 6 = .ok (.aload_n 2, 1) := by decide +kernel
theorem dX3_enter_7 : decode cX3_enter 7 = .ok (.iconst 0, 1) := by decide +kernel
theorem dX3_enter_8 : decode cX3_enter 8 = .ok (.invokestatic 74, 3) := by decide +kernel
theorem dX3_enter_11 : decode cX3_enter 11 = .ok (.aload_n 2, 1) := by decide +kernel
theorem dX3_enter_12 : decode cX3_enter 12 = .ok (.iconst 1, 1) := by decide +kernel
theorem dX3_enter_13 : decode cX3_enter 13 = .ok (.putfield 78, 3) := by decide +kernel
theorem dX3_enter_16 : decode cX3_enter 16 = .ok (.aload_n 0, 1) := by decide +kernel
theorem dX3_enter_17 : decode cX3_enter 17 = .ok (.aload_n 2, 1) := by decide +kernel
theorem dX3_enter_18 : decode cX3_enter 18 = .ok (.invokevirtual 81, 3) := by decide +kernel
theorem dX3_enter_21 : decode cX3_enter 21 = .ok (.ireturn, 1) := by decide +kernel
theorem dX3_leave_0 : decode cX3_leave 0 = .ok (.aload_n 0, 1) := by decide +kernel
theorem dX3_leave_1 : decode cX3_leave 1 = .ok (.iload_n 1, 1) := by decide +kernel
theorem dX3_leave_2 : decode cX3_leave 2 = .ok (.invokevirtual 70, 3) := by decide +kernel
theorem dX3_leave_5 : decode cX3_leave 5 = .ok (.astore_n 2, 1) := by decide +kernel
theorem dX3_leave_6 : decode cX3_leave 6 = .ok (.aload_n 2, 1) := by decide +kernel
theorem dX3_leave_7 : decode cX3_leave 7 = .ok (.iconst 1, 1) := by decide +kernel
theorem dX3_leave_8 : decode cX3_leave 8 = .ok (.invokestatic 74, 3) := by decide +kernel
theorem dX3_leave_11 : decode cX3_leave 11 = .ok (.aload_n 0, 1) := by decide +kernel
theorem dX3_leave_12 : decode cX3_leave 12 = .ok (.invokevirtual 85, 3) := by decide +kernel
theorem dX3_leave_15 : decode cX3_leave 15 = .ok (.aload_n 0, 1) := by decide +kernel
theorem dX3_leave_16 : decode cX3_leave 16 = .ok (.getfield 22, 3) := by decide +kernel
theorem dX3_leave_19 : decode cX3_leave 19 = .ok (.aload_n 0, 1) := by decide +kernel
theorem dX3_leave_20 : decode cX3_leave 20 = .ok (.iconst 1, 1) := by decide +kernel
theorem dX3_leave_21 : decode cX3_leave 21 = .ok (.invokevirtual 88, 3) := by decide +kernel
theorem dX3_leave_24 : decode cX3_leave 24 = .ok (.iconst 1, 1) := by decide +kernel
theorem dX3_leave_25 : decode cX3_leave 25 = .ok (.iload_n 1, 1) := by decide +kernel
theorem dX3_leave_26 : decode cX3_leave 26 = .ok (.ishl, 1) := by decide +kernel
theorem dX3_leave_27 : decode cX3_leave 27 = .ok (.iconst (-1), 1) := by decide +kernel
theorem dX3_leave_28 : decode cX3_leave 28 = .ok (.ixor, 1) := by decide +kernel
theorem dX3_leave_29 : decode cX3_leave 29 = .ok (.iand, 1) := by decide +kernel
theorem dX3_leave_30 : decode cX3_leave 30 = .ok (.invokevirtual 92, 3) := by decide +kernel
theorem dX3_leave_33 : decode cX3_leave 33 = .ok (.ifCond .ne 5, 3) := by decide +kernel
theorem dX3_leave_36 : decode cX3_leave 36 = .ok (.iconst 0, 1) := by decide +kernel
theorem dX3_leave_37 : decode cX3_leave 37 = .ok (.ireturn, 1) := by decide +kernel
theorem dX3_leave_38 : decode cX3_leave 38 = .ok (.aload_n 2, 1) := by decide +kernel
theorem dX3_leave_39 : decode cX3_leave 39 = .ok (.iconst 0, 1) := by decide +kernel
theorem dX3_leave_40 : decode cX3_leave 40 = .ok (.putfield 78, 3) := by decide +kernel
theorem dX3_leave_43 : decode cX3_leave 43 = .ok (.iconst 1, 1) := by decide +kernel
theorem dX3_leave_44 : decode cX3_leave 44 = .ok (.ireturn, 1) := by decide +kernel
theorem dX3_swap_0 : decode cX3_swap 0 = .ok (.aload_n 0, 1) := by decide +kernel
theorem dX3_swap_1 : decode cX3_swap 1 = .ok (.iload_n 1, 1) := by decide +kernel
theorem dX3_swap_2 : decode cX3_swap 2 = .ok (.invokevirtual 70, 3) := by decide +kernel
theorem dX3_swap_5 : decode cX3_swap 5 = .ok (.astore_n 3, 1) := by decide +kernel
theorem dX3_swap_6 : decode cX3_swap 6 = .ok (.aload_n 0, 1) := by decide +kernel
theorem dX3_swap_7 : decode cX3_swap 7 = .ok (.iload_n 2, 1) := by decide +kernel
theorem dX3_swap_8 : decode cX3_swap 8 = .ok (.invokevirtual 70, 3) := by decide +kernel
theorem dX3_swap_11 : decode cX3_swap 11 = .ok (.astore 4, 2) := by decide +kernel
theorem dX3_swap_13 : decode cX3_swap 13 = .ok (.aload_n 3, 1) := by decide +kernel
theorem dX3_swap_14 : decode cX3_swap 14 = .ok (.iconst 1, 1) := by decide +kernel
theorem dX3_swap_15 : decode cX3_swap 15 = .ok (.invokestatic 74, 3) := by decide +kernel
theorem dX3_swap_18 : decode cX3_swap 18 = .ok (.aload 4, 2) := by decide +kernel
theorem dX3_swap_20 : decode cX3_swap 20 = .ok (.iconst 0, 1) := by decide +kernel
theorem dX3_swap_21 : decode cX3_swap 21 = .ok (.invokestatic 74, 3) := by decide +kernel
theorem dX3_swap_24 : decode cX3_swap 24 = .ok (.aload_n 0, 1) := by decide +kernel
theorem dX3_swap_25 : decode cX3_swap 25 = .ok (.iconst 1, 1) := by decide +kernel
theorem dX3_swap_26 : decode cX3_swap 26 = .ok (.invokevirtual 88, 3) := by decide +kernel
theorem dX3_swap_29 : decode cX3_swap 29 = .ok (.istore 5, 2) := by decide +kernel
theorem dX3_swap_31 : decode cX3_swap 31 = .ok (.iload 5, 2) := by decide +kernel
theorem dX3_swap_33 : decode cX3_swap 33 = .ok (.iconst 1, 1) := by decide +kernel
theorem dX3_swap_34 : decode cX3_swap 34 = .ok (.iload_n 1, 1) := by decide +kernel
theorem dX3_swap_35 : decode cX3_swap 35 = .ok (.ishl, 1) := by decide +kernel
theorem dX3_swap_36 : decode cX3_swap 36 = .ok (.iconst (-1), 1) := by decide +kernel
theorem dX3_swap_37 : decode cX3_swap 37 = .ok (.ixor, 1) := by decide +kernel
theorem dX3_swap_38 : decode cX3_swap 38 = .ok (.iand, 1) := by decide +kernel
theorem dX3_swap_39 : decode cX3_swap 39 = .ok (.iconst 1, 1) := by decide +kernel
theorem dX3_swap_40 : decode cX3_swap 40 = .ok (.iload_n 2, 1) := by decide +kernel
theorem dX3_swap_41 : decode cX3_swap 41 = .ok (.ishl, 1) := by decide +kernel
theorem dX3_swap_42 : decode cX3_swap 42 = .ok (.ior, 1) := by decide +kernel
theorem dX3_swap_43 : decode cX3_swap 43 = .ok (.istore 6, 2) := by decide +kernel
theorem dX3_swap_45 : decode cX3_swap 45 = .ok (.aload_n 0, 1) := by decide +kernel
theorem dX3_swap_46 : decode cX3_swap 46 = .ok (.invokevirtual 85, 3) := by decide +kernel
theorem dX3_swap_49 : decode cX3_swap 49 = .ok (.iconst 0, 1) := by decide +kernel
theorem dX3_swap_50 : decode cX3_swap 50 = .ok (.istore 7, 2) := by decide +kernel
theorem dX3_swap_52 : decode cX3_swap 52 = .ok (.iload 7, 2) := by decide +kernel
theorem dX3_swap_54 : decode cX3_swap 54 = .ok (.iconst 2, 1) := by decide +kernel
theorem dX3_swap_55 : decode cX3_swap 55 = .ok (.if_icmp .gt 39, 3) := by decide +kernel
theorem dX3_swap_58 : decode cX3_swap 58 = .ok (.aload_n 0, 1) := by decide +kernel
theorem dX3_swap_59 : decode cX3_swap 59 = .ok (.getfield 22, 3) := by decide +kernel
theorem dX3_swap_62 : decode cX3_swap 62 = .ok (.iload 7, 2) := by decide +kernel
theorem dX3_swap_64 : decode cX3_swap 64 = .ok (.iload 5, 2) := by decide +kernel
theorem dX3_swap_66 : decode cX3_swap 66 = .ok (.invokevirtual 96, 3) := by decide +kernel
theorem dX3_swap_69 : decode cX3_swap 69 = .ok (.ifCond .ne 19, 3) := by decide +kernel
theorem dX3_swap_72 : decode cX3_swap 72 = .ok (.aload_n 0, 1) := by decide +kernel
theorem dX3_swap_73 : decode cX3_swap 73 = .ok (.getfield 22, 3) := by decide +kernel
theorem dX3_swap_76 : decode cX3_swap 76 = .ok (.iload 7, 2) := by decide +kernel
theorem dX3_swap_78 : decode cX3_swap 78 = .ok (.iload 6, 2) := by decide +kernel
theorem dX3_swap_80 : decode cX3_swap 80 = .ok (.invokevirtual 96, 3) := by decide +kernel
theorem dX3_swap_83 : decode cX3_swap 83 = .ok (.ifCond .le 5, 3) := by decide +kernel
theorem dX3_swap_86 : decode cX3_swap 86 = .ok (.iconst 0, 1) := by decide +kernel
theorem dX3_swap_87 : decode cX3_swap 87 = .ok (.ireturn, 1) := by decide +kernel
theorem dX3_swap_88 : decode cX3_swap 88 = .ok (.iinc 7 1, 3) := by decide +kernel
theorem dX3_swap_91 : decode cX3_swap 91 = .ok (.goto (-39), 3) := by decide +kernel
theorem dX3_swap_94 : decode cX3_swap 94 = .ok (.aload_n 3, 1) := by decide +kernel
theorem dX3_swap_95 : decode cX3_swap 95 = .ok (.iconst 0, 1) := by decide +kernel
theorem dX3_swap_96 : decode cX3_swap 96 = .ok (.putfield 78, 3) := by decide +kernel
theorem dX3_swap_99 : decode cX3_swap 99 = .ok (.aload 4, 2) := by decide +kernel
theorem dX3_swap_101 : decode cX3_swap 101 = .ok (.iconst 1, 1) := by decide +kernel
theorem dX3_swap_102 : decode cX3_swap 102 = .ok (.putfield 78, 3) := by decide +kernel
theorem dX3_swap_105 : decode cX3_swap 105 = .ok (.iconst 1, 1) := by decide +kernel
theorem dX3_swap_106 : decode cX3_swap 106 = .ok (.ireturn, 1) := by decide +kernel
theorem dX3_setArrears_0 : decode cX3_setArrears 0 = .ok (.aload_n 0, 1) := by decide +kernel
theorem dX3_setArrears_1 : decode cX3_setArrears 1 = .ok (.iload_n 1, 1) := by decide +kernel
theorem dX3_setArrears_2 : decode cX3_setArrears 2 = .ok (.invokevirtual 70, 3) := by decide +kernel
theorem dX3_setArrears_5 : decode cX3_setArrears 5 = .ok (.astore_n 3, 1) := by decide +kernel
theorem dX3_setArrears_6 : decode cX3_setArrears 6 = .ok (.iload_n 2, 1) := by decide +kernel
theorem dX3_setArrears_7 : decode cX3_setArrears 7 = .ok (.iconst 0, 1) := by decide +kernel
theorem dX3_setArrears_8 : decode cX3_setArrears 8 = .ok (.bipush 60, 2) := by decide +kernel
theorem dX3_setArrears_10 : decode cX3_setArrears 10 = .ok (.invokestatic 42, 3) := by decide +kernel
theorem dX3_setArrears_13 : decode cX3_setArrears 13 = .ok (.aload_n 3, 1) := by decide +kernel
theorem dX3_setArrears_14 : decode cX3_setArrears 14 = .ok (.getfield 78, 3) := by decide +kernel
theorem dX3_setArrears_17 : decode cX3_setArrears 17 = .ok (.iconst 2, 1) := by decide +kernel
theorem dX3_setArrears_18 : decode cX3_setArrears 18 = .ok (.if_icmp .ne 13, 3) := by decide +kernel
theorem dX3_setArrears_21 : decode cX3_setArrears 21 = .ok (.new 54, 3) := by decide +kernel
theorem dX3_setArrears_24 : decode cX3_setArrears 24 = .ok (.dup, 1) := by decide +kernel
theorem dX3_setArrears_25 : decode cX3_setArrears 25 = .ok (.ldc 100, 2) := by decide +kernel
theorem dX3_setArrears_27 : decode cX3_setArrears 27 = .ok (.invokespecial 58, 3) := by decide +kernel
theorem dX3_setArrears_30 : decode cX3_setArrears 30 = .ok (.athrow, 1) := by decide +kernel
theorem dX3_setArrears_31 : decode cX3_setArrears 31 = .ok (.aload_n 3, 1) := by decide +kernel
theorem dX3_setArrears_32 : decode cX3_setArrears 32 = .ok (.getfield 102, 3) := by decide +kernel
theorem dX3_setArrears_35 : decode cX3_setArrears 35 = .ok (.istore 4, 2) := by decide +kernel
theorem dX3_setArrears_37 : decode cX3_setArrears 37 = .ok (.aload_n 3, 1) := by decide +kernel
theorem dX3_setArrears_38 : decode cX3_setArrears 38 = .ok (.iload_n 2, 1) := by decide +kernel
theorem dX3_setArrears_39 : decode cX3_setArrears 39 = .ok (.putfield 102, 3) := by decide +kernel
theorem dX3_setArrears_42 : decode cX3_setArrears 42 = .ok (.iload 4, 2) := by decide +kernel
theorem dX3_setArrears_44 : decode cX3_setArrears 44 = .ok (.ireturn, 1) := by decide +kernel
theorem dX3_setWorth_0 : decode cX3_setWorth 0 = .ok (.aload_n 0, 1) := by decide +kernel
theorem dX3_setWorth_1 : decode cX3_setWorth 1 = .ok (.iload_n 1, 1) := by decide +kernel
theorem dX3_setWorth_2 : decode cX3_setWorth 2 = .ok (.invokevirtual 70, 3) := by decide +kernel
theorem dX3_setWorth_5 : decode cX3_setWorth 5 = .ok (.astore_n 3, 1) := by decide +kernel
theorem dX3_setWorth_6 : decode cX3_setWorth 6 = .ok (.iload_n 2, 1) := by decide +kernel
theorem dX3_setWorth_7 : decode cX3_setWorth 7 = .ok (.iconst 0, 1) := by decide +kernel
theorem dX3_setWorth_8 : decode cX3_setWorth 8 = .ok (.sipush 20000, 3) := by decide +kernel
theorem dX3_setWorth_11 : decode cX3_setWorth 11 = .ok (.invokestatic 42, 3) := by decide +kernel
theorem dX3_setWorth_14 : decode cX3_setWorth 14 = .ok (.aload_n 3, 1) := by decide +kernel
theorem dX3_setWorth_15 : decode cX3_setWorth 15 = .ok (.getfield 105, 3) := by decide +kernel
theorem dX3_setWorth_18 : decode cX3_setWorth 18 = .ok (.istore 4, 2) := by decide +kernel
theorem dX3_setWorth_20 : decode cX3_setWorth 20 = .ok (.aload_n 3, 1) := by decide +kernel
theorem dX3_setWorth_21 : decode cX3_setWorth 21 = .ok (.iload_n 2, 1) := by decide +kernel
theorem dX3_setWorth_22 : decode cX3_setWorth 22 = .ok (.putfield 105, 3) := by decide +kernel
theorem dX3_setWorth_25 : decode cX3_setWorth 25 = .ok (.iload 4, 2) := by decide +kernel
theorem dX3_setWorth_27 : decode cX3_setWorth 27 = .ok (.ireturn, 1) := by decide +kernel
theorem dX3_stateOf_0 : decode cX3_stateOf 0 = .ok (.aload_n 0, 1) := by decide +kernel
theorem dX3_stateOf_1 : decode cX3_stateOf 1 = .ok (.iload_n 1, 1) := by decide +kernel
theorem dX3_stateOf_2 : decode cX3_stateOf 2 = .ok (.invokevirtual 70, 3) := by decide +kernel
theorem dX3_stateOf_5 : decode cX3_stateOf 5 = .ok (.getfield 78, 3) := by decide +kernel
theorem dX3_stateOf_8 : decode cX3_stateOf 8 = .ok (.ireturn, 1) := by decide +kernel
theorem dX3_counts_0 : decode cX3_counts 0 = .ok (.aload_n 0, 1) := by decide +kernel
theorem dX3_counts_1 : decode cX3_counts 1 = .ok (.aload_n 0, 1) := by decide +kernel
theorem dX3_counts_2 : decode cX3_counts 2 = .ok (.iload_n 1, 1) := by decide +kernel
theorem dX3_counts_3 : decode cX3_counts 3 = .ok (.invokevirtual 70, 3) := by decide +kernel
theorem dX3_counts_6 : decode cX3_counts 6 = .ok (.invokevirtual 81, 3) := by decide +kernel
theorem dX3_counts_9 : decode cX3_counts 9 = .ok (.ireturn, 1) := by decide +kernel
theorem dX3_addBond_0 : decode cX3_addBond 0 = .ok (.iload_n 1, 1) := by decide +kernel
theorem dX3_addBond_1 : decode cX3_addBond 1 = .ok (.iconst 1, 1) := by decide +kernel
theorem dX3_addBond_2 : decode cX3_addBond 2 = .ok (.ldc 108, 2) := by decide +kernel
theorem dX3_addBond_4 : decode cX3_addBond 4 = .ok (.invokestatic 42, 3) := by decide +kernel
theorem dX3_addBond_7 : decode cX3_addBond 7 = .ok (.aload_n 0, 1) := by decide +kernel
theorem dX3_addBond_8 : decode cX3_addBond 8 = .ok (.iload_n 2, 1) := by decide +kernel
theorem dX3_addBond_9 : decode cX3_addBond 9 = .ok (.invokevirtual 46, 3) := by decide +kernel
theorem dX3_addBond_12 : decode cX3_addBond 12 = .ok (.aload_n 0, 1) := by decide +kernel
theorem dX3_addBond_13 : decode cX3_addBond 13 = .ok (.getfield 16, 3) := by decide +kernel
theorem dX3_addBond_16 : decode cX3_addBond 16 = .ok (.invokevirtual 50, 3) := by decide +kernel
theorem dX3_addBond_19 : decode cX3_addBond 19 = .ok (.iconst 5, 1) := by decide +kernel
theorem dX3_addBond_20 : decode cX3_addBond 20 = .ok (.if_icmp .lt 13, 3) := by decide +kernel
theorem dX3_addBond_23 : decode cX3_addBond 23 = .ok (.new 54, 3) := by decide +kernel
theorem dX3_addBond_26 : decode cX3_addBond 26 = .ok (.dup, 1) := by decide +kernel
theorem dX3_addBond_27 : decode cX3_addBond 27 = .ok (.ldc 109, 2) := by decide +kernel
theorem dX3_addBond_29 : decode cX3_addBond 29 = .ok (.invokespecial 58, 3) := by decide +kernel
theorem dX3_addBond_32 : decode cX3_addBond 32 = .ok (.athrow, 1) := by decide +kernel
theorem dX3_addBond_33 : decode cX3_addBond 33 = .ok (.aload_n 0, 1) := by decide +kernel
theorem dX3_addBond_34 : decode cX3_addBond 34 = .ok (.getfield 16, 3) := by decide +kernel
theorem dX3_addBond_37 : decode cX3_addBond 37 = .ok (.new 111, 3) := by decide +kernel
theorem dX3_addBond_40 : decode cX3_addBond 40 = .ok (.dup, 1) := by decide +kernel
theorem dX3_addBond_41 : decode cX3_addBond 41 = .ok (.iload_n 1, 1) := by decide +kernel
theorem dX3_addBond_42 : decode cX3_addBond 42 = .ok (.iload_n 2, 1) := by decide +kernel
theorem dX3_addBond_43 : decode cX3_addBond 43 = .ok (.invokespecial 113, 3) := by decide +kernel
theorem dX3_addBond_46 : decode cX3_addBond 46 = .ok (.invokevirtual 66, 3) := by decide +kernel
theorem dX3_addBond_49 : decode cX3_addBond 49 = .ok (.pop, 1) := by decide +kernel
theorem dX3_addBond_50 : decode cX3_addBond 50 = .ok (.aload_n 0, 1) := by decide +kernel
theorem dX3_addBond_51 : decode cX3_addBond 51 = .ok (.dup, 1) := by decide +kernel
theorem dX3_addBond_52 : decode cX3_addBond 52 = .ok (.getfield 30, 3) := by decide +kernel
theorem dX3_addBond_55 : decode cX3_addBond 55 = .ok (.iload_n 1, 1) := by decide +kernel
theorem dX3_addBond_56 : decode cX3_addBond 56 = .ok (.iadd, 1) := by decide +kernel
theorem dX3_addBond_57 : decode cX3_addBond 57 = .ok (.putfield 30, 3) := by decide +kernel
theorem dX3_addBond_60 : decode cX3_addBond 60 = .ok (.aload_n 0, 1) := by decide +kernel
theorem dX3_addBond_61 : decode cX3_addBond 61 = .ok (.getfield 16, 3) := by decide +kernel
theorem dX3_addBond_64 : decode cX3_addBond 64 = .ok (.invokevirtual 50, 3) := by decide +kernel
theorem dX3_addBond_67 : decode cX3_addBond 67 = .ok (.iconst 1, 1) := by decide +kernel
theorem dX3_addBond_68 : decode cX3_addBond 68 = .ok (.isub, 1) := by decide +kernel
theorem dX3_addBond_69 : decode cX3_addBond 69 = .ok (.ireturn, 1) := by decide +kernel
theorem dX3_takeCash_0 : decode cX3_takeCash 0 = .ok (.iload_n 1, 1) := by decide +kernel
theorem dX3_takeCash_1 : decode cX3_takeCash 1 = .ok (.iconst 1, 1) := by decide +kernel
theorem dX3_takeCash_2 : decode cX3_takeCash 2 = .ok (.ldc 116, 2) := by decide +kernel
theorem dX3_takeCash_4 : decode cX3_takeCash 4 = .ok (.invokestatic 42, 3) := by decide +kernel
theorem dX3_takeCash_7 : decode cX3_takeCash 7 = .ok (.aload_n 0, 1) := by decide +kernel
theorem dX3_takeCash_8 : decode cX3_takeCash 8 = .ok (.getfield 30, 3) := by decide +kernel
theorem dX3_takeCash_11 : decode cX3_takeCash 11 = .ok (.iload_n 1, 1) := by decide +kernel
theorem dX3_takeCash_12 : decode cX3_takeCash 12 = .ok (.if_icmp .ge 13, 3) := by decide +kernel
theorem dX3_takeCash_15 : decode cX3_takeCash 15 = .ok (.new 54, 3) := by decide +kernel
theorem dX3_takeCash_18 : decode cX3_takeCash 18 = .ok (.dup, 1) := by decide +kernel
theorem dX3_takeCash_19 : decode cX3_takeCash 19 = .ok (.ldc 117, 2) := by decide +kernel
theorem dX3_takeCash_21 : decode cX3_takeCash 21 = .ok (.invokespecial 58, 3) := by decide +kernel
theorem dX3_takeCash_24 : decode cX3_takeCash 24 = .ok (.athrow, 1) := by decide +kernel
theorem dX3_takeCash_25 : decode cX3_takeCash 25 = .ok (.aload_n 0, 1) := by decide +kernel
theorem dX3_takeCash_26 : decode cX3_takeCash 26 = .ok (.dup, 1) := by decide +kernel
theorem dX3_takeCash_27 : decode cX3_takeCash 27 = .ok (.getfield 30, 3) := by decide +kernel
theorem dX3_takeCash_30 : decode cX3_takeCash 30 = .ok (.iload_n 1, 1) := by decide +kernel
theorem dX3_takeCash_31 : decode cX3_takeCash 31 = .ok (.isub, 1) := by decide +kernel
theorem dX3_takeCash_32 : decode cX3_takeCash 32 = .ok (.putfield 30, 3) := by decide +kernel
theorem dX3_takeCash_35 : decode cX3_takeCash 35 = .ok (.aload_n 0, 1) := by decide +kernel
theorem dX3_takeCash_36 : decode cX3_takeCash 36 = .ok (.getfield 30, 3) := by decide +kernel
theorem dX3_takeCash_39 : decode cX3_takeCash 39 = .ok (.ireturn, 1) := by decide +kernel
theorem dX3_setRules_0 : decode cX3_setRules 0 = .ok (.iload_n 1, 1) := by decide +kernel
theorem dX3_setRules_1 : decode cX3_setRules 1 = .ok (.iconst 1, 1) := by decide +kernel
theorem dX3_setRules_2 : decode cX3_setRules 2 = .ok (.iconst 5, 1) := by decide +kernel
theorem dX3_setRules_3 : decode cX3_setRules 3 = .ok (.invokestatic 42, 3) := by decide +kernel
theorem dX3_setRules_6 : decode cX3_setRules 6 = .ok (.iload_n 2, 1) := by decide +kernel
theorem dX3_setRules_7 : decode cX3_setRules 7 = .ok (.iconst 0, 1) := by decide +kernel
theorem dX3_setRules_8 : decode cX3_setRules 8 = .ok (.bipush 50, 2) := by decide +kernel
theorem dX3_setRules_10 : decode cX3_setRules 10 = .ok (.invokestatic 42, 3) := by decide +kernel
theorem dX3_setRules_13 : decode cX3_setRules 13 = .ok (.iload_n 3, 1) := by decide +kernel
theorem dX3_setRules_14 : decode cX3_setRules 14 = .ok (.iconst 0, 1) := by decide +kernel
theorem dX3_setRules_15 : decode cX3_setRules 15 = .ok (.bipush 20, 2) := by decide +kernel
theorem dX3_setRules_17 : decode cX3_setRules 17 = .ok (.invokestatic 42, 3) := by decide +kernel
theorem dX3_setRules_20 : decode cX3_setRules 20 = .ok (.aload_n 0, 1) := by decide +kernel
theorem dX3_setRules_21 : decode cX3_setRules 21 = .ok (.iload_n 1, 1) := by decide +kernel
theorem dX3_setRules_22 : decode cX3_setRules 22 = .ok (.putfield 33, 3) := by decide +kernel
theorem dX3_setRules_25 : decode cX3_setRules 25 = .ok (.aload_n 0, 1) := by decide +kernel
theorem dX3_setRules_26 : decode cX3_setRules 26 = .ok (.iload_n 2, 1) := by decide +kernel
theorem dX3_setRules_27 : decode cX3_setRules 27 = .ok (.putfield 36, 3) := by decide +kernel
theorem dX3_setRules_30 : decode cX3_setRules 30 = .ok (.aload_n 0, 1) := by decide +kernel
theorem dX3_setRules_31 : decode cX3_setRules 31 = .ok (.iload_n 3, 1) := by decide +kernel
theorem dX3_setRules_32 : decode cX3_setRules 32 = .ok (.putfield 39, 3) := by decide +kernel
theorem dX3_setRules_35 : decode cX3_setRules 35 = .ok (.return_, 1) := by decide +kernel
theorem dX3_bondState_0 : decode cX3_bondState 0 = .ok (.aload_n 0, 1) := by decide +kernel
theorem dX3_bondState_1 : decode cX3_bondState 1 = .ok (.iload_n 1, 1) := by decide +kernel
theorem dX3_bondState_2 : decode cX3_bondState 2 = .ok (.invokevirtual 119, 3) := by decide +kernel
theorem dX3_bondState_5 : decode cX3_bondState 5 = .ok (.getfield 123, 3) := by decide +kernel
theorem dX3_bondState_8 : decode cX3_bondState 8 = .ok (.ireturn, 1) := by decide +kernel
theorem dX3_dueOf_0 : decode cX3_dueOf 0 = .ok (.aload_n 0, 1) := by decide +kernel
theorem dX3_dueOf_1 : decode cX3_dueOf 1 = .ok (.iload_n 1, 1) := by decide +kernel
theorem dX3_dueOf_2 : decode cX3_dueOf 2 = .ok (.invokevirtual 119, 3) := by decide +kernel
theorem dX3_dueOf_5 : decode cX3_dueOf 5 = .ok (.getfield 124, 3) := by decide +kernel
theorem dX3_dueOf_8 : decode cX3_dueOf 8 = .ok (.ireturn, 1) := by decide +kernel
theorem dX3_cash_0 : decode cX3_cash 0 = .ok (.aload_n 0, 1) := by decide +kernel
theorem dX3_cash_1 : decode cX3_cash 1 = .ok (.getfield 30, 3) := by decide +kernel
theorem dX3_cash_4 : decode cX3_cash 4 = .ok (.ireturn, 1) := by decide +kernel
theorem dX3_debt_0 : decode cX3_debt 0 = .ok (.iconst 0, 1) := by decide +kernel
theorem dX3_debt_1 : decode cX3_debt 1 = .ok (.istore_n 1, 1) := by decide +kernel
theorem dX3_debt_2 : decode cX3_debt 2 = .ok (.iconst 0, 1) := by decide +kernel
theorem dX3_debt_3 : decode cX3_debt 3 = .ok (.istore_n 2, 1) := by decide +kernel
theorem dX3_debt_4 : decode cX3_debt 4 = .ok (.iload_n 2, 1) := by decide +kernel
theorem dX3_debt_5 : decode cX3_debt 5 = .ok (.aload_n 0, 1) := by decide +kernel
theorem dX3_debt_6 : decode cX3_debt 6 = .ok (.getfield 16, 3) := by decide +kernel
theorem dX3_debt_9 : decode cX3_debt 9 = .ok (.invokevirtual 50, 3) := by decide +kernel
theorem dX3_debt_12 : decode cX3_debt 12 = .ok (.if_icmp .ge 35, 3) := by decide +kernel
theorem dX3_debt_15 : decode cX3_debt 15 = .ok (.aload_n 0, 1) := by decide +kernel
theorem dX3_debt_16 : decode cX3_debt 16 = .ok (.getfield 16, 3) := by decide +kernel
theorem dX3_debt_19 : decode cX3_debt 19 = .ok (.iload_n 2, 1) := by decide +kernel
theorem dX3_debt_20 : decode cX3_debt 20 = .ok (.invokevirtual 127, 3) := by decide +kernel
theorem dX3_debt_23 : decode cX3_debt 23 = .ok (.checkcast 111, 3) := by decide +kernel
theorem dX3_debt_26 : decode cX3_debt 26 = .ok (.astore_n 3, 1) := by decide +kernel
theorem dX3_debt_27 : decode cX3_debt 27 = .ok (.aload_n 3, 1) := by decide +kernel
theorem dX3_debt_28 : decode cX3_debt 28 = .ok (.getfield 123, 3) := by decide +kernel
theorem dX3_debt_31 : decode cX3_debt 31 = .ok (.ifCond .ne 10, 3) := by decide +kernel
theorem dX3_debt_34 : decode cX3_debt 34 = .ok (.iload_n 1, 1) := by decide +kernel
theorem dX3_debt_35 : decode cX3_debt 35 = .ok (.aload_n 3, 1) := by decide +kernel
theorem dX3_debt_36 : decode cX3_debt 36 = .ok (.getfield 131, 3) := by decide +kernel
theorem dX3_debt_39 : decode cX3_debt 39 = .ok (.iadd, 1) := by decide +kernel
theorem dX3_debt_40 : decode cX3_debt 40 = .ok (.istore_n 1, 1) := by decide +kernel
theorem dX3_debt_41 : decode cX3_debt 41 = .ok (.iinc 2 1, 3) := by decide +kernel
theorem dX3_debt_44 : decode cX3_debt 44 = .ok (.goto (-40), 3) := by decide +kernel
theorem dX3_debt_47 : decode cX3_debt 47 = .ok (.iload_n 1, 1) := by decide +kernel
theorem dX3_debt_48 : decode cX3_debt 48 = .ok (.ireturn, 1) := by decide +kernel
theorem dX3_substitutes_0 : decode cX3_substitutes 0 = .ok (.aload_n 0, 1) := by decide +kernel
theorem dX3_substitutes_1 : decode cX3_substitutes 1 = .ok (.getfield 30, 3) := by decide +kernel
theorem dX3_substitutes_4 : decode cX3_substitutes 4 = .ok (.aload_n 0, 1) := by decide +kernel
theorem dX3_substitutes_5 : decode cX3_substitutes 5 = .ok (.invokevirtual 134, 3) := by decide +kernel
theorem dX3_substitutes_8 : decode cX3_substitutes 8 = .ok (.bipush 15, 2) := by decide +kernel
theorem dX3_substitutes_10 : decode cX3_substitutes 10 = .ok (.imul, 1) := by decide +kernel
theorem dX3_substitutes_11 : decode cX3_substitutes 11 = .ok (.bipush 100, 2) := by decide +kernel
theorem dX3_substitutes_13 : decode cX3_substitutes 13 = .ok (.idiv, 1) := by decide +kernel
theorem dX3_substitutes_14 : decode cX3_substitutes 14 = .ok (.invokestatic 137, 3) := by decide +kernel
theorem dX3_substitutes_17 : decode cX3_substitutes 17 = .ok (.ireturn, 1) := by decide +kernel
theorem dX3_pass_0 : decode cX3_pass 0 = .ok (.iload_n 1, 1) := by decide +kernel
theorem dX3_pass_1 : decode cX3_pass 1 = .ok (.iconst 1, 1) := by decide +kernel
theorem dX3_pass_2 : decode cX3_pass 2 = .ok (.bipush 24, 2) := by decide +kernel
theorem dX3_pass_4 : decode cX3_pass 4 = .ok (.invokestatic 42, 3) := by decide +kernel
theorem dX3_pass_7 : decode cX3_pass 7 = .ok (.iconst 0, 1) := by decide +kernel
theorem dX3_pass_8 : decode cX3_pass 8 = .ok (.istore_n 2, 1) := by decide +kernel
theorem dX3_pass_9 : decode cX3_pass 9 = .ok (.iload_n 2, 1) := by decide +kernel
theorem dX3_pass_10 : decode cX3_pass 10 = .ok (.iload_n 1, 1) := by decide +kernel
theorem dX3_pass_11 : decode cX3_pass 11 = .ok (.if_icmp .ge 27, 3) := by decide +kernel
theorem dX3_pass_14 : decode cX3_pass 14 = .ok (.aload_n 0, 1) := by decide +kernel
theorem dX3_pass_15 : decode cX3_pass 15 = .ok (.dup, 1) := by decide +kernel
theorem dX3_pass_16 : decode cX3_pass 16 = .ok (.getfield 26, 3) := by decide +kernel
theorem dX3_pass_19 : decode cX3_pass 19 = .ok (.iconst 1, 1) := by decide +kernel
theorem dX3_pass_20 : decode cX3_pass 20 = .ok (.iadd, 1) := by decide +kernel
theorem dX3_pass_21 : decode cX3_pass 21 = .ok (.putfield 26, 3) := by decide +kernel
theorem dX3_pass_24 : decode cX3_pass 24 = .ok (.aload_n 0, 1) := by decide +kernel
theorem dX3_pass_25 : decode cX3_pass 25 = .ok (.invokevirtual 142, 3) := by decide +kernel
theorem dX3_pass_28 : decode cX3_pass 28 = .ok (.aload_n 0, 1) := by decide +kernel
theorem dX3_pass_29 : decode cX3_pass 29 = .ok (.invokevirtual 145, 3) := by decide +kernel
theorem dX3_pass_32 : decode cX3_pass 32 = .ok (.iinc 2 1, 3) := by decide +kernel
theorem dX3_pass_35 : decode cX3_pass 35 = .ok (.goto (-26), 3) := by decide +kernel
theorem dX3_pass_38 : decode cX3_pass 38 = .ok (.aload_n 0, 1) := by decide +kernel
theorem dX3_pass_39 : decode cX3_pass 39 = .ok (.getfield 26, 3) := by decide +kernel
theorem dX3_pass_42 : decode cX3_pass 42 = .ok (.ireturn, 1) := by decide +kernel
theorem dX3_holds_0 : decode cX3_holds 0 = .ok (.aload_n 0, 1) := by decide +kernel
theorem dX3_holds_1 : decode cX3_holds 1 = .ok (.iload_n 1, 1) := by decide +kernel
theorem dX3_holds_2 : decode cX3_holds 2 = .ok (.invokevirtual 148, 3) := by decide +kernel
theorem dX3_holds_5 : decode cX3_holds 5 = .ok (.lconst 0, 1) := by decide +kernel
theorem dX3_holds_6 : decode cX3_holds 6 = .ok (.lcmp, 1) := by decide +kernel
theorem dX3_holds_7 : decode cX3_holds 7 = .ok (.ifCond .ne 7, 3) := by decide +kernel
theorem dX3_holds_10 : decode cX3_holds 10 = .ok (.iconst 1, 1) := by decide +kernel
theorem dX3_holds_11 : decode cX3_holds 11 = .ok (.goto 4, 3) := by decide +kernel
theorem dX3_holds_14 : decode cX3_holds 14 = .ok (.iconst 0, 1) := by decide +kernel
theorem dX3_holds_15 : decode cX3_holds 15 = .ok (.ireturn, 1) := by decide +kernel
theorem dX3_lacking_0 : decode cX3_lacking 0 = .ok (.iload_n 1, 1) := by decide +kernel
theorem dX3_lacking_1 : decode cX3_lacking 1 = .ok (.iconst 0, 1) := by decide +kernel
theorem dX3_lacking_2 : decode cX3_lacking 2 = .ok (.iconst 2, 1) := by decide +kernel
theorem dX3_lacking_3 : decode cX3_lacking 3 = .ok (.invokestatic 42, 3) := by decide +kernel
theorem dX3_lacking_6 : decode cX3_lacking 6 = .ok (.aload_n 0, 1) := by decide +kernel
theorem dX3_lacking_7 : decode cX3_lacking 7 = .ok (.invokevirtual 85, 3) := by decide +kernel
theorem dX3_lacking_10 : decode cX3_lacking 10 = .ok (.aload_n 0, 1) := by decide +kernel
theorem dX3_lacking_11 : decode cX3_lacking 11 = .ok (.getfield 22, 3) := by decide +kernel
theorem dX3_lacking_14 : decode cX3_lacking 14 = .ok (.iload_n 1, 1) := by decide +kernel
theorem dX3_lacking_15 : decode cX3_lacking 15 = .ok (.aload_n 0, 1) := by decide +kernel
theorem dX3_lacking_16 : decode cX3_lacking 16 = .ok (.iconst 1, 1) := by decide +kernel
theorem dX3_lacking_17 : decode cX3_lacking 17 = .ok (.invokevirtual 88, 3) := by decide +kernel
theorem dX3_lacking_20 : decode cX3_lacking 20 = .ok (.invokevirtual 96, 3) := by decide +kernel
theorem dX3_lacking_23 : decode cX3_lacking 23 = .ok (.i2l, 1) := by decide +kernel
theorem dX3_lacking_24 : decode cX3_lacking 24 = .ok (.lreturn, 1) := by decide +kernel
theorem dX3_leastToAdd_0 : decode cX3_leastToAdd 0 = .ok (.aload_n 0, 1) := by decide +kernel
theorem dX3_leastToAdd_1 : decode cX3_leastToAdd 1 = .ok (.invokevirtual 85, 3) := by decide +kernel
theorem dX3_leastToAdd_4 : decode cX3_leastToAdd 4 = .ok (.aload_n 0, 1) := by decide +kernel
theorem dX3_leastToAdd_5 : decode cX3_leastToAdd 5 = .ok (.getfield 22, 3) := by decide +kernel
theorem dX3_leastToAdd_8 : decode cX3_leastToAdd 8 = .ok (.aload_n 0, 1) := by decide +kernel
theorem dX3_leastToAdd_9 : decode cX3_leastToAdd 9 = .ok (.iconst 1, 1) := by decide +kernel
theorem dX3_leastToAdd_10 : decode cX3_leastToAdd 10 = .ok (.invokevirtual 88, 3) := by decide +kernel
theorem dX3_leastToAdd_13 : decode cX3_leastToAdd 13 = .ok (.aload_n 0, 1) := by decide +kernel
theorem dX3_leastToAdd_14 : decode cX3_leastToAdd 14 = .ok (.iconst 0, 1) := by decide +kernel
theorem dX3_leastToAdd_15 : decode cX3_leastToAdd 15 = .ok (.invokevirtual 88, 3) := by decide +kernel
theorem dX3_leastToAdd_18 : decode cX3_leastToAdd 18 = .ok (.iconst 0, 1) := by decide +kernel
theorem dX3_leastToAdd_19 : decode cX3_leastToAdd 19 = .ok (.iconst 0, 1) := by decide +kernel
theorem dX3_leastToAdd_20 : decode cX3_leastToAdd 20 = .ok (.iconst (-1), 1) := by decide +kernel
theorem dX3_leastToAdd_21 : decode cX3_leastToAdd 21 = .ok (.invokestatic 152, 3) := by decide +kernel
theorem dX3_leastToAdd_24 : decode cX3_leastToAdd 24 = .ok (.ireturn, 1) := by decide +kernel
theorem dX3_leastToAddByAll_0 : decode cX3_leastToAddByAll 0 = .ok (.aload_n 0, 1) := by decide +kernel
theorem dX3_leastToAddByAll_1 : decode cX3_leastToAddByAll 1 = .ok (.invokevirtual 85, 3) := by decide +kernel
theorem dX3_leastToAddByAll_4 : decode cX3_leastToAddByAll 4 = .ok (.aload_n 0, 1) := by decide +kernel
theorem dX3_leastToAddByAll_5 : decode cX3_leastToAddByAll 5 = .ok (.iconst 1, 1) := by decide +kernel
theorem dX3_leastToAddByAll_6 : decode cX3_leastToAddByAll 6 = .ok (.invokevirtual 88, 3) := by decide +kernel
theorem dX3_leastToAddByAll_9 : decode cX3_leastToAddByAll 9 = .ok (.istore_n 1, 1) := by decide +kernel
theorem dX3_leastToAddByAll_10 : decode cX3_leastToAddByAll 10 = .ok (.aload_n 0, 1) := by decide +kernel
theorem dX3_leastToAddByAll_11 : decode cX3_leastToAddByAll 11 = .ok (.iconst 0, 1) := by decide +kernel
theorem dX3_leastToAddByAll_12 : decode cX3_leastToAddByAll 12 = .ok (.invokevirtual 88, 3) := by decide +kernel
theorem dX3_leastToAddByAll_15 : decode cX3_leastToAddByAll 15 = .ok (.istore_n 2, 1) := by decide +kernel
theorem dX3_leastToAddByAll_16 : decode cX3_leastToAddByAll 16 = .ok (.iconst (-1), 1) := by decide +kernel
theorem dX3_leastToAddByAll_17 : decode cX3_leastToAddByAll 17 = .ok (.istore_n 3, 1) := by decide +kernel
theorem dX3_leastToAddByAll_18 : decode cX3_leastToAddByAll 18 = .ok (.iconst 0, 1) := by decide +kernel
theorem dX3_leastToAddByAll_19 : decode cX3_leastToAddByAll 19 = .ok (.istore 4, 2) := by decide +kernel
theorem dX3_leastToAddByAll_21 : decode cX3_leastToAddByAll 21 = .ok (.iload 4, 2) := by decide +kernel
theorem dX3_leastToAddByAll_23 : decode cX3_leastToAddByAll 23 = .ok (.iconst 1, 1) := by decide +kernel
theorem dX3_leastToAddByAll_24 : decode cX3_leastToAddByAll 24 = .ok (.aload_n 0, 1) := by decide +kernel
theorem dX3_leastToAddByAll_25 : decode cX3_leastToAddByAll 25 = .ok (.getfield 10, 3) := by decide +kernel
theorem dX3_leastToAddByAll_28 : decode cX3_leastToAddByAll 28 = .ok (.invokevirtual 50, 3) := by decide +kernel
theorem dX3_leastToAddByAll_31 : decode cX3_leastToAddByAll 31 = .ok (.ishl, 1) := by decide +kernel
theorem dX3_leastToAddByAll_32 : decode cX3_leastToAddByAll 32 = .ok (.if_icmp .ge 44, 3) := by decide +kernel
theorem dX3_leastToAddByAll_35 : decode cX3_leastToAddByAll 35 = .ok (.iload 4, 2) := by decide +kernel
theorem dX3_leastToAddByAll_37 : decode cX3_leastToAddByAll 37 = .ok (.iload_n 2, 1) := by decide +kernel
theorem dX3_leastToAddByAll_38 : decode cX3_leastToAddByAll 38 = .ok (.iconst (-1), 1) := by decide +kernel
theorem dX3_leastToAddByAll_39 : decode cX3_leastToAddByAll 39 = .ok (.ixor, 1) := by decide +kernel
theorem dX3_leastToAddByAll_40 : decode cX3_leastToAddByAll 40 = .ok (.iand, 1) := by decide +kernel
theorem dX3_leastToAddByAll_41 : decode cX3_leastToAddByAll 41 = .ok (.ifCond .ne 29, 3) := by decide +kernel
theorem dX3_leastToAddByAll_44 : decode cX3_leastToAddByAll 44 = .ok (.iload 4, 2) := by decide +kernel
theorem dX3_leastToAddByAll_46 : decode cX3_leastToAddByAll 46 = .ok (.iload_n 3, 1) := by decide +kernel
theorem dX3_leastToAddByAll_47 : decode cX3_leastToAddByAll 47 = .ok (.invokestatic 156, 3) := by decide +kernel
theorem dX3_leastToAddByAll_50 : decode cX3_leastToAddByAll 50 = .ok (.ifCond .eq 20, 3) := by decide +kernel
theorem dX3_leastToAddByAll_53 : decode cX3_leastToAddByAll 53 = .ok (.aload_n 0, 1) := by decide +kernel
theorem dX3_leastToAddByAll_54 : decode cX3_leastToAddByAll 54 = .ok (.getfield 22, 3) := by decide +kernel
theorem dX3_leastToAddByAll_57 : decode cX3_leastToAddByAll 57 = .ok (.iload_n 1, 1) := by decide +kernel
theorem dX3_leastToAddByAll_58 : decode cX3_leastToAddByAll 58 = .ok (.iload 4, 2) := by decide +kernel
theorem dX3_leastToAddByAll_60 : decode cX3_leastToAddByAll 60 = .ok (.ior, 1) := by decide +kernel
theorem dX3_leastToAddByAll_61 : decode cX3_leastToAddByAll 61 = .ok (.invokevirtual 92, 3) := by decide +kernel
theorem dX3_leastToAddByAll_64 : decode cX3_leastToAddByAll 64 = .ok (.ifCond .eq 6, 3) := by decide +kernel
theorem dX3_leastToAddByAll_67 : decode cX3_leastToAddByAll 67 = .ok (.iload 4, 2) := by decide +kernel
theorem dX3_leastToAddByAll_69 : decode cX3_leastToAddByAll 69 = .ok (.istore_n 3, 1) := by decide +kernel
theorem dX3_leastToAddByAll_70 : decode cX3_leastToAddByAll 70 = .ok (.iinc 4 1, 3) := by decide +kernel
theorem dX3_leastToAddByAll_73 : decode cX3_leastToAddByAll 73 = .ok (.goto (-52), 3) := by decide +kernel
theorem dX3_leastToAddByAll_76 : decode cX3_leastToAddByAll 76 = .ok (.iload_n 3, 1) := by decide +kernel
theorem dX3_leastToAddByAll_77 : decode cX3_leastToAddByAll 77 = .ok (.ireturn, 1) := by decide +kernel
theorem dX3_requireWithin_0 : decode cX3_requireWithin 0 = .ok (.iload_n 0, 1) := by decide +kernel
theorem dX3_requireWithin_1 : decode cX3_requireWithin 1 = .ok (.iload_n 1, 1) := by decide +kernel
theorem dX3_requireWithin_2 : decode cX3_requireWithin 2 = .ok (.if_icmp .lt 8, 3) := by decide +kernel
theorem dX3_requireWithin_5 : decode cX3_requireWithin 5 = .ok (.iload_n 0, 1) := by decide +kernel
theorem dX3_requireWithin_6 : decode cX3_requireWithin 6 = .ok (.iload_n 2, 1) := by decide +kernel
theorem dX3_requireWithin_7 : decode cX3_requireWithin 7 = .ok (.if_icmp .le 13, 3) := by decide +kernel
theorem dX3_requireWithin_10 : decode cX3_requireWithin 10 = .ok (.new 160, 3) := by decide +kernel
theorem dX3_requireWithin_13 : decode cX3_requireWithin 13 = .ok (.dup, 1) := by decide +kernel
theorem dX3_requireWithin_14 : decode cX3_requireWithin 14 = .ok (.ldc 162, 2) := by decide +kernel
theorem dX3_requireWithin_16 : decode cX3_requireWithin 16 = .ok (.invokespecial 164, 3) := by decide +kernel
theorem dX3_requireWithin_19 : decode cX3_requireWithin 19 = .ok (.athrow, 1) := by decide +kernel
theorem dX3_requireWithin_20 : decode cX3_requireWithin 20 = .ok (.return_, 1) := by decide +kernel
theorem dX3_requireDueAhead_0 : decode cX3_requireDueAhead 0 = .ok (.iload_n 1, 1) := by decide +kernel
theorem dX3_requireDueAhead_1 : decode cX3_requireDueAhead 1 = .ok (.aload_n 0, 1) := by decide +kernel
theorem dX3_requireDueAhead_2 : decode cX3_requireDueAhead 2 = .ok (.getfield 26, 3) := by decide +kernel
theorem dX3_requireDueAhead_5 : decode cX3_requireDueAhead 5 = .ok (.if_icmp .le 10, 3) := by decide +kernel
theorem dX3_requireDueAhead_8 : decode cX3_requireDueAhead 8 = .ok (.iload_n 1, 1) := by decide +kernel
theorem dX3_requireDueAhead_9 : decode cX3_requireDueAhead 9 = .ok (.sipush 600, 3) := by decide +kernel
theorem dX3_requireDueAhead_12 : decode cX3_requireDueAhead 12 = .ok (.if_icmp .le 13, 3) := by decide +kernel
theorem dX3_requireDueAhead_15 : decode cX3_requireDueAhead 15 = .ok (.new 160, 3) := by decide +kernel
theorem dX3_requireDueAhead_18 : decode cX3_requireDueAhead 18 = .ok (.dup, 1) := by decide +kernel
theorem dX3_requireDueAhead_19 : decode cX3_requireDueAhead 19 = .ok (.ldc 165, 2) := by decide +kernel
theorem dX3_requireDueAhead_21 : decode cX3_requireDueAhead 21 = .ok (.invokespecial 164, 3) := by decide +kernel
theorem dX3_requireDueAhead_24 : decode cX3_requireDueAhead 24 = .ok (.athrow, 1) := by decide +kernel
theorem dX3_requireDueAhead_25 : decode cX3_requireDueAhead 25 = .ok (.return_, 1) := by decide +kernel
theorem dX3_requireState_0 : decode cX3_requireState 0 = .ok (.aload_n 0, 1) := by decide +kernel
theorem dX3_requireState_1 : decode cX3_requireState 1 = .ok (.getfield 78, 3) := by decide +kernel
theorem dX3_requireState_4 : decode cX3_requireState 4 = .ok (.iload_n 1, 1) := by decide +kernel
theorem dX3_requireState_5 : decode cX3_requireState 5 = .ok (.if_icmp .eq 13, 3) := by decide +kernel
theorem dX3_requireState_8 : decode cX3_requireState 8 = .ok (.new 54, 3) := by decide +kernel
theorem dX3_requireState_11 : decode cX3_requireState 11 = .ok (.dup, 1) := by decide +kernel
theorem dX3_requireState_12 : decode cX3_requireState 12 = .ok (.ldc 167, 2) := by decide +kernel
theorem dX3_requireState_14 : decode cX3_requireState 14 = .ok (.invokespecial 58, 3) := by decide +kernel
theorem dX3_requireState_17 : decode cX3_requireState 17 = .ok (.athrow, 1) := by decide +kernel
theorem dX3_requireState_18 : decode cX3_requireState 18 = .ok (.return_, 1) := by decide +kernel
theorem dX3_loanAt_0 : decode cX3_loanAt 0 = .ok (.iload_n 1, 1) := by decide +kernel
theorem dX3_loanAt_1 : decode cX3_loanAt 1 = .ok (.ifCond .lt 14, 3) := by decide +kernel
theorem dX3_loanAt_4 : decode cX3_loanAt 4 = .ok (.iload_n 1, 1) := by decide +kernel
theorem dX3_loanAt_5 : decode cX3_loanAt 5 = .ok (.aload_n 0, 1) := by decide +kernel
theorem dX3_loanAt_6 : decode cX3_loanAt 6 = .ok (.getfield 10, 3) := by decide +kernel
theorem dX3_loanAt_9 : decode cX3_loanAt 9 = .ok (.invokevirtual 50, 3) := by decide +kernel
theorem dX3_loanAt_12 : decode cX3_loanAt 12 = .ok (.if_icmp .lt 13, 3) := by decide +kernel
theorem dX3_loanAt_15 : decode cX3_loanAt 15 = .ok (.new 169, 3) := by decide +kernel
theorem dX3_loanAt_18 : decode cX3_loanAt 18 = .ok (.dup, 1) := by decide +kernel
theorem dX3_loanAt_19 : decode cX3_loanAt 19 = .ok (.ldc 171, 2) := by decide +kernel
theorem dX3_loanAt_21 : decode cX3_loanAt 21 = .ok (.invokespecial 173, 3) := by decide +kernel
theorem dX3_loanAt_24 : decode cX3_loanAt 24 = .ok (.athrow, 1) := by decide +kernel
theorem dX3_loanAt_25 : decode cX3_loanAt 25 = .ok (.aload_n 0, 1) := by decide +kernel
theorem dX3_loanAt_26 : decode cX3_loanAt 26 = .ok (.getfield 10, 3) := by decide +kernel
theorem dX3_loanAt_29 : decode cX3_loanAt 29 = .ok (.iload_n 1, 1) := by decide +kernel
theorem dX3_loanAt_30 : decode cX3_loanAt 30 = .ok (.invokevirtual 127, 3) := by decide +kernel
theorem dX3_loanAt_33 : decode cX3_loanAt 33 = .ok (.checkcast 61, 3) := by decide +kernel
theorem dX3_loanAt_36 : decode cX3_loanAt 36 = .ok (.areturn, 1) := by decide +kernel
theorem dX3_bondAt_0 : decode cX3_bondAt 0 = .ok (.iload_n 1, 1) := by decide +kernel
theorem dX3_bondAt_1 : decode cX3_bondAt 1 = .ok (.ifCond .lt 14, 3) := by decide +kernel
theorem dX3_bondAt_4 : decode cX3_bondAt 4 = .ok (.iload_n 1, 1) := by decide +kernel
theorem dX3_bondAt_5 : decode cX3_bondAt 5 = .ok (.aload_n 0, 1) := by decide +kernel
theorem dX3_bondAt_6 : decode cX3_bondAt 6 = .ok (.getfield 16, 3) := by decide +kernel
theorem dX3_bondAt_9 : decode cX3_bondAt 9 = .ok (.invokevirtual 50, 3) := by decide +kernel
theorem dX3_bondAt_12 : decode cX3_bondAt 12 = .ok (.if_icmp .lt 13, 3) := by decide +kernel
theorem dX3_bondAt_15 : decode cX3_bondAt 15 = .ok (.new 169, 3) := by decide +kernel
theorem dX3_bondAt_18 : decode cX3_bondAt 18 = .ok (.dup, 1) := by decide +kernel
theorem dX3_bondAt_19 : decode cX3_bondAt 19 = .ok (.ldc 174, 2) := by decide +kernel
theorem dX3_bondAt_21 : decode cX3_bondAt 21 = .ok (.invokespecial 173, 3) := by decide +kernel
theorem dX3_bondAt_24 : decode cX3_bondAt 24 = .ok (.athrow, 1) := by decide +kernel
theorem dX3_bondAt_25 : decode cX3_bondAt 25 = .ok (.aload_n 0, 1) := by decide +kernel
theorem dX3_bondAt_26 : decode cX3_bondAt 26 = .ok (.getfield 16, 3) := by decide +kernel
theorem dX3_bondAt_29 : decode cX3_bondAt 29 = .ok (.iload_n 1, 1) := by decide +kernel
theorem dX3_bondAt_30 : decode cX3_bondAt 30 = .ok (.invokevirtual 127, 3) := by decide +kernel
theorem dX3_bondAt_33 : decode cX3_bondAt 33 = .ok (.checkcast 111, 3) := by decide +kernel
theorem dX3_bondAt_36 : decode cX3_bondAt 36 = .ok (.areturn, 1) := by decide +kernel
theorem dX3_receiveDueLoans_0 : decode cX3_receiveDueLoans 0 = .ok (.iconst 0, 1) := by decide +kernel
theorem dX3_receiveDueLoans_1 : decode cX3_receiveDueLoans 1 = .ok (.istore_n 1, 1) := by decide +kernel
theorem dX3_receiveDueLoans_2 : decode cX3_receiveDueLoans 2 = .ok (.iload_n 1, 1) := by decide +kernel
theorem dX3_receiveDueLoans_3 : decode cX3_receiveDueLoans 3 = .ok (.aload_n 0, 1) := by decide +kernel
theorem dX3_receiveDueLoans_4 : decode cX3_receiveDueLoans 4 = .ok (.getfield 10, 3) := by decide +kernel
theorem dX3_receiveDueLoans_7 : decode cX3_receiveDueLoans 7 = .ok (.invokevirtual 50, 3) := by decide +kernel
theorem dX3_receiveDueLoans_10 : decode cX3_receiveDueLoans 10 = .ok (.if_icmp .ge 65, 3) := by decide +kernel
theorem dX3_receiveDueLoans_13 : decode cX3_receiveDueLoans 13 = .ok (.aload_n 0, 1) := by decide +kernel
theorem dX3_receiveDueLoans_14 : decode cX3_receiveDueLoans 14 = .ok (.getfield 10, 3) := by decide +kernel
theorem dX3_receiveDueLoans_17 : decode cX3_receiveDueLoans 17 = .ok (.iload_n 1, 1) := by decide +kernel
theorem dX3_receiveDueLoans_18 : decode cX3_receiveDueLoans 18 = .ok (.invokevirtual 127, 3) := by decide +kernel
theorem dX3_receiveDueLoans_21 : decode cX3_receiveDueLoans 21 = .ok (.checkcast 61, 3) := by decide +kernel
theorem dX3_receiveDueLoans_24 : decode cX3_receiveDueLoans 24 = .ok (.astore_n 2, 1) := by decide +kernel
theorem dX3_receiveDueLoans_25 : decode cX3_receiveDueLoans 25 = .ok (.aload_n 2, 1) := by decide +kernel
theorem dX3_receiveDueLoans_26 : decode cX3_receiveDueLoans 26 = .ok (.getfield 78, 3) := by decide +kernel
theorem dX3_receiveDueLoans_29 : decode cX3_receiveDueLoans 29 = .ok (.iconst 1, 1) := by decide +kernel
theorem dX3_receiveDueLoans_30 : decode cX3_receiveDueLoans 30 = .ok (.if_icmp .ne 39, 3) := by decide +kernel
theorem dX3_receiveDueLoans_33 : decode cX3_receiveDueLoans 33 = .ok (.aload_n 2, 1) := by decide +kernel
theorem dX3_receiveDueLoans_34 : decode cX3_receiveDueLoans 34 = .ok (.getfield 176, 3) := by decide +kernel
theorem dX3_receiveDueLoans_37 : decode cX3_receiveDueLoans 37 = .ok (.aload_n 0, 1) := by decide +kernel
theorem dX3_receiveDueLoans_38 : decode cX3_receiveDueLoans 38 = .ok (.getfield 26, 3) := by decide +kernel
theorem dX3_receiveDueLoans_41 : decode cX3_receiveDueLoans 41 = .ok (.if_icmp .gt 28, 3) := by decide +kernel
theorem dX3_receiveDueLoans_44 : decode cX3_receiveDueLoans 44 = .ok (.aload_n 2, 1) := by decide +kernel
theorem dX3_receiveDueLoans_45 : decode cX3_receiveDueLoans 45 = .ok (.getfield 102, 3) := by decide +kernel
theorem dX3_receiveDueLoans_48 : decode cX3_receiveDueLoans 48 = .ok (.ifCond .ne 21, 3) := by decide +kernel
theorem dX3_receiveDueLoans_51 : decode cX3_receiveDueLoans 51 = .ok (.aload_n 2, 1) := by decide +kernel
theorem dX3_receiveDueLoans_52 : decode cX3_receiveDueLoans 52 = .ok (.iconst 2, 1) := by decide +kernel
theorem dX3_receiveDueLoans_53 : decode cX3_receiveDueLoans 53 = .ok (.putfield 78, 3) := by decide +kernel
theorem dX3_receiveDueLoans_56 : decode cX3_receiveDueLoans 56 = .ok (.aload_n 0, 1) := by decide +kernel
theorem dX3_receiveDueLoans_57 : decode cX3_receiveDueLoans 57 = .ok (.dup, 1) := by decide +kernel
theorem dX3_receiveDueLoans_58 : decode cX3_receiveDueLoans 58 = .ok (.getfield 30, 3) := by decide +kernel
theorem dX3_receiveDueLoans_61 : decode cX3_receiveDueLoans 61 = .ok (.aload_n 2, 1) := by decide +kernel
theorem dX3_receiveDueLoans_62 : decode cX3_receiveDueLoans 62 = .ok (.getfield 177, 3) := by decide +kernel
theorem dX3_receiveDueLoans_65 : decode cX3_receiveDueLoans 65 = .ok (.iadd, 1) := by decide +kernel
theorem dX3_receiveDueLoans_66 : decode cX3_receiveDueLoans 66 = .ok (.putfield 30, 3) := by decide +kernel
theorem dX3_receiveDueLoans_69 : decode cX3_receiveDueLoans 69 = .ok (.iinc 1 1, 3) := by decide +kernel
theorem dX3_receiveDueLoans_72 : decode cX3_receiveDueLoans 72 = .ok (.goto (-70), 3) := by decide +kernel
theorem dX3_receiveDueLoans_75 : decode cX3_receiveDueLoans 75 = .ok (.return_, 1) := by decide +kernel
theorem dX3_settleDueBonds_0 : decode cX3_settleDueBonds 0 = .ok (.iconst 0, 1) := by decide +kernel
theorem dX3_settleDueBonds_1 : decode cX3_settleDueBonds 1 = .ok (.istore_n 1, 1) := by decide +kernel
theorem dX3_settleDueBonds_2 : decode cX3_settleDueBonds 2 = .ok (.iload_n 1, 1) := by decide +kernel
theorem dX3_settleDueBonds_3 : decode cX3_settleDueBonds 3 = .ok (.aload_n 0, 1) := by decide +kernel
theorem dX3_settleDueBonds_4 : decode cX3_settleDueBonds 4 = .ok (.getfield 16, 3) := by decide +kernel
theorem dX3_settleDueBonds_7 : decode cX3_settleDueBonds 7 = .ok (.invokevirtual 50, 3) := by decide +kernel
theorem dX3_settleDueBonds_10 : decode cX3_settleDueBonds 10 = .ok (.if_icmp .ge 44, 3) := by decide +kernel
theorem dX3_settleDueBonds_13 : decode cX3_settleDueBonds 13 = .ok (.aload_n 0, 1) := by decide +kernel
theorem dX3_settleDueBonds_14 : decode cX3_settleDueBonds 14 = .ok (.getfield 16, 3) := by decide +kernel
theorem dX3_settleDueBonds_17 : decode cX3_settleDueBonds 17 = .ok (.iload_n 1, 1) := by decide +kernel
theorem dX3_settleDueBonds_18 : decode cX3_settleDueBonds 18 = .ok (.invokevirtual 127, 3) := by decide +kernel
theorem dX3_settleDueBonds_21 : decode cX3_settleDueBonds 21 = .ok (.checkcast 111, 3) := by decide +kernel
theorem dX3_settleDueBonds_24 : decode cX3_settleDueBonds 24 = .ok (.astore_n 2, 1) := by decide +kernel
theorem dX3_settleDueBonds_25 : decode cX3_settleDueBonds 25 = .ok (.aload_n 2, 1) := by decide +kernel
theorem dX3_settleDueBonds_26 : decode cX3_settleDueBonds 26 = .ok (.getfield 123, 3) := by decide +kernel
theorem dX3_settleDueBonds_29 : decode cX3_settleDueBonds 29 = .ok (.ifCond .ne 19, 3) := by decide +kernel
theorem dX3_settleDueBonds_32 : decode cX3_settleDueBonds 32 = .ok (.aload_n 2, 1) := by decide +kernel
theorem dX3_settleDueBonds_33 : decode cX3_settleDueBonds 33 = .ok (.getfield 124, 3) := by decide +kernel
theorem dX3_settleDueBonds_36 : decode cX3_settleDueBonds 36 = .ok (.aload_n 0, 1) := by decide +kernel
theorem dX3_settleDueBonds_37 : decode cX3_settleDueBonds 37 = .ok (.getfield 26, 3) := by decide +kernel
theorem dX3_settleDueBonds_40 : decode cX3_settleDueBonds 40 = .ok (.if_icmp .gt 8, 3) := by decide +kernel
theorem dX3_settleDueBonds_43 : decode cX3_settleDueBonds 43 = .ok (.aload_n 0, 1) := by decide +kernel
theorem dX3_settleDueBonds_44 : decode cX3_settleDueBonds 44 = .ok (.aload_n 2, 1) := by decide +kernel
theorem dX3_settleDueBonds_45 : decode cX3_settleDueBonds 45 = .ok (.invokevirtual 178, 3) := by decide +kernel
theorem dX3_settleDueBonds_48 : decode cX3_settleDueBonds 48 = .ok (.iinc 1 1, 3) := by decide +kernel
theorem dX3_settleDueBonds_51 : decode cX3_settleDueBonds 51 = .ok (.goto (-49), 3) := by decide +kernel
theorem dX3_settleDueBonds_54 : decode cX3_settleDueBonds 54 = .ok (.return_, 1) := by decide +kernel
theorem dX3_settle_0 : decode cX3_settle 0 = .ok (.aload_n 0, 1) := by decide +kernel
theorem dX3_settle_1 : decode cX3_settle 1 = .ok (.getfield 30, 3) := by decide +kernel
theorem dX3_settle_4 : decode cX3_settle 4 = .ok (.aload_n 1, 1) := by decide +kernel
theorem dX3_settle_5 : decode cX3_settle 5 = .ok (.getfield 131, 3) := by decide +kernel
theorem dX3_settle_8 : decode cX3_settle 8 = .ok (.if_icmp .lt 24, 3) := by decide +kernel
theorem dX3_settle_11 : decode cX3_settle 11 = .ok (.aload_n 0, 1) := by decide +kernel
theorem dX3_settle_12 : decode cX3_settle 12 = .ok (.dup, 1) := by decide +kernel
theorem dX3_settle_13 : decode cX3_settle 13 = .ok (.getfield 30, 3) := by decide +kernel
theorem dX3_settle_16 : decode cX3_settle 16 = .ok (.aload_n 1, 1) := by decide +kernel
theorem dX3_settle_17 : decode cX3_settle 17 = .ok (.getfield 131, 3) := by decide +kernel
theorem dX3_settle_20 : decode cX3_settle 20 = .ok (.isub, 1) := by decide +kernel
theorem dX3_settle_21 : decode cX3_settle 21 = .ok (.putfield 30, 3) := by decide +kernel
theorem dX3_settle_24 : decode cX3_settle 24 = .ok (.aload_n 1, 1) := by decide +kernel
theorem dX3_settle_25 : decode cX3_settle 25 = .ok (.iconst 2, 1) := by decide +kernel
theorem dX3_settle_26 : decode cX3_settle 26 = .ok (.putfield 123, 3) := by decide +kernel
theorem dX3_settle_29 : decode cX3_settle 29 = .ok (.goto 34, 3) := by decide +kernel
theorem dX3_settle_32 : decode cX3_settle 32 = .ok (.aload_n 1, 1) := by decide +kernel
theorem dX3_settle_33 : decode cX3_settle 33 = .ok (.getfield 182, 3) := by decide +kernel
theorem dX3_settle_36 : decode cX3_settle 36 = .ok (.ifCond .ne 22, 3) := by decide +kernel
theorem dX3_settle_39 : decode cX3_settle 39 = .ok (.aload_n 1, 1) := by decide +kernel
theorem dX3_settle_40 : decode cX3_settle 40 = .ok (.iconst 1, 1) := by decide +kernel
theorem dX3_settle_41 : decode cX3_settle 41 = .ok (.putfield 182, 3) := by decide +kernel
theorem dX3_settle_44 : decode cX3_settle 44 = .ok (.aload_n 1, 1) := by decide +kernel
theorem dX3_settle_45 : decode cX3_settle 45 = .ok (.aload_n 0, 1) := by decide +kernel
theorem dX3_settle_46 : decode cX3_settle 46 = .ok (.getfield 26, 3) := by decide +kernel
theorem dX3_settle_49 : decode cX3_settle 49 = .ok (.bipush 12, 2) := by decide +kernel
theorem dX3_settle_51 : decode cX3_settle 51 = .ok (.iadd, 1) := by decide +kernel
theorem dX3_settle_52 : decode cX3_settle 52 = .ok (.putfield 124, 3) := by decide +kernel
theorem dX3_settle_55 : decode cX3_settle 55 = .ok (.goto 8, 3) := by decide +kernel
theorem dX3_settle_58 : decode cX3_settle 58 = .ok (.aload_n 1, 1) := by decide +kernel
theorem dX3_settle_59 : decode cX3_settle 59 = .ok (.iconst 3, 1) := by decide +kernel
theorem dX3_settle_60 : decode cX3_settle 60 = .ok (.putfield 123, 3) := by decide +kernel
theorem dX3_settle_63 : decode cX3_settle 63 = .ok (.return_, 1) := by decide +kernel
theorem dX3_countOf_0 : decode cX3_countOf 0 = .ok (.aload_n 1, 1) := by decide +kernel
theorem dX3_countOf_1 : decode cX3_countOf 1 = .ok (.getfield 102, 3) := by decide +kernel
theorem dX3_countOf_4 : decode cX3_countOf 4 = .ok (.iconst 3, 1) := by decide +kernel
theorem dX3_countOf_5 : decode cX3_countOf 5 = .ok (.if_icmp .ge 14, 3) := by decide +kernel
theorem dX3_countOf_8 : decode cX3_countOf 8 = .ok (.aload_n 1, 1) := by decide +kernel
theorem dX3_countOf_9 : decode cX3_countOf 9 = .ok (.getfield 186, 3) := by decide +kernel
theorem dX3_countOf_12 : decode cX3_countOf 12 = .ok (.aload_n 0, 1) := by decide +kernel
theorem dX3_countOf_13 : decode cX3_countOf 13 = .ok (.getfield 33, 3) := by decide +kernel
theorem dX3_countOf_16 : decode cX3_countOf 16 = .ok (.if_icmp .le 5, 3) := by decide +kernel
theorem dX3_countOf_19 : decode cX3_countOf 19 = .ok (.iconst 0, 1) := by decide +kernel
theorem dX3_countOf_20 : decode cX3_countOf 20 = .ok (.ireturn, 1) := by decide +kernel
theorem dX3_countOf_21 : decode cX3_countOf 21 = .ok (.aload_n 1, 1) := by decide +kernel
theorem dX3_countOf_22 : decode cX3_countOf 22 = .ok (.getfield 177, 3) := by decide +kernel
theorem dX3_countOf_25 : decode cX3_countOf 25 = .ok (.aload_n 1, 1) := by decide +kernel
theorem dX3_countOf_26 : decode cX3_countOf 26 = .ok (.getfield 105, 3) := by decide +kernel
theorem dX3_countOf_29 : decode cX3_countOf 29 = .ok (.bipush 80, 2) := by decide +kernel
theorem dX3_countOf_31 : decode cX3_countOf 31 = .ok (.imul, 1) := by decide +kernel
theorem dX3_countOf_32 : decode cX3_countOf 32 = .ok (.bipush 100, 2) := by decide +kernel
theorem dX3_countOf_34 : decode cX3_countOf 34 = .ok (.idiv, 1) := by decide +kernel
theorem dX3_countOf_35 : decode cX3_countOf 35 = .ok (.invokestatic 137, 3) := by decide +kernel
theorem dX3_countOf_38 : decode cX3_countOf 38 = .ok (.ireturn, 1) := by decide +kernel
theorem dX3_worthNow_0 : decode cX3_worthNow 0 = .ok (.sipush 1200, 3) := by decide +kernel
theorem dX3_worthNow_3 : decode cX3_worthNow 3 = .ok (.aload_n 0, 1) := by decide +kernel
theorem dX3_worthNow_4 : decode cX3_worthNow 4 = .ok (.getfield 39, 3) := by decide +kernel
theorem dX3_worthNow_7 : decode cX3_worthNow 7 = .ok (.iconst 0, 1) := by decide +kernel
theorem dX3_worthNow_8 : decode cX3_worthNow 8 = .ok (.iload_n 2, 1) := by decide +kernel
theorem dX3_worthNow_9 : decode cX3_worthNow 9 = .ok (.aload_n 0, 1) := by decide +kernel
theorem dX3_worthNow_10 : decode cX3_worthNow 10 = .ok (.getfield 26, 3) := by decide +kernel
theorem dX3_worthNow_13 : decode cX3_worthNow 13 = .ok (.isub, 1) := by decide +kernel
theorem dX3_worthNow_14 : decode cX3_worthNow 14 = .ok (.invokestatic 189, 3) := by decide +kernel
theorem dX3_worthNow_17 : decode cX3_worthNow 17 = .ok (.imul, 1) := by decide +kernel
theorem dX3_worthNow_18 : decode cX3_worthNow 18 = .ok (.iadd, 1) := by decide +kernel
theorem dX3_worthNow_19 : decode cX3_worthNow 19 = .ok (.istore_n 3, 1) := by decide +kernel
theorem dX3_worthNow_20 : decode cX3_worthNow 20 = .ok (.iload_n 3, 1) := by decide +kernel
theorem dX3_worthNow_21 : decode cX3_worthNow 21 = .ok (.ifCond .gt 5, 3) := by decide +kernel
theorem dX3_worthNow_24 : decode cX3_worthNow 24 = .ok (.iconst 0, 1) := by decide +kernel
theorem dX3_worthNow_25 : decode cX3_worthNow 25 = .ok (.ireturn, 1) := by decide +kernel
theorem dX3_worthNow_26 : decode cX3_worthNow 26 = .ok (.sipush 1200, 3) := by decide +kernel
theorem dX3_worthNow_29 : decode cX3_worthNow 29 = .ok (.iload_n 1, 1) := by decide +kernel
theorem dX3_worthNow_30 : decode cX3_worthNow 30 = .ok (.imul, 1) := by decide +kernel
theorem dX3_worthNow_31 : decode cX3_worthNow 31 = .ok (.iload_n 3, 1) := by decide +kernel
theorem dX3_worthNow_32 : decode cX3_worthNow 32 = .ok (.idiv, 1) := by decide +kernel
theorem dX3_worthNow_33 : decode cX3_worthNow 33 = .ok (.ireturn, 1) := by decide +kernel
theorem dX3_loansThatAre_0 : decode cX3_loansThatAre 0 = .ok (.iconst 0, 1) := by decide +kernel
theorem dX3_loansThatAre_1 : decode cX3_loansThatAre 1 = .ok (.istore_n 2, 1) := by decide +kernel
theorem dX3_loansThatAre_2 : decode cX3_loansThatAre 2 = .ok (.iconst 0, 1) := by decide +kernel
theorem dX3_loansThatAre_3 : decode cX3_loansThatAre 3 = .ok (.istore_n 3, 1) := by decide +kernel
theorem dX3_loansThatAre_4 : decode cX3_loansThatAre 4 = .ok (.iload_n 3, 1) := by decide +kernel
theorem dX3_loansThatAre_5 : decode cX3_loansThatAre 5 = .ok (.aload_n 0, 1) := by decide +kernel
theorem dX3_loansThatAre_6 : decode cX3_loansThatAre 6 = .ok (.getfield 10, 3) := by decide +kernel
theorem dX3_loansThatAre_9 : decode cX3_loansThatAre 9 = .ok (.invokevirtual 50, 3) := by decide +kernel
theorem dX3_loansThatAre_12 : decode cX3_loansThatAre 12 = .ok (.if_icmp .ge 33, 3) := by decide +kernel
theorem dX3_loansThatAre_15 : decode cX3_loansThatAre 15 = .ok (.aload_n 0, 1) := by decide +kernel
theorem dX3_loansThatAre_16 : decode cX3_loansThatAre 16 = .ok (.getfield 10, 3) := by decide +kernel
theorem dX3_loansThatAre_19 : decode cX3_loansThatAre 19 = .ok (.iload_n 3, 1) := by decide +kernel
theorem dX3_loansThatAre_20 : decode cX3_loansThatAre 20 = .ok (.invokevirtual 127, 3) := by decide +kernel
theorem dX3_loansThatAre_23 : decode cX3_loansThatAre 23 = .ok (.checkcast 61, 3) := by decide +kernel
theorem dX3_loansThatAre_26 : decode cX3_loansThatAre 26 = .ok (.getfield 78, 3) := by decide +kernel
theorem dX3_loansThatAre_29 : decode cX3_loansThatAre 29 = .ok (.iload_n 1, 1) := by decide +kernel
theorem dX3_loansThatAre_30 : decode cX3_loansThatAre 30 = .ok (.if_icmp .ne 9, 3) := by decide +kernel
theorem dX3_loansThatAre_33 : decode cX3_loansThatAre 33 = .ok (.iload_n 2, 1) := by decide +kernel
theorem dX3_loansThatAre_34 : decode cX3_loansThatAre 34 = .ok (.iconst 1, 1) := by decide +kernel
theorem dX3_loansThatAre_35 : decode cX3_loansThatAre 35 = .ok (.iload_n 3, 1) := by decide +kernel
theorem dX3_loansThatAre_36 : decode cX3_loansThatAre 36 = .ok (.ishl, 1) := by decide +kernel
theorem dX3_loansThatAre_37 : decode cX3_loansThatAre 37 = .ok (.ior, 1) := by decide +kernel
theorem dX3_loansThatAre_38 : decode cX3_loansThatAre 38 = .ok (.istore_n 2, 1) := by decide +kernel
theorem dX3_loansThatAre_39 : decode cX3_loansThatAre 39 = .ok (.iinc 3 1, 3) := by decide +kernel
theorem dX3_loansThatAre_42 : decode cX3_loansThatAre 42 = .ok (.goto (-38), 3) := by decide +kernel
theorem dX3_loansThatAre_45 : decode cX3_loansThatAre 45 = .ok (.iload_n 2, 1) := by decide +kernel
theorem dX3_loansThatAre_46 : decode cX3_loansThatAre 46 = .ok (.ireturn, 1) := by decide +kernel
theorem dX3_fillSheet_0 : decode cX3_fillSheet 0 = .ok (.iconst 0, 1) := by decide +kernel
theorem dX3_fillSheet_1 : decode cX3_fillSheet 1 = .ok (.istore_n 1, 1) := by decide +kernel
theorem dX3_fillSheet_2 : decode cX3_fillSheet 2 = .ok (.iload_n 1, 1) := by decide +kernel
theorem dX3_fillSheet_3 : decode cX3_fillSheet 3 = .ok (.aload_n 0, 1) := by decide +kernel
theorem dX3_fillSheet_4 : decode cX3_fillSheet 4 = .ok (.getfield 10, 3) := by decide +kernel
theorem dX3_fillSheet_7 : decode cX3_fillSheet 7 = .ok (.invokevirtual 50, 3) := by decide +kernel
theorem dX3_fillSheet_10 : decode cX3_fillSheet 10 = .ok (.if_icmp .ge 49, 3) := by decide +kernel
theorem dX3_fillSheet_13 : decode cX3_fillSheet 13 = .ok (.iload_n 1, 1) := by decide +kernel
theorem dX3_fillSheet_14 : decode cX3_fillSheet 14 = .ok (.bipush 12, 2) := by decide +kernel
theorem dX3_fillSheet_16 : decode cX3_fillSheet 16 = .ok (.if_icmp .ge 43, 3) := by decide +kernel
theorem dX3_fillSheet_19 : decode cX3_fillSheet 19 = .ok (.aload_n 0, 1) := by decide +kernel
theorem dX3_fillSheet_20 : decode cX3_fillSheet 20 = .ok (.getfield 10, 3) := by decide +kernel
theorem dX3_fillSheet_23 : decode cX3_fillSheet 23 = .ok (.iload_n 1, 1) := by decide +kernel
theorem dX3_fillSheet_24 : decode cX3_fillSheet 24 = .ok (.invokevirtual 127, 3) := by decide +kernel
theorem dX3_fillSheet_27 : decode cX3_fillSheet 27 = .ok (.checkcast 61, 3) := by decide +kernel
theorem dX3_fillSheet_30 : decode cX3_fillSheet 30 = .ok (.astore_n 2, 1) := by decide +kernel
theorem dX3_fillSheet_31 : decode cX3_fillSheet 31 = .ok (.aload_n 0, 1) := by decide +kernel
theorem dX3_fillSheet_32 : decode cX3_fillSheet 32 = .ok (.aload_n 0, 1) := by decide +kernel
theorem dX3_fillSheet_33 : decode cX3_fillSheet 33 = .ok (.getfield 22, 3) := by decide +kernel
theorem dX3_fillSheet_36 : decode cX3_fillSheet 36 = .ok (.getfield 192, 3) := by decide +kernel
theorem dX3_fillSheet_39 : decode cX3_fillSheet 39 = .ok (.iload_n 1, 1) := by decide +kernel
theorem dX3_fillSheet_40 : decode cX3_fillSheet 40 = .ok (.aaload, 1) := by decide +kernel
theorem dX3_fillSheet_41 : decode cX3_fillSheet 41 = .ok (.aload_n 0, 1) := by decide +kernel
theorem dX3_fillSheet_42 : decode cX3_fillSheet 42 = .ok (.aload_n 2, 1) := by decide +kernel
theorem dX3_fillSheet_43 : decode cX3_fillSheet 43 = .ok (.invokevirtual 81, 3) := by decide +kernel
theorem dX3_fillSheet_46 : decode cX3_fillSheet 46 = .ok (.aload_n 2, 1) := by decide +kernel
theorem dX3_fillSheet_47 : decode cX3_fillSheet 47 = .ok (.getfield 176, 3) := by decide +kernel
theorem dX3_fillSheet_50 : decode cX3_fillSheet 50 = .ok (.invokevirtual 196, 3) := by decide +kernel
theorem dX3_fillSheet_53 : decode cX3_fillSheet 53 = .ok (.iinc 1 1, 3) := by decide +kernel
theorem dX3_fillSheet_56 : decode cX3_fillSheet 56 = .ok (.goto (-54), 3) := by decide +kernel
theorem dX3_fillSheet_59 : decode cX3_fillSheet 59 = .ok (.aload_n 0, 1) := by decide +kernel
theorem dX3_fillSheet_60 : decode cX3_fillSheet 60 = .ok (.aload_n 0, 1) := by decide +kernel
theorem dX3_fillSheet_61 : decode cX3_fillSheet 61 = .ok (.getfield 22, 3) := by decide +kernel
theorem dX3_fillSheet_64 : decode cX3_fillSheet 64 = .ok (.getfield 200, 3) := by decide +kernel
theorem dX3_fillSheet_67 : decode cX3_fillSheet 67 = .ok (.invokevirtual 204, 3) := by decide +kernel
theorem dX3_fillSheet_70 : decode cX3_fillSheet 70 = .ok (.iconst 0, 1) := by decide +kernel
theorem dX3_fillSheet_71 : decode cX3_fillSheet 71 = .ok (.istore_n 1, 1) := by decide +kernel
theorem dX3_fillSheet_72 : decode cX3_fillSheet 72 = .ok (.iload_n 1, 1) := by decide +kernel
theorem dX3_fillSheet_73 : decode cX3_fillSheet 73 = .ok (.aload_n 0, 1) := by decide +kernel
theorem dX3_fillSheet_74 : decode cX3_fillSheet 74 = .ok (.getfield 16, 3) := by decide +kernel
theorem dX3_fillSheet_77 : decode cX3_fillSheet 77 = .ok (.invokevirtual 50, 3) := by decide +kernel
theorem dX3_fillSheet_80 : decode cX3_fillSheet 80 = .ok (.if_icmp .ge 40, 3) := by decide +kernel
theorem dX3_fillSheet_83 : decode cX3_fillSheet 83 = .ok (.aload_n 0, 1) := by decide +kernel
theorem dX3_fillSheet_84 : decode cX3_fillSheet 84 = .ok (.getfield 16, 3) := by decide +kernel
theorem dX3_fillSheet_87 : decode cX3_fillSheet 87 = .ok (.iload_n 1, 1) := by decide +kernel
theorem dX3_fillSheet_88 : decode cX3_fillSheet 88 = .ok (.invokevirtual 127, 3) := by decide +kernel
theorem dX3_fillSheet_91 : decode cX3_fillSheet 91 = .ok (.checkcast 111, 3) := by decide +kernel
theorem dX3_fillSheet_94 : decode cX3_fillSheet 94 = .ok (.astore_n 2, 1) := by decide +kernel
theorem dX3_fillSheet_95 : decode cX3_fillSheet 95 = .ok (.aload_n 2, 1) := by decide +kernel
theorem dX3_fillSheet_96 : decode cX3_fillSheet 96 = .ok (.getfield 123, 3) := by decide +kernel
theorem dX3_fillSheet_99 : decode cX3_fillSheet 99 = .ok (.ifCond .ne 15, 3) := by decide +kernel
theorem dX3_fillSheet_102 : decode cX3_fillSheet 102 = .ok (.aload_n 0, 1) := by decide +kernel
theorem dX3_fillSheet_103 : decode cX3_fillSheet 103 = .ok (.aload_n 0, 1) := by decide +kernel
theorem dX3_fillSheet_104 : decode cX3_fillSheet 104 = .ok (.getfield 22, 3) := by decide +kernel
theorem dX3_fillSheet_107 : decode cX3_fillSheet 107 = .ok (.getfield 200, 3) := by decide +kernel
theorem dX3_fillSheet_110 : decode cX3_fillSheet 110 = .ok (.aload_n 2, 1) := by decide +kernel
theorem dX3_fillSheet_111 : decode cX3_fillSheet 111 = .ok (.invokevirtual 208, 3) := by decide +kernel
theorem dX3_fillSheet_114 : decode cX3_fillSheet 114 = .ok (.iinc 1 1, 3) := by decide +kernel
theorem dX3_fillSheet_117 : decode cX3_fillSheet 117 = .ok (.goto (-45), 3) := by decide +kernel
theorem dX3_fillSheet_120 : decode cX3_fillSheet 120 = .ok (.return_, 1) := by decide +kernel
theorem dX3_fillRow_0 : decode cX3_fillRow 0 = .ok (.aload_n 1, 1) := by decide +kernel
theorem dX3_fillRow_1 : decode cX3_fillRow 1 = .ok (.iconst 0, 1) := by decide +kernel
theorem dX3_fillRow_2 : decode cX3_fillRow 2 = .ok (.bipush 100, 2) := by decide +kernel
theorem dX3_fillRow_4 : decode cX3_fillRow 4 = .ok (.iload_n 2, 1) := by decide +kernel
theorem dX3_fillRow_5 : decode cX3_fillRow 5 = .ok (.imul, 1) := by decide +kernel
theorem dX3_fillRow_6 : decode cX3_fillRow 6 = .ok (.iastore, 1) := by decide +kernel
theorem dX3_fillRow_7 : decode cX3_fillRow 7 = .ok (.aload_n 1, 1) := by decide +kernel
theorem dX3_fillRow_8 : decode cX3_fillRow 8 = .ok (.iconst 1, 1) := by decide +kernel
theorem dX3_fillRow_9 : decode cX3_fillRow 9 = .ok (.iload_n 2, 1) := by decide +kernel
theorem dX3_fillRow_10 : decode cX3_fillRow 10 = .ok (.iastore, 1) := by decide +kernel
theorem dX3_fillRow_11 : decode cX3_fillRow 11 = .ok (.aload_n 1, 1) := by decide +kernel
theorem dX3_fillRow_12 : decode cX3_fillRow 12 = .ok (.iconst 2, 1) := by decide +kernel
theorem dX3_fillRow_13 : decode cX3_fillRow 13 = .ok (.aload_n 0, 1) := by decide +kernel
theorem dX3_fillRow_14 : decode cX3_fillRow 14 = .ok (.iload_n 2, 1) := by decide +kernel
theorem dX3_fillRow_15 : decode cX3_fillRow 15 = .ok (.iload_n 3, 1) := by decide +kernel
theorem dX3_fillRow_16 : decode cX3_fillRow 16 = .ok (.invokevirtual 212, 3) := by decide +kernel
theorem dX3_fillRow_19 : decode cX3_fillRow 19 = .ok (.iastore, 1) := by decide +kernel
theorem dX3_fillRow_20 : decode cX3_fillRow 20 = .ok (.iconst 1, 1) := by decide +kernel
theorem dX3_fillRow_21 : decode cX3_fillRow 21 = .ok (.istore 4, 2) := by decide +kernel
theorem dX3_fillRow_23 : decode cX3_fillRow 23 = .ok (.iload 4, 2) := by decide +kernel
theorem dX3_fillRow_25 : decode cX3_fillRow 25 = .ok (.bipush 6, 2) := by decide +kernel
theorem dX3_fillRow_27 : decode cX3_fillRow 27 = .ok (.if_icmp .gt 31, 3) := by decide +kernel
theorem dX3_fillRow_30 : decode cX3_fillRow 30 = .ok (.aload_n 1, 1) := by decide +kernel
theorem dX3_fillRow_31 : decode cX3_fillRow 31 = .ok (.iconst 2, 1) := by decide +kernel
theorem dX3_fillRow_32 : decode cX3_fillRow 32 = .ok (.iload 4, 2) := by decide +kernel
theorem dX3_fillRow_34 : decode cX3_fillRow 34 = .ok (.iadd, 1) := by decide +kernel
theorem dX3_fillRow_35 : decode cX3_fillRow 35 = .ok (.iload_n 3, 1) := by decide +kernel
theorem dX3_fillRow_36 : decode cX3_fillRow 36 = .ok (.aload_n 0, 1) := by decide +kernel
theorem dX3_fillRow_37 : decode cX3_fillRow 37 = .ok (.getfield 26, 3) := by decide +kernel
theorem dX3_fillRow_40 : decode cX3_fillRow 40 = .ok (.iload 4, 2) := by decide +kernel
theorem dX3_fillRow_42 : decode cX3_fillRow 42 = .ok (.iadd, 1) := by decide +kernel
theorem dX3_fillRow_43 : decode cX3_fillRow 43 = .ok (.if_icmp .gt 7, 3) := by decide +kernel
theorem dX3_fillRow_46 : decode cX3_fillRow 46 = .ok (.iload_n 2, 1) := by decide +kernel
theorem dX3_fillRow_47 : decode cX3_fillRow 47 = .ok (.goto 4, 3) := by decide +kernel
theorem dX3_fillRow_50 : decode cX3_fillRow 50 = .ok (.iconst 0, 1) := by decide +kernel
theorem dX3_fillRow_51 : decode cX3_fillRow 51 = .ok (.iastore, 1) := by decide +kernel
theorem dX3_fillRow_52 : decode cX3_fillRow 52 = .ok (.iinc 4 1, 3) := by decide +kernel
theorem dX3_fillRow_55 : decode cX3_fillRow 55 = .ok (.goto (-32), 3) := by decide +kernel
theorem dX3_fillRow_58 : decode cX3_fillRow 58 = .ok (.return_, 1) := by decide +kernel
theorem dX3_startWithCashAndSubstitutes_0 : decode cX3_startWithCashAndSubstitutes 0 = .ok (.aload_n 0, 1) := by decide +kernel
theorem dX3_startWithCashAndSubstitutes_1 : decode cX3_startWithCashAndSubstitutes 1 = .ok (.invokevirtual 215, 3) := by decide +kernel
theorem dX3_startWithCashAndSubstitutes_4 : decode cX3_startWithCashAndSubstitutes 4 = .ok (.istore_n 2, 1) := by decide +kernel
theorem dX3_startWithCashAndSubstitutes_5 : decode cX3_startWithCashAndSubstitutes 5 = .ok (.aload_n 1, 1) := by decide +kernel
theorem dX3_startWithCashAndSubstitutes_6 : decode cX3_startWithCashAndSubstitutes 6 = .ok (.iconst 0, 1) := by decide +kernel
theorem dX3_startWithCashAndSubstitutes_7 : decode cX3_startWithCashAndSubstitutes 7 = .ok (.bipush (-100), 2) := by decide +kernel
theorem dX3_startWithCashAndSubstitutes_9 : decode cX3_startWithCashAndSubstitutes 9 = .ok (.iload_n 2, 1) := by decide +kernel
theorem dX3_startWithCashAndSubstitutes_10 : decode cX3_startWithCashAndSubstitutes 10 = .ok (.imul, 1) := by decide +kernel
theorem dX3_startWithCashAndSubstitutes_11 : decode cX3_startWithCashAndSubstitutes 11 = .ok (.iastore, 1) := by decide +kernel
theorem dX3_startWithCashAndSubstitutes_12 : decode cX3_startWithCashAndSubstitutes 12 = .ok (.aload_n 1, 1) := by decide +kernel
theorem dX3_startWithCashAndSubstitutes_13 : decode cX3_startWithCashAndSubstitutes 13 = .ok (.iconst 1, 1) := by decide +kernel
theorem dX3_startWithCashAndSubstitutes_14 : decode cX3_startWithCashAndSubstitutes 14 = .ok (.iload_n 2, 1) := by decide +kernel
theorem dX3_startWithCashAndSubstitutes_15 : decode cX3_startWithCashAndSubstitutes 15 = .ok (.ineg, 1) := by decide +kernel
theorem dX3_startWithCashAndSubstitutes_16 : decode cX3_startWithCashAndSubstitutes 16 = .ok (.iastore, 1) := by decide +kernel
theorem dX3_startWithCashAndSubstitutes_17 : decode cX3_startWithCashAndSubstitutes 17 = .ok (.aload_n 1, 1) := by decide +kernel
theorem dX3_startWithCashAndSubstitutes_18 : decode cX3_startWithCashAndSubstitutes 18 = .ok (.iconst 2, 1) := by decide +kernel
theorem dX3_startWithCashAndSubstitutes_19 : decode cX3_startWithCashAndSubstitutes 19 = .ok (.iload_n 2, 1) := by decide +kernel
theorem dX3_startWithCashAndSubstitutes_20 : decode cX3_startWithCashAndSubstitutes 20 = .ok (.ineg, 1) := by decide +kernel
theorem dX3_startWithCashAndSubstitutes_21 : decode cX3_startWithCashAndSubstitutes 21 = .ok (.iastore, 1) := by decide +kernel
theorem dX3_startWithCashAndSubstitutes_22 : decode cX3_startWithCashAndSubstitutes 22 = .ok (.iconst 1, 1) := by decide +kernel
theorem dX3_startWithCashAndSubstitutes_23 : decode cX3_startWithCashAndSubstitutes 23 = .ok (.istore_n 3, 1) := by decide +kernel
theorem dX3_startWithCashAndSubstitutes_24 : decode cX3_startWithCashAndSubstitutes 24 = .ok (.iload_n 3, 1) := by decide +kernel
theorem dX3_startWithCashAndSubstitutes_25 : decode cX3_startWithCashAndSubstitutes 25 = .ok (.bipush 6, 2) := by decide +kernel
theorem dX3_startWithCashAndSubstitutes_27 : decode cX3_startWithCashAndSubstitutes 27 = .ok (.if_icmp .gt 19, 3) := by decide +kernel
theorem dX3_startWithCashAndSubstitutes_30 : decode cX3_startWithCashAndSubstitutes 30 = .ok (.aload_n 1, 1) := by decide +kernel
theorem dX3_startWithCashAndSubstitutes_31 : decode cX3_startWithCashAndSubstitutes 31 = .ok (.iconst 2, 1) := by decide +kernel
theorem dX3_startWithCashAndSubstitutes_32 : decode cX3_startWithCashAndSubstitutes 32 = .ok (.iload_n 3, 1) := by decide +kernel
theorem dX3_startWithCashAndSubstitutes_33 : decode cX3_startWithCashAndSubstitutes 33 = .ok (.iadd, 1) := by decide +kernel
theorem dX3_startWithCashAndSubstitutes_34 : decode cX3_startWithCashAndSubstitutes 34 = .ok (.aload_n 0, 1) := by decide +kernel
theorem dX3_startWithCashAndSubstitutes_35 : decode cX3_startWithCashAndSubstitutes 35 = .ok (.getfield 30, 3) := by decide +kernel
theorem dX3_startWithCashAndSubstitutes_38 : decode cX3_startWithCashAndSubstitutes 38 = .ok (.ineg, 1) := by decide +kernel
theorem dX3_startWithCashAndSubstitutes_39 : decode cX3_startWithCashAndSubstitutes 39 = .ok (.iastore, 1) := by decide +kernel
theorem dX3_startWithCashAndSubstitutes_40 : decode cX3_startWithCashAndSubstitutes 40 = .ok (.iinc 3 1, 3) := by decide +kernel
theorem dX3_startWithCashAndSubstitutes_43 : decode cX3_startWithCashAndSubstitutes 43 = .ok (.goto (-19), 3) := by decide +kernel
theorem dX3_startWithCashAndSubstitutes_46 : decode cX3_startWithCashAndSubstitutes 46 = .ok (.return_, 1) := by decide +kernel
theorem dX3_addBondTo_0 : decode cX3_addBondTo 0 = .ok (.aload_n 1, 1) := by decide +kernel
theorem dX3_addBondTo_1 : decode cX3_addBondTo 1 = .ok (.iconst 0, 1) := by decide +kernel
theorem dX3_addBondTo_2 : decode cX3_addBondTo 2 = .ok (.dup2, 1) := by decide +kernel
theorem dX3_addBondTo_3 : decode cX3_addBondTo 3 = .ok (.iaload, 1) := by decide +kernel
theorem dX3_addBondTo_4 : decode cX3_addBondTo 4 = .ok (.aload_n 2, 1) := by decide +kernel
theorem dX3_addBondTo_5 : decode cX3_addBondTo 5 = .ok (.getfield 131, 3) := by decide +kernel
theorem dX3_addBondTo_8 : decode cX3_addBondTo 8 = .ok (.bipush 100, 2) := by decide +kernel
theorem dX3_addBondTo_10 : decode cX3_addBondTo 10 = .ok (.aload_n 0, 1) := by decide +kernel
theorem dX3_addBondTo_11 : decode cX3_addBondTo 11 = .ok (.getfield 36, 3) := by decide +kernel
theorem dX3_addBondTo_14 : decode cX3_addBondTo 14 = .ok (.iadd, 1) := by decide +kernel
theorem dX3_addBondTo_15 : decode cX3_addBondTo 15 = .ok (.imul, 1) := by decide +kernel
theorem dX3_addBondTo_16 : decode cX3_addBondTo 16 = .ok (.iadd, 1) := by decide +kernel
theorem dX3_addBondTo_17 : decode cX3_addBondTo 17 = .ok (.iastore, 1) := by decide +kernel
theorem dX3_addBondTo_18 : decode cX3_addBondTo 18 = .ok (.aload_n 1, 1) := by decide +kernel
theorem dX3_addBondTo_19 : decode cX3_addBondTo 19 = .ok (.iconst 1, 1) := by decide +kernel
theorem dX3_addBondTo_20 : decode cX3_addBondTo 20 = .ok (.dup2, 1) := by decide +kernel
theorem dX3_addBondTo_21 : decode cX3_addBondTo 21 = .ok (.iaload, 1) := by decide +kernel
theorem dX3_addBondTo_22 : decode cX3_addBondTo 22 = .ok (.aload_n 2, 1) := by decide +kernel
theorem dX3_addBondTo_23 : decode cX3_addBondTo 23 = .ok (.getfield 131, 3) := by decide +kernel
theorem dX3_addBondTo_26 : decode cX3_addBondTo 26 = .ok (.iadd, 1) := by decide +kernel
theorem dX3_addBondTo_27 : decode cX3_addBondTo 27 = .ok (.iastore, 1) := by decide +kernel
theorem dX3_addBondTo_28 : decode cX3_addBondTo 28 = .ok (.aload_n 1, 1) := by decide +kernel
theorem dX3_addBondTo_29 : decode cX3_addBondTo 29 = .ok (.iconst 2, 1) := by decide +kernel
theorem dX3_addBondTo_30 : decode cX3_addBondTo 30 = .ok (.dup2, 1) := by decide +kernel
theorem dX3_addBondTo_31 : decode cX3_addBondTo 31 = .ok (.iaload, 1) := by decide +kernel
theorem dX3_addBondTo_32 : decode cX3_addBondTo 32 = .ok (.aload_n 0, 1) := by decide +kernel
theorem dX3_addBondTo_33 : decode cX3_addBondTo 33 = .ok (.aload_n 2, 1) := by decide +kernel
theorem dX3_addBondTo_34 : decode cX3_addBondTo 34 = .ok (.getfield 131, 3) := by decide +kernel
theorem dX3_addBondTo_37 : decode cX3_addBondTo 37 = .ok (.aload_n 2, 1) := by decide +kernel
theorem dX3_addBondTo_38 : decode cX3_addBondTo 38 = .ok (.getfield 124, 3) := by decide +kernel
theorem dX3_addBondTo_41 : decode cX3_addBondTo 41 = .ok (.invokevirtual 212, 3) := by decide +kernel
theorem dX3_addBondTo_44 : decode cX3_addBondTo 44 = .ok (.iadd, 1) := by decide +kernel
theorem dX3_addBondTo_45 : decode cX3_addBondTo 45 = .ok (.iastore, 1) := by decide +kernel
theorem dX3_addBondTo_46 : decode cX3_addBondTo 46 = .ok (.iconst 1, 1) := by decide +kernel
theorem dX3_addBondTo_47 : decode cX3_addBondTo 47 = .ok (.istore_n 3, 1) := by decide +kernel
theorem dX3_addBondTo_48 : decode cX3_addBondTo 48 = .ok (.iload_n 3, 1) := by decide +kernel
theorem dX3_addBondTo_49 : decode cX3_addBondTo 49 = .ok (.bipush 6, 2) := by decide +kernel
theorem dX3_addBondTo_51 : decode cX3_addBondTo 51 = .ok (.if_icmp .gt 34, 3) := by decide +kernel
theorem dX3_addBondTo_54 : decode cX3_addBondTo 54 = .ok (.aload_n 2, 1) := by decide +kernel
theorem dX3_addBondTo_55 : decode cX3_addBondTo 55 = .ok (.getfield 124, 3) := by decide +kernel
theorem dX3_addBondTo_58 : decode cX3_addBondTo 58 = .ok (.aload_n 0, 1) := by decide +kernel
theorem dX3_addBondTo_59 : decode cX3_addBondTo 59 = .ok (.getfield 26, 3) := by decide +kernel
theorem dX3_addBondTo_62 : decode cX3_addBondTo 62 = .ok (.iload_n 3, 1) := by decide +kernel
theorem dX3_addBondTo_63 : decode cX3_addBondTo 63 = .ok (.iadd, 1) := by decide +kernel
theorem dX3_addBondTo_64 : decode cX3_addBondTo 64 = .ok (.if_icmp .gt 15, 3) := by decide +kernel
theorem dX3_addBondTo_67 : decode cX3_addBondTo 67 = .ok (.aload_n 1, 1) := by decide +kernel
theorem dX3_addBondTo_68 : decode cX3_addBondTo 68 = .ok (.iconst 2, 1) := by decide +kernel
theorem dX3_addBondTo_69 : decode cX3_addBondTo 69 = .ok (.iload_n 3, 1) := by decide +kernel
theorem dX3_addBondTo_70 : decode cX3_addBondTo 70 = .ok (.iadd, 1) := by decide +kernel
theorem dX3_addBondTo_71 : decode cX3_addBondTo 71 = .ok (.dup2, 1) := by decide +kernel
theorem dX3_addBondTo_72 : decode cX3_addBondTo 72 = .ok (.iaload, 1) := by decide +kernel
theorem dX3_addBondTo_73 : decode cX3_addBondTo 73 = .ok (.aload_n 2, 1) := by decide +kernel
theorem dX3_addBondTo_74 : decode cX3_addBondTo 74 = .ok (.getfield 131, 3) := by decide +kernel
theorem dX3_addBondTo_77 : decode cX3_addBondTo 77 = .ok (.iadd, 1) := by decide +kernel
theorem dX3_addBondTo_78 : decode cX3_addBondTo 78 = .ok (.iastore, 1) := by decide +kernel
theorem dX3_addBondTo_79 : decode cX3_addBondTo 79 = .ok (.iinc 3 1, 3) := by decide +kernel
theorem dX3_addBondTo_82 : decode cX3_addBondTo 82 = .ok (.goto (-34), 3) := by decide +kernel
theorem dX3_addBondTo_85 : decode cX3_addBondTo 85 = .ok (.return_, 1) := by decide +kernel
theorem dX3_leastWith_0 : decode cX3_leastWith 0 = .ok (.iload 4, 2) := by decide +kernel
theorem dX3_leastWith_2 : decode cX3_leastWith 2 = .ok (.iload 5, 2) := by decide +kernel
theorem dX3_leastWith_4 : decode cX3_leastWith 4 = .ok (.invokestatic 156, 3) := by decide +kernel
theorem dX3_leastWith_7 : decode cX3_leastWith 7 = .ok (.ifCond .ne 6, 3) := by decide +kernel
theorem dX3_leastWith_10 : decode cX3_leastWith 10 = .ok (.iload 5, 2) := by decide +kernel
theorem dX3_leastWith_12 : decode cX3_leastWith 12 = .ok (.ireturn, 1) := by decide +kernel
theorem dX3_leastWith_13 : decode cX3_leastWith 13 = .ok (.aload_n 0, 1) := by decide +kernel
theorem dX3_leastWith_14 : decode cX3_leastWith 14 = .ok (.iload_n 1, 1) := by decide +kernel
theorem dX3_leastWith_15 : decode cX3_leastWith 15 = .ok (.iload 4, 2) := by decide +kernel
theorem dX3_leastWith_17 : decode cX3_leastWith 17 = .ok (.ior, 1) := by decide +kernel
theorem dX3_leastWith_18 : decode cX3_leastWith 18 = .ok (.invokevirtual 92, 3) := by decide +kernel
theorem dX3_leastWith_21 : decode cX3_leastWith 21 = .ok (.ifCond .eq 6, 3) := by decide +kernel
theorem dX3_leastWith_24 : decode cX3_leastWith 24 = .ok (.iload 4, 2) := by decide +kernel
theorem dX3_leastWith_26 : decode cX3_leastWith 26 = .ok (.ireturn, 1) := by decide +kernel
theorem dX3_leastWith_27 : decode cX3_leastWith 27 = .ok (.iload 5, 2) := by decide +kernel
theorem dX3_leastWith_29 : decode cX3_leastWith 29 = .ok (.istore 6, 2) := by decide +kernel
theorem dX3_leastWith_31 : decode cX3_leastWith 31 = .ok (.iload_n 3, 1) := by decide +kernel
theorem dX3_leastWith_32 : decode cX3_leastWith 32 = .ok (.istore 7, 2) := by decide +kernel
theorem dX3_leastWith_34 : decode cX3_leastWith 34 = .ok (.iload 7, 2) := by decide +kernel
theorem dX3_leastWith_36 : decode cX3_leastWith 36 = .ok (.bipush 12, 2) := by decide +kernel
theorem dX3_leastWith_38 : decode cX3_leastWith 38 = .ok (.if_icmp .ge 39, 3) := by decide +kernel
theorem dX3_leastWith_41 : decode cX3_leastWith 41 = .ok (.iload_n 2, 1) := by decide +kernel
theorem dX3_leastWith_42 : decode cX3_leastWith 42 = .ok (.iconst 1, 1) := by decide +kernel
theorem dX3_leastWith_43 : decode cX3_leastWith 43 = .ok (.iload 7, 2) := by decide +kernel
theorem dX3_leastWith_45 : decode cX3_leastWith 45 = .ok (.ishl, 1) := by decide +kernel
theorem dX3_leastWith_46 : decode cX3_leastWith 46 = .ok (.iand, 1) := by decide +kernel
theorem dX3_leastWith_47 : decode cX3_leastWith 47 = .ok (.ifCond .eq 24, 3) := by decide +kernel
theorem dX3_leastWith_50 : decode cX3_leastWith 50 = .ok (.aload_n 0, 1) := by decide +kernel
theorem dX3_leastWith_51 : decode cX3_leastWith 51 = .ok (.iload_n 1, 1) := by decide +kernel
theorem dX3_leastWith_52 : decode cX3_leastWith 52 = .ok (.iload_n 2, 1) := by decide +kernel
theorem dX3_leastWith_53 : decode cX3_leastWith 53 = .ok (.iload 7, 2) := by decide +kernel
theorem dX3_leastWith_55 : decode cX3_leastWith 55 = .ok (.iconst 1, 1) := by decide +kernel
theorem dX3_leastWith_56 : decode cX3_leastWith 56 = .ok (.iadd, 1) := by decide +kernel
theorem dX3_leastWith_57 : decode cX3_leastWith 57 = .ok (.iload 4, 2) := by decide +kernel
theorem dX3_leastWith_59 : decode cX3_leastWith 59 = .ok (.iconst 1, 1) := by decide +kernel
theorem dX3_leastWith_60 : decode cX3_leastWith 60 = .ok (.iload 7, 2) := by decide +kernel
theorem dX3_leastWith_62 : decode cX3_leastWith 62 = .ok (.ishl, 1) := by decide +kernel
theorem dX3_leastWith_63 : decode cX3_leastWith 63 = .ok (.ior, 1) := by decide +kernel
theorem dX3_leastWith_64 : decode cX3_leastWith 64 = .ok (.iload 6, 2) := by decide +kernel
theorem dX3_leastWith_66 : decode cX3_leastWith 66 = .ok (.invokestatic 152, 3) := by decide +kernel
theorem dX3_leastWith_69 : decode cX3_leastWith 69 = .ok (.istore 6, 2) := by decide +kernel
theorem dX3_leastWith_71 : decode cX3_leastWith 71 = .ok (.iinc 7 1, 3) := by decide +kernel
theorem dX3_leastWith_74 : decode cX3_leastWith 74 = .ok (.goto (-40), 3) := by decide +kernel
theorem dX3_leastWith_77 : decode cX3_leastWith 77 = .ok (.iload 6, 2) := by decide +kernel
theorem dX3_leastWith_79 : decode cX3_leastWith 79 = .ok (.ireturn, 1) := by decide +kernel
theorem dX3_isLess_0 : decode cX3_isLess 0 = .ok (.iload_n 1, 1) := by decide +kernel
theorem dX3_isLess_1 : decode cX3_isLess 1 = .ok (.iconst (-1), 1) := by decide +kernel
theorem dX3_isLess_2 : decode cX3_isLess 2 = .ok (.if_icmp .ne 5, 3) := by decide +kernel
theorem dX3_isLess_5 : decode cX3_isLess 5 = .ok (.iconst 1, 1) := by decide +kernel
theorem dX3_isLess_6 : decode cX3_isLess 6 = .ok (.ireturn, 1) := by decide +kernel
theorem dX3_isLess_7 : decode cX3_isLess 7 = .ok (.iload_n 0, 1) := by decide +kernel
theorem dX3_isLess_8 : decode cX3_isLess 8 = .ok (.invokestatic 218, 3) := by decide +kernel
theorem dX3_isLess_11 : decode cX3_isLess 11 = .ok (.iload_n 1, 1) := by decide +kernel
theorem dX3_isLess_12 : decode cX3_isLess 12 = .ok (.invokestatic 218, 3) := by decide +kernel
theorem dX3_isLess_15 : decode cX3_isLess 15 = .ok (.isub, 1) := by decide +kernel
theorem dX3_isLess_16 : decode cX3_isLess 16 = .ok (.istore_n 2, 1) := by decide +kernel
theorem dX3_isLess_17 : decode cX3_isLess 17 = .ok (.iload_n 2, 1) := by decide +kernel
theorem dX3_isLess_18 : decode cX3_isLess 18 = .ok (.ifCond .lt 12, 3) := by decide +kernel
theorem dX3_isLess_21 : decode cX3_isLess 21 = .ok (.iload_n 2, 1) := by decide +kernel
theorem dX3_isLess_22 : decode cX3_isLess 22 = .ok (.ifCond .ne 12, 3) := by decide +kernel
theorem dX3_isLess_25 : decode cX3_isLess 25 = .ok (.iload_n 0, 1) := by decide +kernel
theorem dX3_isLess_26 : decode cX3_isLess 26 = .ok (.iload_n 1, 1) := by decide +kernel
theorem dX3_isLess_27 : decode cX3_isLess 27 = .ok (.if_icmp .ge 7, 3) := by decide +kernel
theorem dX3_isLess_30 : decode cX3_isLess 30 = .ok (.iconst 1, 1) := by decide +kernel
theorem dX3_isLess_31 : decode cX3_isLess 31 = .ok (.goto 4, 3) := by decide +kernel
theorem dX3_isLess_34 : decode cX3_isLess 34 = .ok (.iconst 0, 1) := by decide +kernel
theorem dX3_isLess_35 : decode cX3_isLess 35 = .ok (.ireturn, 1) := by decide +kernel
theorem dX4_init_0 : decode cX4_init 0 = .ok (.aload_n 0, 1) := by decide +kernel
theorem dX4_init_1 : decode cX4_init 1 = .ok (.invokespecial 1, 3) := by decide +kernel
theorem dX4_init_4 : decode cX4_init 4 = .ok (.aload_n 0, 1) := by decide +kernel
theorem dX4_init_5 : decode cX4_init 5 = .ok (.iconst 3, 1) := by decide +kernel
theorem dX4_init_6 : decode cX4_init 6 = .ok (.putfield 7, 3) := by decide +kernel
theorem dX4_init_9 : decode cX4_init 9 = .ok (.aload_n 0, 1) := by decide +kernel
theorem dX4_init_10 : decode cX4_init 10 = .ok (.iconst 5, 1) := by decide +kernel
theorem dX4_init_11 : decode cX4_init 11 = .ok (.putfield 13, 3) := by decide +kernel
theorem dX4_init_14 : decode cX4_init 14 = .ok (.aload_n 0, 1) := by decide +kernel
theorem dX4_init_15 : decode cX4_init 15 = .ok (.bipush 6, 2) := by decide +kernel
theorem dX4_init_17 : decode cX4_init 17 = .ok (.putfield 16, 3) := by decide +kernel
theorem dX4_init_20 : decode cX4_init 20 = .ok (.aload_n 0, 1) := by decide +kernel
theorem dX4_init_21 : decode cX4_init 21 = .ok (.bipush 12, 2) := by decide +kernel
theorem dX4_init_23 : decode cX4_init 23 = .ok (.newarray .int, 2) := by decide +kernel
theorem dX4_init_25 : decode cX4_init 25 = .ok (.putfield 19, 3) := by decide +kernel
theorem dX4_init_28 : decode cX4_init 28 = .ok (.aload_n 0, 1) := by decide +kernel
theorem dX4_init_29 : decode cX4_init 29 = .ok (.bipush 12, 2) := by decide +kernel
theorem dX4_init_31 : decode cX4_init 31 = .ok (.newarray .int, 2) := by decide +kernel
theorem dX4_init_33 : decode cX4_init 33 = .ok (.putfield 23, 3) := by decide +kernel
theorem dX4_init_36 : decode cX4_init 36 = .ok (.aload_n 0, 1) := by decide +kernel
theorem dX4_init_37 : decode cX4_init 37 = .ok (.bipush 12, 2) := by decide +kernel
theorem dX4_init_39 : decode cX4_init 39 = .ok (.newarray .int, 2) := by decide +kernel
theorem dX4_init_41 : decode cX4_init 41 = .ok (.putfield 26, 3) := by decide +kernel
theorem dX4_init_44 : decode cX4_init 44 = .ok (.aload_n 0, 1) := by decide +kernel
theorem dX4_init_45 : decode cX4_init 45 = .ok (.bipush 12, 2) := by decide +kernel
theorem dX4_init_47 : decode cX4_init 47 = .ok (.newarray .int, 2) := by decide +kernel
theorem dX4_init_49 : decode cX4_init 49 = .ok (.putfield 29, 3) := by decide +kernel
theorem dX4_init_52 : decode cX4_init 52 = .ok (.aload_n 0, 1) := by decide +kernel
theorem dX4_init_53 : decode cX4_init 53 = .ok (.bipush 12, 2) := by decide +kernel
theorem dX4_init_55 : decode cX4_init 55 = .ok (.newarray .int, 2) := by decide +kernel
theorem dX4_init_57 : decode cX4_init 57 = .ok (.putfield 32, 3) := by decide +kernel
theorem dX4_init_60 : decode cX4_init 60 = .ok (.aload_n 0, 1) := by decide +kernel
theorem dX4_init_61 : decode cX4_init 61 = .ok (.bipush 12, 2) := by decide +kernel
theorem dX4_init_63 : decode cX4_init 63 = .ok (.newarray .int, 2) := by decide +kernel
theorem dX4_init_65 : decode cX4_init 65 = .ok (.putfield 35, 3) := by decide +kernel
theorem dX4_init_68 : decode cX4_init 68 = .ok (.aload_n 0, 1) := by decide +kernel
theorem dX4_init_69 : decode cX4_init 69 = .ok (.iconst 5, 1) := by decide +kernel
theorem dX4_init_70 : decode cX4_init 70 = .ok (.newarray .int, 2) := by decide +kernel
theorem dX4_init_72 : decode cX4_init 72 = .ok (.putfield 38, 3) := by decide +kernel
theorem dX4_init_75 : decode cX4_init 75 = .ok (.aload_n 0, 1) := by decide +kernel
theorem dX4_init_76 : decode cX4_init 76 = .ok (.iconst 5, 1) := by decide +kernel
theorem dX4_init_77 : decode cX4_init 77 = .ok (.newarray .int, 2) := by decide +kernel
theorem dX4_init_79 : decode cX4_init 79 = .ok (.putfield 41, 3) := by decide +kernel
theorem dX4_init_82 : decode cX4_init 82 = .ok (.aload_n 0, 1) := by decide +kernel
theorem dX4_init_83 : decode cX4_init 83 = .ok (.iconst 5, 1) := by decide +kernel
theorem dX4_init_84 : decode cX4_init 84 = .ok (.newarray .int, 2) := by decide +kernel
theorem dX4_init_86 : decode cX4_init 86 = .ok (.putfield 44, 3) := by decide +kernel
theorem dX4_init_89 : decode cX4_init 89 = .ok (.aload_n 0, 1) := by decide +kernel
theorem dX4_init_90 : decode cX4_init 90 = .ok (.iconst 5, 1) := by decide +kernel
theorem dX4_init_91 : decode cX4_init 91 = .ok (.newarray .boolean, 2) := by decide +kernel
theorem dX4_init_93 : decode cX4_init 93 = .ok (.putfield 47, 3) := by decide +kernel
theorem dX4_init_96 : decode cX4_init 96 = .ok (.return_, 1) := by decide +kernel
theorem dX4_thrown_0 : decode cX4_thrown 0 = .ok (.aload_n 0, 1) := by decide +kernel
theorem dX4_thrown_1 : decode cX4_thrown 1 = .ok (.getfield 51, 3) := by decide +kernel
theorem dX4_thrown_4 : decode cX4_thrown 4 = .ok (.ireturn, 1) := by decide +kernel
theorem dX4_goes_0 : decode cX4_goes 0 = .ok (.aload_n 0, 1) := by decide +kernel
theorem dX4_goes_1 : decode cX4_goes 1 = .ok (.iload_n 1, 1) := by decide +kernel
theorem dX4_goes_2 : decode cX4_goes 2 = .ok (.ifCond .ne 7, 3) := by decide +kernel
theorem dX4_goes_5 : decode cX4_goes 5 = .ok (.iconst 1, 1) := by decide +kernel
theorem dX4_goes_6 : decode cX4_goes 6 = .ok (.goto 20, 3) := by decide +kernel
theorem dX4_goes_9 : decode cX4_goes 9 = .ok (.iload_n 2, 1) := by decide +kernel
theorem dX4_goes_10 : decode cX4_goes 10 = .ok (.ifCond .ne 7, 3) := by decide +kernel
theorem dX4_goes_13 : decode cX4_goes 13 = .ok (.iconst 2, 1) := by decide +kernel
theorem dX4_goes_14 : decode cX4_goes 14 = .ok (.goto 12, 3) := by decide +kernel
theorem dX4_goes_17 : decode cX4_goes 17 = .ok (.iload_n 3, 1) := by decide +kernel
theorem dX4_goes_18 : decode cX4_goes 18 = .ok (.ifCond .ne 7, 3) := by decide +kernel
theorem dX4_goes_21 : decode cX4_goes 21 = .ok (.iconst 3, 1) := by decide +kernel
theorem dX4_goes_22 : decode cX4_goes 22 = .ok (.goto 4, 3) := by decide +kernel
theorem dX4_goes_25 : decode cX4_goes 25 = .ok (.iconst 0, 1) := by decide +kernel
theorem dX4_goes_26 : decode cX4_goes 26 = .ok (.putfield 51, 3) := by decide +kernel
theorem dX4_goes_29 : decode cX4_goes 29 = .ok (.aload_n 0, 1) := by decide +kernel
theorem dX4_goes_30 : decode cX4_goes 30 = .ok (.getfield 51, 3) := by decide +kernel
theorem dX4_goes_33 : decode cX4_goes 33 = .ok (.ifCond .ne 7, 3) := by decide +kernel
theorem dX4_goes_36 : decode cX4_goes 36 = .ok (.iconst 1, 1) := by decide +kernel
theorem dX4_goes_37 : decode cX4_goes 37 = .ok (.goto 4, 3) := by decide +kernel
theorem dX4_goes_40 : decode cX4_goes 40 = .ok (.iconst 0, 1) := by decide +kernel
theorem dX4_goes_41 : decode cX4_goes 41 = .ok (.ireturn, 1) := by decide +kernel
theorem dX4_isWithin_0 : decode cX4_isWithin 0 = .ok (.iload_n 0, 1) := by decide +kernel
theorem dX4_isWithin_1 : decode cX4_isWithin 1 = .ok (.iload_n 1, 1) := by decide +kernel
theorem dX4_isWithin_2 : decode cX4_isWithin 2 = .ok (.if_icmp .lt 12, 3) := by decide +kernel
theorem dX4_isWithin_5 : decode cX4_isWithin 5 = .ok (.iload_n 0, 1) := by decide +kernel
theorem dX4_isWithin_6 : decode cX4_isWithin 6 = .ok (.iload_n 2, 1) := by decide +kernel
theorem dX4_isWithin_7 : decode cX4_isWithin 7 = .ok (.if_icmp .gt 7, 3) := by decide +kernel
theorem dX4_isWithin_10 : decode cX4_isWithin 10 = .ok (.iconst 1, 1) := by decide +kernel
theorem dX4_isWithin_11 : decode cX4_isWithin 11 = .ok (.goto 4, 3) := by decide +kernel
theorem dX4_isWithin_14 : decode cX4_isWithin 14 = .ok (.iconst 0, 1) := by decide +kernel
end
section
theorem dX4_isWithin_15 : decode cX4_isWithin 15 = .ok (.ireturn, 1) := by decide +kernel
theorem dX4_isLoan_0 : decode cX4_isLoan 0 = .ok (.iload_n 1, 1) := by decide +kernel
theorem dX4_isLoan_1 : decode cX4_isLoan 1 = .ok (.ifCond .lt 15, 3) := by decide +kernel
theorem dX4_isLoan_4 : decode cX4_isLoan 4 = .ok (.iload_n 1, 1) := by decide +kernel
theorem dX4_isLoan_5 : decode cX4_isLoan 5 = .ok (.aload_n 0, 1) := by decide +kernel
theorem dX4_isLoan_6 : decode cX4_isLoan 6 = .ok (.getfield 54, 3) := by decide +kernel
theorem dX4_isLoan_9 : decode cX4_isLoan 9 = .ok (.if_icmp .ge 7, 3) := by decide +kernel
theorem dX4_isLoan_12 : decode cX4_isLoan 12 = .ok (.iconst 1, 1) := by decide +kernel
theorem dX4_isLoan_13 : decode cX4_isLoan 13 = .ok (.goto 4, 3) := by decide +kernel
theorem dX4_isLoan_16 : decode cX4_isLoan 16 = .ok (.iconst 0, 1) := by decide +kernel
theorem dX4_isLoan_17 : decode cX4_isLoan 17 = .ok (.ireturn, 1) := by decide +kernel
theorem dX4_isBond_0 : decode cX4_isBond 0 = .ok (.iload_n 1, 1) := by decide +kernel
theorem dX4_isBond_1 : decode cX4_isBond 1 = .ok (.ifCond .lt 15, 3) := by decide +kernel
theorem dX4_isBond_4 : decode cX4_isBond 4 = .ok (.iload_n 1, 1) := by decide +kernel
theorem dX4_isBond_5 : decode cX4_isBond 5 = .ok (.aload_n 0, 1) := by decide +kernel
theorem dX4_isBond_6 : decode cX4_isBond 6 = .ok (.getfield 57, 3) := by decide +kernel
theorem dX4_isBond_9 : decode cX4_isBond 9 = .ok (.if_icmp .ge 7, 3) := by decide +kernel
theorem dX4_isBond_12 : decode cX4_isBond 12 = .ok (.iconst 1, 1) := by decide +kernel
theorem dX4_isBond_13 : decode cX4_isBond 13 = .ok (.goto 4, 3) := by decide +kernel
theorem dX4_isBond_16 : decode cX4_isBond 16 = .ok (.iconst 0, 1) := by decide +kernel
theorem dX4_isBond_17 : decode cX4_isBond 17 = .ok (.ireturn, 1) := by decide +kernel
theorem dX4_countOf_0 : decode cX4_countOf 0 = .ok (.aload_n 0, 1) := by decide +kernel
theorem dX4_countOf_1 : decode cX4_countOf 1 = .ok (.getfield 23, 3) := by decide +kernel
theorem dX4_countOf_4 : decode cX4_countOf 4 = .ok (.iload_n 1, 1) := by decide +kernel
theorem dX4_countOf_5 : decode cX4_countOf 5 = .ok (.iaload, 1) := by decide +kernel
theorem dX4_countOf_6 : decode cX4_countOf 6 = .ok (.bipush 80, 2) := by decide +kernel
theorem dX4_countOf_8 : decode cX4_countOf 8 = .ok (.imul, 1) := by decide +kernel
theorem dX4_countOf_9 : decode cX4_countOf 9 = .ok (.bipush 100, 2) := by decide +kernel
theorem dX4_countOf_11 : decode cX4_countOf 11 = .ok (.idiv, 1) := by decide +kernel
theorem dX4_countOf_12 : decode cX4_countOf 12 = .ok (.istore_n 2, 1) := by decide +kernel
theorem dX4_countOf_13 : decode cX4_countOf 13 = .ok (.iload_n 2, 1) := by decide +kernel
theorem dX4_countOf_14 : decode cX4_countOf 14 = .ok (.aload_n 0, 1) := by decide +kernel
theorem dX4_countOf_15 : decode cX4_countOf 15 = .ok (.getfield 19, 3) := by decide +kernel
theorem dX4_countOf_18 : decode cX4_countOf 18 = .ok (.iload_n 1, 1) := by decide +kernel
theorem dX4_countOf_19 : decode cX4_countOf 19 = .ok (.iaload, 1) := by decide +kernel
theorem dX4_countOf_20 : decode cX4_countOf 20 = .ok (.if_icmp .ge 7, 3) := by decide +kernel
theorem dX4_countOf_23 : decode cX4_countOf 23 = .ok (.iload_n 2, 1) := by decide +kernel
theorem dX4_countOf_24 : decode cX4_countOf 24 = .ok (.goto 9, 3) := by decide +kernel
theorem dX4_countOf_27 : decode cX4_countOf 27 = .ok (.aload_n 0, 1) := by decide +kernel
theorem dX4_countOf_28 : decode cX4_countOf 28 = .ok (.getfield 19, 3) := by decide +kernel
theorem dX4_countOf_31 : decode cX4_countOf 31 = .ok (.iload_n 1, 1) := by decide +kernel
theorem dX4_countOf_32 : decode cX4_countOf 32 = .ok (.iaload, 1) := by decide +kernel
theorem dX4_countOf_33 : decode cX4_countOf 33 = .ok (.istore_n 3, 1) := by decide +kernel
theorem dX4_countOf_34 : decode cX4_countOf 34 = .ok (.aload_n 0, 1) := by decide +kernel
theorem dX4_countOf_35 : decode cX4_countOf 35 = .ok (.getfield 32, 3) := by decide +kernel
theorem dX4_countOf_38 : decode cX4_countOf 38 = .ok (.iload_n 1, 1) := by decide +kernel
theorem dX4_countOf_39 : decode cX4_countOf 39 = .ok (.iaload, 1) := by decide +kernel
theorem dX4_countOf_40 : decode cX4_countOf 40 = .ok (.iconst 3, 1) := by decide +kernel
theorem dX4_countOf_41 : decode cX4_countOf 41 = .ok (.if_icmp .ge 16, 3) := by decide +kernel
theorem dX4_countOf_44 : decode cX4_countOf 44 = .ok (.aload_n 0, 1) := by decide +kernel
theorem dX4_countOf_45 : decode cX4_countOf 45 = .ok (.getfield 26, 3) := by decide +kernel
theorem dX4_countOf_48 : decode cX4_countOf 48 = .ok (.iload_n 1, 1) := by decide +kernel
theorem dX4_countOf_49 : decode cX4_countOf 49 = .ok (.iaload, 1) := by decide +kernel
theorem dX4_countOf_50 : decode cX4_countOf 50 = .ok (.aload_n 0, 1) := by decide +kernel
theorem dX4_countOf_51 : decode cX4_countOf 51 = .ok (.getfield 7, 3) := by decide +kernel
theorem dX4_countOf_54 : decode cX4_countOf 54 = .ok (.if_icmp .le 7, 3) := by decide +kernel
theorem dX4_countOf_57 : decode cX4_countOf 57 = .ok (.iconst 0, 1) := by decide +kernel
theorem dX4_countOf_58 : decode cX4_countOf 58 = .ok (.goto 4, 3) := by decide +kernel
theorem dX4_countOf_61 : decode cX4_countOf 61 = .ok (.iload_n 3, 1) := by decide +kernel
theorem dX4_countOf_62 : decode cX4_countOf 62 = .ok (.ireturn, 1) := by decide +kernel
theorem dX4_pool_0 : decode cX4_pool 0 = .ok (.iconst 0, 1) := by decide +kernel
theorem dX4_pool_1 : decode cX4_pool 1 = .ok (.istore_n 1, 1) := by decide +kernel
theorem dX4_pool_2 : decode cX4_pool 2 = .ok (.iconst 0, 1) := by decide +kernel
theorem dX4_pool_3 : decode cX4_pool 3 = .ok (.istore_n 2, 1) := by decide +kernel
theorem dX4_pool_4 : decode cX4_pool 4 = .ok (.iload_n 2, 1) := by decide +kernel
theorem dX4_pool_5 : decode cX4_pool 5 = .ok (.aload_n 0, 1) := by decide +kernel
theorem dX4_pool_6 : decode cX4_pool 6 = .ok (.getfield 54, 3) := by decide +kernel
theorem dX4_pool_9 : decode cX4_pool 9 = .ok (.if_icmp .ge 29, 3) := by decide +kernel
theorem dX4_pool_12 : decode cX4_pool 12 = .ok (.iload_n 1, 1) := by decide +kernel
theorem dX4_pool_13 : decode cX4_pool 13 = .ok (.aload_n 0, 1) := by decide +kernel
theorem dX4_pool_14 : decode cX4_pool 14 = .ok (.getfield 35, 3) := by decide +kernel
theorem dX4_pool_17 : decode cX4_pool 17 = .ok (.iload_n 2, 1) := by decide +kernel
theorem dX4_pool_18 : decode cX4_pool 18 = .ok (.iaload, 1) := by decide +kernel
theorem dX4_pool_19 : decode cX4_pool 19 = .ok (.iconst 1, 1) := by decide +kernel
theorem dX4_pool_20 : decode cX4_pool 20 = .ok (.if_icmp .ne 9, 3) := by decide +kernel
theorem dX4_pool_23 : decode cX4_pool 23 = .ok (.iconst 1, 1) := by decide +kernel
theorem dX4_pool_24 : decode cX4_pool 24 = .ok (.iload_n 2, 1) := by decide +kernel
theorem dX4_pool_25 : decode cX4_pool 25 = .ok (.ishl, 1) := by decide +kernel
theorem dX4_pool_26 : decode cX4_pool 26 = .ok (.goto 4, 3) := by decide +kernel
theorem dX4_pool_29 : decode cX4_pool 29 = .ok (.iconst 0, 1) := by decide +kernel
theorem dX4_pool_30 : decode cX4_pool 30 = .ok (.ior, 1) := by decide +kernel
theorem dX4_pool_31 : decode cX4_pool 31 = .ok (.istore_n 1, 1) := by decide +kernel
theorem dX4_pool_32 : decode cX4_pool 32 = .ok (.iinc 2 1, 3) := by decide +kernel
theorem dX4_pool_35 : decode cX4_pool 35 = .ok (.goto (-31), 3) := by decide +kernel
theorem dX4_pool_38 : decode cX4_pool 38 = .ok (.iload_n 1, 1) := by decide +kernel
theorem dX4_pool_39 : decode cX4_pool 39 = .ok (.ireturn, 1) := by decide +kernel
theorem dX4_owed_0 : decode cX4_owed 0 = .ok (.iconst 0, 1) := by decide +kernel
theorem dX4_owed_1 : decode cX4_owed 1 = .ok (.istore_n 1, 1) := by decide +kernel
theorem dX4_owed_2 : decode cX4_owed 2 = .ok (.iconst 0, 1) := by decide +kernel
theorem dX4_owed_3 : decode cX4_owed 3 = .ok (.istore_n 2, 1) := by decide +kernel
theorem dX4_owed_4 : decode cX4_owed 4 = .ok (.iload_n 2, 1) := by decide +kernel
theorem dX4_owed_5 : decode cX4_owed 5 = .ok (.aload_n 0, 1) := by decide +kernel
theorem dX4_owed_6 : decode cX4_owed 6 = .ok (.getfield 57, 3) := by decide +kernel
theorem dX4_owed_9 : decode cX4_owed 9 = .ok (.if_icmp .ge 31, 3) := by decide +kernel
theorem dX4_owed_12 : decode cX4_owed 12 = .ok (.iload_n 1, 1) := by decide +kernel
theorem dX4_owed_13 : decode cX4_owed 13 = .ok (.aload_n 0, 1) := by decide +kernel
theorem dX4_owed_14 : decode cX4_owed 14 = .ok (.getfield 44, 3) := by decide +kernel
theorem dX4_owed_17 : decode cX4_owed 17 = .ok (.iload_n 2, 1) := by decide +kernel
theorem dX4_owed_18 : decode cX4_owed 18 = .ok (.iaload, 1) := by decide +kernel
theorem dX4_owed_19 : decode cX4_owed 19 = .ok (.ifCond .ne 12, 3) := by decide +kernel
theorem dX4_owed_22 : decode cX4_owed 22 = .ok (.aload_n 0, 1) := by decide +kernel
theorem dX4_owed_23 : decode cX4_owed 23 = .ok (.getfield 38, 3) := by decide +kernel
theorem dX4_owed_26 : decode cX4_owed 26 = .ok (.iload_n 2, 1) := by decide +kernel
theorem dX4_owed_27 : decode cX4_owed 27 = .ok (.iaload, 1) := by decide +kernel
theorem dX4_owed_28 : decode cX4_owed 28 = .ok (.goto 4, 3) := by decide +kernel
theorem dX4_owed_31 : decode cX4_owed 31 = .ok (.iconst 0, 1) := by decide +kernel
theorem dX4_owed_32 : decode cX4_owed 32 = .ok (.iadd, 1) := by decide +kernel
theorem dX4_owed_33 : decode cX4_owed 33 = .ok (.istore_n 1, 1) := by decide +kernel
theorem dX4_owed_34 : decode cX4_owed 34 = .ok (.iinc 2 1, 3) := by decide +kernel
theorem dX4_owed_37 : decode cX4_owed 37 = .ok (.goto (-33), 3) := by decide +kernel
theorem dX4_owed_40 : decode cX4_owed 40 = .ok (.iload_n 1, 1) := by decide +kernel
theorem dX4_owed_41 : decode cX4_owed 41 = .ok (.ireturn, 1) := by decide +kernel
theorem dX4_beside_0 : decode cX4_beside 0 = .ok (.aload_n 0, 1) := by decide +kernel
theorem dX4_beside_1 : decode cX4_beside 1 = .ok (.invokevirtual 60, 3) := by decide +kernel
theorem dX4_beside_4 : decode cX4_beside 4 = .ok (.bipush 15, 2) := by decide +kernel
theorem dX4_beside_6 : decode cX4_beside 6 = .ok (.imul, 1) := by decide +kernel
theorem dX4_beside_7 : decode cX4_beside 7 = .ok (.bipush 100, 2) := by decide +kernel
theorem dX4_beside_9 : decode cX4_beside 9 = .ok (.idiv, 1) := by decide +kernel
theorem dX4_beside_10 : decode cX4_beside 10 = .ok (.istore_n 1, 1) := by decide +kernel
theorem dX4_beside_11 : decode cX4_beside 11 = .ok (.iload_n 1, 1) := by decide +kernel
theorem dX4_beside_12 : decode cX4_beside 12 = .ok (.aload_n 0, 1) := by decide +kernel
theorem dX4_beside_13 : decode cX4_beside 13 = .ok (.getfield 64, 3) := by decide +kernel
theorem dX4_beside_16 : decode cX4_beside 16 = .ok (.if_icmp .ge 7, 3) := by decide +kernel
theorem dX4_beside_19 : decode cX4_beside 19 = .ok (.iload_n 1, 1) := by decide +kernel
theorem dX4_beside_20 : decode cX4_beside 20 = .ok (.goto 7, 3) := by decide +kernel
theorem dX4_beside_23 : decode cX4_beside 23 = .ok (.aload_n 0, 1) := by decide +kernel
theorem dX4_beside_24 : decode cX4_beside 24 = .ok (.getfield 64, 3) := by decide +kernel
theorem dX4_beside_27 : decode cX4_beside 27 = .ok (.ireturn, 1) := by decide +kernel
theorem dX4_valued_0 : decode cX4_valued 0 = .ok (.iload_n 2, 1) := by decide +kernel
theorem dX4_valued_1 : decode cX4_valued 1 = .ok (.aload_n 0, 1) := by decide +kernel
theorem dX4_valued_2 : decode cX4_valued 2 = .ok (.getfield 67, 3) := by decide +kernel
theorem dX4_valued_5 : decode cX4_valued 5 = .ok (.if_icmp .le 12, 3) := by decide +kernel
theorem dX4_valued_8 : decode cX4_valued 8 = .ok (.iload_n 2, 1) := by decide +kernel
theorem dX4_valued_9 : decode cX4_valued 9 = .ok (.aload_n 0, 1) := by decide +kernel
theorem dX4_valued_10 : decode cX4_valued 10 = .ok (.getfield 67, 3) := by decide +kernel
theorem dX4_valued_13 : decode cX4_valued 13 = .ok (.isub, 1) := by decide +kernel
theorem dX4_valued_14 : decode cX4_valued 14 = .ok (.goto 4, 3) := by decide +kernel
theorem dX4_valued_17 : decode cX4_valued 17 = .ok (.iconst 0, 1) := by decide +kernel
theorem dX4_valued_18 : decode cX4_valued 18 = .ok (.istore 4, 2) := by decide +kernel
theorem dX4_valued_20 : decode cX4_valued 20 = .ok (.sipush 1200, 3) := by decide +kernel
theorem dX4_valued_23 : decode cX4_valued 23 = .ok (.iload_n 1, 1) := by decide +kernel
theorem dX4_valued_24 : decode cX4_valued 24 = .ok (.imul, 1) := by decide +kernel
theorem dX4_valued_25 : decode cX4_valued 25 = .ok (.sipush 1200, 3) := by decide +kernel
theorem dX4_valued_28 : decode cX4_valued 28 = .ok (.iload_n 3, 1) := by decide +kernel
theorem dX4_valued_29 : decode cX4_valued 29 = .ok (.iload 4, 2) := by decide +kernel
theorem dX4_valued_31 : decode cX4_valued 31 = .ok (.imul, 1) := by decide +kernel
theorem dX4_valued_32 : decode cX4_valued 32 = .ok (.iadd, 1) := by decide +kernel
theorem dX4_valued_33 : decode cX4_valued 33 = .ok (.idiv, 1) := by decide +kernel
theorem dX4_valued_34 : decode cX4_valued 34 = .ok (.ireturn, 1) := by decide +kernel
theorem dX4_lackOfFace_0 : decode cX4_lackOfFace 0 = .ok (.aload_n 0, 1) := by decide +kernel
theorem dX4_lackOfFace_1 : decode cX4_lackOfFace 1 = .ok (.invokevirtual 70, 3) := by decide +kernel
theorem dX4_lackOfFace_4 : decode cX4_lackOfFace 4 = .ok (.i2l, 1) := by decide +kernel
theorem dX4_lackOfFace_5 : decode cX4_lackOfFace 5 = .ok (.lstore_n 2, 1) := by decide +kernel
theorem dX4_lackOfFace_6 : decode cX4_lackOfFace 6 = .ok (.iconst 0, 1) := by decide +kernel
theorem dX4_lackOfFace_7 : decode cX4_lackOfFace 7 = .ok (.istore 4, 2) := by decide +kernel
theorem dX4_lackOfFace_9 : decode cX4_lackOfFace 9 = .ok (.iload 4, 2) := by decide +kernel
theorem dX4_lackOfFace_11 : decode cX4_lackOfFace 11 = .ok (.aload_n 0, 1) := by decide +kernel
theorem dX4_lackOfFace_12 : decode cX4_lackOfFace 12 = .ok (.getfield 54, 3) := by decide +kernel
theorem dX4_lackOfFace_15 : decode cX4_lackOfFace 15 = .ok (.if_icmp .ge 33, 3) := by decide +kernel
theorem dX4_lackOfFace_18 : decode cX4_lackOfFace 18 = .ok (.lload_n 2, 1) := by decide +kernel
theorem dX4_lackOfFace_19 : decode cX4_lackOfFace 19 = .ok (.iload_n 1, 1) := by decide +kernel
theorem dX4_lackOfFace_20 : decode cX4_lackOfFace 20 = .ok (.iload 4, 2) := by decide +kernel
theorem dX4_lackOfFace_22 : decode cX4_lackOfFace 22 = .ok (.ishr, 1) := by decide +kernel
theorem dX4_lackOfFace_23 : decode cX4_lackOfFace 23 = .ok (.iconst 1, 1) := by decide +kernel
theorem dX4_lackOfFace_24 : decode cX4_lackOfFace 24 = .ok (.iand, 1) := by decide +kernel
theorem dX4_lackOfFace_25 : decode cX4_lackOfFace 25 = .ok (.iconst 1, 1) := by decide +kernel
theorem dX4_lackOfFace_26 : decode cX4_lackOfFace 26 = .ok (.if_icmp .ne 13, 3) := by decide +kernel
theorem dX4_lackOfFace_29 : decode cX4_lackOfFace 29 = .ok (.aload_n 0, 1) := by decide +kernel
theorem dX4_lackOfFace_30 : decode cX4_lackOfFace 30 = .ok (.iload 4, 2) := by decide +kernel
theorem dX4_lackOfFace_32 : decode cX4_lackOfFace 32 = .ok (.invokevirtual 73, 3) := by decide +kernel
theorem dX4_lackOfFace_35 : decode cX4_lackOfFace 35 = .ok (.i2l, 1) := by decide +kernel
theorem dX4_lackOfFace_36 : decode cX4_lackOfFace 36 = .ok (.goto 4, 3) := by decide +kernel
theorem dX4_lackOfFace_39 : decode cX4_lackOfFace 39 = .ok (.lconst 0, 1) := by decide +kernel
theorem dX4_lackOfFace_40 : decode cX4_lackOfFace 40 = .ok (.ladd, 1) := by decide +kernel
theorem dX4_lackOfFace_41 : decode cX4_lackOfFace 41 = .ok (.lstore_n 2, 1) := by decide +kernel
theorem dX4_lackOfFace_42 : decode cX4_lackOfFace 42 = .ok (.iinc 4 1, 3) := by decide +kernel
theorem dX4_lackOfFace_45 : decode cX4_lackOfFace 45 = .ok (.goto (-36), 3) := by decide +kernel
theorem dX4_lackOfFace_48 : decode cX4_lackOfFace 48 = .ok (.aload_n 0, 1) := by decide +kernel
theorem dX4_lackOfFace_49 : decode cX4_lackOfFace 49 = .ok (.invokevirtual 60, 3) := by decide +kernel
theorem dX4_lackOfFace_52 : decode cX4_lackOfFace 52 = .ok (.i2l, 1) := by decide +kernel
theorem dX4_lackOfFace_53 : decode cX4_lackOfFace 53 = .ok (.bipush 100, 2) := by decide +kernel
theorem dX4_lackOfFace_55 : decode cX4_lackOfFace 55 = .ok (.aload_n 0, 1) := by decide +kernel
theorem dX4_lackOfFace_56 : decode cX4_lackOfFace 56 = .ok (.getfield 13, 3) := by decide +kernel
theorem dX4_lackOfFace_59 : decode cX4_lackOfFace 59 = .ok (.iadd, 1) := by decide +kernel
theorem dX4_lackOfFace_60 : decode cX4_lackOfFace 60 = .ok (.i2l, 1) := by decide +kernel
theorem dX4_lackOfFace_61 : decode cX4_lackOfFace 61 = .ok (.lmul, 1) := by decide +kernel
theorem dX4_lackOfFace_62 : decode cX4_lackOfFace 62 = .ok (.ldc2_w 77, 3) := by decide +kernel
theorem dX4_lackOfFace_65 : decode cX4_lackOfFace 65 = .ok (.lload_n 2, 1) := by decide +kernel
theorem dX4_lackOfFace_66 : decode cX4_lackOfFace 66 = .ok (.lmul, 1) := by decide +kernel
theorem dX4_lackOfFace_67 : decode cX4_lackOfFace 67 = .ok (.lsub, 1) := by decide +kernel
theorem dX4_lackOfFace_68 : decode cX4_lackOfFace 68 = .ok (.lstore 4, 2) := by decide +kernel
theorem dX4_lackOfFace_70 : decode cX4_lackOfFace 70 = .ok (.lload 4, 2) := by decide +kernel
theorem dX4_lackOfFace_72 : decode cX4_lackOfFace 72 = .ok (.lconst 0, 1) := by decide +kernel
theorem dX4_lackOfFace_73 : decode cX4_lackOfFace 73 = .ok (.lcmp, 1) := by decide +kernel
theorem dX4_lackOfFace_74 : decode cX4_lackOfFace 74 = .ok (.ifCond .ge 7, 3) := by decide +kernel
theorem dX4_lackOfFace_77 : decode cX4_lackOfFace 77 = .ok (.lconst 0, 1) := by decide +kernel
theorem dX4_lackOfFace_78 : decode cX4_lackOfFace 78 = .ok (.goto 5, 3) := by decide +kernel
theorem dX4_lackOfFace_81 : decode cX4_lackOfFace 81 = .ok (.lload 4, 2) := by decide +kernel
theorem dX4_lackOfFace_83 : decode cX4_lackOfFace 83 = .ok (.lreturn, 1) := by decide +kernel
theorem dX4_lackOfWorth_0 : decode cX4_lackOfWorth 0 = .ok (.aload_n 0, 1) := by decide +kernel
theorem dX4_lackOfWorth_1 : decode cX4_lackOfWorth 1 = .ok (.invokevirtual 70, 3) := by decide +kernel
theorem dX4_lackOfWorth_4 : decode cX4_lackOfWorth 4 = .ok (.ineg, 1) := by decide +kernel
theorem dX4_lackOfWorth_5 : decode cX4_lackOfWorth 5 = .ok (.i2l, 1) := by decide +kernel
theorem dX4_lackOfWorth_6 : decode cX4_lackOfWorth 6 = .ok (.lstore_n 3, 1) := by decide +kernel
theorem dX4_lackOfWorth_7 : decode cX4_lackOfWorth 7 = .ok (.iconst 0, 1) := by decide +kernel
theorem dX4_lackOfWorth_8 : decode cX4_lackOfWorth 8 = .ok (.istore 5, 2) := by decide +kernel
theorem dX4_lackOfWorth_10 : decode cX4_lackOfWorth 10 = .ok (.iload 5, 2) := by decide +kernel
theorem dX4_lackOfWorth_12 : decode cX4_lackOfWorth 12 = .ok (.aload_n 0, 1) := by decide +kernel
theorem dX4_lackOfWorth_13 : decode cX4_lackOfWorth 13 = .ok (.getfield 57, 3) := by decide +kernel
theorem dX4_lackOfWorth_16 : decode cX4_lackOfWorth 16 = .ok (.if_icmp .ge 46, 3) := by decide +kernel
theorem dX4_lackOfWorth_19 : decode cX4_lackOfWorth 19 = .ok (.lload_n 3, 1) := by decide +kernel
theorem dX4_lackOfWorth_20 : decode cX4_lackOfWorth 20 = .ok (.aload_n 0, 1) := by decide +kernel
theorem dX4_lackOfWorth_21 : decode cX4_lackOfWorth 21 = .ok (.getfield 44, 3) := by decide +kernel
theorem dX4_lackOfWorth_24 : decode cX4_lackOfWorth 24 = .ok (.iload 5, 2) := by decide +kernel
theorem dX4_lackOfWorth_26 : decode cX4_lackOfWorth 26 = .ok (.iaload, 1) := by decide +kernel
theorem dX4_lackOfWorth_27 : decode cX4_lackOfWorth 27 = .ok (.ifCond .ne 26, 3) := by decide +kernel
theorem dX4_lackOfWorth_30 : decode cX4_lackOfWorth 30 = .ok (.aload_n 0, 1) := by decide +kernel
theorem dX4_lackOfWorth_31 : decode cX4_lackOfWorth 31 = .ok (.aload_n 0, 1) := by decide +kernel
theorem dX4_lackOfWorth_32 : decode cX4_lackOfWorth 32 = .ok (.getfield 38, 3) := by decide +kernel
theorem dX4_lackOfWorth_35 : decode cX4_lackOfWorth 35 = .ok (.iload 5, 2) := by decide +kernel
theorem dX4_lackOfWorth_37 : decode cX4_lackOfWorth 37 = .ok (.iaload, 1) := by decide +kernel
theorem dX4_lackOfWorth_38 : decode cX4_lackOfWorth 38 = .ok (.aload_n 0, 1) := by decide +kernel
theorem dX4_lackOfWorth_39 : decode cX4_lackOfWorth 39 = .ok (.getfield 41, 3) := by decide +kernel
theorem dX4_lackOfWorth_42 : decode cX4_lackOfWorth 42 = .ok (.iload 5, 2) := by decide +kernel
theorem dX4_lackOfWorth_44 : decode cX4_lackOfWorth 44 = .ok (.iaload, 1) := by decide +kernel
theorem dX4_lackOfWorth_45 : decode cX4_lackOfWorth 45 = .ok (.iload_n 2, 1) := by decide +kernel
theorem dX4_lackOfWorth_46 : decode cX4_lackOfWorth 46 = .ok (.invokevirtual 79, 3) := by decide +kernel
theorem dX4_lackOfWorth_49 : decode cX4_lackOfWorth 49 = .ok (.i2l, 1) := by decide +kernel
theorem dX4_lackOfWorth_50 : decode cX4_lackOfWorth 50 = .ok (.goto 4, 3) := by decide +kernel
theorem dX4_lackOfWorth_53 : decode cX4_lackOfWorth 53 = .ok (.lconst 0, 1) := by decide +kernel
theorem dX4_lackOfWorth_54 : decode cX4_lackOfWorth 54 = .ok (.ladd, 1) := by decide +kernel
theorem dX4_lackOfWorth_55 : decode cX4_lackOfWorth 55 = .ok (.lstore_n 3, 1) := by decide +kernel
theorem dX4_lackOfWorth_56 : decode cX4_lackOfWorth 56 = .ok (.iinc 5 1, 3) := by decide +kernel
theorem dX4_lackOfWorth_59 : decode cX4_lackOfWorth 59 = .ok (.goto (-49), 3) := by decide +kernel
theorem dX4_lackOfWorth_62 : decode cX4_lackOfWorth 62 = .ok (.iconst 0, 1) := by decide +kernel
theorem dX4_lackOfWorth_63 : decode cX4_lackOfWorth 63 = .ok (.istore 5, 2) := by decide +kernel
theorem dX4_lackOfWorth_65 : decode cX4_lackOfWorth 65 = .ok (.iload 5, 2) := by decide +kernel
theorem dX4_lackOfWorth_67 : decode cX4_lackOfWorth 67 = .ok (.aload_n 0, 1) := by decide +kernel
theorem dX4_lackOfWorth_68 : decode cX4_lackOfWorth 68 = .ok (.getfield 54, 3) := by decide +kernel
theorem dX4_lackOfWorth_71 : decode cX4_lackOfWorth 71 = .ok (.if_icmp .ge 45, 3) := by decide +kernel
theorem dX4_lackOfWorth_74 : decode cX4_lackOfWorth 74 = .ok (.lload_n 3, 1) := by decide +kernel
theorem dX4_lackOfWorth_75 : decode cX4_lackOfWorth 75 = .ok (.iload_n 1, 1) := by decide +kernel
theorem dX4_lackOfWorth_76 : decode cX4_lackOfWorth 76 = .ok (.iload 5, 2) := by decide +kernel
theorem dX4_lackOfWorth_78 : decode cX4_lackOfWorth 78 = .ok (.ishr, 1) := by decide +kernel
theorem dX4_lackOfWorth_79 : decode cX4_lackOfWorth 79 = .ok (.iconst 1, 1) := by decide +kernel
theorem dX4_lackOfWorth_80 : decode cX4_lackOfWorth 80 = .ok (.iand, 1) := by decide +kernel
theorem dX4_lackOfWorth_81 : decode cX4_lackOfWorth 81 = .ok (.iconst 1, 1) := by decide +kernel
theorem dX4_lackOfWorth_82 : decode cX4_lackOfWorth 82 = .ok (.if_icmp .ne 25, 3) := by decide +kernel
theorem dX4_lackOfWorth_85 : decode cX4_lackOfWorth 85 = .ok (.aload_n 0, 1) := by decide +kernel
theorem dX4_lackOfWorth_86 : decode cX4_lackOfWorth 86 = .ok (.aload_n 0, 1) := by decide +kernel
theorem dX4_lackOfWorth_87 : decode cX4_lackOfWorth 87 = .ok (.iload 5, 2) := by decide +kernel
theorem dX4_lackOfWorth_89 : decode cX4_lackOfWorth 89 = .ok (.invokevirtual 73, 3) := by decide +kernel
theorem dX4_lackOfWorth_92 : decode cX4_lackOfWorth 92 = .ok (.aload_n 0, 1) := by decide +kernel
theorem dX4_lackOfWorth_93 : decode cX4_lackOfWorth 93 = .ok (.getfield 29, 3) := by decide +kernel
theorem dX4_lackOfWorth_96 : decode cX4_lackOfWorth 96 = .ok (.iload 5, 2) := by decide +kernel
theorem dX4_lackOfWorth_98 : decode cX4_lackOfWorth 98 = .ok (.iaload, 1) := by decide +kernel
theorem dX4_lackOfWorth_99 : decode cX4_lackOfWorth 99 = .ok (.iload_n 2, 1) := by decide +kernel
theorem dX4_lackOfWorth_100 : decode cX4_lackOfWorth 100 = .ok (.invokevirtual 79, 3) := by decide +kernel
theorem dX4_lackOfWorth_103 : decode cX4_lackOfWorth 103 = .ok (.i2l, 1) := by decide +kernel
theorem dX4_lackOfWorth_104 : decode cX4_lackOfWorth 104 = .ok (.goto 4, 3) := by decide +kernel
theorem dX4_lackOfWorth_107 : decode cX4_lackOfWorth 107 = .ok (.lconst 0, 1) := by decide +kernel
theorem dX4_lackOfWorth_108 : decode cX4_lackOfWorth 108 = .ok (.lsub, 1) := by decide +kernel
theorem dX4_lackOfWorth_109 : decode cX4_lackOfWorth 109 = .ok (.lstore_n 3, 1) := by decide +kernel
theorem dX4_lackOfWorth_110 : decode cX4_lackOfWorth 110 = .ok (.iinc 5 1, 3) := by decide +kernel
theorem dX4_lackOfWorth_113 : decode cX4_lackOfWorth 113 = .ok (.goto (-48), 3) := by decide +kernel
theorem dX4_lackOfWorth_116 : decode cX4_lackOfWorth 116 = .ok (.lload_n 3, 1) := by decide +kernel
theorem dX4_lackOfWorth_117 : decode cX4_lackOfWorth 117 = .ok (.lconst 0, 1) := by decide +kernel
theorem dX4_lackOfWorth_118 : decode cX4_lackOfWorth 118 = .ok (.lcmp, 1) := by decide +kernel
theorem dX4_lackOfWorth_119 : decode cX4_lackOfWorth 119 = .ok (.ifCond .ge 7, 3) := by decide +kernel
theorem dX4_lackOfWorth_122 : decode cX4_lackOfWorth 122 = .ok (.lconst 0, 1) := by decide +kernel
theorem dX4_lackOfWorth_123 : decode cX4_lackOfWorth 123 = .ok (.goto 4, 3) := by decide +kernel
theorem dX4_lackOfWorth_126 : decode cX4_lackOfWorth 126 = .ok (.lload_n 3, 1) := by decide +kernel
theorem dX4_lackOfWorth_127 : decode cX4_lackOfWorth 127 = .ok (.lreturn, 1) := by decide +kernel
theorem dX4_lackOfMoney_0 : decode cX4_lackOfMoney 0 = .ok (.lconst 0, 1) := by decide +kernel
theorem dX4_lackOfMoney_1 : decode cX4_lackOfMoney 1 = .ok (.lstore_n 2, 1) := by decide +kernel
theorem dX4_lackOfMoney_2 : decode cX4_lackOfMoney 2 = .ok (.iconst 1, 1) := by decide +kernel
theorem dX4_lackOfMoney_3 : decode cX4_lackOfMoney 3 = .ok (.istore 4, 2) := by decide +kernel
theorem dX4_lackOfMoney_5 : decode cX4_lackOfMoney 5 = .ok (.iload 4, 2) := by decide +kernel
theorem dX4_lackOfMoney_7 : decode cX4_lackOfMoney 7 = .ok (.bipush 6, 2) := by decide +kernel
theorem dX4_lackOfMoney_9 : decode cX4_lackOfMoney 9 = .ok (.if_icmp .gt 154, 3) := by decide +kernel
theorem dX4_lackOfMoney_12 : decode cX4_lackOfMoney 12 = .ok (.aload_n 0, 1) := by decide +kernel
theorem dX4_lackOfMoney_13 : decode cX4_lackOfMoney 13 = .ok (.getfield 64, 3) := by decide +kernel
theorem dX4_lackOfMoney_16 : decode cX4_lackOfMoney 16 = .ok (.ineg, 1) := by decide +kernel
theorem dX4_lackOfMoney_17 : decode cX4_lackOfMoney 17 = .ok (.i2l, 1) := by decide +kernel
theorem dX4_lackOfMoney_18 : decode cX4_lackOfMoney 18 = .ok (.lstore 5, 2) := by decide +kernel
theorem dX4_lackOfMoney_20 : decode cX4_lackOfMoney 20 = .ok (.iconst 0, 1) := by decide +kernel
theorem dX4_lackOfMoney_21 : decode cX4_lackOfMoney 21 = .ok (.istore 7, 2) := by decide +kernel
theorem dX4_lackOfMoney_23 : decode cX4_lackOfMoney 23 = .ok (.iload 7, 2) := by decide +kernel
theorem dX4_lackOfMoney_25 : decode cX4_lackOfMoney 25 = .ok (.aload_n 0, 1) := by decide +kernel
theorem dX4_lackOfMoney_26 : decode cX4_lackOfMoney 26 = .ok (.getfield 57, 3) := by decide +kernel
theorem dX4_lackOfMoney_29 : decode cX4_lackOfMoney 29 = .ok (.if_icmp .ge 53, 3) := by decide +kernel
theorem dX4_lackOfMoney_32 : decode cX4_lackOfMoney 32 = .ok (.lload 5, 2) := by decide +kernel
theorem dX4_lackOfMoney_34 : decode cX4_lackOfMoney 34 = .ok (.aload_n 0, 1) := by decide +kernel
theorem dX4_lackOfMoney_35 : decode cX4_lackOfMoney 35 = .ok (.getfield 44, 3) := by decide +kernel
theorem dX4_lackOfMoney_38 : decode cX4_lackOfMoney 38 = .ok (.iload 7, 2) := by decide +kernel
theorem dX4_lackOfMoney_40 : decode cX4_lackOfMoney 40 = .ok (.iaload, 1) := by decide +kernel
theorem dX4_lackOfMoney_41 : decode cX4_lackOfMoney 41 = .ok (.ifCond .ne 31, 3) := by decide +kernel
theorem dX4_lackOfMoney_44 : decode cX4_lackOfMoney 44 = .ok (.aload_n 0, 1) := by decide +kernel
theorem dX4_lackOfMoney_45 : decode cX4_lackOfMoney 45 = .ok (.getfield 41, 3) := by decide +kernel
theorem dX4_lackOfMoney_48 : decode cX4_lackOfMoney 48 = .ok (.iload 7, 2) := by decide +kernel
theorem dX4_lackOfMoney_50 : decode cX4_lackOfMoney 50 = .ok (.iaload, 1) := by decide +kernel
theorem dX4_lackOfMoney_51 : decode cX4_lackOfMoney 51 = .ok (.aload_n 0, 1) := by decide +kernel
theorem dX4_lackOfMoney_52 : decode cX4_lackOfMoney 52 = .ok (.getfield 67, 3) := by decide +kernel
theorem dX4_lackOfMoney_55 : decode cX4_lackOfMoney 55 = .ok (.iload 4, 2) := by decide +kernel
theorem dX4_lackOfMoney_57 : decode cX4_lackOfMoney 57 = .ok (.iadd, 1) := by decide +kernel
theorem dX4_lackOfMoney_58 : decode cX4_lackOfMoney 58 = .ok (.if_icmp .gt 14, 3) := by decide +kernel
theorem dX4_lackOfMoney_61 : decode cX4_lackOfMoney 61 = .ok (.aload_n 0, 1) := by decide +kernel
theorem dX4_lackOfMoney_62 : decode cX4_lackOfMoney 62 = .ok (.getfield 38, 3) := by decide +kernel
theorem dX4_lackOfMoney_65 : decode cX4_lackOfMoney 65 = .ok (.iload 7, 2) := by decide +kernel
theorem dX4_lackOfMoney_67 : decode cX4_lackOfMoney 67 = .ok (.iaload, 1) := by decide +kernel
theorem dX4_lackOfMoney_68 : decode cX4_lackOfMoney 68 = .ok (.i2l, 1) := by decide +kernel
theorem dX4_lackOfMoney_69 : decode cX4_lackOfMoney 69 = .ok (.goto 4, 3) := by decide +kernel
theorem dX4_lackOfMoney_72 : decode cX4_lackOfMoney 72 = .ok (.lconst 0, 1) := by decide +kernel
theorem dX4_lackOfMoney_73 : decode cX4_lackOfMoney 73 = .ok (.ladd, 1) := by decide +kernel
theorem dX4_lackOfMoney_74 : decode cX4_lackOfMoney 74 = .ok (.lstore 5, 2) := by decide +kernel
theorem dX4_lackOfMoney_76 : decode cX4_lackOfMoney 76 = .ok (.iinc 7 1, 3) := by decide +kernel
theorem dX4_lackOfMoney_79 : decode cX4_lackOfMoney 79 = .ok (.goto (-56), 3) := by decide +kernel
theorem dX4_lackOfMoney_82 : decode cX4_lackOfMoney 82 = .ok (.iconst 0, 1) := by decide +kernel
theorem dX4_lackOfMoney_83 : decode cX4_lackOfMoney 83 = .ok (.istore 7, 2) := by decide +kernel
theorem dX4_lackOfMoney_85 : decode cX4_lackOfMoney 85 = .ok (.iload 7, 2) := by decide +kernel
theorem dX4_lackOfMoney_87 : decode cX4_lackOfMoney 87 = .ok (.aload_n 0, 1) := by decide +kernel
theorem dX4_lackOfMoney_88 : decode cX4_lackOfMoney 88 = .ok (.getfield 54, 3) := by decide +kernel
theorem dX4_lackOfMoney_91 : decode cX4_lackOfMoney 91 = .ok (.if_icmp .ge 52, 3) := by decide +kernel
theorem dX4_lackOfMoney_94 : decode cX4_lackOfMoney 94 = .ok (.lload 5, 2) := by decide +kernel
theorem dX4_lackOfMoney_96 : decode cX4_lackOfMoney 96 = .ok (.iload_n 1, 1) := by decide +kernel
theorem dX4_lackOfMoney_97 : decode cX4_lackOfMoney 97 = .ok (.iload 7, 2) := by decide +kernel
theorem dX4_lackOfMoney_99 : decode cX4_lackOfMoney 99 = .ok (.ishr, 1) := by decide +kernel
theorem dX4_lackOfMoney_100 : decode cX4_lackOfMoney 100 = .ok (.iconst 1, 1) := by decide +kernel
theorem dX4_lackOfMoney_101 : decode cX4_lackOfMoney 101 = .ok (.iand, 1) := by decide +kernel
theorem dX4_lackOfMoney_102 : decode cX4_lackOfMoney 102 = .ok (.iconst 1, 1) := by decide +kernel
theorem dX4_lackOfMoney_103 : decode cX4_lackOfMoney 103 = .ok (.if_icmp .ne 30, 3) := by decide +kernel
theorem dX4_lackOfMoney_106 : decode cX4_lackOfMoney 106 = .ok (.aload_n 0, 1) := by decide +kernel
theorem dX4_lackOfMoney_107 : decode cX4_lackOfMoney 107 = .ok (.getfield 29, 3) := by decide +kernel
theorem dX4_lackOfMoney_110 : decode cX4_lackOfMoney 110 = .ok (.iload 7, 2) := by decide +kernel
theorem dX4_lackOfMoney_112 : decode cX4_lackOfMoney 112 = .ok (.iaload, 1) := by decide +kernel
theorem dX4_lackOfMoney_113 : decode cX4_lackOfMoney 113 = .ok (.aload_n 0, 1) := by decide +kernel
theorem dX4_lackOfMoney_114 : decode cX4_lackOfMoney 114 = .ok (.getfield 67, 3) := by decide +kernel
theorem dX4_lackOfMoney_117 : decode cX4_lackOfMoney 117 = .ok (.iload 4, 2) := by decide +kernel
theorem dX4_lackOfMoney_119 : decode cX4_lackOfMoney 119 = .ok (.iadd, 1) := by decide +kernel
theorem dX4_lackOfMoney_120 : decode cX4_lackOfMoney 120 = .ok (.if_icmp .gt 13, 3) := by decide +kernel
theorem dX4_lackOfMoney_123 : decode cX4_lackOfMoney 123 = .ok (.aload_n 0, 1) := by decide +kernel
theorem dX4_lackOfMoney_124 : decode cX4_lackOfMoney 124 = .ok (.iload 7, 2) := by decide +kernel
theorem dX4_lackOfMoney_126 : decode cX4_lackOfMoney 126 = .ok (.invokevirtual 73, 3) := by decide +kernel
theorem dX4_lackOfMoney_129 : decode cX4_lackOfMoney 129 = .ok (.i2l, 1) := by decide +kernel
theorem dX4_lackOfMoney_130 : decode cX4_lackOfMoney 130 = .ok (.goto 4, 3) := by decide +kernel
theorem dX4_lackOfMoney_133 : decode cX4_lackOfMoney 133 = .ok (.lconst 0, 1) := by decide +kernel
theorem dX4_lackOfMoney_134 : decode cX4_lackOfMoney 134 = .ok (.lsub, 1) := by decide +kernel
theorem dX4_lackOfMoney_135 : decode cX4_lackOfMoney 135 = .ok (.lstore 5, 2) := by decide +kernel
theorem dX4_lackOfMoney_137 : decode cX4_lackOfMoney 137 = .ok (.iinc 7 1, 3) := by decide +kernel
theorem dX4_lackOfMoney_140 : decode cX4_lackOfMoney 140 = .ok (.goto (-55), 3) := by decide +kernel
theorem dX4_lackOfMoney_143 : decode cX4_lackOfMoney 143 = .ok (.lload 5, 2) := by decide +kernel
theorem dX4_lackOfMoney_145 : decode cX4_lackOfMoney 145 = .ok (.lload_n 2, 1) := by decide +kernel
theorem dX4_lackOfMoney_146 : decode cX4_lackOfMoney 146 = .ok (.lcmp, 1) := by decide +kernel
theorem dX4_lackOfMoney_147 : decode cX4_lackOfMoney 147 = .ok (.ifCond .le 8, 3) := by decide +kernel
theorem dX4_lackOfMoney_150 : decode cX4_lackOfMoney 150 = .ok (.lload 5, 2) := by decide +kernel
theorem dX4_lackOfMoney_152 : decode cX4_lackOfMoney 152 = .ok (.goto 4, 3) := by decide +kernel
theorem dX4_lackOfMoney_155 : decode cX4_lackOfMoney 155 = .ok (.lload_n 2, 1) := by decide +kernel
theorem dX4_lackOfMoney_156 : decode cX4_lackOfMoney 156 = .ok (.lstore_n 2, 1) := by decide +kernel
theorem dX4_lackOfMoney_157 : decode cX4_lackOfMoney 157 = .ok (.iinc 4 1, 3) := by decide +kernel
theorem dX4_lackOfMoney_160 : decode cX4_lackOfMoney 160 = .ok (.goto (-155), 3) := by decide +kernel
theorem dX4_lackOfMoney_163 : decode cX4_lackOfMoney 163 = .ok (.lload_n 2, 1) := by decide +kernel
theorem dX4_lackOfMoney_164 : decode cX4_lackOfMoney 164 = .ok (.lreturn, 1) := by decide +kernel
theorem dX4_lack_0 : decode cX4_lack 0 = .ok (.iload_n 1, 1) := by decide +kernel
theorem dX4_lack_1 : decode cX4_lack 1 = .ok (.ifCond .ne 9, 3) := by decide +kernel
theorem dX4_lack_4 : decode cX4_lack 4 = .ok (.aload_n 0, 1) := by decide +kernel
theorem dX4_lack_5 : decode cX4_lack 5 = .ok (.iload_n 2, 1) := by decide +kernel
theorem dX4_lack_6 : decode cX4_lack 6 = .ok (.invokevirtual 83, 3) := by decide +kernel
theorem dX4_lack_9 : decode cX4_lack 9 = .ok (.lreturn, 1) := by decide +kernel
theorem dX4_lack_10 : decode cX4_lack 10 = .ok (.iload_n 1, 1) := by decide +kernel
theorem dX4_lack_11 : decode cX4_lack 11 = .ok (.iconst 2, 1) := by decide +kernel
theorem dX4_lack_12 : decode cX4_lack 12 = .ok (.if_icmp .ne 9, 3) := by decide +kernel
theorem dX4_lack_15 : decode cX4_lack 15 = .ok (.aload_n 0, 1) := by decide +kernel
theorem dX4_lack_16 : decode cX4_lack 16 = .ok (.iload_n 2, 1) := by decide +kernel
theorem dX4_lack_17 : decode cX4_lack 17 = .ok (.invokevirtual 87, 3) := by decide +kernel
theorem dX4_lack_20 : decode cX4_lack 20 = .ok (.lreturn, 1) := by decide +kernel
theorem dX4_lack_21 : decode cX4_lack 21 = .ok (.aload_n 0, 1) := by decide +kernel
theorem dX4_lack_22 : decode cX4_lack 22 = .ok (.iload_n 2, 1) := by decide +kernel
theorem dX4_lack_23 : decode cX4_lack 23 = .ok (.iconst 0, 1) := by decide +kernel
theorem dX4_lack_24 : decode cX4_lack 24 = .ok (.invokevirtual 90, 3) := by decide +kernel
theorem dX4_lack_27 : decode cX4_lack 27 = .ok (.lstore_n 3, 1) := by decide +kernel
theorem dX4_lack_28 : decode cX4_lack 28 = .ok (.aload_n 0, 1) := by decide +kernel
theorem dX4_lack_29 : decode cX4_lack 29 = .ok (.iload_n 2, 1) := by decide +kernel
theorem dX4_lack_30 : decode cX4_lack 30 = .ok (.aload_n 0, 1) := by decide +kernel
theorem dX4_lack_31 : decode cX4_lack 31 = .ok (.getfield 16, 3) := by decide +kernel
theorem dX4_lack_34 : decode cX4_lack 34 = .ok (.invokevirtual 90, 3) := by decide +kernel
theorem dX4_lack_37 : decode cX4_lack 37 = .ok (.lstore 5, 2) := by decide +kernel
theorem dX4_lack_39 : decode cX4_lack 39 = .ok (.lload_n 3, 1) := by decide +kernel
theorem dX4_lack_40 : decode cX4_lack 40 = .ok (.lload 5, 2) := by decide +kernel
theorem dX4_lack_42 : decode cX4_lack 42 = .ok (.lcmp, 1) := by decide +kernel
theorem dX4_lack_43 : decode cX4_lack 43 = .ok (.ifCond .le 7, 3) := by decide +kernel
theorem dX4_lack_46 : decode cX4_lack 46 = .ok (.lload_n 3, 1) := by decide +kernel
theorem dX4_lack_47 : decode cX4_lack 47 = .ok (.goto 5, 3) := by decide +kernel
theorem dX4_lack_50 : decode cX4_lack 50 = .ok (.lload 5, 2) := by decide +kernel
theorem dX4_lack_52 : decode cX4_lack 52 = .ok (.lreturn, 1) := by decide +kernel
theorem dX4_isSafe_0 : decode cX4_isSafe 0 = .ok (.aload_n 0, 1) := by decide +kernel
theorem dX4_isSafe_1 : decode cX4_isSafe 1 = .ok (.iconst 0, 1) := by decide +kernel
theorem dX4_isSafe_2 : decode cX4_isSafe 2 = .ok (.iload_n 1, 1) := by decide +kernel
theorem dX4_isSafe_3 : decode cX4_isSafe 3 = .ok (.invokevirtual 94, 3) := by decide +kernel
theorem dX4_isSafe_6 : decode cX4_isSafe 6 = .ok (.lconst 0, 1) := by decide +kernel
theorem dX4_isSafe_7 : decode cX4_isSafe 7 = .ok (.lcmp, 1) := by decide +kernel
theorem dX4_isSafe_8 : decode cX4_isSafe 8 = .ok (.ifCond .ne 29, 3) := by decide +kernel
theorem dX4_isSafe_11 : decode cX4_isSafe 11 = .ok (.aload_n 0, 1) := by decide +kernel
theorem dX4_isSafe_12 : decode cX4_isSafe 12 = .ok (.iconst 1, 1) := by decide +kernel
theorem dX4_isSafe_13 : decode cX4_isSafe 13 = .ok (.iload_n 1, 1) := by decide +kernel
theorem dX4_isSafe_14 : decode cX4_isSafe 14 = .ok (.invokevirtual 94, 3) := by decide +kernel
theorem dX4_isSafe_17 : decode cX4_isSafe 17 = .ok (.lconst 0, 1) := by decide +kernel
theorem dX4_isSafe_18 : decode cX4_isSafe 18 = .ok (.lcmp, 1) := by decide +kernel
theorem dX4_isSafe_19 : decode cX4_isSafe 19 = .ok (.ifCond .ne 18, 3) := by decide +kernel
theorem dX4_isSafe_22 : decode cX4_isSafe 22 = .ok (.aload_n 0, 1) := by decide +kernel
theorem dX4_isSafe_23 : decode cX4_isSafe 23 = .ok (.iconst 2, 1) := by decide +kernel
theorem dX4_isSafe_24 : decode cX4_isSafe 24 = .ok (.iload_n 1, 1) := by decide +kernel
theorem dX4_isSafe_25 : decode cX4_isSafe 25 = .ok (.invokevirtual 94, 3) := by decide +kernel
theorem dX4_isSafe_28 : decode cX4_isSafe 28 = .ok (.lconst 0, 1) := by decide +kernel
theorem dX4_isSafe_29 : decode cX4_isSafe 29 = .ok (.lcmp, 1) := by decide +kernel
theorem dX4_isSafe_30 : decode cX4_isSafe 30 = .ok (.ifCond .ne 7, 3) := by decide +kernel
theorem dX4_isSafe_33 : decode cX4_isSafe 33 = .ok (.iconst 1, 1) := by decide +kernel
theorem dX4_isSafe_34 : decode cX4_isSafe 34 = .ok (.goto 4, 3) := by decide +kernel
theorem dX4_isSafe_37 : decode cX4_isSafe 37 = .ok (.iconst 0, 1) := by decide +kernel
theorem dX4_isSafe_38 : decode cX4_isSafe 38 = .ok (.ireturn, 1) := by decide +kernel
theorem dX4_addLoan_0 : decode cX4_addLoan 0 = .ok (.iload_n 1, 1) := by decide +kernel
theorem dX4_addLoan_1 : decode cX4_addLoan 1 = .ok (.iconst 1, 1) := by decide +kernel
theorem dX4_addLoan_2 : decode cX4_addLoan 2 = .ok (.sipush 10000, 3) := by decide +kernel
theorem dX4_addLoan_5 : decode cX4_addLoan 5 = .ok (.invokestatic 97, 3) := by decide +kernel
theorem dX4_addLoan_8 : decode cX4_addLoan 8 = .ok (.ifCond .eq 44, 3) := by decide +kernel
theorem dX4_addLoan_11 : decode cX4_addLoan 11 = .ok (.iload_n 2, 1) := by decide +kernel
theorem dX4_addLoan_12 : decode cX4_addLoan 12 = .ok (.iconst 0, 1) := by decide +kernel
theorem dX4_addLoan_13 : decode cX4_addLoan 13 = .ok (.sipush 20000, 3) := by decide +kernel
theorem dX4_addLoan_16 : decode cX4_addLoan 16 = .ok (.invokestatic 97, 3) := by decide +kernel
theorem dX4_addLoan_19 : decode cX4_addLoan 19 = .ok (.ifCond .eq 33, 3) := by decide +kernel
theorem dX4_addLoan_22 : decode cX4_addLoan 22 = .ok (.iload_n 3, 1) := by decide +kernel
theorem dX4_addLoan_23 : decode cX4_addLoan 23 = .ok (.iconst 1, 1) := by decide +kernel
theorem dX4_addLoan_24 : decode cX4_addLoan 24 = .ok (.iconst 5, 1) := by decide +kernel
theorem dX4_addLoan_25 : decode cX4_addLoan 25 = .ok (.invokestatic 97, 3) := by decide +kernel
theorem dX4_addLoan_28 : decode cX4_addLoan 28 = .ok (.ifCond .eq 24, 3) := by decide +kernel
theorem dX4_addLoan_31 : decode cX4_addLoan 31 = .ok (.iload 4, 2) := by decide +kernel
theorem dX4_addLoan_33 : decode cX4_addLoan 33 = .ok (.aload_n 0, 1) := by decide +kernel
theorem dX4_addLoan_34 : decode cX4_addLoan 34 = .ok (.getfield 67, 3) := by decide +kernel
theorem dX4_addLoan_37 : decode cX4_addLoan 37 = .ok (.if_icmp .le 15, 3) := by decide +kernel
theorem dX4_addLoan_40 : decode cX4_addLoan 40 = .ok (.iload 4, 2) := by decide +kernel
theorem dX4_addLoan_42 : decode cX4_addLoan 42 = .ok (.sipush 600, 3) := by decide +kernel
theorem dX4_addLoan_45 : decode cX4_addLoan 45 = .ok (.if_icmp .gt 7, 3) := by decide +kernel
theorem dX4_addLoan_48 : decode cX4_addLoan 48 = .ok (.iconst 1, 1) := by decide +kernel
theorem dX4_addLoan_49 : decode cX4_addLoan 49 = .ok (.goto 4, 3) := by decide +kernel
theorem dX4_addLoan_52 : decode cX4_addLoan 52 = .ok (.iconst 0, 1) := by decide +kernel
theorem dX4_addLoan_53 : decode cX4_addLoan 53 = .ok (.istore 5, 2) := by decide +kernel
theorem dX4_addLoan_55 : decode cX4_addLoan 55 = .ok (.aload_n 0, 1) := by decide +kernel
theorem dX4_addLoan_56 : decode cX4_addLoan 56 = .ok (.iload 5, 2) := by decide +kernel
theorem dX4_addLoan_58 : decode cX4_addLoan 58 = .ok (.aload_n 0, 1) := by decide +kernel
theorem dX4_addLoan_59 : decode cX4_addLoan 59 = .ok (.getfield 54, 3) := by decide +kernel
theorem dX4_addLoan_62 : decode cX4_addLoan 62 = .ok (.bipush 12, 2) := by decide +kernel
theorem dX4_addLoan_64 : decode cX4_addLoan 64 = .ok (.if_icmp .ge 7, 3) := by decide +kernel
theorem dX4_addLoan_67 : decode cX4_addLoan 67 = .ok (.iconst 1, 1) := by decide +kernel
theorem dX4_addLoan_68 : decode cX4_addLoan 68 = .ok (.goto 4, 3) := by decide +kernel
theorem dX4_addLoan_71 : decode cX4_addLoan 71 = .ok (.iconst 0, 1) := by decide +kernel
theorem dX4_addLoan_72 : decode cX4_addLoan 72 = .ok (.iconst 1, 1) := by decide +kernel
theorem dX4_addLoan_73 : decode cX4_addLoan 73 = .ok (.invokevirtual 101, 3) := by decide +kernel
theorem dX4_addLoan_76 : decode cX4_addLoan 76 = .ok (.ifCond .ne 5, 3) := by decide +kernel
theorem dX4_addLoan_79 : decode cX4_addLoan 79 = .ok (.iconst 0, 1) := by decide +kernel
theorem dX4_addLoan_80 : decode cX4_addLoan 80 = .ok (.ireturn, 1) := by decide +kernel
theorem dX4_addLoan_81 : decode cX4_addLoan 81 = .ok (.aload_n 0, 1) := by decide +kernel
theorem dX4_addLoan_82 : decode cX4_addLoan 82 = .ok (.getfield 19, 3) := by decide +kernel
theorem dX4_addLoan_85 : decode cX4_addLoan 85 = .ok (.aload_n 0, 1) := by decide +kernel
theorem dX4_addLoan_86 : decode cX4_addLoan 86 = .ok (.getfield 54, 3) := by decide +kernel
theorem dX4_addLoan_89 : decode cX4_addLoan 89 = .ok (.iload_n 1, 1) := by decide +kernel
theorem dX4_addLoan_90 : decode cX4_addLoan 90 = .ok (.iastore, 1) := by decide +kernel
theorem dX4_addLoan_91 : decode cX4_addLoan 91 = .ok (.aload_n 0, 1) := by decide +kernel
theorem dX4_addLoan_92 : decode cX4_addLoan 92 = .ok (.getfield 23, 3) := by decide +kernel
theorem dX4_addLoan_95 : decode cX4_addLoan 95 = .ok (.aload_n 0, 1) := by decide +kernel
theorem dX4_addLoan_96 : decode cX4_addLoan 96 = .ok (.getfield 54, 3) := by decide +kernel
theorem dX4_addLoan_99 : decode cX4_addLoan 99 = .ok (.iload_n 2, 1) := by decide +kernel
theorem dX4_addLoan_100 : decode cX4_addLoan 100 = .ok (.iastore, 1) := by decide +kernel
theorem dX4_addLoan_101 : decode cX4_addLoan 101 = .ok (.aload_n 0, 1) := by decide +kernel
theorem dX4_addLoan_102 : decode cX4_addLoan 102 = .ok (.getfield 26, 3) := by decide +kernel
theorem dX4_addLoan_105 : decode cX4_addLoan 105 = .ok (.aload_n 0, 1) := by decide +kernel
theorem dX4_addLoan_106 : decode cX4_addLoan 106 = .ok (.getfield 54, 3) := by decide +kernel
theorem dX4_addLoan_109 : decode cX4_addLoan 109 = .ok (.iload_n 3, 1) := by decide +kernel
theorem dX4_addLoan_110 : decode cX4_addLoan 110 = .ok (.iastore, 1) := by decide +kernel
theorem dX4_addLoan_111 : decode cX4_addLoan 111 = .ok (.aload_n 0, 1) := by decide +kernel
theorem dX4_addLoan_112 : decode cX4_addLoan 112 = .ok (.getfield 29, 3) := by decide +kernel
theorem dX4_addLoan_115 : decode cX4_addLoan 115 = .ok (.aload_n 0, 1) := by decide +kernel
theorem dX4_addLoan_116 : decode cX4_addLoan 116 = .ok (.getfield 54, 3) := by decide +kernel
theorem dX4_addLoan_119 : decode cX4_addLoan 119 = .ok (.iload 4, 2) := by decide +kernel
theorem dX4_addLoan_121 : decode cX4_addLoan 121 = .ok (.iastore, 1) := by decide +kernel
theorem dX4_addLoan_122 : decode cX4_addLoan 122 = .ok (.aload_n 0, 1) := by decide +kernel
theorem dX4_addLoan_123 : decode cX4_addLoan 123 = .ok (.dup, 1) := by decide +kernel
theorem dX4_addLoan_124 : decode cX4_addLoan 124 = .ok (.getfield 54, 3) := by decide +kernel
theorem dX4_addLoan_127 : decode cX4_addLoan 127 = .ok (.iconst 1, 1) := by decide +kernel
theorem dX4_addLoan_128 : decode cX4_addLoan 128 = .ok (.iadd, 1) := by decide +kernel
theorem dX4_addLoan_129 : decode cX4_addLoan 129 = .ok (.putfield 54, 3) := by decide +kernel
theorem dX4_addLoan_132 : decode cX4_addLoan 132 = .ok (.aload_n 0, 1) := by decide +kernel
theorem dX4_addLoan_133 : decode cX4_addLoan 133 = .ok (.getfield 54, 3) := by decide +kernel
theorem dX4_addLoan_136 : decode cX4_addLoan 136 = .ok (.iconst 1, 1) := by decide +kernel
theorem dX4_addLoan_137 : decode cX4_addLoan 137 = .ok (.isub, 1) := by decide +kernel
theorem dX4_addLoan_138 : decode cX4_addLoan 138 = .ok (.ireturn, 1) := by decide +kernel
theorem dX4_enter_0 : decode cX4_enter 0 = .ok (.aload_n 0, 1) := by decide +kernel
theorem dX4_enter_1 : decode cX4_enter 1 = .ok (.iload_n 1, 1) := by decide +kernel
theorem dX4_enter_2 : decode cX4_enter 2 = .ok (.invokevirtual 105, 3) := by decide +kernel
theorem dX4_enter_5 : decode cX4_enter 5 = .ok (.istore_n 2, 1) := by decide +kernel
theorem dX4_enter_6 : decode cX4_enter 6 = .ok (.aload_n 0, 1) := by decide +kernel
theorem dX4_enter_7 : decode cX4_enter 7 = .ok (.iload_n 2, 1) := by decide +kernel
theorem dX4_enter_8 : decode cX4_enter 8 = .ok (.iload_n 2, 1) := by decide +kernel
theorem dX4_enter_9 : decode cX4_enter 9 = .ok (.ifCond .eq 16, 3) := by decide +kernel
theorem dX4_enter_12 : decode cX4_enter 12 = .ok (.aload_n 0, 1) := by decide +kernel
theorem dX4_enter_13 : decode cX4_enter 13 = .ok (.getfield 35, 3) := by decide +kernel
theorem dX4_enter_16 : decode cX4_enter 16 = .ok (.iload_n 1, 1) := by decide +kernel
theorem dX4_enter_17 : decode cX4_enter 17 = .ok (.iaload, 1) := by decide +kernel
theorem dX4_enter_18 : decode cX4_enter 18 = .ok (.ifCond .ne 7, 3) := by decide +kernel
theorem dX4_enter_21 : decode cX4_enter 21 = .ok (.iconst 1, 1) := by decide +kernel
theorem dX4_enter_22 : decode cX4_enter 22 = .ok (.goto 4, 3) := by decide +kernel
theorem dX4_enter_25 : decode cX4_enter 25 = .ok (.iconst 0, 1) := by decide +kernel
theorem dX4_enter_26 : decode cX4_enter 26 = .ok (.iconst 1, 1) := by decide +kernel
theorem dX4_enter_27 : decode cX4_enter 27 = .ok (.invokevirtual 101, 3) := by decide +kernel
theorem dX4_enter_30 : decode cX4_enter 30 = .ok (.ifCond .ne 5, 3) := by decide +kernel
theorem dX4_enter_33 : decode cX4_enter 33 = .ok (.iconst 0, 1) := by decide +kernel
theorem dX4_enter_34 : decode cX4_enter 34 = .ok (.ireturn, 1) := by decide +kernel
theorem dX4_enter_35 : decode cX4_enter 35 = .ok (.aload_n 0, 1) := by decide +kernel
theorem dX4_enter_36 : decode cX4_enter 36 = .ok (.getfield 35, 3) := by decide +kernel
theorem dX4_enter_39 : decode cX4_enter 39 = .ok (.iload_n 1, 1) := by decide +kernel
theorem dX4_enter_40 : decode cX4_enter 40 = .ok (.iconst 1, 1) := by decide +kernel
theorem dX4_enter_41 : decode cX4_enter 41 = .ok (.iastore, 1) := by decide +kernel
theorem dX4_enter_42 : decode cX4_enter 42 = .ok (.aload_n 0, 1) := by decide +kernel
theorem dX4_enter_43 : decode cX4_enter 43 = .ok (.iload_n 1, 1) := by decide +kernel
theorem dX4_enter_44 : decode cX4_enter 44 = .ok (.invokevirtual 73, 3) := by decide +kernel
theorem dX4_enter_47 : decode cX4_enter 47 = .ok (.ireturn, 1) := by decide +kernel
theorem dX4_leave_0 : decode cX4_leave 0 = .ok (.aload_n 0, 1) := by decide +kernel
theorem dX4_leave_1 : decode cX4_leave 1 = .ok (.iload_n 1, 1) := by decide +kernel
theorem dX4_leave_2 : decode cX4_leave 2 = .ok (.invokevirtual 105, 3) := by decide +kernel
theorem dX4_leave_5 : decode cX4_leave 5 = .ok (.istore_n 2, 1) := by decide +kernel
theorem dX4_leave_6 : decode cX4_leave 6 = .ok (.aload_n 0, 1) := by decide +kernel
theorem dX4_leave_7 : decode cX4_leave 7 = .ok (.iload_n 2, 1) := by decide +kernel
theorem dX4_leave_8 : decode cX4_leave 8 = .ok (.iload_n 2, 1) := by decide +kernel
theorem dX4_leave_9 : decode cX4_leave 9 = .ok (.ifCond .eq 17, 3) := by decide +kernel
theorem dX4_leave_12 : decode cX4_leave 12 = .ok (.aload_n 0, 1) := by decide +kernel
theorem dX4_leave_13 : decode cX4_leave 13 = .ok (.getfield 35, 3) := by decide +kernel
theorem dX4_leave_16 : decode cX4_leave 16 = .ok (.iload_n 1, 1) := by decide +kernel
theorem dX4_leave_17 : decode cX4_leave 17 = .ok (.iaload, 1) := by decide +kernel
theorem dX4_leave_18 : decode cX4_leave 18 = .ok (.iconst 1, 1) := by decide +kernel
theorem dX4_leave_19 : decode cX4_leave 19 = .ok (.if_icmp .ne 7, 3) := by decide +kernel
theorem dX4_leave_22 : decode cX4_leave 22 = .ok (.iconst 1, 1) := by decide +kernel
theorem dX4_leave_23 : decode cX4_leave 23 = .ok (.goto 4, 3) := by decide +kernel
theorem dX4_leave_26 : decode cX4_leave 26 = .ok (.iconst 0, 1) := by decide +kernel
theorem dX4_leave_27 : decode cX4_leave 27 = .ok (.iconst 1, 1) := by decide +kernel
theorem dX4_leave_28 : decode cX4_leave 28 = .ok (.invokevirtual 101, 3) := by decide +kernel
theorem dX4_leave_31 : decode cX4_leave 31 = .ok (.ifCond .ne 5, 3) := by decide +kernel
theorem dX4_leave_34 : decode cX4_leave 34 = .ok (.iconst 0, 1) := by decide +kernel
theorem dX4_leave_35 : decode cX4_leave 35 = .ok (.ireturn, 1) := by decide +kernel
theorem dX4_leave_36 : decode cX4_leave 36 = .ok (.aload_n 0, 1) := by decide +kernel
theorem dX4_leave_37 : decode cX4_leave 37 = .ok (.aload_n 0, 1) := by decide +kernel
theorem dX4_leave_38 : decode cX4_leave 38 = .ok (.invokevirtual 109, 3) := by decide +kernel
theorem dX4_leave_41 : decode cX4_leave 41 = .ok (.iconst 1, 1) := by decide +kernel
theorem dX4_leave_42 : decode cX4_leave 42 = .ok (.iload_n 1, 1) := by decide +kernel
theorem dX4_leave_43 : decode cX4_leave 43 = .ok (.ishl, 1) := by decide +kernel
theorem dX4_leave_44 : decode cX4_leave 44 = .ok (.iconst (-1), 1) := by decide +kernel
theorem dX4_leave_45 : decode cX4_leave 45 = .ok (.ixor, 1) := by decide +kernel
theorem dX4_leave_46 : decode cX4_leave 46 = .ok (.iand, 1) := by decide +kernel
theorem dX4_leave_47 : decode cX4_leave 47 = .ok (.invokevirtual 112, 3) := by decide +kernel
theorem dX4_leave_50 : decode cX4_leave 50 = .ok (.istore_n 3, 1) := by decide +kernel
theorem dX4_leave_51 : decode cX4_leave 51 = .ok (.aload_n 0, 1) := by decide +kernel
theorem dX4_leave_52 : decode cX4_leave 52 = .ok (.getfield 35, 3) := by decide +kernel
theorem dX4_leave_55 : decode cX4_leave 55 = .ok (.iload_n 1, 1) := by decide +kernel
theorem dX4_leave_56 : decode cX4_leave 56 = .ok (.iload_n 3, 1) := by decide +kernel
theorem dX4_leave_57 : decode cX4_leave 57 = .ok (.ifCond .eq 7, 3) := by decide +kernel
theorem dX4_leave_60 : decode cX4_leave 60 = .ok (.iconst 0, 1) := by decide +kernel
theorem dX4_leave_61 : decode cX4_leave 61 = .ok (.goto 4, 3) := by decide +kernel
theorem dX4_leave_64 : decode cX4_leave 64 = .ok (.iconst 1, 1) := by decide +kernel
theorem dX4_leave_65 : decode cX4_leave 65 = .ok (.iastore, 1) := by decide +kernel
theorem dX4_leave_66 : decode cX4_leave 66 = .ok (.iload_n 3, 1) := by decide +kernel
theorem dX4_leave_67 : decode cX4_leave 67 = .ok (.ireturn, 1) := by decide +kernel
theorem dX4_swap_0 : decode cX4_swap 0 = .ok (.aload_n 0, 1) := by decide +kernel
theorem dX4_swap_1 : decode cX4_swap 1 = .ok (.iload_n 1, 1) := by decide +kernel
theorem dX4_swap_2 : decode cX4_swap 2 = .ok (.invokevirtual 105, 3) := by decide +kernel
theorem dX4_swap_5 : decode cX4_swap 5 = .ok (.ifCond .eq 15, 3) := by decide +kernel
theorem dX4_swap_8 : decode cX4_swap 8 = .ok (.aload_n 0, 1) := by decide +kernel
theorem dX4_swap_9 : decode cX4_swap 9 = .ok (.iload_n 2, 1) := by decide +kernel
theorem dX4_swap_10 : decode cX4_swap 10 = .ok (.invokevirtual 105, 3) := by decide +kernel
theorem dX4_swap_13 : decode cX4_swap 13 = .ok (.ifCond .eq 7, 3) := by decide +kernel
theorem dX4_swap_16 : decode cX4_swap 16 = .ok (.iconst 1, 1) := by decide +kernel
theorem dX4_swap_17 : decode cX4_swap 17 = .ok (.goto 4, 3) := by decide +kernel
theorem dX4_swap_20 : decode cX4_swap 20 = .ok (.iconst 0, 1) := by decide +kernel
theorem dX4_swap_21 : decode cX4_swap 21 = .ok (.istore_n 3, 1) := by decide +kernel
theorem dX4_swap_22 : decode cX4_swap 22 = .ok (.aload_n 0, 1) := by decide +kernel
theorem dX4_swap_23 : decode cX4_swap 23 = .ok (.iload_n 3, 1) := by decide +kernel
theorem dX4_swap_24 : decode cX4_swap 24 = .ok (.iload_n 3, 1) := by decide +kernel
theorem dX4_swap_25 : decode cX4_swap 25 = .ok (.ifCond .eq 26, 3) := by decide +kernel
theorem dX4_swap_28 : decode cX4_swap 28 = .ok (.aload_n 0, 1) := by decide +kernel
theorem dX4_swap_29 : decode cX4_swap 29 = .ok (.getfield 35, 3) := by decide +kernel
theorem dX4_swap_32 : decode cX4_swap 32 = .ok (.iload_n 1, 1) := by decide +kernel
theorem dX4_swap_33 : decode cX4_swap 33 = .ok (.iaload, 1) := by decide +kernel
theorem dX4_swap_34 : decode cX4_swap 34 = .ok (.iconst 1, 1) := by decide +kernel
theorem dX4_swap_35 : decode cX4_swap 35 = .ok (.if_icmp .ne 16, 3) := by decide +kernel
theorem dX4_swap_38 : decode cX4_swap 38 = .ok (.aload_n 0, 1) := by decide +kernel
theorem dX4_swap_39 : decode cX4_swap 39 = .ok (.getfield 35, 3) := by decide +kernel
theorem dX4_swap_42 : decode cX4_swap 42 = .ok (.iload_n 2, 1) := by decide +kernel
theorem dX4_swap_43 : decode cX4_swap 43 = .ok (.iaload, 1) := by decide +kernel
theorem dX4_swap_44 : decode cX4_swap 44 = .ok (.ifCond .ne 7, 3) := by decide +kernel
theorem dX4_swap_47 : decode cX4_swap 47 = .ok (.iconst 1, 1) := by decide +kernel
theorem dX4_swap_48 : decode cX4_swap 48 = .ok (.goto 4, 3) := by decide +kernel
theorem dX4_swap_51 : decode cX4_swap 51 = .ok (.iconst 0, 1) := by decide +kernel
theorem dX4_swap_52 : decode cX4_swap 52 = .ok (.iconst 1, 1) := by decide +kernel
theorem dX4_swap_53 : decode cX4_swap 53 = .ok (.invokevirtual 101, 3) := by decide +kernel
theorem dX4_swap_56 : decode cX4_swap 56 = .ok (.ifCond .ne 5, 3) := by decide +kernel
theorem dX4_swap_59 : decode cX4_swap 59 = .ok (.iconst 0, 1) := by decide +kernel
theorem dX4_swap_60 : decode cX4_swap 60 = .ok (.ireturn, 1) := by decide +kernel
theorem dX4_swap_61 : decode cX4_swap 61 = .ok (.aload_n 0, 1) := by decide +kernel
theorem dX4_swap_62 : decode cX4_swap 62 = .ok (.invokevirtual 109, 3) := by decide +kernel
theorem dX4_swap_65 : decode cX4_swap 65 = .ok (.istore 4, 2) := by decide +kernel
theorem dX4_swap_67 : decode cX4_swap 67 = .ok (.iload 4, 2) := by decide +kernel
theorem dX4_swap_69 : decode cX4_swap 69 = .ok (.iconst 1, 1) := by decide +kernel
theorem dX4_swap_70 : decode cX4_swap 70 = .ok (.iload_n 1, 1) := by decide +kernel
theorem dX4_swap_71 : decode cX4_swap 71 = .ok (.ishl, 1) := by decide +kernel
theorem dX4_swap_72 : decode cX4_swap 72 = .ok (.iconst (-1), 1) := by decide +kernel
theorem dX4_swap_73 : decode cX4_swap 73 = .ok (.ixor, 1) := by decide +kernel
theorem dX4_swap_74 : decode cX4_swap 74 = .ok (.iand, 1) := by decide +kernel
theorem dX4_swap_75 : decode cX4_swap 75 = .ok (.iconst 1, 1) := by decide +kernel
theorem dX4_swap_76 : decode cX4_swap 76 = .ok (.iload_n 2, 1) := by decide +kernel
theorem dX4_swap_77 : decode cX4_swap 77 = .ok (.ishl, 1) := by decide +kernel
theorem dX4_swap_78 : decode cX4_swap 78 = .ok (.ior, 1) := by decide +kernel
theorem dX4_swap_79 : decode cX4_swap 79 = .ok (.istore 5, 2) := by decide +kernel
theorem dX4_swap_81 : decode cX4_swap 81 = .ok (.iconst 1, 1) := by decide +kernel
theorem dX4_swap_82 : decode cX4_swap 82 = .ok (.istore 6, 2) := by decide +kernel
theorem dX4_swap_84 : decode cX4_swap 84 = .ok (.iconst 0, 1) := by decide +kernel
theorem dX4_swap_85 : decode cX4_swap 85 = .ok (.istore 7, 2) := by decide +kernel
theorem dX4_swap_87 : decode cX4_swap 87 = .ok (.iload 7, 2) := by decide +kernel
theorem dX4_swap_89 : decode cX4_swap 89 = .ok (.iconst 2, 1) := by decide +kernel
theorem dX4_swap_90 : decode cX4_swap 90 = .ok (.if_icmp .gt 47, 3) := by decide +kernel
theorem dX4_swap_93 : decode cX4_swap 93 = .ok (.iload 6, 2) := by decide +kernel
theorem dX4_swap_95 : decode cX4_swap 95 = .ok (.ifCond .eq 33, 3) := by decide +kernel
theorem dX4_swap_98 : decode cX4_swap 98 = .ok (.aload_n 0, 1) := by decide +kernel
theorem dX4_swap_99 : decode cX4_swap 99 = .ok (.iload 7, 2) := by decide +kernel
theorem dX4_swap_101 : decode cX4_swap 101 = .ok (.iload 4, 2) := by decide +kernel
theorem dX4_swap_103 : decode cX4_swap 103 = .ok (.invokevirtual 94, 3) := by decide +kernel
theorem dX4_swap_106 : decode cX4_swap 106 = .ok (.lconst 0, 1) := by decide +kernel
theorem dX4_swap_107 : decode cX4_swap 107 = .ok (.lcmp, 1) := by decide +kernel
theorem dX4_swap_108 : decode cX4_swap 108 = .ok (.ifCond .gt 16, 3) := by decide +kernel
theorem dX4_swap_111 : decode cX4_swap 111 = .ok (.aload_n 0, 1) := by decide +kernel
theorem dX4_swap_112 : decode cX4_swap 112 = .ok (.iload 7, 2) := by decide +kernel
theorem dX4_swap_114 : decode cX4_swap 114 = .ok (.iload 5, 2) := by decide +kernel
theorem dX4_swap_116 : decode cX4_swap 116 = .ok (.invokevirtual 94, 3) := by decide +kernel
theorem dX4_swap_119 : decode cX4_swap 119 = .ok (.lconst 0, 1) := by decide +kernel
theorem dX4_swap_120 : decode cX4_swap 120 = .ok (.lcmp, 1) := by decide +kernel
theorem dX4_swap_121 : decode cX4_swap 121 = .ok (.ifCond .ne 7, 3) := by decide +kernel
theorem dX4_swap_124 : decode cX4_swap 124 = .ok (.iconst 1, 1) := by decide +kernel
theorem dX4_swap_125 : decode cX4_swap 125 = .ok (.goto 4, 3) := by decide +kernel
theorem dX4_swap_128 : decode cX4_swap 128 = .ok (.iconst 0, 1) := by decide +kernel
theorem dX4_swap_129 : decode cX4_swap 129 = .ok (.istore 6, 2) := by decide +kernel
theorem dX4_swap_131 : decode cX4_swap 131 = .ok (.iinc 7 1, 3) := by decide +kernel
theorem dX4_swap_134 : decode cX4_swap 134 = .ok (.goto (-47), 3) := by decide +kernel
theorem dX4_swap_137 : decode cX4_swap 137 = .ok (.aload_n 0, 1) := by decide +kernel
theorem dX4_swap_138 : decode cX4_swap 138 = .ok (.getfield 35, 3) := by decide +kernel
theorem dX4_swap_141 : decode cX4_swap 141 = .ok (.iload_n 1, 1) := by decide +kernel
theorem dX4_swap_142 : decode cX4_swap 142 = .ok (.iload 6, 2) := by decide +kernel
theorem dX4_swap_144 : decode cX4_swap 144 = .ok (.ifCond .eq 7, 3) := by decide +kernel
theorem dX4_swap_147 : decode cX4_swap 147 = .ok (.iconst 0, 1) := by decide +kernel
theorem dX4_swap_148 : decode cX4_swap 148 = .ok (.goto 4, 3) := by decide +kernel
theorem dX4_swap_151 : decode cX4_swap 151 = .ok (.iconst 1, 1) := by decide +kernel
theorem dX4_swap_152 : decode cX4_swap 152 = .ok (.iastore, 1) := by decide +kernel
theorem dX4_swap_153 : decode cX4_swap 153 = .ok (.aload_n 0, 1) := by decide +kernel
theorem dX4_swap_154 : decode cX4_swap 154 = .ok (.getfield 35, 3) := by decide +kernel
theorem dX4_swap_157 : decode cX4_swap 157 = .ok (.iload_n 2, 1) := by decide +kernel
theorem dX4_swap_158 : decode cX4_swap 158 = .ok (.iload 6, 2) := by decide +kernel
theorem dX4_swap_160 : decode cX4_swap 160 = .ok (.ifCond .eq 7, 3) := by decide +kernel
theorem dX4_swap_163 : decode cX4_swap 163 = .ok (.iconst 1, 1) := by decide +kernel
theorem dX4_swap_164 : decode cX4_swap 164 = .ok (.goto 4, 3) := by decide +kernel
theorem dX4_swap_167 : decode cX4_swap 167 = .ok (.iconst 0, 1) := by decide +kernel
theorem dX4_swap_168 : decode cX4_swap 168 = .ok (.iastore, 1) := by decide +kernel
theorem dX4_swap_169 : decode cX4_swap 169 = .ok (.iload 6, 2) := by decide +kernel
theorem dX4_swap_171 : decode cX4_swap 171 = .ok (.ireturn, 1) := by decide +kernel
theorem dX4_setArrears_0 : decode cX4_setArrears 0 = .ok (.aload_n 0, 1) := by decide +kernel
theorem dX4_setArrears_1 : decode cX4_setArrears 1 = .ok (.iload_n 1, 1) := by decide +kernel
theorem dX4_setArrears_2 : decode cX4_setArrears 2 = .ok (.invokevirtual 105, 3) := by decide +kernel
theorem dX4_setArrears_5 : decode cX4_setArrears 5 = .ok (.istore_n 3, 1) := by decide +kernel
theorem dX4_setArrears_6 : decode cX4_setArrears 6 = .ok (.aload_n 0, 1) := by decide +kernel
theorem dX4_setArrears_7 : decode cX4_setArrears 7 = .ok (.iload_n 3, 1) := by decide +kernel
theorem dX4_setArrears_8 : decode cX4_setArrears 8 = .ok (.iload_n 2, 1) := by decide +kernel
theorem dX4_setArrears_9 : decode cX4_setArrears 9 = .ok (.iconst 0, 1) := by decide +kernel
theorem dX4_setArrears_10 : decode cX4_setArrears 10 = .ok (.bipush 60, 2) := by decide +kernel
theorem dX4_setArrears_12 : decode cX4_setArrears 12 = .ok (.invokestatic 97, 3) := by decide +kernel
theorem dX4_setArrears_15 : decode cX4_setArrears 15 = .ok (.iload_n 3, 1) := by decide +kernel
theorem dX4_setArrears_16 : decode cX4_setArrears 16 = .ok (.ifCond .eq 17, 3) := by decide +kernel
theorem dX4_setArrears_19 : decode cX4_setArrears 19 = .ok (.aload_n 0, 1) := by decide +kernel
theorem dX4_setArrears_20 : decode cX4_setArrears 20 = .ok (.getfield 35, 3) := by decide +kernel
theorem dX4_setArrears_23 : decode cX4_setArrears 23 = .ok (.iload_n 1, 1) := by decide +kernel
theorem dX4_setArrears_24 : decode cX4_setArrears 24 = .ok (.iaload, 1) := by decide +kernel
theorem dX4_setArrears_25 : decode cX4_setArrears 25 = .ok (.iconst 2, 1) := by decide +kernel
theorem dX4_setArrears_26 : decode cX4_setArrears 26 = .ok (.if_icmp .eq 7, 3) := by decide +kernel
theorem dX4_setArrears_29 : decode cX4_setArrears 29 = .ok (.iconst 1, 1) := by decide +kernel
theorem dX4_setArrears_30 : decode cX4_setArrears 30 = .ok (.goto 4, 3) := by decide +kernel
theorem dX4_setArrears_33 : decode cX4_setArrears 33 = .ok (.iconst 0, 1) := by decide +kernel
theorem dX4_setArrears_34 : decode cX4_setArrears 34 = .ok (.invokevirtual 101, 3) := by decide +kernel
theorem dX4_setArrears_37 : decode cX4_setArrears 37 = .ok (.ifCond .ne 5, 3) := by decide +kernel
theorem dX4_setArrears_40 : decode cX4_setArrears 40 = .ok (.iconst 0, 1) := by decide +kernel
theorem dX4_setArrears_41 : decode cX4_setArrears 41 = .ok (.ireturn, 1) := by decide +kernel
theorem dX4_setArrears_42 : decode cX4_setArrears 42 = .ok (.aload_n 0, 1) := by decide +kernel
theorem dX4_setArrears_43 : decode cX4_setArrears 43 = .ok (.getfield 32, 3) := by decide +kernel
theorem dX4_setArrears_46 : decode cX4_setArrears 46 = .ok (.iload_n 1, 1) := by decide +kernel
theorem dX4_setArrears_47 : decode cX4_setArrears 47 = .ok (.iaload, 1) := by decide +kernel
theorem dX4_setArrears_48 : decode cX4_setArrears 48 = .ok (.istore 4, 2) := by decide +kernel
theorem dX4_setArrears_50 : decode cX4_setArrears 50 = .ok (.aload_n 0, 1) := by decide +kernel
theorem dX4_setArrears_51 : decode cX4_setArrears 51 = .ok (.getfield 32, 3) := by decide +kernel
theorem dX4_setArrears_54 : decode cX4_setArrears 54 = .ok (.iload_n 1, 1) := by decide +kernel
theorem dX4_setArrears_55 : decode cX4_setArrears 55 = .ok (.iload_n 2, 1) := by decide +kernel
theorem dX4_setArrears_56 : decode cX4_setArrears 56 = .ok (.iastore, 1) := by decide +kernel
theorem dX4_setArrears_57 : decode cX4_setArrears 57 = .ok (.iload 4, 2) := by decide +kernel
theorem dX4_setArrears_59 : decode cX4_setArrears 59 = .ok (.ireturn, 1) := by decide +kernel
theorem dX4_setWorth_0 : decode cX4_setWorth 0 = .ok (.aload_n 0, 1) := by decide +kernel
theorem dX4_setWorth_1 : decode cX4_setWorth 1 = .ok (.aload_n 0, 1) := by decide +kernel
theorem dX4_setWorth_2 : decode cX4_setWorth 2 = .ok (.iload_n 1, 1) := by decide +kernel
theorem dX4_setWorth_3 : decode cX4_setWorth 3 = .ok (.invokevirtual 105, 3) := by decide +kernel
theorem dX4_setWorth_6 : decode cX4_setWorth 6 = .ok (.iload_n 2, 1) := by decide +kernel
theorem dX4_setWorth_7 : decode cX4_setWorth 7 = .ok (.iconst 0, 1) := by decide +kernel
theorem dX4_setWorth_8 : decode cX4_setWorth 8 = .ok (.sipush 20000, 3) := by decide +kernel
theorem dX4_setWorth_11 : decode cX4_setWorth 11 = .ok (.invokestatic 97, 3) := by decide +kernel
theorem dX4_setWorth_14 : decode cX4_setWorth 14 = .ok (.iconst 1, 1) := by decide +kernel
theorem dX4_setWorth_15 : decode cX4_setWorth 15 = .ok (.invokevirtual 101, 3) := by decide +kernel
theorem dX4_setWorth_18 : decode cX4_setWorth 18 = .ok (.ifCond .ne 5, 3) := by decide +kernel
theorem dX4_setWorth_21 : decode cX4_setWorth 21 = .ok (.iconst 0, 1) := by decide +kernel
theorem dX4_setWorth_22 : decode cX4_setWorth 22 = .ok (.ireturn, 1) := by decide +kernel
theorem dX4_setWorth_23 : decode cX4_setWorth 23 = .ok (.aload_n 0, 1) := by decide +kernel
theorem dX4_setWorth_24 : decode cX4_setWorth 24 = .ok (.getfield 23, 3) := by decide +kernel
theorem dX4_setWorth_27 : decode cX4_setWorth 27 = .ok (.iload_n 1, 1) := by decide +kernel
theorem dX4_setWorth_28 : decode cX4_setWorth 28 = .ok (.iaload, 1) := by decide +kernel
theorem dX4_setWorth_29 : decode cX4_setWorth 29 = .ok (.istore_n 3, 1) := by decide +kernel
theorem dX4_setWorth_30 : decode cX4_setWorth 30 = .ok (.aload_n 0, 1) := by decide +kernel
theorem dX4_setWorth_31 : decode cX4_setWorth 31 = .ok (.getfield 23, 3) := by decide +kernel
theorem dX4_setWorth_34 : decode cX4_setWorth 34 = .ok (.iload_n 1, 1) := by decide +kernel
theorem dX4_setWorth_35 : decode cX4_setWorth 35 = .ok (.iload_n 2, 1) := by decide +kernel
theorem dX4_setWorth_36 : decode cX4_setWorth 36 = .ok (.iastore, 1) := by decide +kernel
theorem dX4_setWorth_37 : decode cX4_setWorth 37 = .ok (.iload_n 3, 1) := by decide +kernel
theorem dX4_setWorth_38 : decode cX4_setWorth 38 = .ok (.ireturn, 1) := by decide +kernel
theorem dX4_stateOf_0 : decode cX4_stateOf 0 = .ok (.aload_n 0, 1) := by decide +kernel
theorem dX4_stateOf_1 : decode cX4_stateOf 1 = .ok (.aload_n 0, 1) := by decide +kernel
theorem dX4_stateOf_2 : decode cX4_stateOf 2 = .ok (.iload_n 1, 1) := by decide +kernel
theorem dX4_stateOf_3 : decode cX4_stateOf 3 = .ok (.invokevirtual 105, 3) := by decide +kernel
theorem dX4_stateOf_6 : decode cX4_stateOf 6 = .ok (.iconst 1, 1) := by decide +kernel
theorem dX4_stateOf_7 : decode cX4_stateOf 7 = .ok (.iconst 1, 1) := by decide +kernel
theorem dX4_stateOf_8 : decode cX4_stateOf 8 = .ok (.invokevirtual 101, 3) := by decide +kernel
theorem dX4_stateOf_11 : decode cX4_stateOf 11 = .ok (.ifCond .eq 12, 3) := by decide +kernel
theorem dX4_stateOf_14 : decode cX4_stateOf 14 = .ok (.aload_n 0, 1) := by decide +kernel
theorem dX4_stateOf_15 : decode cX4_stateOf 15 = .ok (.getfield 35, 3) := by decide +kernel
theorem dX4_stateOf_18 : decode cX4_stateOf 18 = .ok (.iload_n 1, 1) := by decide +kernel
theorem dX4_stateOf_19 : decode cX4_stateOf 19 = .ok (.iaload, 1) := by decide +kernel
theorem dX4_stateOf_20 : decode cX4_stateOf 20 = .ok (.goto 4, 3) := by decide +kernel
theorem dX4_stateOf_23 : decode cX4_stateOf 23 = .ok (.iconst 0, 1) := by decide +kernel
theorem dX4_stateOf_24 : decode cX4_stateOf 24 = .ok (.ireturn, 1) := by decide +kernel
theorem dX4_counts_0 : decode cX4_counts 0 = .ok (.aload_n 0, 1) := by decide +kernel
theorem dX4_counts_1 : decode cX4_counts 1 = .ok (.aload_n 0, 1) := by decide +kernel
theorem dX4_counts_2 : decode cX4_counts 2 = .ok (.iload_n 1, 1) := by decide +kernel
theorem dX4_counts_3 : decode cX4_counts 3 = .ok (.invokevirtual 105, 3) := by decide +kernel
theorem dX4_counts_6 : decode cX4_counts 6 = .ok (.iconst 1, 1) := by decide +kernel
theorem dX4_counts_7 : decode cX4_counts 7 = .ok (.iconst 1, 1) := by decide +kernel
theorem dX4_counts_8 : decode cX4_counts 8 = .ok (.invokevirtual 101, 3) := by decide +kernel
theorem dX4_counts_11 : decode cX4_counts 11 = .ok (.ifCond .eq 11, 3) := by decide +kernel
theorem dX4_counts_14 : decode cX4_counts 14 = .ok (.aload_n 0, 1) := by decide +kernel
theorem dX4_counts_15 : decode cX4_counts 15 = .ok (.iload_n 1, 1) := by decide +kernel
theorem dX4_counts_16 : decode cX4_counts 16 = .ok (.invokevirtual 73, 3) := by decide +kernel
theorem dX4_counts_19 : decode cX4_counts 19 = .ok (.goto 4, 3) := by decide +kernel
theorem dX4_counts_22 : decode cX4_counts 22 = .ok (.iconst 0, 1) := by decide +kernel
theorem dX4_counts_23 : decode cX4_counts 23 = .ok (.ireturn, 1) := by decide +kernel
theorem dX4_addBond_0 : decode cX4_addBond 0 = .ok (.aload_n 0, 1) := by decide +kernel
theorem dX4_addBond_1 : decode cX4_addBond 1 = .ok (.iload_n 1, 1) := by decide +kernel
theorem dX4_addBond_2 : decode cX4_addBond 2 = .ok (.iconst 1, 1) := by decide +kernel
theorem dX4_addBond_3 : decode cX4_addBond 3 = .ok (.ldc 115, 2) := by decide +kernel
theorem dX4_addBond_5 : decode cX4_addBond 5 = .ok (.invokestatic 97, 3) := by decide +kernel
theorem dX4_addBond_8 : decode cX4_addBond 8 = .ok (.ifCond .eq 22, 3) := by decide +kernel
theorem dX4_addBond_11 : decode cX4_addBond 11 = .ok (.iload_n 2, 1) := by decide +kernel
theorem dX4_addBond_12 : decode cX4_addBond 12 = .ok (.aload_n 0, 1) := by decide +kernel
theorem dX4_addBond_13 : decode cX4_addBond 13 = .ok (.getfield 67, 3) := by decide +kernel
theorem dX4_addBond_16 : decode cX4_addBond 16 = .ok (.if_icmp .le 14, 3) := by decide +kernel
theorem dX4_addBond_19 : decode cX4_addBond 19 = .ok (.iload_n 2, 1) := by decide +kernel
theorem dX4_addBond_20 : decode cX4_addBond 20 = .ok (.sipush 600, 3) := by decide +kernel
theorem dX4_addBond_23 : decode cX4_addBond 23 = .ok (.if_icmp .gt 7, 3) := by decide +kernel
theorem dX4_addBond_26 : decode cX4_addBond 26 = .ok (.iconst 1, 1) := by decide +kernel
theorem dX4_addBond_27 : decode cX4_addBond 27 = .ok (.goto 4, 3) := by decide +kernel
theorem dX4_addBond_30 : decode cX4_addBond 30 = .ok (.iconst 0, 1) := by decide +kernel
theorem dX4_addBond_31 : decode cX4_addBond 31 = .ok (.aload_n 0, 1) := by decide +kernel
theorem dX4_addBond_32 : decode cX4_addBond 32 = .ok (.getfield 57, 3) := by decide +kernel
theorem dX4_addBond_35 : decode cX4_addBond 35 = .ok (.iconst 5, 1) := by decide +kernel
theorem dX4_addBond_36 : decode cX4_addBond 36 = .ok (.if_icmp .ge 7, 3) := by decide +kernel
theorem dX4_addBond_39 : decode cX4_addBond 39 = .ok (.iconst 1, 1) := by decide +kernel
theorem dX4_addBond_40 : decode cX4_addBond 40 = .ok (.goto 4, 3) := by decide +kernel
theorem dX4_addBond_43 : decode cX4_addBond 43 = .ok (.iconst 0, 1) := by decide +kernel
theorem dX4_addBond_44 : decode cX4_addBond 44 = .ok (.iconst 1, 1) := by decide +kernel
theorem dX4_addBond_45 : decode cX4_addBond 45 = .ok (.invokevirtual 101, 3) := by decide +kernel
theorem dX4_addBond_48 : decode cX4_addBond 48 = .ok (.ifCond .ne 5, 3) := by decide +kernel
theorem dX4_addBond_51 : decode cX4_addBond 51 = .ok (.iconst 0, 1) := by decide +kernel
theorem dX4_addBond_52 : decode cX4_addBond 52 = .ok (.ireturn, 1) := by decide +kernel
theorem dX4_addBond_53 : decode cX4_addBond 53 = .ok (.aload_n 0, 1) := by decide +kernel
theorem dX4_addBond_54 : decode cX4_addBond 54 = .ok (.getfield 38, 3) := by decide +kernel
theorem dX4_addBond_57 : decode cX4_addBond 57 = .ok (.aload_n 0, 1) := by decide +kernel
theorem dX4_addBond_58 : decode cX4_addBond 58 = .ok (.getfield 57, 3) := by decide +kernel
theorem dX4_addBond_61 : decode cX4_addBond 61 = .ok (.iload_n 1, 1) := by decide +kernel
theorem dX4_addBond_62 : decode cX4_addBond 62 = .ok (.iastore, 1) := by decide +kernel
theorem dX4_addBond_63 : decode cX4_addBond 63 = .ok (.aload_n 0, 1) := by decide +kernel
theorem dX4_addBond_64 : decode cX4_addBond 64 = .ok (.getfield 41, 3) := by decide +kernel
theorem dX4_addBond_67 : decode cX4_addBond 67 = .ok (.aload_n 0, 1) := by decide +kernel
theorem dX4_addBond_68 : decode cX4_addBond 68 = .ok (.getfield 57, 3) := by decide +kernel
theorem dX4_addBond_71 : decode cX4_addBond 71 = .ok (.iload_n 2, 1) := by decide +kernel
theorem dX4_addBond_72 : decode cX4_addBond 72 = .ok (.iastore, 1) := by decide +kernel
theorem dX4_addBond_73 : decode cX4_addBond 73 = .ok (.aload_n 0, 1) := by decide +kernel
theorem dX4_addBond_74 : decode cX4_addBond 74 = .ok (.dup, 1) := by decide +kernel
theorem dX4_addBond_75 : decode cX4_addBond 75 = .ok (.getfield 57, 3) := by decide +kernel
theorem dX4_addBond_78 : decode cX4_addBond 78 = .ok (.iconst 1, 1) := by decide +kernel
theorem dX4_addBond_79 : decode cX4_addBond 79 = .ok (.iadd, 1) := by decide +kernel
theorem dX4_addBond_80 : decode cX4_addBond 80 = .ok (.putfield 57, 3) := by decide +kernel
theorem dX4_addBond_83 : decode cX4_addBond 83 = .ok (.aload_n 0, 1) := by decide +kernel
theorem dX4_addBond_84 : decode cX4_addBond 84 = .ok (.dup, 1) := by decide +kernel
theorem dX4_addBond_85 : decode cX4_addBond 85 = .ok (.getfield 64, 3) := by decide +kernel
theorem dX4_addBond_88 : decode cX4_addBond 88 = .ok (.iload_n 1, 1) := by decide +kernel
theorem dX4_addBond_89 : decode cX4_addBond 89 = .ok (.iadd, 1) := by decide +kernel
theorem dX4_addBond_90 : decode cX4_addBond 90 = .ok (.putfield 64, 3) := by decide +kernel
theorem dX4_addBond_93 : decode cX4_addBond 93 = .ok (.aload_n 0, 1) := by decide +kernel
theorem dX4_addBond_94 : decode cX4_addBond 94 = .ok (.getfield 57, 3) := by decide +kernel
theorem dX4_addBond_97 : decode cX4_addBond 97 = .ok (.iconst 1, 1) := by decide +kernel
theorem dX4_addBond_98 : decode cX4_addBond 98 = .ok (.isub, 1) := by decide +kernel
theorem dX4_addBond_99 : decode cX4_addBond 99 = .ok (.ireturn, 1) := by decide +kernel
theorem dX4_takeCash_0 : decode cX4_takeCash 0 = .ok (.aload_n 0, 1) := by decide +kernel
theorem dX4_takeCash_1 : decode cX4_takeCash 1 = .ok (.iload_n 1, 1) := by decide +kernel
theorem dX4_takeCash_2 : decode cX4_takeCash 2 = .ok (.iconst 1, 1) := by decide +kernel
theorem dX4_takeCash_3 : decode cX4_takeCash 3 = .ok (.ldc 116, 2) := by decide +kernel
theorem dX4_takeCash_5 : decode cX4_takeCash 5 = .ok (.invokestatic 97, 3) := by decide +kernel
theorem dX4_takeCash_8 : decode cX4_takeCash 8 = .ok (.aload_n 0, 1) := by decide +kernel
theorem dX4_takeCash_9 : decode cX4_takeCash 9 = .ok (.getfield 64, 3) := by decide +kernel
theorem dX4_takeCash_12 : decode cX4_takeCash 12 = .ok (.iload_n 1, 1) := by decide +kernel
theorem dX4_takeCash_13 : decode cX4_takeCash 13 = .ok (.if_icmp .lt 7, 3) := by decide +kernel
theorem dX4_takeCash_16 : decode cX4_takeCash 16 = .ok (.iconst 1, 1) := by decide +kernel
theorem dX4_takeCash_17 : decode cX4_takeCash 17 = .ok (.goto 4, 3) := by decide +kernel
theorem dX4_takeCash_20 : decode cX4_takeCash 20 = .ok (.iconst 0, 1) := by decide +kernel
theorem dX4_takeCash_21 : decode cX4_takeCash 21 = .ok (.iconst 1, 1) := by decide +kernel
theorem dX4_takeCash_22 : decode cX4_takeCash 22 = .ok (.invokevirtual 101, 3) := by decide +kernel
theorem dX4_takeCash_25 : decode cX4_takeCash 25 = .ok (.ifCond .ne 5, 3) := by decide +kernel
theorem dX4_takeCash_28 : decode cX4_takeCash 28 = .ok (.iconst 0, 1) := by decide +kernel
theorem dX4_takeCash_29 : decode cX4_takeCash 29 = .ok (.ireturn, 1) := by decide +kernel
theorem dX4_takeCash_30 : decode cX4_takeCash 30 = .ok (.aload_n 0, 1) := by decide +kernel
theorem dX4_takeCash_31 : decode cX4_takeCash 31 = .ok (.dup, 1) := by decide +kernel
theorem dX4_takeCash_32 : decode cX4_takeCash 32 = .ok (.getfield 64, 3) := by decide +kernel
theorem dX4_takeCash_35 : decode cX4_takeCash 35 = .ok (.iload_n 1, 1) := by decide +kernel
theorem dX4_takeCash_36 : decode cX4_takeCash 36 = .ok (.isub, 1) := by decide +kernel
theorem dX4_takeCash_37 : decode cX4_takeCash 37 = .ok (.putfield 64, 3) := by decide +kernel
theorem dX4_takeCash_40 : decode cX4_takeCash 40 = .ok (.aload_n 0, 1) := by decide +kernel
theorem dX4_takeCash_41 : decode cX4_takeCash 41 = .ok (.getfield 64, 3) := by decide +kernel
theorem dX4_takeCash_44 : decode cX4_takeCash 44 = .ok (.ireturn, 1) := by decide +kernel
theorem dX4_setRules_0 : decode cX4_setRules 0 = .ok (.aload_n 0, 1) := by decide +kernel
theorem dX4_setRules_1 : decode cX4_setRules 1 = .ok (.iload_n 1, 1) := by decide +kernel
theorem dX4_setRules_2 : decode cX4_setRules 2 = .ok (.iconst 1, 1) := by decide +kernel
theorem dX4_setRules_3 : decode cX4_setRules 3 = .ok (.iconst 5, 1) := by decide +kernel
theorem dX4_setRules_4 : decode cX4_setRules 4 = .ok (.invokestatic 97, 3) := by decide +kernel
theorem dX4_setRules_7 : decode cX4_setRules 7 = .ok (.ifCond .eq 27, 3) := by decide +kernel
theorem dX4_setRules_10 : decode cX4_setRules 10 = .ok (.iload_n 2, 1) := by decide +kernel
theorem dX4_setRules_11 : decode cX4_setRules 11 = .ok (.iconst 0, 1) := by decide +kernel
theorem dX4_setRules_12 : decode cX4_setRules 12 = .ok (.bipush 50, 2) := by decide +kernel
theorem dX4_setRules_14 : decode cX4_setRules 14 = .ok (.invokestatic 97, 3) := by decide +kernel
theorem dX4_setRules_17 : decode cX4_setRules 17 = .ok (.ifCond .eq 17, 3) := by decide +kernel
theorem dX4_setRules_20 : decode cX4_setRules 20 = .ok (.iload_n 3, 1) := by decide +kernel
theorem dX4_setRules_21 : decode cX4_setRules 21 = .ok (.iconst 0, 1) := by decide +kernel
theorem dX4_setRules_22 : decode cX4_setRules 22 = .ok (.bipush 20, 2) := by decide +kernel
theorem dX4_setRules_24 : decode cX4_setRules 24 = .ok (.invokestatic 97, 3) := by decide +kernel
theorem dX4_setRules_27 : decode cX4_setRules 27 = .ok (.ifCond .eq 7, 3) := by decide +kernel
theorem dX4_setRules_30 : decode cX4_setRules 30 = .ok (.iconst 1, 1) := by decide +kernel
theorem dX4_setRules_31 : decode cX4_setRules 31 = .ok (.goto 4, 3) := by decide +kernel
theorem dX4_setRules_34 : decode cX4_setRules 34 = .ok (.iconst 0, 1) := by decide +kernel
theorem dX4_setRules_35 : decode cX4_setRules 35 = .ok (.iconst 1, 1) := by decide +kernel
theorem dX4_setRules_36 : decode cX4_setRules 36 = .ok (.iconst 1, 1) := by decide +kernel
theorem dX4_setRules_37 : decode cX4_setRules 37 = .ok (.invokevirtual 101, 3) := by decide +kernel
theorem dX4_setRules_40 : decode cX4_setRules 40 = .ok (.ifCond .eq 18, 3) := by decide +kernel
theorem dX4_setRules_43 : decode cX4_setRules 43 = .ok (.aload_n 0, 1) := by decide +kernel
theorem dX4_setRules_44 : decode cX4_setRules 44 = .ok (.iload_n 1, 1) := by decide +kernel
theorem dX4_setRules_45 : decode cX4_setRules 45 = .ok (.putfield 7, 3) := by decide +kernel
theorem dX4_setRules_48 : decode cX4_setRules 48 = .ok (.aload_n 0, 1) := by decide +kernel
theorem dX4_setRules_49 : decode cX4_setRules 49 = .ok (.iload_n 2, 1) := by decide +kernel
theorem dX4_setRules_50 : decode cX4_setRules 50 = .ok (.putfield 13, 3) := by decide +kernel
theorem dX4_setRules_53 : decode cX4_setRules 53 = .ok (.aload_n 0, 1) := by decide +kernel
theorem dX4_setRules_54 : decode cX4_setRules 54 = .ok (.iload_n 3, 1) := by decide +kernel
theorem dX4_setRules_55 : decode cX4_setRules 55 = .ok (.putfield 16, 3) := by decide +kernel
theorem dX4_setRules_58 : decode cX4_setRules 58 = .ok (.return_, 1) := by decide +kernel
theorem dX4_bondState_0 : decode cX4_bondState 0 = .ok (.aload_n 0, 1) := by decide +kernel
theorem dX4_bondState_1 : decode cX4_bondState 1 = .ok (.aload_n 0, 1) := by decide +kernel
theorem dX4_bondState_2 : decode cX4_bondState 2 = .ok (.iload_n 1, 1) := by decide +kernel
theorem dX4_bondState_3 : decode cX4_bondState 3 = .ok (.invokevirtual 117, 3) := by decide +kernel
theorem dX4_bondState_6 : decode cX4_bondState 6 = .ok (.iconst 1, 1) := by decide +kernel
theorem dX4_bondState_7 : decode cX4_bondState 7 = .ok (.iconst 1, 1) := by decide +kernel
theorem dX4_bondState_8 : decode cX4_bondState 8 = .ok (.invokevirtual 101, 3) := by decide +kernel
theorem dX4_bondState_11 : decode cX4_bondState 11 = .ok (.ifCond .eq 12, 3) := by decide +kernel
theorem dX4_bondState_14 : decode cX4_bondState 14 = .ok (.aload_n 0, 1) := by decide +kernel
theorem dX4_bondState_15 : decode cX4_bondState 15 = .ok (.getfield 44, 3) := by decide +kernel
theorem dX4_bondState_18 : decode cX4_bondState 18 = .ok (.iload_n 1, 1) := by decide +kernel
theorem dX4_bondState_19 : decode cX4_bondState 19 = .ok (.iaload, 1) := by decide +kernel
theorem dX4_bondState_20 : decode cX4_bondState 20 = .ok (.goto 4, 3) := by decide +kernel
theorem dX4_bondState_23 : decode cX4_bondState 23 = .ok (.iconst 0, 1) := by decide +kernel
theorem dX4_bondState_24 : decode cX4_bondState 24 = .ok (.ireturn, 1) := by decide +kernel
theorem dX4_dueOf_0 : decode cX4_dueOf 0 = .ok (.aload_n 0, 1) := by decide +kernel
theorem dX4_dueOf_1 : decode cX4_dueOf 1 = .ok (.aload_n 0, 1) := by decide +kernel
theorem dX4_dueOf_2 : decode cX4_dueOf 2 = .ok (.iload_n 1, 1) := by decide +kernel
theorem dX4_dueOf_3 : decode cX4_dueOf 3 = .ok (.invokevirtual 117, 3) := by decide +kernel
theorem dX4_dueOf_6 : decode cX4_dueOf 6 = .ok (.iconst 1, 1) := by decide +kernel
theorem dX4_dueOf_7 : decode cX4_dueOf 7 = .ok (.iconst 1, 1) := by decide +kernel
theorem dX4_dueOf_8 : decode cX4_dueOf 8 = .ok (.invokevirtual 101, 3) := by decide +kernel
theorem dX4_dueOf_11 : decode cX4_dueOf 11 = .ok (.ifCond .eq 12, 3) := by decide +kernel
theorem dX4_dueOf_14 : decode cX4_dueOf 14 = .ok (.aload_n 0, 1) := by decide +kernel
theorem dX4_dueOf_15 : decode cX4_dueOf 15 = .ok (.getfield 41, 3) := by decide +kernel
theorem dX4_dueOf_18 : decode cX4_dueOf 18 = .ok (.iload_n 1, 1) := by decide +kernel
theorem dX4_dueOf_19 : decode cX4_dueOf 19 = .ok (.iaload, 1) := by decide +kernel
theorem dX4_dueOf_20 : decode cX4_dueOf 20 = .ok (.goto 4, 3) := by decide +kernel
theorem dX4_dueOf_23 : decode cX4_dueOf 23 = .ok (.iconst 0, 1) := by decide +kernel
theorem dX4_dueOf_24 : decode cX4_dueOf 24 = .ok (.ireturn, 1) := by decide +kernel
theorem dX4_cash_0 : decode cX4_cash 0 = .ok (.aload_n 0, 1) := by decide +kernel
theorem dX4_cash_1 : decode cX4_cash 1 = .ok (.iconst 0, 1) := by decide +kernel
theorem dX4_cash_2 : decode cX4_cash 2 = .ok (.putfield 51, 3) := by decide +kernel
theorem dX4_cash_5 : decode cX4_cash 5 = .ok (.aload_n 0, 1) := by decide +kernel
theorem dX4_cash_6 : decode cX4_cash 6 = .ok (.getfield 64, 3) := by decide +kernel
theorem dX4_cash_9 : decode cX4_cash 9 = .ok (.ireturn, 1) := by decide +kernel
theorem dX4_debt_0 : decode cX4_debt 0 = .ok (.aload_n 0, 1) := by decide +kernel
theorem dX4_debt_1 : decode cX4_debt 1 = .ok (.iconst 0, 1) := by decide +kernel
theorem dX4_debt_2 : decode cX4_debt 2 = .ok (.putfield 51, 3) := by decide +kernel
theorem dX4_debt_5 : decode cX4_debt 5 = .ok (.aload_n 0, 1) := by decide +kernel
theorem dX4_debt_6 : decode cX4_debt 6 = .ok (.invokevirtual 60, 3) := by decide +kernel
theorem dX4_debt_9 : decode cX4_debt 9 = .ok (.ireturn, 1) := by decide +kernel
theorem dX4_substitutes_0 : decode cX4_substitutes 0 = .ok (.aload_n 0, 1) := by decide +kernel
theorem dX4_substitutes_1 : decode cX4_substitutes 1 = .ok (.iconst 0, 1) := by decide +kernel
theorem dX4_substitutes_2 : decode cX4_substitutes 2 = .ok (.putfield 51, 3) := by decide +kernel
theorem dX4_substitutes_5 : decode cX4_substitutes 5 = .ok (.aload_n 0, 1) := by decide +kernel
theorem dX4_substitutes_6 : decode cX4_substitutes 6 = .ok (.invokevirtual 70, 3) := by decide +kernel
theorem dX4_substitutes_9 : decode cX4_substitutes 9 = .ok (.ireturn, 1) := by decide +kernel
theorem dX4_lives_0 : decode cX4_lives 0 = .ok (.aload_n 0, 1) := by decide +kernel
theorem dX4_lives_1 : decode cX4_lives 1 = .ok (.dup, 1) := by decide +kernel
theorem dX4_lives_2 : decode cX4_lives 2 = .ok (.getfield 67, 3) := by decide +kernel
theorem dX4_lives_5 : decode cX4_lives 5 = .ok (.iconst 1, 1) := by decide +kernel
theorem dX4_lives_6 : decode cX4_lives 6 = .ok (.iadd, 1) := by decide +kernel
theorem dX4_lives_7 : decode cX4_lives 7 = .ok (.putfield 67, 3) := by decide +kernel
theorem dX4_lives_10 : decode cX4_lives 10 = .ok (.iconst 0, 1) := by decide +kernel
theorem dX4_lives_11 : decode cX4_lives 11 = .ok (.istore_n 1, 1) := by decide +kernel
theorem dX4_lives_12 : decode cX4_lives 12 = .ok (.iload_n 1, 1) := by decide +kernel
theorem dX4_lives_13 : decode cX4_lives 13 = .ok (.aload_n 0, 1) := by decide +kernel
theorem dX4_lives_14 : decode cX4_lives 14 = .ok (.getfield 54, 3) := by decide +kernel
theorem dX4_lives_17 : decode cX4_lives 17 = .ok (.if_icmp .ge 63, 3) := by decide +kernel
theorem dX4_lives_20 : decode cX4_lives 20 = .ok (.aload_n 0, 1) := by decide +kernel
theorem dX4_lives_21 : decode cX4_lives 21 = .ok (.getfield 35, 3) := by decide +kernel
theorem dX4_lives_24 : decode cX4_lives 24 = .ok (.iload_n 1, 1) := by decide +kernel
theorem dX4_lives_25 : decode cX4_lives 25 = .ok (.iaload, 1) := by decide +kernel
theorem dX4_lives_26 : decode cX4_lives 26 = .ok (.iconst 1, 1) := by decide +kernel
theorem dX4_lives_27 : decode cX4_lives 27 = .ok (.if_icmp .ne 47, 3) := by decide +kernel
theorem dX4_lives_30 : decode cX4_lives 30 = .ok (.aload_n 0, 1) := by decide +kernel
theorem dX4_lives_31 : decode cX4_lives 31 = .ok (.getfield 29, 3) := by decide +kernel
theorem dX4_lives_34 : decode cX4_lives 34 = .ok (.iload_n 1, 1) := by decide +kernel
theorem dX4_lives_35 : decode cX4_lives 35 = .ok (.iaload, 1) := by decide +kernel
theorem dX4_lives_36 : decode cX4_lives 36 = .ok (.aload_n 0, 1) := by decide +kernel
theorem dX4_lives_37 : decode cX4_lives 37 = .ok (.getfield 67, 3) := by decide +kernel
theorem dX4_lives_40 : decode cX4_lives 40 = .ok (.if_icmp .gt 34, 3) := by decide +kernel
theorem dX4_lives_43 : decode cX4_lives 43 = .ok (.aload_n 0, 1) := by decide +kernel
theorem dX4_lives_44 : decode cX4_lives 44 = .ok (.getfield 32, 3) := by decide +kernel
theorem dX4_lives_47 : decode cX4_lives 47 = .ok (.iload_n 1, 1) := by decide +kernel
theorem dX4_lives_48 : decode cX4_lives 48 = .ok (.iaload, 1) := by decide +kernel
theorem dX4_lives_49 : decode cX4_lives 49 = .ok (.ifCond .ne 25, 3) := by decide +kernel
theorem dX4_lives_52 : decode cX4_lives 52 = .ok (.aload_n 0, 1) := by decide +kernel
theorem dX4_lives_53 : decode cX4_lives 53 = .ok (.getfield 35, 3) := by decide +kernel
theorem dX4_lives_56 : decode cX4_lives 56 = .ok (.iload_n 1, 1) := by decide +kernel
theorem dX4_lives_57 : decode cX4_lives 57 = .ok (.iconst 2, 1) := by decide +kernel
theorem dX4_lives_58 : decode cX4_lives 58 = .ok (.iastore, 1) := by decide +kernel
theorem dX4_lives_59 : decode cX4_lives 59 = .ok (.aload_n 0, 1) := by decide +kernel
theorem dX4_lives_60 : decode cX4_lives 60 = .ok (.dup, 1) := by decide +kernel
theorem dX4_lives_61 : decode cX4_lives 61 = .ok (.getfield 64, 3) := by decide +kernel
theorem dX4_lives_64 : decode cX4_lives 64 = .ok (.aload_n 0, 1) := by decide +kernel
theorem dX4_lives_65 : decode cX4_lives 65 = .ok (.getfield 19, 3) := by decide +kernel
theorem dX4_lives_68 : decode cX4_lives 68 = .ok (.iload_n 1, 1) := by decide +kernel
theorem dX4_lives_69 : decode cX4_lives 69 = .ok (.iaload, 1) := by decide +kernel
theorem dX4_lives_70 : decode cX4_lives 70 = .ok (.iadd, 1) := by decide +kernel
theorem dX4_lives_71 : decode cX4_lives 71 = .ok (.putfield 64, 3) := by decide +kernel
theorem dX4_lives_74 : decode cX4_lives 74 = .ok (.iinc 1 1, 3) := by decide +kernel
theorem dX4_lives_77 : decode cX4_lives 77 = .ok (.goto (-65), 3) := by decide +kernel
theorem dX4_lives_80 : decode cX4_lives 80 = .ok (.iconst 0, 1) := by decide +kernel
theorem dX4_lives_81 : decode cX4_lives 81 = .ok (.istore_n 1, 1) := by decide +kernel
theorem dX4_lives_82 : decode cX4_lives 82 = .ok (.iload_n 1, 1) := by decide +kernel
theorem dX4_lives_83 : decode cX4_lives 83 = .ok (.aload_n 0, 1) := by decide +kernel
theorem dX4_lives_84 : decode cX4_lives 84 = .ok (.getfield 57, 3) := by decide +kernel
theorem dX4_lives_87 : decode cX4_lives 87 = .ok (.if_icmp .ge 108, 3) := by decide +kernel
theorem dX4_lives_90 : decode cX4_lives 90 = .ok (.aload_n 0, 1) := by decide +kernel
theorem dX4_lives_91 : decode cX4_lives 91 = .ok (.getfield 44, 3) := by decide +kernel
theorem dX4_lives_94 : decode cX4_lives 94 = .ok (.iload_n 1, 1) := by decide +kernel
theorem dX4_lives_95 : decode cX4_lives 95 = .ok (.iaload, 1) := by decide +kernel
theorem dX4_lives_96 : decode cX4_lives 96 = .ok (.ifCond .ne 93, 3) := by decide +kernel
theorem dX4_lives_99 : decode cX4_lives 99 = .ok (.aload_n 0, 1) := by decide +kernel
theorem dX4_lives_100 : decode cX4_lives 100 = .ok (.getfield 41, 3) := by decide +kernel
theorem dX4_lives_103 : decode cX4_lives 103 = .ok (.iload_n 1, 1) := by decide +kernel
theorem dX4_lives_104 : decode cX4_lives 104 = .ok (.iaload, 1) := by decide +kernel
theorem dX4_lives_105 : decode cX4_lives 105 = .ok (.aload_n 0, 1) := by decide +kernel
theorem dX4_lives_106 : decode cX4_lives 106 = .ok (.getfield 67, 3) := by decide +kernel
theorem dX4_lives_109 : decode cX4_lives 109 = .ok (.if_icmp .gt 80, 3) := by decide +kernel
theorem dX4_lives_112 : decode cX4_lives 112 = .ok (.aload_n 0, 1) := by decide +kernel
theorem dX4_lives_113 : decode cX4_lives 113 = .ok (.getfield 64, 3) := by decide +kernel
theorem dX4_lives_116 : decode cX4_lives 116 = .ok (.aload_n 0, 1) := by decide +kernel
theorem dX4_lives_117 : decode cX4_lives 117 = .ok (.getfield 38, 3) := by decide +kernel
theorem dX4_lives_120 : decode cX4_lives 120 = .ok (.iload_n 1, 1) := by decide +kernel
theorem dX4_lives_121 : decode cX4_lives 121 = .ok (.iaload, 1) := by decide +kernel
theorem dX4_lives_122 : decode cX4_lives 122 = .ok (.if_icmp .lt 28, 3) := by decide +kernel
theorem dX4_lives_125 : decode cX4_lives 125 = .ok (.aload_n 0, 1) := by decide +kernel
theorem dX4_lives_126 : decode cX4_lives 126 = .ok (.dup, 1) := by decide +kernel
theorem dX4_lives_127 : decode cX4_lives 127 = .ok (.getfield 64, 3) := by decide +kernel
theorem dX4_lives_130 : decode cX4_lives 130 = .ok (.aload_n 0, 1) := by decide +kernel
theorem dX4_lives_131 : decode cX4_lives 131 = .ok (.getfield 38, 3) := by decide +kernel
theorem dX4_lives_134 : decode cX4_lives 134 = .ok (.iload_n 1, 1) := by decide +kernel
theorem dX4_lives_135 : decode cX4_lives 135 = .ok (.iaload, 1) := by decide +kernel
theorem dX4_lives_136 : decode cX4_lives 136 = .ok (.isub, 1) := by decide +kernel
theorem dX4_lives_137 : decode cX4_lives 137 = .ok (.putfield 64, 3) := by decide +kernel
theorem dX4_lives_140 : decode cX4_lives 140 = .ok (.aload_n 0, 1) := by decide +kernel
theorem dX4_lives_141 : decode cX4_lives 141 = .ok (.getfield 44, 3) := by decide +kernel
theorem dX4_lives_144 : decode cX4_lives 144 = .ok (.iload_n 1, 1) := by decide +kernel
theorem dX4_lives_145 : decode cX4_lives 145 = .ok (.iconst 2, 1) := by decide +kernel
theorem dX4_lives_146 : decode cX4_lives 146 = .ok (.iastore, 1) := by decide +kernel
theorem dX4_lives_147 : decode cX4_lives 147 = .ok (.goto 42, 3) := by decide +kernel
theorem dX4_lives_150 : decode cX4_lives 150 = .ok (.aload_n 0, 1) := by decide +kernel
theorem dX4_lives_151 : decode cX4_lives 151 = .ok (.getfield 47, 3) := by decide +kernel
theorem dX4_lives_154 : decode cX4_lives 154 = .ok (.iload_n 1, 1) := by decide +kernel
theorem dX4_lives_155 : decode cX4_lives 155 = .ok (.baload, 1) := by decide +kernel
theorem dX4_lives_156 : decode cX4_lives 156 = .ok (.ifCond .ne 26, 3) := by decide +kernel
theorem dX4_lives_159 : decode cX4_lives 159 = .ok (.aload_n 0, 1) := by decide +kernel
theorem dX4_lives_160 : decode cX4_lives 160 = .ok (.getfield 47, 3) := by decide +kernel
theorem dX4_lives_163 : decode cX4_lives 163 = .ok (.iload_n 1, 1) := by decide +kernel
theorem dX4_lives_164 : decode cX4_lives 164 = .ok (.iconst 1, 1) := by decide +kernel
theorem dX4_lives_165 : decode cX4_lives 165 = .ok (.bastore, 1) := by decide +kernel
theorem dX4_lives_166 : decode cX4_lives 166 = .ok (.aload_n 0, 1) := by decide +kernel
theorem dX4_lives_167 : decode cX4_lives 167 = .ok (.getfield 41, 3) := by decide +kernel
theorem dX4_lives_170 : decode cX4_lives 170 = .ok (.iload_n 1, 1) := by decide +kernel
theorem dX4_lives_171 : decode cX4_lives 171 = .ok (.aload_n 0, 1) := by decide +kernel
theorem dX4_lives_172 : decode cX4_lives 172 = .ok (.getfield 67, 3) := by decide +kernel
theorem dX4_lives_175 : decode cX4_lives 175 = .ok (.bipush 12, 2) := by decide +kernel
theorem dX4_lives_177 : decode cX4_lives 177 = .ok (.iadd, 1) := by decide +kernel
theorem dX4_lives_178 : decode cX4_lives 178 = .ok (.iastore, 1) := by decide +kernel
theorem dX4_lives_179 : decode cX4_lives 179 = .ok (.goto 10, 3) := by decide +kernel
theorem dX4_lives_182 : decode cX4_lives 182 = .ok (.aload_n 0, 1) := by decide +kernel
theorem dX4_lives_183 : decode cX4_lives 183 = .ok (.getfield 44, 3) := by decide +kernel
theorem dX4_lives_186 : decode cX4_lives 186 = .ok (.iload_n 1, 1) := by decide +kernel
theorem dX4_lives_187 : decode cX4_lives 187 = .ok (.iconst 3, 1) := by decide +kernel
theorem dX4_lives_188 : decode cX4_lives 188 = .ok (.iastore, 1) := by decide +kernel
theorem dX4_lives_189 : decode cX4_lives 189 = .ok (.iinc 1 1, 3) := by decide +kernel
theorem dX4_lives_192 : decode cX4_lives 192 = .ok (.goto (-110), 3) := by decide +kernel
theorem dX4_lives_195 : decode cX4_lives 195 = .ok (.return_, 1) := by decide +kernel
theorem dX4_pass_0 : decode cX4_pass 0 = .ok (.aload_n 0, 1) := by decide +kernel
theorem dX4_pass_1 : decode cX4_pass 1 = .ok (.iload_n 1, 1) := by decide +kernel
theorem dX4_pass_2 : decode cX4_pass 2 = .ok (.iconst 1, 1) := by decide +kernel
theorem dX4_pass_3 : decode cX4_pass 3 = .ok (.bipush 24, 2) := by decide +kernel
theorem dX4_pass_5 : decode cX4_pass 5 = .ok (.invokestatic 97, 3) := by decide +kernel
theorem dX4_pass_8 : decode cX4_pass 8 = .ok (.iconst 1, 1) := by decide +kernel
theorem dX4_pass_9 : decode cX4_pass 9 = .ok (.iconst 1, 1) := by decide +kernel
theorem dX4_pass_10 : decode cX4_pass 10 = .ok (.invokevirtual 101, 3) := by decide +kernel
theorem dX4_pass_13 : decode cX4_pass 13 = .ok (.ifCond .ne 5, 3) := by decide +kernel
theorem dX4_pass_16 : decode cX4_pass 16 = .ok (.iconst 0, 1) := by decide +kernel
theorem dX4_pass_17 : decode cX4_pass 17 = .ok (.ireturn, 1) := by decide +kernel
theorem dX4_pass_18 : decode cX4_pass 18 = .ok (.iconst 0, 1) := by decide +kernel
theorem dX4_pass_19 : decode cX4_pass 19 = .ok (.istore_n 2, 1) := by decide +kernel
theorem dX4_pass_20 : decode cX4_pass 20 = .ok (.iload_n 2, 1) := by decide +kernel
theorem dX4_pass_21 : decode cX4_pass 21 = .ok (.iload_n 1, 1) := by decide +kernel
theorem dX4_pass_22 : decode cX4_pass 22 = .ok (.if_icmp .ge 13, 3) := by decide +kernel
theorem dX4_pass_25 : decode cX4_pass 25 = .ok (.aload_n 0, 1) := by decide +kernel
theorem dX4_pass_26 : decode cX4_pass 26 = .ok (.invokevirtual 120, 3) := by decide +kernel
theorem dX4_pass_29 : decode cX4_pass 29 = .ok (.iinc 2 1, 3) := by decide +kernel
theorem dX4_pass_32 : decode cX4_pass 32 = .ok (.goto (-12), 3) := by decide +kernel
theorem dX4_pass_35 : decode cX4_pass 35 = .ok (.aload_n 0, 1) := by decide +kernel
theorem dX4_pass_36 : decode cX4_pass 36 = .ok (.getfield 67, 3) := by decide +kernel
theorem dX4_pass_39 : decode cX4_pass 39 = .ok (.ireturn, 1) := by decide +kernel
theorem dX4_holds_0 : decode cX4_holds 0 = .ok (.aload_n 0, 1) := by decide +kernel
theorem dX4_holds_1 : decode cX4_holds 1 = .ok (.iload_n 1, 1) := by decide +kernel
theorem dX4_holds_2 : decode cX4_holds 2 = .ok (.iconst 0, 1) := by decide +kernel
theorem dX4_holds_3 : decode cX4_holds 3 = .ok (.iconst 2, 1) := by decide +kernel
theorem dX4_holds_4 : decode cX4_holds 4 = .ok (.invokestatic 97, 3) := by decide +kernel
theorem dX4_holds_7 : decode cX4_holds 7 = .ok (.iconst 1, 1) := by decide +kernel
theorem dX4_holds_8 : decode cX4_holds 8 = .ok (.iconst 1, 1) := by decide +kernel
theorem dX4_holds_9 : decode cX4_holds 9 = .ok (.invokevirtual 101, 3) := by decide +kernel
theorem dX4_holds_12 : decode cX4_holds 12 = .ok (.ifCond .eq 21, 3) := by decide +kernel
theorem dX4_holds_15 : decode cX4_holds 15 = .ok (.aload_n 0, 1) := by decide +kernel
theorem dX4_holds_16 : decode cX4_holds 16 = .ok (.iload_n 1, 1) := by decide +kernel
theorem dX4_holds_17 : decode cX4_holds 17 = .ok (.aload_n 0, 1) := by decide +kernel
theorem dX4_holds_18 : decode cX4_holds 18 = .ok (.invokevirtual 109, 3) := by decide +kernel
theorem dX4_holds_21 : decode cX4_holds 21 = .ok (.invokevirtual 94, 3) := by decide +kernel
theorem dX4_holds_24 : decode cX4_holds 24 = .ok (.lconst 0, 1) := by decide +kernel
theorem dX4_holds_25 : decode cX4_holds 25 = .ok (.lcmp, 1) := by decide +kernel
theorem dX4_holds_26 : decode cX4_holds 26 = .ok (.ifCond .ne 7, 3) := by decide +kernel
theorem dX4_holds_29 : decode cX4_holds 29 = .ok (.iconst 1, 1) := by decide +kernel
theorem dX4_holds_30 : decode cX4_holds 30 = .ok (.goto 4, 3) := by decide +kernel
theorem dX4_holds_33 : decode cX4_holds 33 = .ok (.iconst 0, 1) := by decide +kernel
theorem dX4_holds_34 : decode cX4_holds 34 = .ok (.ireturn, 1) := by decide +kernel
theorem dX4_lacking_0 : decode cX4_lacking 0 = .ok (.aload_n 0, 1) := by decide +kernel
theorem dX4_lacking_1 : decode cX4_lacking 1 = .ok (.iload_n 1, 1) := by decide +kernel
theorem dX4_lacking_2 : decode cX4_lacking 2 = .ok (.iconst 0, 1) := by decide +kernel
theorem dX4_lacking_3 : decode cX4_lacking 3 = .ok (.iconst 2, 1) := by decide +kernel
theorem dX4_lacking_4 : decode cX4_lacking 4 = .ok (.invokestatic 97, 3) := by decide +kernel
theorem dX4_lacking_7 : decode cX4_lacking 7 = .ok (.iconst 1, 1) := by decide +kernel
theorem dX4_lacking_8 : decode cX4_lacking 8 = .ok (.iconst 1, 1) := by decide +kernel
theorem dX4_lacking_9 : decode cX4_lacking 9 = .ok (.invokevirtual 101, 3) := by decide +kernel
theorem dX4_lacking_12 : decode cX4_lacking 12 = .ok (.ifCond .eq 15, 3) := by decide +kernel
theorem dX4_lacking_15 : decode cX4_lacking 15 = .ok (.aload_n 0, 1) := by decide +kernel
theorem dX4_lacking_16 : decode cX4_lacking 16 = .ok (.iload_n 1, 1) := by decide +kernel
theorem dX4_lacking_17 : decode cX4_lacking 17 = .ok (.aload_n 0, 1) := by decide +kernel
theorem dX4_lacking_18 : decode cX4_lacking 18 = .ok (.invokevirtual 109, 3) := by decide +kernel
theorem dX4_lacking_21 : decode cX4_lacking 21 = .ok (.invokevirtual 94, 3) := by decide +kernel
theorem dX4_lacking_24 : decode cX4_lacking 24 = .ok (.goto 4, 3) := by decide +kernel
theorem dX4_lacking_27 : decode cX4_lacking 27 = .ok (.lconst 0, 1) := by decide +kernel
theorem dX4_lacking_28 : decode cX4_lacking 28 = .ok (.lreturn, 1) := by decide +kernel
theorem dX4_size_0 : decode cX4_size 0 = .ok (.iconst 0, 1) := by decide +kernel
theorem dX4_size_1 : decode cX4_size 1 = .ok (.istore_n 1, 1) := by decide +kernel
theorem dX4_size_2 : decode cX4_size 2 = .ok (.iconst 0, 1) := by decide +kernel
theorem dX4_size_3 : decode cX4_size 3 = .ok (.istore_n 2, 1) := by decide +kernel
theorem dX4_size_4 : decode cX4_size 4 = .ok (.iload_n 2, 1) := by decide +kernel
theorem dX4_size_5 : decode cX4_size 5 = .ok (.bipush 12, 2) := by decide +kernel
theorem dX4_size_7 : decode cX4_size 7 = .ok (.if_icmp .ge 17, 3) := by decide +kernel
theorem dX4_size_10 : decode cX4_size 10 = .ok (.iload_n 1, 1) := by decide +kernel
theorem dX4_size_11 : decode cX4_size 11 = .ok (.iload_n 0, 1) := by decide +kernel
theorem dX4_size_12 : decode cX4_size 12 = .ok (.iload_n 2, 1) := by decide +kernel
theorem dX4_size_13 : decode cX4_size 13 = .ok (.ishr, 1) := by decide +kernel
theorem dX4_size_14 : decode cX4_size 14 = .ok (.iconst 1, 1) := by decide +kernel
theorem dX4_size_15 : decode cX4_size 15 = .ok (.iand, 1) := by decide +kernel
theorem dX4_size_16 : decode cX4_size 16 = .ok (.iadd, 1) := by decide +kernel
theorem dX4_size_17 : decode cX4_size 17 = .ok (.istore_n 1, 1) := by decide +kernel
theorem dX4_size_18 : decode cX4_size 18 = .ok (.iinc 2 1, 3) := by decide +kernel
theorem dX4_size_21 : decode cX4_size 21 = .ok (.goto (-17), 3) := by decide +kernel
theorem dX4_size_24 : decode cX4_size 24 = .ok (.iload_n 1, 1) := by decide +kernel
theorem dX4_size_25 : decode cX4_size 25 = .ok (.ireturn, 1) := by decide +kernel
theorem dX4_leastToAdd_0 : decode cX4_leastToAdd 0 = .ok (.aload_n 0, 1) := by decide +kernel
theorem dX4_leastToAdd_1 : decode cX4_leastToAdd 1 = .ok (.iconst 0, 1) := by decide +kernel
theorem dX4_leastToAdd_2 : decode cX4_leastToAdd 2 = .ok (.putfield 51, 3) := by decide +kernel
theorem dX4_leastToAdd_5 : decode cX4_leastToAdd 5 = .ok (.iconst 0, 1) := by decide +kernel
theorem dX4_leastToAdd_6 : decode cX4_leastToAdd 6 = .ok (.istore_n 1, 1) := by decide +kernel
theorem dX4_leastToAdd_7 : decode cX4_leastToAdd 7 = .ok (.iconst 0, 1) := by decide +kernel
theorem dX4_leastToAdd_8 : decode cX4_leastToAdd 8 = .ok (.istore_n 2, 1) := by decide +kernel
theorem dX4_leastToAdd_9 : decode cX4_leastToAdd 9 = .ok (.iload_n 2, 1) := by decide +kernel
theorem dX4_leastToAdd_10 : decode cX4_leastToAdd 10 = .ok (.aload_n 0, 1) := by decide +kernel
theorem dX4_leastToAdd_11 : decode cX4_leastToAdd 11 = .ok (.getfield 54, 3) := by decide +kernel
theorem dX4_leastToAdd_14 : decode cX4_leastToAdd 14 = .ok (.if_icmp .ge 28, 3) := by decide +kernel
theorem dX4_leastToAdd_17 : decode cX4_leastToAdd 17 = .ok (.iload_n 1, 1) := by decide +kernel
theorem dX4_leastToAdd_18 : decode cX4_leastToAdd 18 = .ok (.aload_n 0, 1) := by decide +kernel
theorem dX4_leastToAdd_19 : decode cX4_leastToAdd 19 = .ok (.getfield 35, 3) := by decide +kernel
theorem dX4_leastToAdd_22 : decode cX4_leastToAdd 22 = .ok (.iload_n 2, 1) := by decide +kernel
theorem dX4_leastToAdd_23 : decode cX4_leastToAdd 23 = .ok (.iaload, 1) := by decide +kernel
theorem dX4_leastToAdd_24 : decode cX4_leastToAdd 24 = .ok (.ifCond .ne 9, 3) := by decide +kernel
theorem dX4_leastToAdd_27 : decode cX4_leastToAdd 27 = .ok (.iconst 1, 1) := by decide +kernel
theorem dX4_leastToAdd_28 : decode cX4_leastToAdd 28 = .ok (.iload_n 2, 1) := by decide +kernel
theorem dX4_leastToAdd_29 : decode cX4_leastToAdd 29 = .ok (.ishl, 1) := by decide +kernel
theorem dX4_leastToAdd_30 : decode cX4_leastToAdd 30 = .ok (.goto 4, 3) := by decide +kernel
theorem dX4_leastToAdd_33 : decode cX4_leastToAdd 33 = .ok (.iconst 0, 1) := by decide +kernel
theorem dX4_leastToAdd_34 : decode cX4_leastToAdd 34 = .ok (.ior, 1) := by decide +kernel
theorem dX4_leastToAdd_35 : decode cX4_leastToAdd 35 = .ok (.istore_n 1, 1) := by decide +kernel
theorem dX4_leastToAdd_36 : decode cX4_leastToAdd 36 = .ok (.iinc 2 1, 3) := by decide +kernel
theorem dX4_leastToAdd_39 : decode cX4_leastToAdd 39 = .ok (.goto (-30), 3) := by decide +kernel
theorem dX4_leastToAdd_42 : decode cX4_leastToAdd 42 = .ok (.aload_n 0, 1) := by decide +kernel
theorem dX4_leastToAdd_43 : decode cX4_leastToAdd 43 = .ok (.invokevirtual 109, 3) := by decide +kernel
theorem dX4_leastToAdd_46 : decode cX4_leastToAdd 46 = .ok (.istore_n 2, 1) := by decide +kernel
theorem dX4_leastToAdd_47 : decode cX4_leastToAdd 47 = .ok (.iconst (-1), 1) := by decide +kernel
theorem dX4_leastToAdd_48 : decode cX4_leastToAdd 48 = .ok (.istore_n 3, 1) := by decide +kernel
theorem dX4_leastToAdd_49 : decode cX4_leastToAdd 49 = .ok (.iconst 0, 1) := by decide +kernel
theorem dX4_leastToAdd_50 : decode cX4_leastToAdd 50 = .ok (.istore 4, 2) := by decide +kernel
theorem dX4_leastToAdd_52 : decode cX4_leastToAdd 52 = .ok (.iload 4, 2) := by decide +kernel
theorem dX4_leastToAdd_54 : decode cX4_leastToAdd 54 = .ok (.iconst 1, 1) := by decide +kernel
theorem dX4_leastToAdd_55 : decode cX4_leastToAdd 55 = .ok (.aload_n 0, 1) := by decide +kernel
theorem dX4_leastToAdd_56 : decode cX4_leastToAdd 56 = .ok (.getfield 54, 3) := by decide +kernel
theorem dX4_leastToAdd_59 : decode cX4_leastToAdd 59 = .ok (.ishl, 1) := by decide +kernel
theorem dX4_leastToAdd_60 : decode cX4_leastToAdd 60 = .ok (.if_icmp .ge 48, 3) := by decide +kernel
theorem dX4_leastToAdd_63 : decode cX4_leastToAdd 63 = .ok (.iload 4, 2) := by decide +kernel
theorem dX4_leastToAdd_65 : decode cX4_leastToAdd 65 = .ok (.iload_n 1, 1) := by decide +kernel
theorem dX4_leastToAdd_66 : decode cX4_leastToAdd 66 = .ok (.iconst (-1), 1) := by decide +kernel
theorem dX4_leastToAdd_67 : decode cX4_leastToAdd 67 = .ok (.ixor, 1) := by decide +kernel
theorem dX4_leastToAdd_68 : decode cX4_leastToAdd 68 = .ok (.iand, 1) := by decide +kernel
theorem dX4_leastToAdd_69 : decode cX4_leastToAdd 69 = .ok (.ifCond .ne 33, 3) := by decide +kernel
theorem dX4_leastToAdd_72 : decode cX4_leastToAdd 72 = .ok (.iload_n 3, 1) := by decide +kernel
theorem dX4_leastToAdd_73 : decode cX4_leastToAdd 73 = .ok (.ifCond .lt 15, 3) := by decide +kernel
theorem dX4_leastToAdd_76 : decode cX4_leastToAdd 76 = .ok (.iload 4, 2) := by decide +kernel
theorem dX4_leastToAdd_78 : decode cX4_leastToAdd 78 = .ok (.invokestatic 123, 3) := by decide +kernel
theorem dX4_leastToAdd_81 : decode cX4_leastToAdd 81 = .ok (.iload_n 3, 1) := by decide +kernel
theorem dX4_leastToAdd_82 : decode cX4_leastToAdd 82 = .ok (.invokestatic 123, 3) := by decide +kernel
theorem dX4_leastToAdd_85 : decode cX4_leastToAdd 85 = .ok (.if_icmp .ge 17, 3) := by decide +kernel
theorem dX4_leastToAdd_88 : decode cX4_leastToAdd 88 = .ok (.aload_n 0, 1) := by decide +kernel
theorem dX4_leastToAdd_89 : decode cX4_leastToAdd 89 = .ok (.iload_n 2, 1) := by decide +kernel
theorem dX4_leastToAdd_90 : decode cX4_leastToAdd 90 = .ok (.iload 4, 2) := by decide +kernel
theorem dX4_leastToAdd_92 : decode cX4_leastToAdd 92 = .ok (.ior, 1) := by decide +kernel
theorem dX4_leastToAdd_93 : decode cX4_leastToAdd 93 = .ok (.invokevirtual 112, 3) := by decide +kernel
theorem dX4_leastToAdd_96 : decode cX4_leastToAdd 96 = .ok (.ifCond .eq 6, 3) := by decide +kernel
theorem dX4_leastToAdd_99 : decode cX4_leastToAdd 99 = .ok (.iload 4, 2) := by decide +kernel
theorem dX4_leastToAdd_101 : decode cX4_leastToAdd 101 = .ok (.istore_n 3, 1) := by decide +kernel
theorem dX4_leastToAdd_102 : decode cX4_leastToAdd 102 = .ok (.iinc 4 1, 3) := by decide +kernel
theorem dX4_leastToAdd_105 : decode cX4_leastToAdd 105 = .ok (.goto (-53), 3) := by decide +kernel
theorem dX4_leastToAdd_108 : decode cX4_leastToAdd 108 = .ok (.iload_n 3, 1) := by decide +kernel
theorem dX4_leastToAdd_109 : decode cX4_leastToAdd 109 = .ok (.ireturn, 1) := by decide +kernel
theorem dX4_leastToAddByAll_0 : decode cX4_leastToAddByAll 0 = .ok (.aload_n 0, 1) := by decide +kernel
theorem dX4_leastToAddByAll_1 : decode cX4_leastToAddByAll 1 = .ok (.invokevirtual 126, 3) := by decide +kernel
theorem dX4_leastToAddByAll_4 : decode cX4_leastToAddByAll 4 = .ok (.ireturn, 1) := by decide +kernel
end
section
theorem dJ6_bitCount_0f7a4_0 : decode cJ6_bitCount_0f7a4 0 = .ok (.iload_n 0, 1) := by decide +kernel
theorem dJ6_bitCount_0f7a4_1 : decode cJ6_bitCount_0f7a4 1 = .ok (.iload_n 0, 1) := by decide +kernel
theorem dJ6_bitCount_0f7a4_2 : decode cJ6_bitCount_0f7a4 2 = .ok (.iconst 1, 1) := by decide +kernel
theorem dJ6_bitCount_0f7a4_3 : decode cJ6_bitCount_0f7a4 3 = .ok (.iushr, 1) := by decide +kernel
theorem dJ6_bitCount_0f7a4_4 : decode cJ6_bitCount_0f7a4 4 = .ok (.ldc_w 265, 3) := by decide +kernel
theorem dJ6_bitCount_0f7a4_7 : decode cJ6_bitCount_0f7a4 7 = .ok (.iand, 1) := by decide +kernel
theorem dJ6_bitCount_0f7a4_8 : decode cJ6_bitCount_0f7a4 8 = .ok (.isub, 1) := by decide +kernel
theorem dJ6_bitCount_0f7a4_9 : decode cJ6_bitCount_0f7a4 9 = .ok (.istore_n 0, 1) := by decide +kernel
theorem dJ6_bitCount_0f7a4_10 : decode cJ6_bitCount_0f7a4 10 = .ok (.iload_n 0, 1) := by decide +kernel
theorem dJ6_bitCount_0f7a4_11 : decode cJ6_bitCount_0f7a4 11 = .ok (.ldc_w 266, 3) := by decide +kernel
theorem dJ6_bitCount_0f7a4_14 : decode cJ6_bitCount_0f7a4 14 = .ok (.iand, 1) := by decide +kernel
theorem dJ6_bitCount_0f7a4_15 : decode cJ6_bitCount_0f7a4 15 = .ok (.iload_n 0, 1) := by decide +kernel
theorem dJ6_bitCount_0f7a4_16 : decode cJ6_bitCount_0f7a4 16 = .ok (.iconst 2, 1) := by decide +kernel
theorem dJ6_bitCount_0f7a4_17 : decode cJ6_bitCount_0f7a4 17 = .ok (.iushr, 1) := by decide +kernel
theorem dJ6_bitCount_0f7a4_18 : decode cJ6_bitCount_0f7a4 18 = .ok (.ldc_w 266, 3) := by decide +kernel
theorem dJ6_bitCount_0f7a4_21 : decode cJ6_bitCount_0f7a4 21 = .ok (.iand, 1) := by decide +kernel
theorem dJ6_bitCount_0f7a4_22 : decode cJ6_bitCount_0f7a4 22 = .ok (.iadd, 1) := by decide +kernel
theorem dJ6_bitCount_0f7a4_23 : decode cJ6_bitCount_0f7a4 23 = .ok (.istore_n 0, 1) := by decide +kernel
theorem dJ6_bitCount_0f7a4_24 : decode cJ6_bitCount_0f7a4 24 = .ok (.iload_n 0, 1) := by decide +kernel
theorem dJ6_bitCount_0f7a4_25 : decode cJ6_bitCount_0f7a4 25 = .ok (.iload_n 0, 1) := by decide +kernel
theorem dJ6_bitCount_0f7a4_26 : decode cJ6_bitCount_0f7a4 26 = .ok (.iconst 4, 1) := by decide +kernel
theorem dJ6_bitCount_0f7a4_27 : decode cJ6_bitCount_0f7a4 27 = .ok (.iushr, 1) := by decide +kernel
theorem dJ6_bitCount_0f7a4_28 : decode cJ6_bitCount_0f7a4 28 = .ok (.iadd, 1) := by decide +kernel
theorem dJ6_bitCount_0f7a4_29 : decode cJ6_bitCount_0f7a4 29 = .ok (.ldc_w 267, 3) := by decide +kernel
theorem dJ6_bitCount_0f7a4_32 : decode cJ6_bitCount_0f7a4 32 = .ok (.iand, 1) := by decide +kernel
theorem dJ6_bitCount_0f7a4_33 : decode cJ6_bitCount_0f7a4 33 = .ok (.istore_n 0, 1) := by decide +kernel
theorem dJ6_bitCount_0f7a4_34 : decode cJ6_bitCount_0f7a4 34 = .ok (.iload_n 0, 1) := by decide +kernel
theorem dJ6_bitCount_0f7a4_35 : decode cJ6_bitCount_0f7a4 35 = .ok (.iload_n 0, 1) := by decide +kernel
theorem dJ6_bitCount_0f7a4_36 : decode cJ6_bitCount_0f7a4 36 = .ok (.bipush 8, 2) := by decide +kernel
theorem dJ6_bitCount_0f7a4_38 : decode cJ6_bitCount_0f7a4 38 = .ok (.iushr, 1) := by decide +kernel
theorem dJ6_bitCount_0f7a4_39 : decode cJ6_bitCount_0f7a4 39 = .ok (.iadd, 1) := by decide +kernel
theorem dJ6_bitCount_0f7a4_40 : decode cJ6_bitCount_0f7a4 40 = .ok (.istore_n 0, 1) := by decide +kernel
theorem dJ6_bitCount_0f7a4_41 : decode cJ6_bitCount_0f7a4 41 = .ok (.iload_n 0, 1) := by decide +kernel
theorem dJ6_bitCount_0f7a4_42 : decode cJ6_bitCount_0f7a4 42 = .ok (.iload_n 0, 1) := by decide +kernel
theorem dJ6_bitCount_0f7a4_43 : decode cJ6_bitCount_0f7a4 43 = .ok (.bipush 16, 2) := by decide +kernel
theorem dJ6_bitCount_0f7a4_45 : decode cJ6_bitCount_0f7a4 45 = .ok (.iushr, 1) := by decide +kernel
theorem dJ6_bitCount_0f7a4_46 : decode cJ6_bitCount_0f7a4 46 = .ok (.iadd, 1) := by decide +kernel
theorem dJ6_bitCount_0f7a4_47 : decode cJ6_bitCount_0f7a4 47 = .ok (.istore_n 0, 1) := by decide +kernel
theorem dJ6_bitCount_0f7a4_48 : decode cJ6_bitCount_0f7a4 48 = .ok (.iload_n 0, 1) := by decide +kernel
theorem dJ6_bitCount_0f7a4_49 : decode cJ6_bitCount_0f7a4 49 = .ok (.bipush 63, 2) := by decide +kernel
theorem dJ6_bitCount_0f7a4_51 : decode cJ6_bitCount_0f7a4 51 = .ok (.iand, 1) := by decide +kernel
theorem dJ6_bitCount_0f7a4_52 : decode cJ6_bitCount_0f7a4 52 = .ok (.ireturn, 1) := by decide +kernel
theorem dJ9_max_7cf53_0 : decode cJ9_max_7cf53 0 = .ok (.iload_n 0, 1) := by decide +kernel
theorem dJ9_max_7cf53_1 : decode cJ9_max_7cf53 1 = .ok (.iload_n 1, 1) := by decide +kernel
theorem dJ9_max_7cf53_2 : decode cJ9_max_7cf53 2 = .ok (.if_icmp .lt 7, 3) := by decide +kernel
theorem dJ9_max_7cf53_5 : decode cJ9_max_7cf53 5 = .ok (.iload_n 0, 1) := by decide +kernel
theorem dJ9_max_7cf53_6 : decode cJ9_max_7cf53 6 = .ok (.goto 4, 3) := by decide +kernel
theorem dJ9_max_7cf53_9 : decode cJ9_max_7cf53 9 = .ok (.iload_n 1, 1) := by decide +kernel
theorem dJ9_max_7cf53_10 : decode cJ9_max_7cf53 10 = .ok (.ireturn, 1) := by decide +kernel
theorem dJ9_min_7cf53_0 : decode cJ9_min_7cf53 0 = .ok (.iload_n 0, 1) := by decide +kernel
theorem dJ9_min_7cf53_1 : decode cJ9_min_7cf53 1 = .ok (.iload_n 1, 1) := by decide +kernel
theorem dJ9_min_7cf53_2 : decode cJ9_min_7cf53 2 = .ok (.if_icmp .gt 7, 3) := by decide +kernel
theorem dJ9_min_7cf53_5 : decode cJ9_min_7cf53 5 = .ok (.iload_n 0, 1) := by decide +kernel
theorem dJ9_min_7cf53_6 : decode cJ9_min_7cf53 6 = .ok (.goto 4, 3) := by decide +kernel
theorem dJ9_min_7cf53_9 : decode cJ9_min_7cf53 9 = .ok (.iload_n 1, 1) := by decide +kernel
theorem dJ9_min_7cf53_10 : decode cJ9_min_7cf53 10 = .ok (.ireturn, 1) := by decide +kernel
theorem dJxa1e45_init_da8c8_0 : decode cJxa1e45_init_da8c8 0 = .ok (.aload_n 0, 1) := by decide +kernel
theorem dJxa1e45_init_da8c8_1 : decode cJxa1e45_init_da8c8 1 = .ok (.invokespecial 1, 3) := by decide +kernel
theorem dJxa1e45_init_da8c8_4 : decode cJxa1e45_init_da8c8 4 = .ok (.return_, 1) := by decide +kernel
theorem dJxc12de_init_da8c8_0 : decode cJxc12de_init_da8c8 0 = .ok (.aload_n 0, 1) := by decide +kernel
theorem dJxc12de_init_da8c8_1 : decode cJxc12de_init_da8c8 1 = .ok (.invokespecial 1, 3) := by decide +kernel
theorem dJxc12de_init_da8c8_4 : decode cJxc12de_init_da8c8 4 = .ok (.aload_n 0, 1) := by decide +kernel
theorem dJxc12de_init_da8c8_5 : decode cJxc12de_init_da8c8 5 = .ok (.iconst 0, 1) := by decide +kernel
theorem dJxc12de_init_da8c8_6 : decode cJxc12de_init_da8c8 6 = .ok (.putfield 7, 3) := by decide +kernel
theorem dJxc12de_init_da8c8_9 : decode cJxc12de_init_da8c8 9 = .ok (.return_, 1) := by decide +kernel
theorem dJx4a65c_init_da8c8_0 : decode cJx4a65c_init_da8c8 0 = .ok (.aload_n 0, 1) := by decide +kernel
theorem dJx4a65c_init_da8c8_1 : decode cJx4a65c_init_da8c8 1 = .ok (.invokespecial 1, 3) := by decide +kernel
theorem dJx4a65c_init_da8c8_4 : decode cJx4a65c_init_da8c8 4 = .ok (.aload_n 0, 1) := by decide +kernel
theorem dJx4a65c_init_da8c8_5 : decode cJx4a65c_init_da8c8 5 = .ok (.getstatic 39, 3) := by decide +kernel
theorem dJx4a65c_init_da8c8_8 : decode cJx4a65c_init_da8c8 8 = .ok (.putfield 9, 3) := by decide +kernel
theorem dJx4a65c_init_da8c8_11 : decode cJx4a65c_init_da8c8 11 = .ok (.return_, 1) := by decide +kernel
theorem dJx4a65c_grow_92f84_0 : decode cJx4a65c_grow_92f84 0 = .ok (.aload_n 0, 1) := by decide +kernel
theorem dJx4a65c_grow_92f84_1 : decode cJx4a65c_grow_92f84 1 = .ok (.getfield 9, 3) := by decide +kernel
theorem dJx4a65c_grow_92f84_4 : decode cJx4a65c_grow_92f84 4 = .ok (.arraylength, 1) := by decide +kernel
theorem dJx4a65c_grow_92f84_5 : decode cJx4a65c_grow_92f84 5 = .ok (.istore_n 2, 1) := by decide +kernel
theorem dJx4a65c_grow_92f84_6 : decode cJx4a65c_grow_92f84 6 = .ok (.iload_n 2, 1) := by decide +kernel
theorem dJx4a65c_grow_92f84_7 : decode cJx4a65c_grow_92f84 7 = .ok (.ifCond .gt 13, 3) := by decide +kernel
theorem dJx4a65c_grow_92f84_10 : decode cJx4a65c_grow_92f84 10 = .ok (.aload_n 0, 1) := by decide +kernel
theorem dJx4a65c_grow_92f84_11 : decode cJx4a65c_grow_92f84 11 = .ok (.getfield 9, 3) := by decide +kernel
theorem dJx4a65c_grow_92f84_14 : decode cJx4a65c_grow_92f84 14 = .ok (.getstatic 39, 3) := by decide +kernel
theorem dJx4a65c_grow_92f84_17 : decode cJx4a65c_grow_92f84 17 = .ok (.if_acmp .eq 28, 3) := by decide +kernel
theorem dJx4a65c_grow_92f84_20 : decode cJx4a65c_grow_92f84 20 = .ok (.iload_n 2, 1) := by decide +kernel
theorem dJx4a65c_grow_92f84_21 : decode cJx4a65c_grow_92f84 21 = .ok (.iload_n 1, 1) := by decide +kernel
theorem dJx4a65c_grow_92f84_22 : decode cJx4a65c_grow_92f84 22 = .ok (.iload_n 2, 1) := by decide +kernel
theorem dJx4a65c_grow_92f84_23 : decode cJx4a65c_grow_92f84 23 = .ok (.isub, 1) := by decide +kernel
theorem dJx4a65c_grow_92f84_24 : decode cJx4a65c_grow_92f84 24 = .ok (.iload_n 2, 1) := by decide +kernel
theorem dJx4a65c_grow_92f84_25 : decode cJx4a65c_grow_92f84 25 = .ok (.iconst 1, 1) := by decide +kernel
theorem dJx4a65c_grow_92f84_26 : decode cJx4a65c_grow_92f84 26 = .ok (.ishr, 1) := by decide +kernel
theorem dJx4a65c_grow_92f84_27 : decode cJx4a65c_grow_92f84 27 = .ok (.invokestatic 73, 3) := by decide +kernel
theorem dJx4a65c_grow_92f84_30 : decode cJx4a65c_grow_92f84 30 = .ok (.istore_n 3, 1) := by decide +kernel
theorem dJx4a65c_grow_92f84_31 : decode cJx4a65c_grow_92f84 31 = .ok (.aload_n 0, 1) := by decide +kernel
theorem dJx4a65c_grow_92f84_32 : decode cJx4a65c_grow_92f84 32 = .ok (.aload_n 0, 1) := by decide +kernel
theorem dJx4a65c_grow_92f84_33 : decode cJx4a65c_grow_92f84 33 = .ok (.getfield 9, 3) := by decide +kernel
theorem dJx4a65c_grow_92f84_36 : decode cJx4a65c_grow_92f84 36 = .ok (.iload_n 3, 1) := by decide +kernel
theorem dJx4a65c_grow_92f84_37 : decode cJx4a65c_grow_92f84 37 = .ok (.invokestatic 66, 3) := by decide +kernel
theorem dJx4a65c_grow_92f84_40 : decode cJx4a65c_grow_92f84 40 = .ok (.dup_x1, 1) := by decide +kernel
theorem dJx4a65c_grow_92f84_41 : decode cJx4a65c_grow_92f84 41 = .ok (.putfield 9, 3) := by decide +kernel
theorem dJx4a65c_grow_92f84_44 : decode cJx4a65c_grow_92f84 44 = .ok (.areturn, 1) := by decide +kernel
theorem dJx4a65c_grow_92f84_45 : decode cJx4a65c_grow_92f84 45 = .ok (.aload_n 0, 1) := by decide +kernel
theorem dJx4a65c_grow_92f84_46 : decode cJx4a65c_grow_92f84 46 = .ok (.bipush 10, 2) := by decide +kernel
theorem dJx4a65c_grow_92f84_48 : decode cJx4a65c_grow_92f84 48 = .ok (.iload_n 1, 1) := by decide +kernel
theorem dJx4a65c_grow_92f84_49 : decode cJx4a65c_grow_92f84 49 = .ok (.invokestatic 79, 3) := by decide +kernel
theorem dJx4a65c_grow_92f84_52 : decode cJx4a65c_grow_92f84 52 = .ok (.anewarray 7, 3) := by decide +kernel
theorem dJx4a65c_grow_92f84_55 : decode cJx4a65c_grow_92f84 55 = .ok (.dup_x1, 1) := by decide +kernel
theorem dJx4a65c_grow_92f84_56 : decode cJx4a65c_grow_92f84 56 = .ok (.putfield 9, 3) := by decide +kernel
theorem dJx4a65c_grow_92f84_59 : decode cJx4a65c_grow_92f84 59 = .ok (.areturn, 1) := by decide +kernel
theorem dJx4a65c_grow_d5877_0 : decode cJx4a65c_grow_d5877 0 = .ok (.aload_n 0, 1) := by decide +kernel
theorem dJx4a65c_grow_d5877_1 : decode cJx4a65c_grow_d5877 1 = .ok (.aload_n 0, 1) := by decide +kernel
theorem dJx4a65c_grow_d5877_2 : decode cJx4a65c_grow_d5877 2 = .ok (.getfield 48, 3) := by decide +kernel
theorem dJx4a65c_grow_d5877_5 : decode cJx4a65c_grow_d5877 5 = .ok (.iconst 1, 1) := by decide +kernel
theorem dJx4a65c_grow_d5877_6 : decode cJx4a65c_grow_d5877 6 = .ok (.iadd, 1) := by decide +kernel
theorem dJx4a65c_grow_d5877_7 : decode cJx4a65c_grow_d5877 7 = .ok (.invokevirtual 69, 3) := by decide +kernel
theorem dJx4a65c_grow_d5877_10 : decode cJx4a65c_grow_d5877 10 = .ok (.areturn, 1) := by decide +kernel
theorem dJx4a65c_size_8abf5_0 : decode cJx4a65c_size_8abf5 0 = .ok (.aload_n 0, 1) := by decide +kernel
theorem dJx4a65c_size_8abf5_1 : decode cJx4a65c_size_8abf5 1 = .ok (.getfield 48, 3) := by decide +kernel
theorem dJx4a65c_size_8abf5_4 : decode cJx4a65c_size_8abf5 4 = .ok (.ireturn, 1) := by decide +kernel
theorem dJx4a65c_elementData_915e3_0 : decode cJx4a65c_elementData_915e3 0 = .ok (.aload_n 0, 1) := by decide +kernel
theorem dJx4a65c_elementData_915e3_1 : decode cJx4a65c_elementData_915e3 1 = .ok (.getfield 9, 3) := by decide +kernel
theorem dJx4a65c_elementData_915e3_4 : decode cJx4a65c_elementData_915e3 4 = .ok (.iload_n 1, 1) := by decide +kernel
theorem dJx4a65c_elementData_915e3_5 : decode cJx4a65c_elementData_915e3 5 = .ok (.aaload, 1) := by decide +kernel
theorem dJx4a65c_elementData_915e3_6 : decode cJx4a65c_elementData_915e3 6 = .ok (.areturn, 1) := by decide +kernel
theorem dJx4a65c_get_915e3_0 : decode cJx4a65c_get_915e3 0 = .ok (.iload_n 1, 1) := by decide +kernel
theorem dJx4a65c_get_915e3_1 : decode cJx4a65c_get_915e3 1 = .ok (.aload_n 0, 1) := by decide +kernel
theorem dJx4a65c_get_915e3_2 : decode cJx4a65c_get_915e3 2 = .ok (.getfield 48, 3) := by decide +kernel
theorem dJx4a65c_get_915e3_5 : decode cJx4a65c_get_915e3 5 = .ok (.invokestatic 118, 3) := by decide +kernel
theorem dJx4a65c_get_915e3_8 : decode cJx4a65c_get_915e3 8 = .ok (.pop, 1) := by decide +kernel
theorem dJx4a65c_get_915e3_9 : decode cJx4a65c_get_915e3 9 = .ok (.aload_n 0, 1) := by decide +kernel
theorem dJx4a65c_get_915e3_10 : decode cJx4a65c_get_915e3 10 = .ok (.iload_n 1, 1) := by decide +kernel
theorem dJx4a65c_get_915e3_11 : decode cJx4a65c_get_915e3 11 = .ok (.invokevirtual 123, 3) := by decide +kernel
theorem dJx4a65c_get_915e3_14 : decode cJx4a65c_get_915e3 14 = .ok (.areturn, 1) := by decide +kernel
theorem dJx4a65c_add_72be8_0 : decode cJx4a65c_add_72be8 0 = .ok (.iload_n 3, 1) := by decide +kernel
theorem dJx4a65c_add_72be8_1 : decode cJx4a65c_add_72be8 1 = .ok (.aload_n 2, 1) := by decide +kernel
theorem dJx4a65c_add_72be8_2 : decode cJx4a65c_add_72be8 2 = .ok (.arraylength, 1) := by decide +kernel
theorem dJx4a65c_add_72be8_3 : decode cJx4a65c_add_72be8 3 = .ok (.if_icmp .ne 8, 3) := by decide +kernel
theorem dJx4a65c_add_72be8_6 : decode cJx4a65c_add_72be8 6 = .ok (.aload_n 0, 1) := by decide +kernel
theorem dJx4a65c_add_72be8_7 : decode cJx4a65c_add_72be8 7 = .ok (.invokevirtual 129, 3) := by decide +kernel
theorem dJx4a65c_add_72be8_10 : decode cJx4a65c_add_72be8 10 = .ok (.astore_n 2, 1) := by decide +kernel
theorem dJx4a65c_add_72be8_11 : decode cJx4a65c_add_72be8 11 = .ok (.aload_n 2, 1) := by decide +kernel
theorem dJx4a65c_add_72be8_12 : decode cJx4a65c_add_72be8 12 = .ok (.iload_n 3, 1) := by decide +kernel
theorem dJx4a65c_add_72be8_13 : decode cJx4a65c_add_72be8 13 = .ok (.aload_n 1, 1) := by decide +kernel
theorem dJx4a65c_add_72be8_14 : decode cJx4a65c_add_72be8 14 = .ok (.aastore, 1) := by decide +kernel
theorem dJx4a65c_add_72be8_15 : decode cJx4a65c_add_72be8 15 = .ok (.aload_n 0, 1) := by decide +kernel
theorem dJx4a65c_add_72be8_16 : decode cJx4a65c_add_72be8 16 = .ok (.iload_n 3, 1) := by decide +kernel
theorem dJx4a65c_add_72be8_17 : decode cJx4a65c_add_72be8 17 = .ok (.iconst 1, 1) := by decide +kernel
theorem dJx4a65c_add_72be8_18 : decode cJx4a65c_add_72be8 18 = .ok (.iadd, 1) := by decide +kernel
theorem dJx4a65c_add_72be8_19 : decode cJx4a65c_add_72be8 19 = .ok (.putfield 48, 3) := by decide +kernel
theorem dJx4a65c_add_72be8_22 : decode cJx4a65c_add_72be8 22 = .ok (.return_, 1) := by decide +kernel
theorem dJx4a65c_add_9ea2d_0 : decode cJx4a65c_add_9ea2d 0 = .ok (.aload_n 0, 1) := by decide +kernel
theorem dJx4a65c_add_9ea2d_1 : decode cJx4a65c_add_9ea2d 1 = .ok (.dup, 1) := by decide +kernel
theorem dJx4a65c_add_9ea2d_2 : decode cJx4a65c_add_9ea2d 2 = .ok (.getfield 63, 3) := by decide +kernel
theorem dJx4a65c_add_9ea2d_5 : decode cJx4a65c_add_9ea2d 5 = .ok (.iconst 1, 1) := by decide +kernel
theorem dJx4a65c_add_9ea2d_6 : decode cJx4a65c_add_9ea2d 6 = .ok (.iadd, 1) := by decide +kernel
theorem dJx4a65c_add_9ea2d_7 : decode cJx4a65c_add_9ea2d 7 = .ok (.putfield 63, 3) := by decide +kernel
theorem dJx4a65c_add_9ea2d_10 : decode cJx4a65c_add_9ea2d 10 = .ok (.aload_n 0, 1) := by decide +kernel
theorem dJx4a65c_add_9ea2d_11 : decode cJx4a65c_add_9ea2d 11 = .ok (.aload_n 1, 1) := by decide +kernel
theorem dJx4a65c_add_9ea2d_12 : decode cJx4a65c_add_9ea2d 12 = .ok (.aload_n 0, 1) := by decide +kernel
theorem dJx4a65c_add_9ea2d_13 : decode cJx4a65c_add_9ea2d 13 = .ok (.getfield 9, 3) := by decide +kernel
theorem dJx4a65c_add_9ea2d_16 : decode cJx4a65c_add_9ea2d 16 = .ok (.aload_n 0, 1) := by decide +kernel
theorem dJx4a65c_add_9ea2d_17 : decode cJx4a65c_add_9ea2d 17 = .ok (.getfield 48, 3) := by decide +kernel
theorem dJx4a65c_add_9ea2d_20 : decode cJx4a65c_add_9ea2d 20 = .ok (.invokevirtual 131, 3) := by decide +kernel
theorem dJx4a65c_add_9ea2d_23 : decode cJx4a65c_add_9ea2d 23 = .ok (.iconst 1, 1) := by decide +kernel
theorem dJx4a65c_add_9ea2d_24 : decode cJx4a65c_add_9ea2d 24 = .ok (.ireturn, 1) := by decide +kernel
theorem dJ7_copyOf_1904c_0 : decode cJ7_copyOf_1904c 0 = .ok (.aload_n 0, 1) := by decide +kernel
theorem dJ7_copyOf_1904c_1 : decode cJ7_copyOf_1904c 1 = .ok (.iload_n 1, 1) := by decide +kernel
theorem dJ7_copyOf_1904c_2 : decode cJ7_copyOf_1904c 2 = .ok (.aload_n 0, 1) := by decide +kernel
theorem dJ7_copyOf_1904c_3 : decode cJ7_copyOf_1904c 3 = .ok (.invokevirtual 86, 3) := by decide +kernel
theorem dJ7_copyOf_1904c_6 : decode cJ7_copyOf_1904c 6 = .ok (.invokestatic 300, 3) := by decide +kernel
theorem dJ7_copyOf_1904c_9 : decode cJ7_copyOf_1904c 9 = .ok (.areturn, 1) := by decide +kernel
theorem dJ7_copyOf_6403c_0 : decode cJ7_copyOf_6403c 0 = .ok (.aload_n 2, 1) := by decide +kernel
theorem dJ7_copyOf_6403c_1 : decode cJ7_copyOf_6403c 1 = .ok (.ldc 110, 2) := by decide +kernel
theorem dJ7_copyOf_6403c_3 : decode cJ7_copyOf_6403c 3 = .ok (.if_acmp .ne 10, 3) := by decide +kernel
theorem dJ7_copyOf_6403c_6 : decode cJ7_copyOf_6403c 6 = .ok (.iload_n 1, 1) := by decide +kernel
theorem dJ7_copyOf_6403c_7 : decode cJ7_copyOf_6403c 7 = .ok (.anewarray 2, 3) := by decide +kernel
theorem dJ7_copyOf_6403c_10 : decode cJ7_copyOf_6403c 10 = .ok (.goto 14, 3) := by decide +kernel
theorem dJ7_copyOf_6403c_13 : decode cJ7_copyOf_6403c 13 = .ok (.aload_n 2, 1) := by decide +kernel
theorem dJ7_copyOf_6403c_14 : decode cJ7_copyOf_6403c 14 = .ok (.invokevirtual 90, 3) := by decide +kernel
theorem dJ7_copyOf_6403c_17 : decode cJ7_copyOf_6403c 17 = .ok (.iload_n 1, 1) := by decide +kernel
theorem dJ7_copyOf_6403c_18 : decode cJ7_copyOf_6403c 18 = .ok (.invokestatic 95, 3) := by decide +kernel
theorem dJ7_copyOf_6403c_21 : decode cJ7_copyOf_6403c 21 = .ok (.checkcast 110, 3) := by decide +kernel
theorem dJ7_copyOf_6403c_24 : decode cJ7_copyOf_6403c 24 = .ok (.astore_n 3, 1) := by decide +kernel
theorem dJ7_copyOf_6403c_25 : decode cJ7_copyOf_6403c 25 = .ok (.aload_n 0, 1) := by decide +kernel
theorem dJ7_copyOf_6403c_26 : decode cJ7_copyOf_6403c 26 = .ok (.iconst 0, 1) := by decide +kernel
theorem dJ7_copyOf_6403c_27 : decode cJ7_copyOf_6403c 27 = .ok (.aload_n 3, 1) := by decide +kernel
theorem dJ7_copyOf_6403c_28 : decode cJ7_copyOf_6403c 28 = .ok (.iconst 0, 1) := by decide +kernel
theorem dJ7_copyOf_6403c_29 : decode cJ7_copyOf_6403c 29 = .ok (.aload_n 0, 1) := by decide +kernel
theorem dJ7_copyOf_6403c_30 : decode cJ7_copyOf_6403c 30 = .ok (.arraylength, 1) := by decide +kernel
theorem dJ7_copyOf_6403c_31 : decode cJ7_copyOf_6403c 31 = .ok (.iload_n 1, 1) := by decide +kernel
theorem dJ7_copyOf_6403c_32 : decode cJ7_copyOf_6403c 32 = .ok (.invokestatic 304, 3) := by decide +kernel
theorem dJ7_copyOf_6403c_35 : decode cJ7_copyOf_6403c 35 = .ok (.invokestatic 150, 3) := by decide +kernel
theorem dJ7_copyOf_6403c_38 : decode cJ7_copyOf_6403c 38 = .ok (.aload_n 3, 1) := by decide +kernel
theorem dJ7_copyOf_6403c_39 : decode cJ7_copyOf_6403c 39 = .ok (.areturn, 1) := by decide +kernel
theorem dJ15_checkIndex_7cf53_0 : decode cJ15_checkIndex_7cf53 0 = .ok (.iload_n 0, 1) := by decide +kernel
theorem dJ15_checkIndex_7cf53_1 : decode cJ15_checkIndex_7cf53 1 = .ok (.iload_n 1, 1) := by decide +kernel
theorem dJ15_checkIndex_7cf53_2 : decode cJ15_checkIndex_7cf53 2 = .ok (.aconst_null, 1) := by decide +kernel
theorem dJ15_checkIndex_7cf53_3 : decode cJ15_checkIndex_7cf53 3 = .ok (.invokestatic 105, 3) := by decide +kernel
theorem dJ15_checkIndex_7cf53_6 : decode cJ15_checkIndex_7cf53 6 = .ok (.ireturn, 1) := by decide +kernel
theorem dJ8_newLength_cabcc_0 : decode cJ8_newLength_cabcc 0 = .ok (.iload_n 0, 1) := by decide +kernel
theorem dJ8_newLength_cabcc_1 : decode cJ8_newLength_cabcc 1 = .ok (.iload_n 1, 1) := by decide +kernel
theorem dJ8_newLength_cabcc_2 : decode cJ8_newLength_cabcc 2 = .ok (.iload_n 2, 1) := by decide +kernel
theorem dJ8_newLength_cabcc_3 : decode cJ8_newLength_cabcc 3 = .ok (.invokestatic 194, 3) := by decide +kernel
theorem dJ8_newLength_cabcc_6 : decode cJ8_newLength_cabcc 6 = .ok (.iadd, 1) := by decide +kernel
theorem dJ8_newLength_cabcc_7 : decode cJ8_newLength_cabcc 7 = .ok (.istore_n 3, 1) := by decide +kernel
theorem dJ8_newLength_cabcc_8 : decode cJ8_newLength_cabcc 8 = .ok (.iconst 0, 1) := by decide +kernel
theorem dJ8_newLength_cabcc_9 : decode cJ8_newLength_cabcc 9 = .ok (.iload_n 3, 1) := by decide +kernel
theorem dJ8_newLength_cabcc_10 : decode cJ8_newLength_cabcc 10 = .ok (.if_icmp .ge 11, 3) := by decide +kernel
theorem dJ8_newLength_cabcc_13 : decode cJ8_newLength_cabcc 13 = .ok (.iload_n 3, 1) := by decide +kernel
theorem dJ8_newLength_cabcc_14 : decode cJ8_newLength_cabcc 14 = .ok (.ldc 200, 2) := by decide +kernel
theorem dJ8_newLength_cabcc_16 : decode cJ8_newLength_cabcc 16 = .ok (.if_icmp .gt 5, 3) := by decide +kernel
theorem dJ8_newLength_cabcc_19 : decode cJ8_newLength_cabcc 19 = .ok (.iload_n 3, 1) := by decide +kernel
theorem dJ8_newLength_cabcc_20 : decode cJ8_newLength_cabcc 20 = .ok (.ireturn, 1) := by decide +kernel
theorem dJ8_newLength_cabcc_21 : decode cJ8_newLength_cabcc 21 = .ok (.iload_n 0, 1) := by decide +kernel
theorem dJ8_newLength_cabcc_22 : decode cJ8_newLength_cabcc 22 = .ok (.iload_n 1, 1) := by decide +kernel
theorem dJ8_newLength_cabcc_23 : decode cJ8_newLength_cabcc 23 = .ok (.invokestatic 201, 3) := by decide +kernel
theorem dJ8_newLength_cabcc_26 : decode cJ8_newLength_cabcc 26 = .ok (.ireturn, 1) := by decide +kernel
theorem dJ8_hugeLength_7cf53_0 : decode cJ8_hugeLength_7cf53 0 = .ok (.iload_n 0, 1) := by decide +kernel
theorem dJ8_hugeLength_7cf53_1 : decode cJ8_hugeLength_7cf53 1 = .ok (.iload_n 1, 1) := by decide +kernel
theorem dJ8_hugeLength_7cf53_2 : decode cJ8_hugeLength_7cf53 2 = .ok (.iadd, 1) := by decide +kernel
theorem dJ8_hugeLength_7cf53_3 : decode cJ8_hugeLength_7cf53 3 = .ok (.istore_n 2, 1) := by decide +kernel
theorem dJ8_hugeLength_7cf53_4 : decode cJ8_hugeLength_7cf53 4 = .ok (.iload_n 2, 1) := by decide +kernel
theorem dJ8_hugeLength_7cf53_5 : decode cJ8_hugeLength_7cf53 5 = .ok (.ifCond .ge 44, 3) := by decide +kernel
theorem dJ8_hugeLength_7cf53_8 : decode cJ8_hugeLength_7cf53 8 = .ok (.new 204, 3) := by decide +kernel
theorem dJ8_hugeLength_7cf53_11 : decode cJ8_hugeLength_7cf53 11 = .ok (.dup, 1) := by decide +kernel
theorem dJ8_hugeLength_7cf53_12 : decode cJ8_hugeLength_7cf53 12 = .ok (.new 89, 3) := by decide +kernel
theorem dJ8_hugeLength_7cf53_15 : decode cJ8_hugeLength_7cf53 15 = .ok (.dup, 1) := by decide +kernel
theorem dJ8_hugeLength_7cf53_16 : decode cJ8_hugeLength_7cf53 16 = .ok (.invokespecial 91, 3) := by decide +kernel
theorem dJ8_hugeLength_7cf53_19 : decode cJ8_hugeLength_7cf53 19 = .ok (.ldc 206, 2) := by decide +kernel
theorem dJ8_hugeLength_7cf53_21 : decode cJ8_hugeLength_7cf53 21 = .ok (.invokevirtual 94, 3) := by decide +kernel
theorem dJ8_hugeLength_7cf53_24 : decode cJ8_hugeLength_7cf53 24 = .ok (.iload_n 0, 1) := by decide +kernel
theorem dJ8_hugeLength_7cf53_25 : decode cJ8_hugeLength_7cf53 25 = .ok (.invokevirtual 98, 3) := by decide +kernel
theorem dJ8_hugeLength_7cf53_28 : decode cJ8_hugeLength_7cf53 28 = .ok (.ldc 208, 2) := by decide +kernel
theorem dJ8_hugeLength_7cf53_30 : decode cJ8_hugeLength_7cf53 30 = .ok (.invokevirtual 94, 3) := by decide +kernel
theorem dJ8_hugeLength_7cf53_33 : decode cJ8_hugeLength_7cf53 33 = .ok (.iload_n 1, 1) := by decide +kernel
theorem dJ8_hugeLength_7cf53_34 : decode cJ8_hugeLength_7cf53 34 = .ok (.invokevirtual 98, 3) := by decide +kernel
theorem dJ8_hugeLength_7cf53_37 : decode cJ8_hugeLength_7cf53 37 = .ok (.ldc 210, 2) := by decide +kernel
theorem dJ8_hugeLength_7cf53_39 : decode cJ8_hugeLength_7cf53 39 = .ok (.invokevirtual 94, 3) := by decide +kernel
theorem dJ8_hugeLength_7cf53_42 : decode cJ8_hugeLength_7cf53 42 = .ok (.invokevirtual 101, 3) := by decide +kernel
theorem dJ8_hugeLength_7cf53_45 : decode cJ8_hugeLength_7cf53 45 = .ok (.invokespecial 212, 3) := by decide +kernel
theorem dJ8_hugeLength_7cf53_48 : decode cJ8_hugeLength_7cf53 48 = .ok (.athrow, 1) := by decide +kernel
theorem dJ8_hugeLength_7cf53_49 : decode cJ8_hugeLength_7cf53 49 = .ok (.iload_n 2, 1) := by decide +kernel
theorem dJ8_hugeLength_7cf53_50 : decode cJ8_hugeLength_7cf53 50 = .ok (.ldc 200, 2) := by decide +kernel
theorem dJ8_hugeLength_7cf53_52 : decode cJ8_hugeLength_7cf53 52 = .ok (.if_icmp .gt 6, 3) := by decide +kernel
theorem dJ8_hugeLength_7cf53_55 : decode cJ8_hugeLength_7cf53 55 = .ok (.ldc 200, 2) := by decide +kernel
theorem dJ8_hugeLength_7cf53_57 : decode cJ8_hugeLength_7cf53 57 = .ok (.ireturn, 1) := by decide +kernel
theorem dJ8_hugeLength_7cf53_58 : decode cJ8_hugeLength_7cf53 58 = .ok (.iload_n 2, 1) := by decide +kernel
theorem dJ8_hugeLength_7cf53_59 : decode cJ8_hugeLength_7cf53 59 = .ok (.ireturn, 1) := by decide +kernel
theorem dJ3_checkIndex_8e157_0 : decode cJ3_checkIndex_8e157 0 = .ok (.iload_n 0, 1) := by decide +kernel
theorem dJ3_checkIndex_8e157_1 : decode cJ3_checkIndex_8e157 1 = .ok (.ifCond .lt 8, 3) := by decide +kernel
theorem dJ3_checkIndex_8e157_4 : decode cJ3_checkIndex_8e157 4 = .ok (.iload_n 0, 1) := by decide +kernel
theorem dJ3_checkIndex_8e157_5 : decode cJ3_checkIndex_8e157 5 = .ok (.iload_n 1, 1) := by decide +kernel
theorem dJ3_checkIndex_8e157_6 : decode cJ3_checkIndex_8e157 6 = .ok (.if_icmp .lt 10, 3) := by decide +kernel
theorem dJ3_checkIndex_8e157_9 : decode cJ3_checkIndex_8e157 9 = .ok (.aload_n 2, 1) := by decide +kernel
theorem dJ3_checkIndex_8e157_10 : decode cJ3_checkIndex_8e157 10 = .ok (.iload_n 0, 1) := by decide +kernel
theorem dJ3_checkIndex_8e157_11 : decode cJ3_checkIndex_8e157 11 = .ok (.iload_n 1, 1) := by decide +kernel
theorem dJ3_checkIndex_8e157_12 : decode cJ3_checkIndex_8e157 12 = .ok (.invokestatic 95, 3) := by decide +kernel
theorem dJ3_checkIndex_8e157_15 : decode cJ3_checkIndex_8e157 15 = .ok (.athrow, 1) := by decide +kernel
theorem dJ3_checkIndex_8e157_16 : decode cJ3_checkIndex_8e157 16 = .ok (.iload_n 0, 1) := by decide +kernel
theorem dJ3_checkIndex_8e157_17 : decode cJ3_checkIndex_8e157 17 = .ok (.ireturn, 1) := by decide +kernel
end
section
theorem dL_addLoan_0 : decode cL_addLoan 0 = .ok (.aload 5, 2) := by decide +kernel
theorem dL_addLoan_2 : decode cL_addLoan 2 = .ok (.iconst 0, 1) := by decide +kernel
theorem dL_addLoan_3 : decode cL_addLoan 3 = .ok (.aload_n 0, 1) := by decide +kernel
theorem dL_addLoan_4 : decode cL_addLoan 4 = .ok (.iload_n 1, 1) := by decide +kernel
theorem dL_addLoan_5 : decode cL_addLoan 5 = .ok (.iload_n 2, 1) := by decide +kernel
theorem dL_addLoan_6 : decode cL_addLoan 6 = .ok (.iload_n 3, 1) := by decide +kernel
theorem dL_addLoan_7 : decode cL_addLoan 7 = .ok (.iload 4, 2) := by decide +kernel
theorem dL_addLoan_9 : decode cL_addLoan 9 = .ok (.invokevirtual 7, 3) := by decide +kernel
theorem dL_addLoan_12 : decode cL_addLoan 12 = .ok (.i2l, 1) := by decide +kernel
theorem dL_addLoan_13 : decode cL_addLoan 13 = .ok (.lastore, 1) := by decide +kernel
theorem dL_addLoan_14 : decode cL_addLoan 14 = .ok (.goto 11, 3) := by decide +kernel
theorem dL_addLoan_17 : decode cL_addLoan 17 = .ok (.astore 6, 2) := by decide +kernel
theorem dL_addLoan_19 : decode cL_addLoan 19 = .ok (.iconst 1, 1) := by decide +kernel
theorem dL_addLoan_20 : decode cL_addLoan 20 = .ok (.ireturn, 1) := by decide +kernel
theorem dL_addLoan_21 : decode cL_addLoan 21 = .ok (.astore 6, 2) := by decide +kernel
theorem dL_addLoan_23 : decode cL_addLoan 23 = .ok (.iconst 2, 1) := by decide +kernel
theorem dL_addLoan_24 : decode cL_addLoan 24 = .ok (.ireturn, 1) := by decide +kernel
theorem dL_addLoan_25 : decode cL_addLoan 25 = .ok (.iconst 0, 1) := by decide +kernel
theorem dL_addLoan_26 : decode cL_addLoan 26 = .ok (.ireturn, 1) := by decide +kernel
theorem dL_enter_0 : decode cL_enter 0 = .ok (.aload_n 2, 1) := by decide +kernel
theorem dL_enter_1 : decode cL_enter 1 = .ok (.iconst 0, 1) := by decide +kernel
theorem dL_enter_2 : decode cL_enter 2 = .ok (.aload_n 0, 1) := by decide +kernel
theorem dL_enter_3 : decode cL_enter 3 = .ok (.iload_n 1, 1) := by decide +kernel
theorem dL_enter_4 : decode cL_enter 4 = .ok (.invokevirtual 17, 3) := by decide +kernel
theorem dL_enter_7 : decode cL_enter 7 = .ok (.i2l, 1) := by decide +kernel
theorem dL_enter_8 : decode cL_enter 8 = .ok (.lastore, 1) := by decide +kernel
theorem dL_enter_9 : decode cL_enter 9 = .ok (.goto 9, 3) := by decide +kernel
theorem dL_enter_12 : decode cL_enter 12 = .ok (.astore_n 3, 1) := by decide +kernel
theorem dL_enter_13 : decode cL_enter 13 = .ok (.iconst 1, 1) := by decide +kernel
theorem dL_enter_14 : decode cL_enter 14 = .ok (.ireturn, 1) := by decide +kernel
theorem dL_enter_15 : decode cL_enter 15 = .ok (.astore_n 3, 1) := by decide +kernel
theorem dL_enter_16 : decode cL_enter 16 = .ok (.iconst 2, 1) := by decide +kernel
theorem dL_enter_17 : decode cL_enter 17 = .ok (.ireturn, 1) := by decide +kernel
theorem dL_enter_18 : decode cL_enter 18 = .ok (.iconst 0, 1) := by decide +kernel
theorem dL_enter_19 : decode cL_enter 19 = .ok (.ireturn, 1) := by decide +kernel
theorem dL_leave_0 : decode cL_leave 0 = .ok (.aload_n 2, 1) := by decide +kernel
theorem dL_leave_1 : decode cL_leave 1 = .ok (.iconst 0, 1) := by decide +kernel
theorem dL_leave_2 : decode cL_leave 2 = .ok (.aload_n 0, 1) := by decide +kernel
theorem dL_leave_3 : decode cL_leave 3 = .ok (.iload_n 1, 1) := by decide +kernel
theorem dL_leave_4 : decode cL_leave 4 = .ok (.invokevirtual 23, 3) := by decide +kernel
theorem dL_leave_7 : decode cL_leave 7 = .ok (.ifCond .eq 7, 3) := by decide +kernel
theorem dL_leave_10 : decode cL_leave 10 = .ok (.lconst 1, 1) := by decide +kernel
theorem dL_leave_11 : decode cL_leave 11 = .ok (.goto 4, 3) := by decide +kernel
theorem dL_leave_14 : decode cL_leave 14 = .ok (.lconst 0, 1) := by decide +kernel
theorem dL_leave_15 : decode cL_leave 15 = .ok (.lastore, 1) := by decide +kernel
theorem dL_leave_16 : decode cL_leave 16 = .ok (.goto 9, 3) := by decide +kernel
theorem dL_leave_19 : decode cL_leave 19 = .ok (.astore_n 3, 1) := by decide +kernel
theorem dL_leave_20 : decode cL_leave 20 = .ok (.iconst 1, 1) := by decide +kernel
theorem dL_leave_21 : decode cL_leave 21 = .ok (.ireturn, 1) := by decide +kernel
theorem dL_leave_22 : decode cL_leave 22 = .ok (.astore_n 3, 1) := by decide +kernel
theorem dL_leave_23 : decode cL_leave 23 = .ok (.iconst 2, 1) := by decide +kernel
theorem dL_leave_24 : decode cL_leave 24 = .ok (.ireturn, 1) := by decide +kernel
theorem dL_leave_25 : decode cL_leave 25 = .ok (.iconst 0, 1) := by decide +kernel
theorem dL_leave_26 : decode cL_leave 26 = .ok (.ireturn, 1) := by decide +kernel
theorem dL_swap_0 : decode cL_swap 0 = .ok (.aload_n 3, 1) := by decide +kernel
theorem dL_swap_1 : decode cL_swap 1 = .ok (.iconst 0, 1) := by decide +kernel
theorem dL_swap_2 : decode cL_swap 2 = .ok (.aload_n 0, 1) := by decide +kernel
theorem dL_swap_3 : decode cL_swap 3 = .ok (.iload_n 1, 1) := by decide +kernel
theorem dL_swap_4 : decode cL_swap 4 = .ok (.iload_n 2, 1) := by decide +kernel
theorem dL_swap_5 : decode cL_swap 5 = .ok (.invokevirtual 27, 3) := by decide +kernel
theorem dL_swap_8 : decode cL_swap 8 = .ok (.ifCond .eq 7, 3) := by decide +kernel
theorem dL_swap_11 : decode cL_swap 11 = .ok (.lconst 1, 1) := by decide +kernel
theorem dL_swap_12 : decode cL_swap 12 = .ok (.goto 4, 3) := by decide +kernel
theorem dL_swap_15 : decode cL_swap 15 = .ok (.lconst 0, 1) := by decide +kernel
theorem dL_swap_16 : decode cL_swap 16 = .ok (.lastore, 1) := by decide +kernel
theorem dL_swap_17 : decode cL_swap 17 = .ok (.goto 11, 3) := by decide +kernel
theorem dL_swap_20 : decode cL_swap 20 = .ok (.astore 4, 2) := by decide +kernel
theorem dL_swap_22 : decode cL_swap 22 = .ok (.iconst 1, 1) := by decide +kernel
theorem dL_swap_23 : decode cL_swap 23 = .ok (.ireturn, 1) := by decide +kernel
theorem dL_swap_24 : decode cL_swap 24 = .ok (.astore 4, 2) := by decide +kernel
theorem dL_swap_26 : decode cL_swap 26 = .ok (.iconst 2, 1) := by decide +kernel
theorem dL_swap_27 : decode cL_swap 27 = .ok (.ireturn, 1) := by decide +kernel
theorem dL_swap_28 : decode cL_swap 28 = .ok (.iconst 0, 1) := by decide +kernel
theorem dL_swap_29 : decode cL_swap 29 = .ok (.ireturn, 1) := by decide +kernel
theorem dL_setArrears_0 : decode cL_setArrears 0 = .ok (.aload_n 3, 1) := by decide +kernel
theorem dL_setArrears_1 : decode cL_setArrears 1 = .ok (.iconst 0, 1) := by decide +kernel
theorem dL_setArrears_2 : decode cL_setArrears 2 = .ok (.aload_n 0, 1) := by decide +kernel
theorem dL_setArrears_3 : decode cL_setArrears 3 = .ok (.iload_n 1, 1) := by decide +kernel
theorem dL_setArrears_4 : decode cL_setArrears 4 = .ok (.iload_n 2, 1) := by decide +kernel
theorem dL_setArrears_5 : decode cL_setArrears 5 = .ok (.invokevirtual 31, 3) := by decide +kernel
theorem dL_setArrears_8 : decode cL_setArrears 8 = .ok (.i2l, 1) := by decide +kernel
theorem dL_setArrears_9 : decode cL_setArrears 9 = .ok (.lastore, 1) := by decide +kernel
theorem dL_setArrears_10 : decode cL_setArrears 10 = .ok (.goto 15, 3) := by decide +kernel
theorem dL_setArrears_13 : decode cL_setArrears 13 = .ok (.astore 4, 2) := by decide +kernel
theorem dL_setArrears_15 : decode cL_setArrears 15 = .ok (.iconst 1, 1) := by decide +kernel
theorem dL_setArrears_16 : decode cL_setArrears 16 = .ok (.ireturn, 1) := by decide +kernel
theorem dL_setArrears_17 : decode cL_setArrears 17 = .ok (.astore 4, 2) := by decide +kernel
theorem dL_setArrears_19 : decode cL_setArrears 19 = .ok (.iconst 2, 1) := by decide +kernel
theorem dL_setArrears_20 : decode cL_setArrears 20 = .ok (.ireturn, 1) := by decide +kernel
theorem dL_setArrears_21 : decode cL_setArrears 21 = .ok (.astore 4, 2) := by decide +kernel
theorem dL_setArrears_23 : decode cL_setArrears 23 = .ok (.iconst 3, 1) := by decide +kernel
theorem dL_setArrears_24 : decode cL_setArrears 24 = .ok (.ireturn, 1) := by decide +kernel
theorem dL_setArrears_25 : decode cL_setArrears 25 = .ok (.iconst 0, 1) := by decide +kernel
theorem dL_setArrears_26 : decode cL_setArrears 26 = .ok (.ireturn, 1) := by decide +kernel
theorem dL_setWorth_0 : decode cL_setWorth 0 = .ok (.aload_n 3, 1) := by decide +kernel
theorem dL_setWorth_1 : decode cL_setWorth 1 = .ok (.iconst 0, 1) := by decide +kernel
theorem dL_setWorth_2 : decode cL_setWorth 2 = .ok (.aload_n 0, 1) := by decide +kernel
theorem dL_setWorth_3 : decode cL_setWorth 3 = .ok (.iload_n 1, 1) := by decide +kernel
theorem dL_setWorth_4 : decode cL_setWorth 4 = .ok (.iload_n 2, 1) := by decide +kernel
theorem dL_setWorth_5 : decode cL_setWorth 5 = .ok (.invokevirtual 35, 3) := by decide +kernel
theorem dL_setWorth_8 : decode cL_setWorth 8 = .ok (.i2l, 1) := by decide +kernel
theorem dL_setWorth_9 : decode cL_setWorth 9 = .ok (.lastore, 1) := by decide +kernel
theorem dL_setWorth_10 : decode cL_setWorth 10 = .ok (.goto 11, 3) := by decide +kernel
theorem dL_setWorth_13 : decode cL_setWorth 13 = .ok (.astore 4, 2) := by decide +kernel
theorem dL_setWorth_15 : decode cL_setWorth 15 = .ok (.iconst 1, 1) := by decide +kernel
theorem dL_setWorth_16 : decode cL_setWorth 16 = .ok (.ireturn, 1) := by decide +kernel
theorem dL_setWorth_17 : decode cL_setWorth 17 = .ok (.astore 4, 2) := by decide +kernel
theorem dL_setWorth_19 : decode cL_setWorth 19 = .ok (.iconst 2, 1) := by decide +kernel
theorem dL_setWorth_20 : decode cL_setWorth 20 = .ok (.ireturn, 1) := by decide +kernel
theorem dL_setWorth_21 : decode cL_setWorth 21 = .ok (.iconst 0, 1) := by decide +kernel
theorem dL_setWorth_22 : decode cL_setWorth 22 = .ok (.ireturn, 1) := by decide +kernel
theorem dL_stateOf_0 : decode cL_stateOf 0 = .ok (.aload_n 2, 1) := by decide +kernel
theorem dL_stateOf_1 : decode cL_stateOf 1 = .ok (.iconst 0, 1) := by decide +kernel
theorem dL_stateOf_2 : decode cL_stateOf 2 = .ok (.aload_n 0, 1) := by decide +kernel
theorem dL_stateOf_3 : decode cL_stateOf 3 = .ok (.iload_n 1, 1) := by decide +kernel
theorem dL_stateOf_4 : decode cL_stateOf 4 = .ok (.invokevirtual 38, 3) := by decide +kernel
theorem dL_stateOf_7 : decode cL_stateOf 7 = .ok (.i2l, 1) := by decide +kernel
theorem dL_stateOf_8 : decode cL_stateOf 8 = .ok (.lastore, 1) := by decide +kernel
theorem dL_stateOf_9 : decode cL_stateOf 9 = .ok (.goto 6, 3) := by decide +kernel
theorem dL_stateOf_12 : decode cL_stateOf 12 = .ok (.astore_n 3, 1) := by decide +kernel
theorem dL_stateOf_13 : decode cL_stateOf 13 = .ok (.iconst 1, 1) := by decide +kernel
theorem dL_stateOf_14 : decode cL_stateOf 14 = .ok (.ireturn, 1) := by decide +kernel
theorem dL_stateOf_15 : decode cL_stateOf 15 = .ok (.iconst 0, 1) := by decide +kernel
theorem dL_stateOf_16 : decode cL_stateOf 16 = .ok (.ireturn, 1) := by decide +kernel
theorem dL_counts_0 : decode cL_counts 0 = .ok (.aload_n 2, 1) := by decide +kernel
theorem dL_counts_1 : decode cL_counts 1 = .ok (.iconst 0, 1) := by decide +kernel
theorem dL_counts_2 : decode cL_counts 2 = .ok (.aload_n 0, 1) := by decide +kernel
theorem dL_counts_3 : decode cL_counts 3 = .ok (.iload_n 1, 1) := by decide +kernel
theorem dL_counts_4 : decode cL_counts 4 = .ok (.invokevirtual 41, 3) := by decide +kernel
theorem dL_counts_7 : decode cL_counts 7 = .ok (.i2l, 1) := by decide +kernel
theorem dL_counts_8 : decode cL_counts 8 = .ok (.lastore, 1) := by decide +kernel
theorem dL_counts_9 : decode cL_counts 9 = .ok (.goto 6, 3) := by decide +kernel
theorem dL_counts_12 : decode cL_counts 12 = .ok (.astore_n 3, 1) := by decide +kernel
theorem dL_counts_13 : decode cL_counts 13 = .ok (.iconst 1, 1) := by decide +kernel
theorem dL_counts_14 : decode cL_counts 14 = .ok (.ireturn, 1) := by decide +kernel
theorem dL_counts_15 : decode cL_counts 15 = .ok (.iconst 0, 1) := by decide +kernel
theorem dL_counts_16 : decode cL_counts 16 = .ok (.ireturn, 1) := by decide +kernel
theorem dL_addBond_0 : decode cL_addBond 0 = .ok (.aload_n 3, 1) := by decide +kernel
theorem dL_addBond_1 : decode cL_addBond 1 = .ok (.iconst 0, 1) := by decide +kernel
theorem dL_addBond_2 : decode cL_addBond 2 = .ok (.aload_n 0, 1) := by decide +kernel
theorem dL_addBond_3 : decode cL_addBond 3 = .ok (.iload_n 1, 1) := by decide +kernel
theorem dL_addBond_4 : decode cL_addBond 4 = .ok (.iload_n 2, 1) := by decide +kernel
theorem dL_addBond_5 : decode cL_addBond 5 = .ok (.invokevirtual 44, 3) := by decide +kernel
theorem dL_addBond_8 : decode cL_addBond 8 = .ok (.i2l, 1) := by decide +kernel
theorem dL_addBond_9 : decode cL_addBond 9 = .ok (.lastore, 1) := by decide +kernel
theorem dL_addBond_10 : decode cL_addBond 10 = .ok (.goto 11, 3) := by decide +kernel
theorem dL_addBond_13 : decode cL_addBond 13 = .ok (.astore 4, 2) := by decide +kernel
theorem dL_addBond_15 : decode cL_addBond 15 = .ok (.iconst 1, 1) := by decide +kernel
theorem dL_addBond_16 : decode cL_addBond 16 = .ok (.ireturn, 1) := by decide +kernel
theorem dL_addBond_17 : decode cL_addBond 17 = .ok (.astore 4, 2) := by decide +kernel
theorem dL_addBond_19 : decode cL_addBond 19 = .ok (.iconst 2, 1) := by decide +kernel
theorem dL_addBond_20 : decode cL_addBond 20 = .ok (.ireturn, 1) := by decide +kernel
theorem dL_addBond_21 : decode cL_addBond 21 = .ok (.iconst 0, 1) := by decide +kernel
theorem dL_addBond_22 : decode cL_addBond 22 = .ok (.ireturn, 1) := by decide +kernel
theorem dL_takeCash_0 : decode cL_takeCash 0 = .ok (.aload_n 2, 1) := by decide +kernel
theorem dL_takeCash_1 : decode cL_takeCash 1 = .ok (.iconst 0, 1) := by decide +kernel
theorem dL_takeCash_2 : decode cL_takeCash 2 = .ok (.aload_n 0, 1) := by decide +kernel
theorem dL_takeCash_3 : decode cL_takeCash 3 = .ok (.iload_n 1, 1) := by decide +kernel
theorem dL_takeCash_4 : decode cL_takeCash 4 = .ok (.invokevirtual 47, 3) := by decide +kernel
theorem dL_takeCash_7 : decode cL_takeCash 7 = .ok (.i2l, 1) := by decide +kernel
theorem dL_takeCash_8 : decode cL_takeCash 8 = .ok (.lastore, 1) := by decide +kernel
theorem dL_takeCash_9 : decode cL_takeCash 9 = .ok (.goto 9, 3) := by decide +kernel
theorem dL_takeCash_12 : decode cL_takeCash 12 = .ok (.astore_n 3, 1) := by decide +kernel
theorem dL_takeCash_13 : decode cL_takeCash 13 = .ok (.iconst 1, 1) := by decide +kernel
theorem dL_takeCash_14 : decode cL_takeCash 14 = .ok (.ireturn, 1) := by decide +kernel
theorem dL_takeCash_15 : decode cL_takeCash 15 = .ok (.astore_n 3, 1) := by decide +kernel
theorem dL_takeCash_16 : decode cL_takeCash 16 = .ok (.iconst 2, 1) := by decide +kernel
theorem dL_takeCash_17 : decode cL_takeCash 17 = .ok (.ireturn, 1) := by decide +kernel
theorem dL_takeCash_18 : decode cL_takeCash 18 = .ok (.iconst 0, 1) := by decide +kernel
theorem dL_takeCash_19 : decode cL_takeCash 19 = .ok (.ireturn, 1) := by decide +kernel
theorem dL_setRules_0 : decode cL_setRules 0 = .ok (.aload_n 0, 1) := by decide +kernel
theorem dL_setRules_1 : decode cL_setRules 1 = .ok (.iload_n 1, 1) := by decide +kernel
theorem dL_setRules_2 : decode cL_setRules 2 = .ok (.iload_n 2, 1) := by decide +kernel
theorem dL_setRules_3 : decode cL_setRules 3 = .ok (.iload_n 3, 1) := by decide +kernel
theorem dL_setRules_4 : decode cL_setRules 4 = .ok (.invokevirtual 50, 3) := by decide +kernel
theorem dL_setRules_7 : decode cL_setRules 7 = .ok (.goto 7, 3) := by decide +kernel
theorem dL_setRules_10 : decode cL_setRules 10 = .ok (.astore 4, 2) := by decide +kernel
theorem dL_setRules_12 : decode cL_setRules 12 = .ok (.iconst 1, 1) := by decide +kernel
theorem dL_setRules_13 : decode cL_setRules 13 = .ok (.ireturn, 1) := by decide +kernel
theorem dL_setRules_14 : decode cL_setRules 14 = .ok (.iconst 0, 1) := by decide +kernel
theorem dL_setRules_15 : decode cL_setRules 15 = .ok (.ireturn, 1) := by decide +kernel
theorem dL_bondState_0 : decode cL_bondState 0 = .ok (.aload_n 2, 1) := by decide +kernel
theorem dL_bondState_1 : decode cL_bondState 1 = .ok (.iconst 0, 1) := by decide +kernel
theorem dL_bondState_2 : decode cL_bondState 2 = .ok (.aload_n 0, 1) := by decide +kernel
theorem dL_bondState_3 : decode cL_bondState 3 = .ok (.iload_n 1, 1) := by decide +kernel
theorem dL_bondState_4 : decode cL_bondState 4 = .ok (.invokevirtual 54, 3) := by decide +kernel
theorem dL_bondState_7 : decode cL_bondState 7 = .ok (.i2l, 1) := by decide +kernel
theorem dL_bondState_8 : decode cL_bondState 8 = .ok (.lastore, 1) := by decide +kernel
theorem dL_bondState_9 : decode cL_bondState 9 = .ok (.goto 6, 3) := by decide +kernel
theorem dL_bondState_12 : decode cL_bondState 12 = .ok (.astore_n 3, 1) := by decide +kernel
theorem dL_bondState_13 : decode cL_bondState 13 = .ok (.iconst 1, 1) := by decide +kernel
theorem dL_bondState_14 : decode cL_bondState 14 = .ok (.ireturn, 1) := by decide +kernel
theorem dL_bondState_15 : decode cL_bondState 15 = .ok (.iconst 0, 1) := by decide +kernel
theorem dL_bondState_16 : decode cL_bondState 16 = .ok (.ireturn, 1) := by decide +kernel
theorem dL_dueOf_0 : decode cL_dueOf 0 = .ok (.aload_n 2, 1) := by decide +kernel
theorem dL_dueOf_1 : decode cL_dueOf 1 = .ok (.iconst 0, 1) := by decide +kernel
theorem dL_dueOf_2 : decode cL_dueOf 2 = .ok (.aload_n 0, 1) := by decide +kernel
theorem dL_dueOf_3 : decode cL_dueOf 3 = .ok (.iload_n 1, 1) := by decide +kernel
theorem dL_dueOf_4 : decode cL_dueOf 4 = .ok (.invokevirtual 57, 3) := by decide +kernel
theorem dL_dueOf_7 : decode cL_dueOf 7 = .ok (.i2l, 1) := by decide +kernel
theorem dL_dueOf_8 : decode cL_dueOf 8 = .ok (.lastore, 1) := by decide +kernel
theorem dL_dueOf_9 : decode cL_dueOf 9 = .ok (.goto 6, 3) := by decide +kernel
theorem dL_dueOf_12 : decode cL_dueOf 12 = .ok (.astore_n 3, 1) := by decide +kernel
theorem dL_dueOf_13 : decode cL_dueOf 13 = .ok (.iconst 1, 1) := by decide +kernel
theorem dL_dueOf_14 : decode cL_dueOf 14 = .ok (.ireturn, 1) := by decide +kernel
theorem dL_dueOf_15 : decode cL_dueOf 15 = .ok (.iconst 0, 1) := by decide +kernel
theorem dL_dueOf_16 : decode cL_dueOf 16 = .ok (.ireturn, 1) := by decide +kernel
theorem dL_pass_0 : decode cL_pass 0 = .ok (.aload_n 2, 1) := by decide +kernel
theorem dL_pass_1 : decode cL_pass 1 = .ok (.iconst 0, 1) := by decide +kernel
theorem dL_pass_2 : decode cL_pass 2 = .ok (.aload_n 0, 1) := by decide +kernel
theorem dL_pass_3 : decode cL_pass 3 = .ok (.iload_n 1, 1) := by decide +kernel
theorem dL_pass_4 : decode cL_pass 4 = .ok (.invokevirtual 60, 3) := by decide +kernel
theorem dL_pass_7 : decode cL_pass 7 = .ok (.i2l, 1) := by decide +kernel
theorem dL_pass_8 : decode cL_pass 8 = .ok (.lastore, 1) := by decide +kernel
theorem dL_pass_9 : decode cL_pass 9 = .ok (.goto 6, 3) := by decide +kernel
theorem dL_pass_12 : decode cL_pass 12 = .ok (.astore_n 3, 1) := by decide +kernel
theorem dL_pass_13 : decode cL_pass 13 = .ok (.iconst 1, 1) := by decide +kernel
theorem dL_pass_14 : decode cL_pass 14 = .ok (.ireturn, 1) := by decide +kernel
theorem dL_pass_15 : decode cL_pass 15 = .ok (.iconst 0, 1) := by decide +kernel
theorem dL_pass_16 : decode cL_pass 16 = .ok (.ireturn, 1) := by decide +kernel
theorem dL_holds_0 : decode cL_holds 0 = .ok (.aload_n 2, 1) := by decide +kernel
theorem dL_holds_1 : decode cL_holds 1 = .ok (.iconst 0, 1) := by decide +kernel
theorem dL_holds_2 : decode cL_holds 2 = .ok (.aload_n 0, 1) := by decide +kernel
theorem dL_holds_3 : decode cL_holds 3 = .ok (.iload_n 1, 1) := by decide +kernel
theorem dL_holds_4 : decode cL_holds 4 = .ok (.invokevirtual 63, 3) := by decide +kernel
theorem dL_holds_7 : decode cL_holds 7 = .ok (.ifCond .eq 7, 3) := by decide +kernel
theorem dL_holds_10 : decode cL_holds 10 = .ok (.lconst 1, 1) := by decide +kernel
theorem dL_holds_11 : decode cL_holds 11 = .ok (.goto 4, 3) := by decide +kernel
theorem dL_holds_14 : decode cL_holds 14 = .ok (.lconst 0, 1) := by decide +kernel
theorem dL_holds_15 : decode cL_holds 15 = .ok (.lastore, 1) := by decide +kernel
theorem dL_holds_16 : decode cL_holds 16 = .ok (.goto 6, 3) := by decide +kernel
theorem dL_holds_19 : decode cL_holds 19 = .ok (.astore_n 3, 1) := by decide +kernel
theorem dL_holds_20 : decode cL_holds 20 = .ok (.iconst 1, 1) := by decide +kernel
theorem dL_holds_21 : decode cL_holds 21 = .ok (.ireturn, 1) := by decide +kernel
theorem dL_holds_22 : decode cL_holds 22 = .ok (.iconst 0, 1) := by decide +kernel
theorem dL_holds_23 : decode cL_holds 23 = .ok (.ireturn, 1) := by decide +kernel
theorem dL_lacking_0 : decode cL_lacking 0 = .ok (.aload_n 2, 1) := by decide +kernel
theorem dL_lacking_1 : decode cL_lacking 1 = .ok (.iconst 0, 1) := by decide +kernel
theorem dL_lacking_2 : decode cL_lacking 2 = .ok (.aload_n 0, 1) := by decide +kernel
end
section
theorem dL_lacking_3 : decode cL_lacking 3 = .ok (.iload_n 1, 1) := by decide +kernel
theorem dL_lacking_4 : decode cL_lacking 4 = .ok (.invokevirtual 66, 3) := by decide +kernel
theorem dL_lacking_7 : decode cL_lacking 7 = .ok (.lastore, 1) := by decide +kernel
theorem dL_lacking_8 : decode cL_lacking 8 = .ok (.goto 6, 3) := by decide +kernel
theorem dL_lacking_11 : decode cL_lacking 11 = .ok (.astore_n 3, 1) := by decide +kernel
theorem dL_lacking_12 : decode cL_lacking 12 = .ok (.iconst 1, 1) := by decide +kernel
theorem dL_lacking_13 : decode cL_lacking 13 = .ok (.ireturn, 1) := by decide +kernel
theorem dL_lacking_14 : decode cL_lacking 14 = .ok (.iconst 0, 1) := by decide +kernel
theorem dL_lacking_15 : decode cL_lacking 15 = .ok (.ireturn, 1) := by decide +kernel
theorem dL_law_0 : decode cL_law 0 = .ok (.new 8, 3) := by decide +kernel
theorem dL_law_3 : decode cL_law 3 = .ok (.dup, 1) := by decide +kernel
theorem dL_law_4 : decode cL_law 4 = .ok (.invokespecial 70, 3) := by decide +kernel
theorem dL_law_7 : decode cL_law 7 = .ok (.astore_n 1, 1) := by decide +kernel
theorem dL_law_8 : decode cL_law 8 = .ok (.new 71, 3) := by decide +kernel
theorem dL_law_11 : decode cL_law 11 = .ok (.dup, 1) := by decide +kernel
theorem dL_law_12 : decode cL_law 12 = .ok (.invokespecial 73, 3) := by decide +kernel
theorem dL_law_15 : decode cL_law 15 = .ok (.astore_n 2, 1) := by decide +kernel
theorem dL_law_16 : decode cL_law 16 = .ok (.iconst 1, 1) := by decide +kernel
theorem dL_law_17 : decode cL_law 17 = .ok (.newarray .long, 2) := by decide +kernel
theorem dL_law_19 : decode cL_law 19 = .ok (.astore_n 3, 1) := by decide +kernel
theorem dL_law_20 : decode cL_law 20 = .ok (.iconst 0, 1) := by decide +kernel
theorem dL_law_21 : decode cL_law 21 = .ok (.istore 4, 2) := by decide +kernel
theorem dL_law_23 : decode cL_law 23 = .ok (.iload 4, 2) := by decide +kernel
theorem dL_law_25 : decode cL_law 25 = .ok (.aload_n 0, 1) := by decide +kernel
theorem dL_law_26 : decode cL_law 26 = .ok (.arraylength, 1) := by decide +kernel
theorem dL_law_27 : decode cL_law 27 = .ok (.iconst 5, 1) := by decide +kernel
theorem dL_law_28 : decode cL_law 28 = .ok (.isub, 1) := by decide +kernel
theorem dL_law_29 : decode cL_law 29 = .ok (.if_icmp .gt 1182, 3) := by decide +kernel
theorem dL_law_32 : decode cL_law 32 = .ok (.aload_n 0, 1) := by decide +kernel
theorem dL_law_33 : decode cL_law 33 = .ok (.iload 4, 2) := by decide +kernel
theorem dL_law_35 : decode cL_law 35 = .ok (.iaload, 1) := by decide +kernel
theorem dL_law_36 : decode cL_law 36 = .ok (.bipush 31, 2) := by decide +kernel
theorem dL_law_38 : decode cL_law 38 = .ok (.iand, 1) := by decide +kernel
theorem dL_law_39 : decode cL_law 39 = .ok (.tableswitch 1166 0 20 #[97, 189, 245, 308, 383, 451, 519, 575, 631, 699, 755, 815, 871, 927, 940, 953, 966, 1022, 1085, 1140, 1153], 97) := by decide +kernel
theorem dL_law_136 : decode cL_law 136 = .ok (.aload_n 1, 1) := by decide +kernel
theorem dL_law_137 : decode cL_law 137 = .ok (.aload_n 0, 1) := by decide +kernel
theorem dL_law_138 : decode cL_law 138 = .ok (.iload 4, 2) := by decide +kernel
theorem dL_law_140 : decode cL_law 140 = .ok (.iconst 1, 1) := by decide +kernel
theorem dL_law_141 : decode cL_law 141 = .ok (.iadd, 1) := by decide +kernel
theorem dL_law_142 : decode cL_law 142 = .ok (.iaload, 1) := by decide +kernel
theorem dL_law_143 : decode cL_law 143 = .ok (.aload_n 0, 1) := by decide +kernel
theorem dL_law_144 : decode cL_law 144 = .ok (.iload 4, 2) := by decide +kernel
theorem dL_law_146 : decode cL_law 146 = .ok (.iconst 2, 1) := by decide +kernel
theorem dL_law_147 : decode cL_law 147 = .ok (.iadd, 1) := by decide +kernel
theorem dL_law_148 : decode cL_law 148 = .ok (.iaload, 1) := by decide +kernel
theorem dL_law_149 : decode cL_law 149 = .ok (.aload_n 0, 1) := by decide +kernel
theorem dL_law_150 : decode cL_law 150 = .ok (.iload 4, 2) := by decide +kernel
theorem dL_law_152 : decode cL_law 152 = .ok (.iconst 3, 1) := by decide +kernel
theorem dL_law_153 : decode cL_law 153 = .ok (.iadd, 1) := by decide +kernel
theorem dL_law_154 : decode cL_law 154 = .ok (.iaload, 1) := by decide +kernel
theorem dL_law_155 : decode cL_law 155 = .ok (.aload_n 0, 1) := by decide +kernel
theorem dL_law_156 : decode cL_law 156 = .ok (.iload 4, 2) := by decide +kernel
theorem dL_law_158 : decode cL_law 158 = .ok (.iconst 4, 1) := by decide +kernel
theorem dL_law_159 : decode cL_law 159 = .ok (.iadd, 1) := by decide +kernel
theorem dL_law_160 : decode cL_law 160 = .ok (.iaload, 1) := by decide +kernel
theorem dL_law_161 : decode cL_law 161 = .ok (.aload_n 3, 1) := by decide +kernel
theorem dL_law_162 : decode cL_law 162 = .ok (.invokestatic 74, 3) := by decide +kernel
theorem dL_law_165 : decode cL_law 165 = .ok (.istore 5, 2) := by decide +kernel
theorem dL_law_167 : decode cL_law 167 = .ok (.aload_n 2, 1) := by decide +kernel
theorem dL_law_168 : decode cL_law 168 = .ok (.aload_n 0, 1) := by decide +kernel
theorem dL_law_169 : decode cL_law 169 = .ok (.iload 4, 2) := by decide +kernel
theorem dL_law_171 : decode cL_law 171 = .ok (.iconst 1, 1) := by decide +kernel
theorem dL_law_172 : decode cL_law 172 = .ok (.iadd, 1) := by decide +kernel
theorem dL_law_173 : decode cL_law 173 = .ok (.iaload, 1) := by decide +kernel
theorem dL_law_174 : decode cL_law 174 = .ok (.aload_n 0, 1) := by decide +kernel
theorem dL_law_175 : decode cL_law 175 = .ok (.iload 4, 2) := by decide +kernel
theorem dL_law_177 : decode cL_law 177 = .ok (.iconst 2, 1) := by decide +kernel
theorem dL_law_178 : decode cL_law 178 = .ok (.iadd, 1) := by decide +kernel
theorem dL_law_179 : decode cL_law 179 = .ok (.iaload, 1) := by decide +kernel
theorem dL_law_180 : decode cL_law 180 = .ok (.aload_n 0, 1) := by decide +kernel
theorem dL_law_181 : decode cL_law 181 = .ok (.iload 4, 2) := by decide +kernel
theorem dL_law_183 : decode cL_law 183 = .ok (.iconst 3, 1) := by decide +kernel
theorem dL_law_184 : decode cL_law 184 = .ok (.iadd, 1) := by decide +kernel
theorem dL_law_185 : decode cL_law 185 = .ok (.iaload, 1) := by decide +kernel
theorem dL_law_186 : decode cL_law 186 = .ok (.aload_n 0, 1) := by decide +kernel
theorem dL_law_187 : decode cL_law 187 = .ok (.iload 4, 2) := by decide +kernel
theorem dL_law_189 : decode cL_law 189 = .ok (.iconst 4, 1) := by decide +kernel
theorem dL_law_190 : decode cL_law 190 = .ok (.iadd, 1) := by decide +kernel
theorem dL_law_191 : decode cL_law 191 = .ok (.iaload, 1) := by decide +kernel
theorem dL_law_192 : decode cL_law 192 = .ok (.invokevirtual 79, 3) := by decide +kernel
theorem dL_law_195 : decode cL_law 195 = .ok (.istore 6, 2) := by decide +kernel
theorem dL_law_197 : decode cL_law 197 = .ok (.aload_n 2, 1) := by decide +kernel
theorem dL_law_198 : decode cL_law 198 = .ok (.invokevirtual 80, 3) := by decide +kernel
theorem dL_law_201 : decode cL_law 201 = .ok (.iload 5, 2) := by decide +kernel
theorem dL_law_203 : decode cL_law 203 = .ok (.if_icmp .eq 5, 3) := by decide +kernel
theorem dL_law_206 : decode cL_law 206 = .ok (.iconst 0, 1) := by decide +kernel
theorem dL_law_207 : decode cL_law 207 = .ok (.ireturn, 1) := by decide +kernel
theorem dL_law_208 : decode cL_law 208 = .ok (.iload 5, 2) := by decide +kernel
theorem dL_law_210 : decode cL_law 210 = .ok (.ifCond .ne 15, 3) := by decide +kernel
theorem dL_law_213 : decode cL_law 213 = .ok (.aload_n 3, 1) := by decide +kernel
theorem dL_law_214 : decode cL_law 214 = .ok (.iconst 0, 1) := by decide +kernel
theorem dL_law_215 : decode cL_law 215 = .ok (.laload, 1) := by decide +kernel
theorem dL_law_216 : decode cL_law 216 = .ok (.iload 6, 2) := by decide +kernel
theorem dL_law_218 : decode cL_law 218 = .ok (.i2l, 1) := by decide +kernel
theorem dL_law_219 : decode cL_law 219 = .ok (.lcmp, 1) := by decide +kernel
theorem dL_law_220 : decode cL_law 220 = .ok (.ifCond .eq 5, 3) := by decide +kernel
theorem dL_law_223 : decode cL_law 223 = .ok (.iconst 0, 1) := by decide +kernel
theorem dL_law_224 : decode cL_law 224 = .ok (.ireturn, 1) := by decide +kernel
theorem dL_law_225 : decode cL_law 225 = .ok (.goto 980, 3) := by decide +kernel
theorem dL_law_228 : decode cL_law 228 = .ok (.aload_n 1, 1) := by decide +kernel
theorem dL_law_229 : decode cL_law 229 = .ok (.aload_n 0, 1) := by decide +kernel
theorem dL_law_230 : decode cL_law 230 = .ok (.iload 4, 2) := by decide +kernel
theorem dL_law_232 : decode cL_law 232 = .ok (.iconst 1, 1) := by decide +kernel
theorem dL_law_233 : decode cL_law 233 = .ok (.iadd, 1) := by decide +kernel
theorem dL_law_234 : decode cL_law 234 = .ok (.iaload, 1) := by decide +kernel
theorem dL_law_235 : decode cL_law 235 = .ok (.aload_n 3, 1) := by decide +kernel
theorem dL_law_236 : decode cL_law 236 = .ok (.invokestatic 84, 3) := by decide +kernel
theorem dL_law_239 : decode cL_law 239 = .ok (.istore 5, 2) := by decide +kernel
theorem dL_law_241 : decode cL_law 241 = .ok (.aload_n 2, 1) := by decide +kernel
theorem dL_law_242 : decode cL_law 242 = .ok (.aload_n 0, 1) := by decide +kernel
theorem dL_law_243 : decode cL_law 243 = .ok (.iload 4, 2) := by decide +kernel
theorem dL_law_245 : decode cL_law 245 = .ok (.iconst 1, 1) := by decide +kernel
theorem dL_law_246 : decode cL_law 246 = .ok (.iadd, 1) := by decide +kernel
theorem dL_law_247 : decode cL_law 247 = .ok (.iaload, 1) := by decide +kernel
theorem dL_law_248 : decode cL_law 248 = .ok (.invokevirtual 87, 3) := by decide +kernel
theorem dL_law_251 : decode cL_law 251 = .ok (.istore 6, 2) := by decide +kernel
theorem dL_law_253 : decode cL_law 253 = .ok (.aload_n 2, 1) := by decide +kernel
theorem dL_law_254 : decode cL_law 254 = .ok (.invokevirtual 80, 3) := by decide +kernel
theorem dL_law_257 : decode cL_law 257 = .ok (.iload 5, 2) := by decide +kernel
theorem dL_law_259 : decode cL_law 259 = .ok (.if_icmp .eq 5, 3) := by decide +kernel
theorem dL_law_262 : decode cL_law 262 = .ok (.iconst 0, 1) := by decide +kernel
theorem dL_law_263 : decode cL_law 263 = .ok (.ireturn, 1) := by decide +kernel
theorem dL_law_264 : decode cL_law 264 = .ok (.iload 5, 2) := by decide +kernel
theorem dL_law_266 : decode cL_law 266 = .ok (.ifCond .ne 15, 3) := by decide +kernel
theorem dL_law_269 : decode cL_law 269 = .ok (.aload_n 3, 1) := by decide +kernel
theorem dL_law_270 : decode cL_law 270 = .ok (.iconst 0, 1) := by decide +kernel
theorem dL_law_271 : decode cL_law 271 = .ok (.laload, 1) := by decide +kernel
theorem dL_law_272 : decode cL_law 272 = .ok (.iload 6, 2) := by decide +kernel
theorem dL_law_274 : decode cL_law 274 = .ok (.i2l, 1) := by decide +kernel
theorem dL_law_275 : decode cL_law 275 = .ok (.lcmp, 1) := by decide +kernel
theorem dL_law_276 : decode cL_law 276 = .ok (.ifCond .eq 5, 3) := by decide +kernel
theorem dL_law_279 : decode cL_law 279 = .ok (.iconst 0, 1) := by decide +kernel
theorem dL_law_280 : decode cL_law 280 = .ok (.ireturn, 1) := by decide +kernel
theorem dL_law_281 : decode cL_law 281 = .ok (.goto 924, 3) := by decide +kernel
theorem dL_law_284 : decode cL_law 284 = .ok (.aload_n 1, 1) := by decide +kernel
theorem dL_law_285 : decode cL_law 285 = .ok (.aload_n 0, 1) := by decide +kernel
theorem dL_law_286 : decode cL_law 286 = .ok (.iload 4, 2) := by decide +kernel
theorem dL_law_288 : decode cL_law 288 = .ok (.iconst 1, 1) := by decide +kernel
theorem dL_law_289 : decode cL_law 289 = .ok (.iadd, 1) := by decide +kernel
theorem dL_law_290 : decode cL_law 290 = .ok (.iaload, 1) := by decide +kernel
theorem dL_law_291 : decode cL_law 291 = .ok (.aload_n 3, 1) := by decide +kernel
theorem dL_law_292 : decode cL_law 292 = .ok (.invokestatic 88, 3) := by decide +kernel
theorem dL_law_295 : decode cL_law 295 = .ok (.istore 5, 2) := by decide +kernel
theorem dL_law_297 : decode cL_law 297 = .ok (.aload_n 2, 1) := by decide +kernel
theorem dL_law_298 : decode cL_law 298 = .ok (.aload_n 0, 1) := by decide +kernel
theorem dL_law_299 : decode cL_law 299 = .ok (.iload 4, 2) := by decide +kernel
theorem dL_law_301 : decode cL_law 301 = .ok (.iconst 1, 1) := by decide +kernel
theorem dL_law_302 : decode cL_law 302 = .ok (.iadd, 1) := by decide +kernel
theorem dL_law_303 : decode cL_law 303 = .ok (.iaload, 1) := by decide +kernel
theorem dL_law_304 : decode cL_law 304 = .ok (.invokevirtual 90, 3) := by decide +kernel
theorem dL_law_307 : decode cL_law 307 = .ok (.istore 6, 2) := by decide +kernel
theorem dL_law_309 : decode cL_law 309 = .ok (.aload_n 2, 1) := by decide +kernel
theorem dL_law_310 : decode cL_law 310 = .ok (.invokevirtual 80, 3) := by decide +kernel
theorem dL_law_313 : decode cL_law 313 = .ok (.iload 5, 2) := by decide +kernel
theorem dL_law_315 : decode cL_law 315 = .ok (.if_icmp .eq 5, 3) := by decide +kernel
theorem dL_law_318 : decode cL_law 318 = .ok (.iconst 0, 1) := by decide +kernel
theorem dL_law_319 : decode cL_law 319 = .ok (.ireturn, 1) := by decide +kernel
theorem dL_law_320 : decode cL_law 320 = .ok (.iload 5, 2) := by decide +kernel
theorem dL_law_322 : decode cL_law 322 = .ok (.ifCond .ne 22, 3) := by decide +kernel
theorem dL_law_325 : decode cL_law 325 = .ok (.aload_n 3, 1) := by decide +kernel
theorem dL_law_326 : decode cL_law 326 = .ok (.iconst 0, 1) := by decide +kernel
theorem dL_law_327 : decode cL_law 327 = .ok (.laload, 1) := by decide +kernel
theorem dL_law_328 : decode cL_law 328 = .ok (.iload 6, 2) := by decide +kernel
theorem dL_law_330 : decode cL_law 330 = .ok (.ifCond .eq 7, 3) := by decide +kernel
theorem dL_law_333 : decode cL_law 333 = .ok (.lconst 1, 1) := by decide +kernel
theorem dL_law_334 : decode cL_law 334 = .ok (.goto 4, 3) := by decide +kernel
theorem dL_law_337 : decode cL_law 337 = .ok (.lconst 0, 1) := by decide +kernel
theorem dL_law_338 : decode cL_law 338 = .ok (.lcmp, 1) := by decide +kernel
theorem dL_law_339 : decode cL_law 339 = .ok (.ifCond .eq 5, 3) := by decide +kernel
theorem dL_law_342 : decode cL_law 342 = .ok (.iconst 0, 1) := by decide +kernel
theorem dL_law_343 : decode cL_law 343 = .ok (.ireturn, 1) := by decide +kernel
theorem dL_law_344 : decode cL_law 344 = .ok (.goto 861, 3) := by decide +kernel
theorem dL_law_347 : decode cL_law 347 = .ok (.aload_n 1, 1) := by decide +kernel
theorem dL_law_348 : decode cL_law 348 = .ok (.aload_n 0, 1) := by decide +kernel
theorem dL_law_349 : decode cL_law 349 = .ok (.iload 4, 2) := by decide +kernel
theorem dL_law_351 : decode cL_law 351 = .ok (.iconst 1, 1) := by decide +kernel
theorem dL_law_352 : decode cL_law 352 = .ok (.iadd, 1) := by decide +kernel
theorem dL_law_353 : decode cL_law 353 = .ok (.iaload, 1) := by decide +kernel
theorem dL_law_354 : decode cL_law 354 = .ok (.aload_n 0, 1) := by decide +kernel
theorem dL_law_355 : decode cL_law 355 = .ok (.iload 4, 2) := by decide +kernel
theorem dL_law_357 : decode cL_law 357 = .ok (.iconst 2, 1) := by decide +kernel
theorem dL_law_358 : decode cL_law 358 = .ok (.iadd, 1) := by decide +kernel
theorem dL_law_359 : decode cL_law 359 = .ok (.iaload, 1) := by decide +kernel
theorem dL_law_360 : decode cL_law 360 = .ok (.aload_n 3, 1) := by decide +kernel
theorem dL_law_361 : decode cL_law 361 = .ok (.invokestatic 91, 3) := by decide +kernel
theorem dL_law_364 : decode cL_law 364 = .ok (.istore 5, 2) := by decide +kernel
theorem dL_law_366 : decode cL_law 366 = .ok (.aload_n 2, 1) := by decide +kernel
theorem dL_law_367 : decode cL_law 367 = .ok (.aload_n 0, 1) := by decide +kernel
theorem dL_law_368 : decode cL_law 368 = .ok (.iload 4, 2) := by decide +kernel
theorem dL_law_370 : decode cL_law 370 = .ok (.iconst 1, 1) := by decide +kernel
theorem dL_law_371 : decode cL_law 371 = .ok (.iadd, 1) := by decide +kernel
theorem dL_law_372 : decode cL_law 372 = .ok (.iaload, 1) := by decide +kernel
theorem dL_law_373 : decode cL_law 373 = .ok (.aload_n 0, 1) := by decide +kernel
theorem dL_law_374 : decode cL_law 374 = .ok (.iload 4, 2) := by decide +kernel
theorem dL_law_376 : decode cL_law 376 = .ok (.iconst 2, 1) := by decide +kernel
theorem dL_law_377 : decode cL_law 377 = .ok (.iadd, 1) := by decide +kernel
theorem dL_law_378 : decode cL_law 378 = .ok (.iaload, 1) := by decide +kernel
theorem dL_law_379 : decode cL_law 379 = .ok (.invokevirtual 94, 3) := by decide +kernel
theorem dL_law_382 : decode cL_law 382 = .ok (.istore 6, 2) := by decide +kernel
theorem dL_law_384 : decode cL_law 384 = .ok (.aload_n 2, 1) := by decide +kernel
theorem dL_law_385 : decode cL_law 385 = .ok (.invokevirtual 80, 3) := by decide +kernel
theorem dL_law_388 : decode cL_law 388 = .ok (.iload 5, 2) := by decide +kernel
theorem dL_law_390 : decode cL_law 390 = .ok (.if_icmp .eq 5, 3) := by decide +kernel
theorem dL_law_393 : decode cL_law 393 = .ok (.iconst 0, 1) := by decide +kernel
theorem dL_law_394 : decode cL_law 394 = .ok (.ireturn, 1) := by decide +kernel
theorem dL_law_395 : decode cL_law 395 = .ok (.iload 5, 2) := by decide +kernel
theorem dL_law_397 : decode cL_law 397 = .ok (.ifCond .ne 22, 3) := by decide +kernel
theorem dL_law_400 : decode cL_law 400 = .ok (.aload_n 3, 1) := by decide +kernel
theorem dL_law_401 : decode cL_law 401 = .ok (.iconst 0, 1) := by decide +kernel
theorem dL_law_402 : decode cL_law 402 = .ok (.laload, 1) := by decide +kernel
theorem dL_law_403 : decode cL_law 403 = .ok (.iload 6, 2) := by decide +kernel
theorem dL_law_405 : decode cL_law 405 = .ok (.ifCond .eq 7, 3) := by decide +kernel
theorem dL_law_408 : decode cL_law 408 = .ok (.lconst 1, 1) := by decide +kernel
theorem dL_law_409 : decode cL_law 409 = .ok (.goto 4, 3) := by decide +kernel
theorem dL_law_412 : decode cL_law 412 = .ok (.lconst 0, 1) := by decide +kernel
theorem dL_law_413 : decode cL_law 413 = .ok (.lcmp, 1) := by decide +kernel
theorem dL_law_414 : decode cL_law 414 = .ok (.ifCond .eq 5, 3) := by decide +kernel
theorem dL_law_417 : decode cL_law 417 = .ok (.iconst 0, 1) := by decide +kernel
theorem dL_law_418 : decode cL_law 418 = .ok (.ireturn, 1) := by decide +kernel
theorem dL_law_419 : decode cL_law 419 = .ok (.goto 786, 3) := by decide +kernel
theorem dL_law_422 : decode cL_law 422 = .ok (.aload_n 1, 1) := by decide +kernel
theorem dL_law_423 : decode cL_law 423 = .ok (.aload_n 0, 1) := by decide +kernel
theorem dL_law_424 : decode cL_law 424 = .ok (.iload 4, 2) := by decide +kernel
theorem dL_law_426 : decode cL_law 426 = .ok (.iconst 1, 1) := by decide +kernel
theorem dL_law_427 : decode cL_law 427 = .ok (.iadd, 1) := by decide +kernel
theorem dL_law_428 : decode cL_law 428 = .ok (.iaload, 1) := by decide +kernel
theorem dL_law_429 : decode cL_law 429 = .ok (.aload_n 0, 1) := by decide +kernel
theorem dL_law_430 : decode cL_law 430 = .ok (.iload 4, 2) := by decide +kernel
theorem dL_law_432 : decode cL_law 432 = .ok (.iconst 2, 1) := by decide +kernel
theorem dL_law_433 : decode cL_law 433 = .ok (.iadd, 1) := by decide +kernel
theorem dL_law_434 : decode cL_law 434 = .ok (.iaload, 1) := by decide +kernel
theorem dL_law_435 : decode cL_law 435 = .ok (.aload_n 3, 1) := by decide +kernel
theorem dL_law_436 : decode cL_law 436 = .ok (.invokestatic 95, 3) := by decide +kernel
theorem dL_law_439 : decode cL_law 439 = .ok (.istore 5, 2) := by decide +kernel
theorem dL_law_441 : decode cL_law 441 = .ok (.aload_n 2, 1) := by decide +kernel
theorem dL_law_442 : decode cL_law 442 = .ok (.aload_n 0, 1) := by decide +kernel
theorem dL_law_443 : decode cL_law 443 = .ok (.iload 4, 2) := by decide +kernel
theorem dL_law_445 : decode cL_law 445 = .ok (.iconst 1, 1) := by decide +kernel
theorem dL_law_446 : decode cL_law 446 = .ok (.iadd, 1) := by decide +kernel
end
section
theorem dL_law_447 : decode cL_law 447 = .ok (.iaload, 1) := by decide +kernel
theorem dL_law_448 : decode cL_law 448 = .ok (.aload_n 0, 1) := by decide +kernel
theorem dL_law_449 : decode cL_law 449 = .ok (.iload 4, 2) := by decide +kernel
theorem dL_law_451 : decode cL_law 451 = .ok (.iconst 2, 1) := by decide +kernel
theorem dL_law_452 : decode cL_law 452 = .ok (.iadd, 1) := by decide +kernel
theorem dL_law_453 : decode cL_law 453 = .ok (.iaload, 1) := by decide +kernel
theorem dL_law_454 : decode cL_law 454 = .ok (.invokevirtual 97, 3) := by decide +kernel
theorem dL_law_457 : decode cL_law 457 = .ok (.istore 6, 2) := by decide +kernel
theorem dL_law_459 : decode cL_law 459 = .ok (.aload_n 2, 1) := by decide +kernel
theorem dL_law_460 : decode cL_law 460 = .ok (.invokevirtual 80, 3) := by decide +kernel
theorem dL_law_463 : decode cL_law 463 = .ok (.iload 5, 2) := by decide +kernel
theorem dL_law_465 : decode cL_law 465 = .ok (.if_icmp .eq 5, 3) := by decide +kernel
theorem dL_law_468 : decode cL_law 468 = .ok (.iconst 0, 1) := by decide +kernel
theorem dL_law_469 : decode cL_law 469 = .ok (.ireturn, 1) := by decide +kernel
theorem dL_law_470 : decode cL_law 470 = .ok (.iload 5, 2) := by decide +kernel
theorem dL_law_472 : decode cL_law 472 = .ok (.ifCond .ne 15, 3) := by decide +kernel
theorem dL_law_475 : decode cL_law 475 = .ok (.aload_n 3, 1) := by decide +kernel
theorem dL_law_476 : decode cL_law 476 = .ok (.iconst 0, 1) := by decide +kernel
theorem dL_law_477 : decode cL_law 477 = .ok (.laload, 1) := by decide +kernel
theorem dL_law_478 : decode cL_law 478 = .ok (.iload 6, 2) := by decide +kernel
theorem dL_law_480 : decode cL_law 480 = .ok (.i2l, 1) := by decide +kernel
theorem dL_law_481 : decode cL_law 481 = .ok (.lcmp, 1) := by decide +kernel
theorem dL_law_482 : decode cL_law 482 = .ok (.ifCond .eq 5, 3) := by decide +kernel
theorem dL_law_485 : decode cL_law 485 = .ok (.iconst 0, 1) := by decide +kernel
theorem dL_law_486 : decode cL_law 486 = .ok (.ireturn, 1) := by decide +kernel
theorem dL_law_487 : decode cL_law 487 = .ok (.goto 718, 3) := by decide +kernel
theorem dL_law_490 : decode cL_law 490 = .ok (.aload_n 1, 1) := by decide +kernel
theorem dL_law_491 : decode cL_law 491 = .ok (.aload_n 0, 1) := by decide +kernel
theorem dL_law_492 : decode cL_law 492 = .ok (.iload 4, 2) := by decide +kernel
theorem dL_law_494 : decode cL_law 494 = .ok (.iconst 1, 1) := by decide +kernel
theorem dL_law_495 : decode cL_law 495 = .ok (.iadd, 1) := by decide +kernel
theorem dL_law_496 : decode cL_law 496 = .ok (.iaload, 1) := by decide +kernel
theorem dL_law_497 : decode cL_law 497 = .ok (.aload_n 0, 1) := by decide +kernel
theorem dL_law_498 : decode cL_law 498 = .ok (.iload 4, 2) := by decide +kernel
theorem dL_law_500 : decode cL_law 500 = .ok (.iconst 2, 1) := by decide +kernel
theorem dL_law_501 : decode cL_law 501 = .ok (.iadd, 1) := by decide +kernel
theorem dL_law_502 : decode cL_law 502 = .ok (.iaload, 1) := by decide +kernel
theorem dL_law_503 : decode cL_law 503 = .ok (.aload_n 3, 1) := by decide +kernel
theorem dL_law_504 : decode cL_law 504 = .ok (.invokestatic 98, 3) := by decide +kernel
theorem dL_law_507 : decode cL_law 507 = .ok (.istore 5, 2) := by decide +kernel
theorem dL_law_509 : decode cL_law 509 = .ok (.aload_n 2, 1) := by decide +kernel
theorem dL_law_510 : decode cL_law 510 = .ok (.aload_n 0, 1) := by decide +kernel
theorem dL_law_511 : decode cL_law 511 = .ok (.iload 4, 2) := by decide +kernel
theorem dL_law_513 : decode cL_law 513 = .ok (.iconst 1, 1) := by decide +kernel
theorem dL_law_514 : decode cL_law 514 = .ok (.iadd, 1) := by decide +kernel
theorem dL_law_515 : decode cL_law 515 = .ok (.iaload, 1) := by decide +kernel
theorem dL_law_516 : decode cL_law 516 = .ok (.aload_n 0, 1) := by decide +kernel
theorem dL_law_517 : decode cL_law 517 = .ok (.iload 4, 2) := by decide +kernel
theorem dL_law_519 : decode cL_law 519 = .ok (.iconst 2, 1) := by decide +kernel
theorem dL_law_520 : decode cL_law 520 = .ok (.iadd, 1) := by decide +kernel
theorem dL_law_521 : decode cL_law 521 = .ok (.iaload, 1) := by decide +kernel
theorem dL_law_522 : decode cL_law 522 = .ok (.invokevirtual 100, 3) := by decide +kernel
theorem dL_law_525 : decode cL_law 525 = .ok (.istore 6, 2) := by decide +kernel
theorem dL_law_527 : decode cL_law 527 = .ok (.aload_n 2, 1) := by decide +kernel
theorem dL_law_528 : decode cL_law 528 = .ok (.invokevirtual 80, 3) := by decide +kernel
theorem dL_law_531 : decode cL_law 531 = .ok (.iload 5, 2) := by decide +kernel
theorem dL_law_533 : decode cL_law 533 = .ok (.if_icmp .eq 5, 3) := by decide +kernel
theorem dL_law_536 : decode cL_law 536 = .ok (.iconst 0, 1) := by decide +kernel
theorem dL_law_537 : decode cL_law 537 = .ok (.ireturn, 1) := by decide +kernel
theorem dL_law_538 : decode cL_law 538 = .ok (.iload 5, 2) := by decide +kernel
theorem dL_law_540 : decode cL_law 540 = .ok (.ifCond .ne 15, 3) := by decide +kernel
theorem dL_law_543 : decode cL_law 543 = .ok (.aload_n 3, 1) := by decide +kernel
theorem dL_law_544 : decode cL_law 544 = .ok (.iconst 0, 1) := by decide +kernel
theorem dL_law_545 : decode cL_law 545 = .ok (.laload, 1) := by decide +kernel
theorem dL_law_546 : decode cL_law 546 = .ok (.iload 6, 2) := by decide +kernel
theorem dL_law_548 : decode cL_law 548 = .ok (.i2l, 1) := by decide +kernel
theorem dL_law_549 : decode cL_law 549 = .ok (.lcmp, 1) := by decide +kernel
theorem dL_law_550 : decode cL_law 550 = .ok (.ifCond .eq 5, 3) := by decide +kernel
theorem dL_law_553 : decode cL_law 553 = .ok (.iconst 0, 1) := by decide +kernel
theorem dL_law_554 : decode cL_law 554 = .ok (.ireturn, 1) := by decide +kernel
theorem dL_law_555 : decode cL_law 555 = .ok (.goto 650, 3) := by decide +kernel
theorem dL_law_558 : decode cL_law 558 = .ok (.aload_n 1, 1) := by decide +kernel
theorem dL_law_559 : decode cL_law 559 = .ok (.aload_n 0, 1) := by decide +kernel
theorem dL_law_560 : decode cL_law 560 = .ok (.iload 4, 2) := by decide +kernel
theorem dL_law_562 : decode cL_law 562 = .ok (.iconst 1, 1) := by decide +kernel
theorem dL_law_563 : decode cL_law 563 = .ok (.iadd, 1) := by decide +kernel
theorem dL_law_564 : decode cL_law 564 = .ok (.iaload, 1) := by decide +kernel
theorem dL_law_565 : decode cL_law 565 = .ok (.aload_n 3, 1) := by decide +kernel
theorem dL_law_566 : decode cL_law 566 = .ok (.invokestatic 101, 3) := by decide +kernel
theorem dL_law_569 : decode cL_law 569 = .ok (.istore 5, 2) := by decide +kernel
theorem dL_law_571 : decode cL_law 571 = .ok (.aload_n 2, 1) := by decide +kernel
theorem dL_law_572 : decode cL_law 572 = .ok (.aload_n 0, 1) := by decide +kernel
theorem dL_law_573 : decode cL_law 573 = .ok (.iload 4, 2) := by decide +kernel
theorem dL_law_575 : decode cL_law 575 = .ok (.iconst 1, 1) := by decide +kernel
theorem dL_law_576 : decode cL_law 576 = .ok (.iadd, 1) := by decide +kernel
theorem dL_law_577 : decode cL_law 577 = .ok (.iaload, 1) := by decide +kernel
theorem dL_law_578 : decode cL_law 578 = .ok (.invokevirtual 103, 3) := by decide +kernel
theorem dL_law_581 : decode cL_law 581 = .ok (.istore 6, 2) := by decide +kernel
theorem dL_law_583 : decode cL_law 583 = .ok (.aload_n 2, 1) := by decide +kernel
theorem dL_law_584 : decode cL_law 584 = .ok (.invokevirtual 80, 3) := by decide +kernel
theorem dL_law_587 : decode cL_law 587 = .ok (.iload 5, 2) := by decide +kernel
theorem dL_law_589 : decode cL_law 589 = .ok (.if_icmp .eq 5, 3) := by decide +kernel
theorem dL_law_592 : decode cL_law 592 = .ok (.iconst 0, 1) := by decide +kernel
theorem dL_law_593 : decode cL_law 593 = .ok (.ireturn, 1) := by decide +kernel
theorem dL_law_594 : decode cL_law 594 = .ok (.iload 5, 2) := by decide +kernel
theorem dL_law_596 : decode cL_law 596 = .ok (.ifCond .ne 15, 3) := by decide +kernel
theorem dL_law_599 : decode cL_law 599 = .ok (.aload_n 3, 1) := by decide +kernel
theorem dL_law_600 : decode cL_law 600 = .ok (.iconst 0, 1) := by decide +kernel
theorem dL_law_601 : decode cL_law 601 = .ok (.laload, 1) := by decide +kernel
theorem dL_law_602 : decode cL_law 602 = .ok (.iload 6, 2) := by decide +kernel
theorem dL_law_604 : decode cL_law 604 = .ok (.i2l, 1) := by decide +kernel
theorem dL_law_605 : decode cL_law 605 = .ok (.lcmp, 1) := by decide +kernel
theorem dL_law_606 : decode cL_law 606 = .ok (.ifCond .eq 5, 3) := by decide +kernel
theorem dL_law_609 : decode cL_law 609 = .ok (.iconst 0, 1) := by decide +kernel
theorem dL_law_610 : decode cL_law 610 = .ok (.ireturn, 1) := by decide +kernel
theorem dL_law_611 : decode cL_law 611 = .ok (.goto 594, 3) := by decide +kernel
theorem dL_law_614 : decode cL_law 614 = .ok (.aload_n 1, 1) := by decide +kernel
theorem dL_law_615 : decode cL_law 615 = .ok (.aload_n 0, 1) := by decide +kernel
theorem dL_law_616 : decode cL_law 616 = .ok (.iload 4, 2) := by decide +kernel
theorem dL_law_618 : decode cL_law 618 = .ok (.iconst 1, 1) := by decide +kernel
theorem dL_law_619 : decode cL_law 619 = .ok (.iadd, 1) := by decide +kernel
theorem dL_law_620 : decode cL_law 620 = .ok (.iaload, 1) := by decide +kernel
theorem dL_law_621 : decode cL_law 621 = .ok (.aload_n 3, 1) := by decide +kernel
theorem dL_law_622 : decode cL_law 622 = .ok (.invokestatic 104, 3) := by decide +kernel
theorem dL_law_625 : decode cL_law 625 = .ok (.istore 5, 2) := by decide +kernel
theorem dL_law_627 : decode cL_law 627 = .ok (.aload_n 2, 1) := by decide +kernel
theorem dL_law_628 : decode cL_law 628 = .ok (.aload_n 0, 1) := by decide +kernel
theorem dL_law_629 : decode cL_law 629 = .ok (.iload 4, 2) := by decide +kernel
theorem dL_law_631 : decode cL_law 631 = .ok (.iconst 1, 1) := by decide +kernel
theorem dL_law_632 : decode cL_law 632 = .ok (.iadd, 1) := by decide +kernel
theorem dL_law_633 : decode cL_law 633 = .ok (.iaload, 1) := by decide +kernel
theorem dL_law_634 : decode cL_law 634 = .ok (.invokevirtual 106, 3) := by decide +kernel
theorem dL_law_637 : decode cL_law 637 = .ok (.istore 6, 2) := by decide +kernel
theorem dL_law_639 : decode cL_law 639 = .ok (.aload_n 2, 1) := by decide +kernel
theorem dL_law_640 : decode cL_law 640 = .ok (.invokevirtual 80, 3) := by decide +kernel
theorem dL_law_643 : decode cL_law 643 = .ok (.iload 5, 2) := by decide +kernel
theorem dL_law_645 : decode cL_law 645 = .ok (.if_icmp .eq 5, 3) := by decide +kernel
theorem dL_law_648 : decode cL_law 648 = .ok (.iconst 0, 1) := by decide +kernel
theorem dL_law_649 : decode cL_law 649 = .ok (.ireturn, 1) := by decide +kernel
theorem dL_law_650 : decode cL_law 650 = .ok (.iload 5, 2) := by decide +kernel
theorem dL_law_652 : decode cL_law 652 = .ok (.ifCond .ne 15, 3) := by decide +kernel
theorem dL_law_655 : decode cL_law 655 = .ok (.aload_n 3, 1) := by decide +kernel
theorem dL_law_656 : decode cL_law 656 = .ok (.iconst 0, 1) := by decide +kernel
theorem dL_law_657 : decode cL_law 657 = .ok (.laload, 1) := by decide +kernel
theorem dL_law_658 : decode cL_law 658 = .ok (.iload 6, 2) := by decide +kernel
theorem dL_law_660 : decode cL_law 660 = .ok (.i2l, 1) := by decide +kernel
theorem dL_law_661 : decode cL_law 661 = .ok (.lcmp, 1) := by decide +kernel
theorem dL_law_662 : decode cL_law 662 = .ok (.ifCond .eq 5, 3) := by decide +kernel
theorem dL_law_665 : decode cL_law 665 = .ok (.iconst 0, 1) := by decide +kernel
theorem dL_law_666 : decode cL_law 666 = .ok (.ireturn, 1) := by decide +kernel
theorem dL_law_667 : decode cL_law 667 = .ok (.goto 538, 3) := by decide +kernel
theorem dL_law_670 : decode cL_law 670 = .ok (.aload_n 1, 1) := by decide +kernel
theorem dL_law_671 : decode cL_law 671 = .ok (.aload_n 0, 1) := by decide +kernel
theorem dL_law_672 : decode cL_law 672 = .ok (.iload 4, 2) := by decide +kernel
theorem dL_law_674 : decode cL_law 674 = .ok (.iconst 1, 1) := by decide +kernel
theorem dL_law_675 : decode cL_law 675 = .ok (.iadd, 1) := by decide +kernel
theorem dL_law_676 : decode cL_law 676 = .ok (.iaload, 1) := by decide +kernel
theorem dL_law_677 : decode cL_law 677 = .ok (.aload_n 0, 1) := by decide +kernel
theorem dL_law_678 : decode cL_law 678 = .ok (.iload 4, 2) := by decide +kernel
theorem dL_law_680 : decode cL_law 680 = .ok (.iconst 2, 1) := by decide +kernel
theorem dL_law_681 : decode cL_law 681 = .ok (.iadd, 1) := by decide +kernel
theorem dL_law_682 : decode cL_law 682 = .ok (.iaload, 1) := by decide +kernel
theorem dL_law_683 : decode cL_law 683 = .ok (.aload_n 3, 1) := by decide +kernel
theorem dL_law_684 : decode cL_law 684 = .ok (.invokestatic 107, 3) := by decide +kernel
theorem dL_law_687 : decode cL_law 687 = .ok (.istore 5, 2) := by decide +kernel
theorem dL_law_689 : decode cL_law 689 = .ok (.aload_n 2, 1) := by decide +kernel
theorem dL_law_690 : decode cL_law 690 = .ok (.aload_n 0, 1) := by decide +kernel
theorem dL_law_691 : decode cL_law 691 = .ok (.iload 4, 2) := by decide +kernel
theorem dL_law_693 : decode cL_law 693 = .ok (.iconst 1, 1) := by decide +kernel
theorem dL_law_694 : decode cL_law 694 = .ok (.iadd, 1) := by decide +kernel
theorem dL_law_695 : decode cL_law 695 = .ok (.iaload, 1) := by decide +kernel
theorem dL_law_696 : decode cL_law 696 = .ok (.aload_n 0, 1) := by decide +kernel
theorem dL_law_697 : decode cL_law 697 = .ok (.iload 4, 2) := by decide +kernel
theorem dL_law_699 : decode cL_law 699 = .ok (.iconst 2, 1) := by decide +kernel
theorem dL_law_700 : decode cL_law 700 = .ok (.iadd, 1) := by decide +kernel
theorem dL_law_701 : decode cL_law 701 = .ok (.iaload, 1) := by decide +kernel
theorem dL_law_702 : decode cL_law 702 = .ok (.invokevirtual 109, 3) := by decide +kernel
theorem dL_law_705 : decode cL_law 705 = .ok (.istore 6, 2) := by decide +kernel
theorem dL_law_707 : decode cL_law 707 = .ok (.aload_n 2, 1) := by decide +kernel
theorem dL_law_708 : decode cL_law 708 = .ok (.invokevirtual 80, 3) := by decide +kernel
theorem dL_law_711 : decode cL_law 711 = .ok (.iload 5, 2) := by decide +kernel
theorem dL_law_713 : decode cL_law 713 = .ok (.if_icmp .eq 5, 3) := by decide +kernel
theorem dL_law_716 : decode cL_law 716 = .ok (.iconst 0, 1) := by decide +kernel
theorem dL_law_717 : decode cL_law 717 = .ok (.ireturn, 1) := by decide +kernel
theorem dL_law_718 : decode cL_law 718 = .ok (.iload 5, 2) := by decide +kernel
theorem dL_law_720 : decode cL_law 720 = .ok (.ifCond .ne 15, 3) := by decide +kernel
theorem dL_law_723 : decode cL_law 723 = .ok (.aload_n 3, 1) := by decide +kernel
theorem dL_law_724 : decode cL_law 724 = .ok (.iconst 0, 1) := by decide +kernel
theorem dL_law_725 : decode cL_law 725 = .ok (.laload, 1) := by decide +kernel
theorem dL_law_726 : decode cL_law 726 = .ok (.iload 6, 2) := by decide +kernel
theorem dL_law_728 : decode cL_law 728 = .ok (.i2l, 1) := by decide +kernel
theorem dL_law_729 : decode cL_law 729 = .ok (.lcmp, 1) := by decide +kernel
theorem dL_law_730 : decode cL_law 730 = .ok (.ifCond .eq 5, 3) := by decide +kernel
theorem dL_law_733 : decode cL_law 733 = .ok (.iconst 0, 1) := by decide +kernel
theorem dL_law_734 : decode cL_law 734 = .ok (.ireturn, 1) := by decide +kernel
theorem dL_law_735 : decode cL_law 735 = .ok (.goto 470, 3) := by decide +kernel
theorem dL_law_738 : decode cL_law 738 = .ok (.aload_n 1, 1) := by decide +kernel
theorem dL_law_739 : decode cL_law 739 = .ok (.aload_n 0, 1) := by decide +kernel
theorem dL_law_740 : decode cL_law 740 = .ok (.iload 4, 2) := by decide +kernel
theorem dL_law_742 : decode cL_law 742 = .ok (.iconst 1, 1) := by decide +kernel
theorem dL_law_743 : decode cL_law 743 = .ok (.iadd, 1) := by decide +kernel
theorem dL_law_744 : decode cL_law 744 = .ok (.iaload, 1) := by decide +kernel
theorem dL_law_745 : decode cL_law 745 = .ok (.aload_n 3, 1) := by decide +kernel
theorem dL_law_746 : decode cL_law 746 = .ok (.invokestatic 110, 3) := by decide +kernel
theorem dL_law_749 : decode cL_law 749 = .ok (.istore 5, 2) := by decide +kernel
theorem dL_law_751 : decode cL_law 751 = .ok (.aload_n 2, 1) := by decide +kernel
theorem dL_law_752 : decode cL_law 752 = .ok (.aload_n 0, 1) := by decide +kernel
theorem dL_law_753 : decode cL_law 753 = .ok (.iload 4, 2) := by decide +kernel
theorem dL_law_755 : decode cL_law 755 = .ok (.iconst 1, 1) := by decide +kernel
theorem dL_law_756 : decode cL_law 756 = .ok (.iadd, 1) := by decide +kernel
theorem dL_law_757 : decode cL_law 757 = .ok (.iaload, 1) := by decide +kernel
theorem dL_law_758 : decode cL_law 758 = .ok (.invokevirtual 112, 3) := by decide +kernel
theorem dL_law_761 : decode cL_law 761 = .ok (.istore 6, 2) := by decide +kernel
theorem dL_law_763 : decode cL_law 763 = .ok (.aload_n 2, 1) := by decide +kernel
theorem dL_law_764 : decode cL_law 764 = .ok (.invokevirtual 80, 3) := by decide +kernel
theorem dL_law_767 : decode cL_law 767 = .ok (.iload 5, 2) := by decide +kernel
theorem dL_law_769 : decode cL_law 769 = .ok (.if_icmp .eq 5, 3) := by decide +kernel
theorem dL_law_772 : decode cL_law 772 = .ok (.iconst 0, 1) := by decide +kernel
theorem dL_law_773 : decode cL_law 773 = .ok (.ireturn, 1) := by decide +kernel
theorem dL_law_774 : decode cL_law 774 = .ok (.iload 5, 2) := by decide +kernel
theorem dL_law_776 : decode cL_law 776 = .ok (.ifCond .ne 15, 3) := by decide +kernel
theorem dL_law_779 : decode cL_law 779 = .ok (.aload_n 3, 1) := by decide +kernel
theorem dL_law_780 : decode cL_law 780 = .ok (.iconst 0, 1) := by decide +kernel
theorem dL_law_781 : decode cL_law 781 = .ok (.laload, 1) := by decide +kernel
theorem dL_law_782 : decode cL_law 782 = .ok (.iload 6, 2) := by decide +kernel
theorem dL_law_784 : decode cL_law 784 = .ok (.i2l, 1) := by decide +kernel
theorem dL_law_785 : decode cL_law 785 = .ok (.lcmp, 1) := by decide +kernel
theorem dL_law_786 : decode cL_law 786 = .ok (.ifCond .eq 5, 3) := by decide +kernel
theorem dL_law_789 : decode cL_law 789 = .ok (.iconst 0, 1) := by decide +kernel
theorem dL_law_790 : decode cL_law 790 = .ok (.ireturn, 1) := by decide +kernel
theorem dL_law_791 : decode cL_law 791 = .ok (.goto 414, 3) := by decide +kernel
theorem dL_law_794 : decode cL_law 794 = .ok (.aload_n 1, 1) := by decide +kernel
theorem dL_law_795 : decode cL_law 795 = .ok (.aload_n 0, 1) := by decide +kernel
theorem dL_law_796 : decode cL_law 796 = .ok (.iload 4, 2) := by decide +kernel
theorem dL_law_798 : decode cL_law 798 = .ok (.iconst 1, 1) := by decide +kernel
theorem dL_law_799 : decode cL_law 799 = .ok (.iadd, 1) := by decide +kernel
theorem dL_law_800 : decode cL_law 800 = .ok (.iaload, 1) := by decide +kernel
theorem dL_law_801 : decode cL_law 801 = .ok (.aload_n 0, 1) := by decide +kernel
theorem dL_law_802 : decode cL_law 802 = .ok (.iload 4, 2) := by decide +kernel
theorem dL_law_804 : decode cL_law 804 = .ok (.iconst 2, 1) := by decide +kernel
theorem dL_law_805 : decode cL_law 805 = .ok (.iadd, 1) := by decide +kernel
theorem dL_law_806 : decode cL_law 806 = .ok (.iaload, 1) := by decide +kernel
theorem dL_law_807 : decode cL_law 807 = .ok (.aload_n 0, 1) := by decide +kernel
theorem dL_law_808 : decode cL_law 808 = .ok (.iload 4, 2) := by decide +kernel
theorem dL_law_810 : decode cL_law 810 = .ok (.iconst 3, 1) := by decide +kernel
theorem dL_law_811 : decode cL_law 811 = .ok (.iadd, 1) := by decide +kernel
theorem dL_law_812 : decode cL_law 812 = .ok (.iaload, 1) := by decide +kernel
theorem dL_law_813 : decode cL_law 813 = .ok (.invokestatic 113, 3) := by decide +kernel
theorem dL_law_816 : decode cL_law 816 = .ok (.istore 5, 2) := by decide +kernel
end
section
theorem dL_law_818 : decode cL_law 818 = .ok (.aload_n 2, 1) := by decide +kernel
theorem dL_law_819 : decode cL_law 819 = .ok (.aload_n 0, 1) := by decide +kernel
theorem dL_law_820 : decode cL_law 820 = .ok (.iload 4, 2) := by decide +kernel
theorem dL_law_822 : decode cL_law 822 = .ok (.iconst 1, 1) := by decide +kernel
theorem dL_law_823 : decode cL_law 823 = .ok (.iadd, 1) := by decide +kernel
theorem dL_law_824 : decode cL_law 824 = .ok (.iaload, 1) := by decide +kernel
theorem dL_law_825 : decode cL_law 825 = .ok (.aload_n 0, 1) := by decide +kernel
theorem dL_law_826 : decode cL_law 826 = .ok (.iload 4, 2) := by decide +kernel
theorem dL_law_828 : decode cL_law 828 = .ok (.iconst 2, 1) := by decide +kernel
theorem dL_law_829 : decode cL_law 829 = .ok (.iadd, 1) := by decide +kernel
theorem dL_law_830 : decode cL_law 830 = .ok (.iaload, 1) := by decide +kernel
theorem dL_law_831 : decode cL_law 831 = .ok (.aload_n 0, 1) := by decide +kernel
theorem dL_law_832 : decode cL_law 832 = .ok (.iload 4, 2) := by decide +kernel
theorem dL_law_834 : decode cL_law 834 = .ok (.iconst 3, 1) := by decide +kernel
theorem dL_law_835 : decode cL_law 835 = .ok (.iadd, 1) := by decide +kernel
theorem dL_law_836 : decode cL_law 836 = .ok (.iaload, 1) := by decide +kernel
theorem dL_law_837 : decode cL_law 837 = .ok (.invokevirtual 116, 3) := by decide +kernel
theorem dL_law_840 : decode cL_law 840 = .ok (.aload_n 2, 1) := by decide +kernel
theorem dL_law_841 : decode cL_law 841 = .ok (.invokevirtual 80, 3) := by decide +kernel
theorem dL_law_844 : decode cL_law 844 = .ok (.iload 5, 2) := by decide +kernel
theorem dL_law_846 : decode cL_law 846 = .ok (.if_icmp .eq 5, 3) := by decide +kernel
theorem dL_law_849 : decode cL_law 849 = .ok (.iconst 0, 1) := by decide +kernel
theorem dL_law_850 : decode cL_law 850 = .ok (.ireturn, 1) := by decide +kernel
theorem dL_law_851 : decode cL_law 851 = .ok (.goto 354, 3) := by decide +kernel
theorem dL_law_854 : decode cL_law 854 = .ok (.aload_n 1, 1) := by decide +kernel
theorem dL_law_855 : decode cL_law 855 = .ok (.aload_n 0, 1) := by decide +kernel
theorem dL_law_856 : decode cL_law 856 = .ok (.iload 4, 2) := by decide +kernel
theorem dL_law_858 : decode cL_law 858 = .ok (.iconst 1, 1) := by decide +kernel
theorem dL_law_859 : decode cL_law 859 = .ok (.iadd, 1) := by decide +kernel
theorem dL_law_860 : decode cL_law 860 = .ok (.iaload, 1) := by decide +kernel
theorem dL_law_861 : decode cL_law 861 = .ok (.aload_n 3, 1) := by decide +kernel
theorem dL_law_862 : decode cL_law 862 = .ok (.invokestatic 117, 3) := by decide +kernel
theorem dL_law_865 : decode cL_law 865 = .ok (.istore 5, 2) := by decide +kernel
theorem dL_law_867 : decode cL_law 867 = .ok (.aload_n 2, 1) := by decide +kernel
theorem dL_law_868 : decode cL_law 868 = .ok (.aload_n 0, 1) := by decide +kernel
theorem dL_law_869 : decode cL_law 869 = .ok (.iload 4, 2) := by decide +kernel
theorem dL_law_871 : decode cL_law 871 = .ok (.iconst 1, 1) := by decide +kernel
theorem dL_law_872 : decode cL_law 872 = .ok (.iadd, 1) := by decide +kernel
theorem dL_law_873 : decode cL_law 873 = .ok (.iaload, 1) := by decide +kernel
theorem dL_law_874 : decode cL_law 874 = .ok (.invokevirtual 119, 3) := by decide +kernel
theorem dL_law_877 : decode cL_law 877 = .ok (.istore 6, 2) := by decide +kernel
theorem dL_law_879 : decode cL_law 879 = .ok (.aload_n 2, 1) := by decide +kernel
theorem dL_law_880 : decode cL_law 880 = .ok (.invokevirtual 80, 3) := by decide +kernel
theorem dL_law_883 : decode cL_law 883 = .ok (.iload 5, 2) := by decide +kernel
theorem dL_law_885 : decode cL_law 885 = .ok (.if_icmp .eq 5, 3) := by decide +kernel
theorem dL_law_888 : decode cL_law 888 = .ok (.iconst 0, 1) := by decide +kernel
theorem dL_law_889 : decode cL_law 889 = .ok (.ireturn, 1) := by decide +kernel
theorem dL_law_890 : decode cL_law 890 = .ok (.iload 5, 2) := by decide +kernel
theorem dL_law_892 : decode cL_law 892 = .ok (.ifCond .ne 15, 3) := by decide +kernel
theorem dL_law_895 : decode cL_law 895 = .ok (.aload_n 3, 1) := by decide +kernel
theorem dL_law_896 : decode cL_law 896 = .ok (.iconst 0, 1) := by decide +kernel
theorem dL_law_897 : decode cL_law 897 = .ok (.laload, 1) := by decide +kernel
theorem dL_law_898 : decode cL_law 898 = .ok (.iload 6, 2) := by decide +kernel
theorem dL_law_900 : decode cL_law 900 = .ok (.i2l, 1) := by decide +kernel
theorem dL_law_901 : decode cL_law 901 = .ok (.lcmp, 1) := by decide +kernel
theorem dL_law_902 : decode cL_law 902 = .ok (.ifCond .eq 5, 3) := by decide +kernel
theorem dL_law_905 : decode cL_law 905 = .ok (.iconst 0, 1) := by decide +kernel
theorem dL_law_906 : decode cL_law 906 = .ok (.ireturn, 1) := by decide +kernel
theorem dL_law_907 : decode cL_law 907 = .ok (.goto 298, 3) := by decide +kernel
theorem dL_law_910 : decode cL_law 910 = .ok (.aload_n 1, 1) := by decide +kernel
theorem dL_law_911 : decode cL_law 911 = .ok (.aload_n 0, 1) := by decide +kernel
theorem dL_law_912 : decode cL_law 912 = .ok (.iload 4, 2) := by decide +kernel
theorem dL_law_914 : decode cL_law 914 = .ok (.iconst 1, 1) := by decide +kernel
theorem dL_law_915 : decode cL_law 915 = .ok (.iadd, 1) := by decide +kernel
theorem dL_law_916 : decode cL_law 916 = .ok (.iaload, 1) := by decide +kernel
theorem dL_law_917 : decode cL_law 917 = .ok (.aload_n 3, 1) := by decide +kernel
theorem dL_law_918 : decode cL_law 918 = .ok (.invokestatic 120, 3) := by decide +kernel
theorem dL_law_921 : decode cL_law 921 = .ok (.istore 5, 2) := by decide +kernel
theorem dL_law_923 : decode cL_law 923 = .ok (.aload_n 2, 1) := by decide +kernel
theorem dL_law_924 : decode cL_law 924 = .ok (.aload_n 0, 1) := by decide +kernel
theorem dL_law_925 : decode cL_law 925 = .ok (.iload 4, 2) := by decide +kernel
theorem dL_law_927 : decode cL_law 927 = .ok (.iconst 1, 1) := by decide +kernel
theorem dL_law_928 : decode cL_law 928 = .ok (.iadd, 1) := by decide +kernel
theorem dL_law_929 : decode cL_law 929 = .ok (.iaload, 1) := by decide +kernel
theorem dL_law_930 : decode cL_law 930 = .ok (.invokevirtual 122, 3) := by decide +kernel
theorem dL_law_933 : decode cL_law 933 = .ok (.istore 6, 2) := by decide +kernel
theorem dL_law_935 : decode cL_law 935 = .ok (.aload_n 2, 1) := by decide +kernel
theorem dL_law_936 : decode cL_law 936 = .ok (.invokevirtual 80, 3) := by decide +kernel
theorem dL_law_939 : decode cL_law 939 = .ok (.iload 5, 2) := by decide +kernel
theorem dL_law_941 : decode cL_law 941 = .ok (.if_icmp .eq 5, 3) := by decide +kernel
theorem dL_law_944 : decode cL_law 944 = .ok (.iconst 0, 1) := by decide +kernel
theorem dL_law_945 : decode cL_law 945 = .ok (.ireturn, 1) := by decide +kernel
theorem dL_law_946 : decode cL_law 946 = .ok (.iload 5, 2) := by decide +kernel
theorem dL_law_948 : decode cL_law 948 = .ok (.ifCond .ne 15, 3) := by decide +kernel
theorem dL_law_951 : decode cL_law 951 = .ok (.aload_n 3, 1) := by decide +kernel
theorem dL_law_952 : decode cL_law 952 = .ok (.iconst 0, 1) := by decide +kernel
theorem dL_law_953 : decode cL_law 953 = .ok (.laload, 1) := by decide +kernel
theorem dL_law_954 : decode cL_law 954 = .ok (.iload 6, 2) := by decide +kernel
theorem dL_law_956 : decode cL_law 956 = .ok (.i2l, 1) := by decide +kernel
theorem dL_law_957 : decode cL_law 957 = .ok (.lcmp, 1) := by decide +kernel
theorem dL_law_958 : decode cL_law 958 = .ok (.ifCond .eq 5, 3) := by decide +kernel
theorem dL_law_961 : decode cL_law 961 = .ok (.iconst 0, 1) := by decide +kernel
theorem dL_law_962 : decode cL_law 962 = .ok (.ireturn, 1) := by decide +kernel
theorem dL_law_963 : decode cL_law 963 = .ok (.goto 242, 3) := by decide +kernel
theorem dL_law_966 : decode cL_law 966 = .ok (.aload_n 1, 1) := by decide +kernel
theorem dL_law_967 : decode cL_law 967 = .ok (.invokevirtual 123, 3) := by decide +kernel
theorem dL_law_970 : decode cL_law 970 = .ok (.aload_n 2, 1) := by decide +kernel
theorem dL_law_971 : decode cL_law 971 = .ok (.invokevirtual 126, 3) := by decide +kernel
theorem dL_law_974 : decode cL_law 974 = .ok (.if_icmp .eq 231, 3) := by decide +kernel
theorem dL_law_977 : decode cL_law 977 = .ok (.iconst 0, 1) := by decide +kernel
theorem dL_law_978 : decode cL_law 978 = .ok (.ireturn, 1) := by decide +kernel
theorem dL_law_979 : decode cL_law 979 = .ok (.aload_n 1, 1) := by decide +kernel
theorem dL_law_980 : decode cL_law 980 = .ok (.invokevirtual 127, 3) := by decide +kernel
theorem dL_law_983 : decode cL_law 983 = .ok (.aload_n 2, 1) := by decide +kernel
theorem dL_law_984 : decode cL_law 984 = .ok (.invokevirtual 130, 3) := by decide +kernel
theorem dL_law_987 : decode cL_law 987 = .ok (.if_icmp .eq 218, 3) := by decide +kernel
theorem dL_law_990 : decode cL_law 990 = .ok (.iconst 0, 1) := by decide +kernel
theorem dL_law_991 : decode cL_law 991 = .ok (.ireturn, 1) := by decide +kernel
theorem dL_law_992 : decode cL_law 992 = .ok (.aload_n 1, 1) := by decide +kernel
theorem dL_law_993 : decode cL_law 993 = .ok (.invokevirtual 131, 3) := by decide +kernel
theorem dL_law_996 : decode cL_law 996 = .ok (.aload_n 2, 1) := by decide +kernel
theorem dL_law_997 : decode cL_law 997 = .ok (.invokevirtual 134, 3) := by decide +kernel
theorem dL_law_1000 : decode cL_law 1000 = .ok (.if_icmp .eq 205, 3) := by decide +kernel
theorem dL_law_1003 : decode cL_law 1003 = .ok (.iconst 0, 1) := by decide +kernel
theorem dL_law_1004 : decode cL_law 1004 = .ok (.ireturn, 1) := by decide +kernel
theorem dL_law_1005 : decode cL_law 1005 = .ok (.aload_n 1, 1) := by decide +kernel
theorem dL_law_1006 : decode cL_law 1006 = .ok (.aload_n 0, 1) := by decide +kernel
theorem dL_law_1007 : decode cL_law 1007 = .ok (.iload 4, 2) := by decide +kernel
theorem dL_law_1009 : decode cL_law 1009 = .ok (.iconst 1, 1) := by decide +kernel
theorem dL_law_1010 : decode cL_law 1010 = .ok (.iadd, 1) := by decide +kernel
theorem dL_law_1011 : decode cL_law 1011 = .ok (.iaload, 1) := by decide +kernel
theorem dL_law_1012 : decode cL_law 1012 = .ok (.aload_n 3, 1) := by decide +kernel
theorem dL_law_1013 : decode cL_law 1013 = .ok (.invokestatic 135, 3) := by decide +kernel
theorem dL_law_1016 : decode cL_law 1016 = .ok (.istore 5, 2) := by decide +kernel
theorem dL_law_1018 : decode cL_law 1018 = .ok (.aload_n 2, 1) := by decide +kernel
theorem dL_law_1019 : decode cL_law 1019 = .ok (.aload_n 0, 1) := by decide +kernel
theorem dL_law_1020 : decode cL_law 1020 = .ok (.iload 4, 2) := by decide +kernel
theorem dL_law_1022 : decode cL_law 1022 = .ok (.iconst 1, 1) := by decide +kernel
theorem dL_law_1023 : decode cL_law 1023 = .ok (.iadd, 1) := by decide +kernel
theorem dL_law_1024 : decode cL_law 1024 = .ok (.iaload, 1) := by decide +kernel
theorem dL_law_1025 : decode cL_law 1025 = .ok (.invokevirtual 137, 3) := by decide +kernel
theorem dL_law_1028 : decode cL_law 1028 = .ok (.istore 6, 2) := by decide +kernel
theorem dL_law_1030 : decode cL_law 1030 = .ok (.aload_n 2, 1) := by decide +kernel
theorem dL_law_1031 : decode cL_law 1031 = .ok (.invokevirtual 80, 3) := by decide +kernel
theorem dL_law_1034 : decode cL_law 1034 = .ok (.iload 5, 2) := by decide +kernel
theorem dL_law_1036 : decode cL_law 1036 = .ok (.if_icmp .eq 5, 3) := by decide +kernel
theorem dL_law_1039 : decode cL_law 1039 = .ok (.iconst 0, 1) := by decide +kernel
theorem dL_law_1040 : decode cL_law 1040 = .ok (.ireturn, 1) := by decide +kernel
theorem dL_law_1041 : decode cL_law 1041 = .ok (.iload 5, 2) := by decide +kernel
theorem dL_law_1043 : decode cL_law 1043 = .ok (.ifCond .ne 15, 3) := by decide +kernel
theorem dL_law_1046 : decode cL_law 1046 = .ok (.aload_n 3, 1) := by decide +kernel
theorem dL_law_1047 : decode cL_law 1047 = .ok (.iconst 0, 1) := by decide +kernel
theorem dL_law_1048 : decode cL_law 1048 = .ok (.laload, 1) := by decide +kernel
theorem dL_law_1049 : decode cL_law 1049 = .ok (.iload 6, 2) := by decide +kernel
theorem dL_law_1051 : decode cL_law 1051 = .ok (.i2l, 1) := by decide +kernel
theorem dL_law_1052 : decode cL_law 1052 = .ok (.lcmp, 1) := by decide +kernel
theorem dL_law_1053 : decode cL_law 1053 = .ok (.ifCond .eq 5, 3) := by decide +kernel
theorem dL_law_1056 : decode cL_law 1056 = .ok (.iconst 0, 1) := by decide +kernel
theorem dL_law_1057 : decode cL_law 1057 = .ok (.ireturn, 1) := by decide +kernel
theorem dL_law_1058 : decode cL_law 1058 = .ok (.goto 147, 3) := by decide +kernel
theorem dL_law_1061 : decode cL_law 1061 = .ok (.aload_n 1, 1) := by decide +kernel
theorem dL_law_1062 : decode cL_law 1062 = .ok (.aload_n 0, 1) := by decide +kernel
theorem dL_law_1063 : decode cL_law 1063 = .ok (.iload 4, 2) := by decide +kernel
theorem dL_law_1065 : decode cL_law 1065 = .ok (.iconst 1, 1) := by decide +kernel
theorem dL_law_1066 : decode cL_law 1066 = .ok (.iadd, 1) := by decide +kernel
theorem dL_law_1067 : decode cL_law 1067 = .ok (.iaload, 1) := by decide +kernel
theorem dL_law_1068 : decode cL_law 1068 = .ok (.aload_n 3, 1) := by decide +kernel
theorem dL_law_1069 : decode cL_law 1069 = .ok (.invokestatic 138, 3) := by decide +kernel
theorem dL_law_1072 : decode cL_law 1072 = .ok (.istore 5, 2) := by decide +kernel
theorem dL_law_1074 : decode cL_law 1074 = .ok (.aload_n 2, 1) := by decide +kernel
theorem dL_law_1075 : decode cL_law 1075 = .ok (.aload_n 0, 1) := by decide +kernel
theorem dL_law_1076 : decode cL_law 1076 = .ok (.iload 4, 2) := by decide +kernel
theorem dL_law_1078 : decode cL_law 1078 = .ok (.iconst 1, 1) := by decide +kernel
theorem dL_law_1079 : decode cL_law 1079 = .ok (.iadd, 1) := by decide +kernel
theorem dL_law_1080 : decode cL_law 1080 = .ok (.iaload, 1) := by decide +kernel
theorem dL_law_1081 : decode cL_law 1081 = .ok (.invokevirtual 140, 3) := by decide +kernel
theorem dL_law_1084 : decode cL_law 1084 = .ok (.istore 6, 2) := by decide +kernel
theorem dL_law_1086 : decode cL_law 1086 = .ok (.aload_n 2, 1) := by decide +kernel
theorem dL_law_1087 : decode cL_law 1087 = .ok (.invokevirtual 80, 3) := by decide +kernel
theorem dL_law_1090 : decode cL_law 1090 = .ok (.iload 5, 2) := by decide +kernel
theorem dL_law_1092 : decode cL_law 1092 = .ok (.if_icmp .eq 5, 3) := by decide +kernel
theorem dL_law_1095 : decode cL_law 1095 = .ok (.iconst 0, 1) := by decide +kernel
theorem dL_law_1096 : decode cL_law 1096 = .ok (.ireturn, 1) := by decide +kernel
theorem dL_law_1097 : decode cL_law 1097 = .ok (.iload 5, 2) := by decide +kernel
theorem dL_law_1099 : decode cL_law 1099 = .ok (.ifCond .ne 22, 3) := by decide +kernel
theorem dL_law_1102 : decode cL_law 1102 = .ok (.aload_n 3, 1) := by decide +kernel
theorem dL_law_1103 : decode cL_law 1103 = .ok (.iconst 0, 1) := by decide +kernel
theorem dL_law_1104 : decode cL_law 1104 = .ok (.laload, 1) := by decide +kernel
theorem dL_law_1105 : decode cL_law 1105 = .ok (.iload 6, 2) := by decide +kernel
theorem dL_law_1107 : decode cL_law 1107 = .ok (.ifCond .eq 7, 3) := by decide +kernel
theorem dL_law_1110 : decode cL_law 1110 = .ok (.lconst 1, 1) := by decide +kernel
theorem dL_law_1111 : decode cL_law 1111 = .ok (.goto 4, 3) := by decide +kernel
theorem dL_law_1114 : decode cL_law 1114 = .ok (.lconst 0, 1) := by decide +kernel
theorem dL_law_1115 : decode cL_law 1115 = .ok (.lcmp, 1) := by decide +kernel
theorem dL_law_1116 : decode cL_law 1116 = .ok (.ifCond .eq 5, 3) := by decide +kernel
theorem dL_law_1119 : decode cL_law 1119 = .ok (.iconst 0, 1) := by decide +kernel
theorem dL_law_1120 : decode cL_law 1120 = .ok (.ireturn, 1) := by decide +kernel
theorem dL_law_1121 : decode cL_law 1121 = .ok (.goto 84, 3) := by decide +kernel
theorem dL_law_1124 : decode cL_law 1124 = .ok (.aload_n 1, 1) := by decide +kernel
theorem dL_law_1125 : decode cL_law 1125 = .ok (.aload_n 0, 1) := by decide +kernel
theorem dL_law_1126 : decode cL_law 1126 = .ok (.iload 4, 2) := by decide +kernel
theorem dL_law_1128 : decode cL_law 1128 = .ok (.iconst 1, 1) := by decide +kernel
theorem dL_law_1129 : decode cL_law 1129 = .ok (.iadd, 1) := by decide +kernel
theorem dL_law_1130 : decode cL_law 1130 = .ok (.iaload, 1) := by decide +kernel
theorem dL_law_1131 : decode cL_law 1131 = .ok (.aload_n 3, 1) := by decide +kernel
theorem dL_law_1132 : decode cL_law 1132 = .ok (.invokestatic 141, 3) := by decide +kernel
theorem dL_law_1135 : decode cL_law 1135 = .ok (.istore 5, 2) := by decide +kernel
theorem dL_law_1137 : decode cL_law 1137 = .ok (.aload_n 2, 1) := by decide +kernel
theorem dL_law_1138 : decode cL_law 1138 = .ok (.aload_n 0, 1) := by decide +kernel
theorem dL_law_1139 : decode cL_law 1139 = .ok (.iload 4, 2) := by decide +kernel
theorem dL_law_1141 : decode cL_law 1141 = .ok (.iconst 1, 1) := by decide +kernel
theorem dL_law_1142 : decode cL_law 1142 = .ok (.iadd, 1) := by decide +kernel
theorem dL_law_1143 : decode cL_law 1143 = .ok (.iaload, 1) := by decide +kernel
theorem dL_law_1144 : decode cL_law 1144 = .ok (.invokevirtual 143, 3) := by decide +kernel
theorem dL_law_1147 : decode cL_law 1147 = .ok (.lstore 6, 2) := by decide +kernel
theorem dL_law_1149 : decode cL_law 1149 = .ok (.aload_n 2, 1) := by decide +kernel
theorem dL_law_1150 : decode cL_law 1150 = .ok (.invokevirtual 80, 3) := by decide +kernel
theorem dL_law_1153 : decode cL_law 1153 = .ok (.iload 5, 2) := by decide +kernel
theorem dL_law_1155 : decode cL_law 1155 = .ok (.if_icmp .eq 5, 3) := by decide +kernel
theorem dL_law_1158 : decode cL_law 1158 = .ok (.iconst 0, 1) := by decide +kernel
theorem dL_law_1159 : decode cL_law 1159 = .ok (.ireturn, 1) := by decide +kernel
theorem dL_law_1160 : decode cL_law 1160 = .ok (.iload 5, 2) := by decide +kernel
theorem dL_law_1162 : decode cL_law 1162 = .ok (.ifCond .ne 14, 3) := by decide +kernel
theorem dL_law_1165 : decode cL_law 1165 = .ok (.aload_n 3, 1) := by decide +kernel
theorem dL_law_1166 : decode cL_law 1166 = .ok (.iconst 0, 1) := by decide +kernel
theorem dL_law_1167 : decode cL_law 1167 = .ok (.laload, 1) := by decide +kernel
theorem dL_law_1168 : decode cL_law 1168 = .ok (.lload 6, 2) := by decide +kernel
theorem dL_law_1170 : decode cL_law 1170 = .ok (.lcmp, 1) := by decide +kernel
theorem dL_law_1171 : decode cL_law 1171 = .ok (.ifCond .eq 5, 3) := by decide +kernel
theorem dL_law_1174 : decode cL_law 1174 = .ok (.iconst 0, 1) := by decide +kernel
theorem dL_law_1175 : decode cL_law 1175 = .ok (.ireturn, 1) := by decide +kernel
theorem dL_law_1176 : decode cL_law 1176 = .ok (.goto 29, 3) := by decide +kernel
theorem dL_law_1179 : decode cL_law 1179 = .ok (.aload_n 1, 1) := by decide +kernel
theorem dL_law_1180 : decode cL_law 1180 = .ok (.invokevirtual 144, 3) := by decide +kernel
theorem dL_law_1183 : decode cL_law 1183 = .ok (.aload_n 2, 1) := by decide +kernel
theorem dL_law_1184 : decode cL_law 1184 = .ok (.invokevirtual 147, 3) := by decide +kernel
theorem dL_law_1187 : decode cL_law 1187 = .ok (.if_icmp .eq 18, 3) := by decide +kernel
theorem dL_law_1190 : decode cL_law 1190 = .ok (.iconst 0, 1) := by decide +kernel
theorem dL_law_1191 : decode cL_law 1191 = .ok (.ireturn, 1) := by decide +kernel
theorem dL_law_1192 : decode cL_law 1192 = .ok (.aload_n 1, 1) := by decide +kernel
theorem dL_law_1193 : decode cL_law 1193 = .ok (.invokevirtual 148, 3) := by decide +kernel
theorem dL_law_1196 : decode cL_law 1196 = .ok (.aload_n 2, 1) := by decide +kernel
theorem dL_law_1197 : decode cL_law 1197 = .ok (.invokevirtual 151, 3) := by decide +kernel
theorem dL_law_1200 : decode cL_law 1200 = .ok (.if_icmp .eq 5, 3) := by decide +kernel
theorem dL_law_1203 : decode cL_law 1203 = .ok (.iconst 0, 1) := by decide +kernel
theorem dL_law_1204 : decode cL_law 1204 = .ok (.ireturn, 1) := by decide +kernel
theorem dL_law_1205 : decode cL_law 1205 = .ok (.iinc 4 5, 3) := by decide +kernel
theorem dL_law_1208 : decode cL_law 1208 = .ok (.goto (-1185), 3) := by decide +kernel
theorem dL_law_1211 : decode cL_law 1211 = .ok (.iconst 1, 1) := by decide +kernel
theorem dL_law_1212 : decode cL_law 1212 = .ok (.ireturn, 1) := by decide +kernel
end
section
set_option maxRecDepth 20000 in
theorem ggX2_allHold_X2_missing : GoodIn wsX2_allHold wsX2_missing := goodIn_r _ [5, 6, 7, 8, 9] (by decide +kernel) (by decide +kernel)
set_option maxRecDepth 20000 in
theorem gX2_allHold_X2_missing : GoodIn wsX2_allHold (wsV RX2 20 RX2 yX2_missing wsX2_missing) := goodIn_app (goodIn_of _ (by decide +kernel)) ggX2_allHold_X2_missing
set_option maxRecDepth 20000 in
theorem ggX2_mostMissing_X2_testOf : GoodIn wsX2_mostMissing wsX2_testOf := goodIn_r _ [8] (by decide +kernel) (by decide +kernel)
set_option maxRecDepth 20000 in
theorem gX2_mostMissing_X2_testOf : GoodIn wsX2_mostMissing (va_wsS RX2 24 yX2_testOf wsX2_testOf) := goodIn_app (goodIn_of _ (by decide +kernel)) ggX2_mostMissing_X2_testOf
set_option maxRecDepth 20000 in
theorem ggX2_mostMissing_X2_missing : GoodIn wsX2_mostMissing wsX2_missing := goodIn_r _ [12, 13, 14, 15, 16] (by decide +kernel) (by decide +kernel)
set_option maxRecDepth 20000 in
theorem gX2_mostMissing_X2_missing : GoodIn wsX2_mostMissing (wsV RX2 20 RX2 yX2_missing wsX2_missing) := goodIn_app (goodIn_of _ (by decide +kernel)) ggX2_mostMissing_X2_missing
set_option maxRecDepth 20000 in
theorem ggX3_init_Jx4a65c_init_da8c8 : GoodIn wsX3_init wsJx4a65c_init_da8c8 := goodIn_r _ [20, 21, 22, 23, 24, 25, 26, 27, 28, 29, 30, 31, 32, 2, 3, 40, 41, 42] (by decide +kernel) (by decide +kernel)
set_option maxRecDepth 20000 in
theorem gX3_init_Jx4a65c_init_da8c8 : GoodIn wsX3_init (wsJx4a65c_init_da8c8) := ggX3_init_Jx4a65c_init_da8c8
set_option maxRecDepth 20000 in
theorem ggX3_init_X2_init : GoodIn wsX3_init wsX2_init := goodIn_r _ [34, 35, 2, 3, 36, 37, 38, 39, 51, 52] (by decide +kernel) (by decide +kernel)
set_option maxRecDepth 20000 in
theorem gX3_init_X2_init_n21 : GoodIn wsX3_init (wsX2_init) := ggX3_init_X2_init
set_option maxRecDepth 20000 in
theorem ggX3_addLoan_X3_requireWithin : GoodIn wsX3_addLoan wsX3_requireWithin := goodIn_ca (goodIn_r _ [10, 11, 12] (by decide +kernel) (by decide +kernel)) (goodIn_sub (fun _ h => List.mem_cons_of_mem _ (List.mem_append_right _ h)) (by decide +kernel))
set_option maxRecDepth 20000 in
theorem gX3_addLoan_X3_requireWithin : GoodIn wsX3_addLoan (va_wsS RX3 42 yX3_requireWithin wsX3_requireWithin) := goodIn_app (goodIn_of _ (by decide +kernel)) ggX3_addLoan_X3_requireWithin
set_option maxRecDepth 20000 in
theorem ggX3_addLoan_X3_requireDueAhead : GoodIn wsX3_addLoan wsX3_requireDueAhead := goodIn_ca (goodIn_r _ [16, 11, 12, 17, 90, 91, 92, 93, 94, 95, 96, 97] (by decide +kernel) (by decide +kernel)) (goodIn_sub (fun _ h => List.mem_cons_of_mem _ (List.mem_append_right _ h)) (by decide +kernel))
set_option maxRecDepth 20000 in
theorem gX3_addLoan_X3_requireDueAhead : GoodIn wsX3_addLoan (wsV RX3 46 RX3 yX3_requireDueAhead wsX3_requireDueAhead) := goodIn_app (goodIn_of _ (by decide +kernel)) ggX3_addLoan_X3_requireDueAhead
set_option maxRecDepth 20000 in
theorem ggX3_addLoan_Jx4a65c_size_8abf5 : GoodIn wsX3_addLoan wsJx4a65c_size_8abf5 := goodIn_r _ [22, 23, 104, 105, 106] (by decide +kernel) (by decide +kernel)
set_option maxRecDepth 20000 in
theorem gX3_addLoan_Jx4a65c_size_8abf5 : GoodIn wsX3_addLoan (wsV RX3 50 RJx4a65c yJx4a65c_size_8abf5 wsJx4a65c_size_8abf5) := goodIn_app (goodIn_of _ (by decide +kernel)) ggX3_addLoan_Jx4a65c_size_8abf5
set_option maxRecDepth 20000 in
theorem ggX3_addLoan_X1_init : GoodIn wsX3_addLoan wsX1_init := goodIn_r _ [26, 27, 28, 29, 30, 31, 32, 33, 34, 35, 98, 99, 100, 101, 102, 103] (by decide +kernel) (by decide +kernel)
set_option maxRecDepth 20000 in
theorem gX3_addLoan_X1_init : GoodIn wsX3_addLoan (wsX1_init) := ggX3_addLoan_X1_init
set_option maxRecDepth 20000 in
theorem ggX3_addLoan_Jx4a65c_add_9ea2d : GoodIn wsX3_addLoan wsJx4a65c_add_9ea2d := goodIn_r _ [39, 40, 41, 42, 23, 43, 44, 45, 21, 46, 47, 48, 49, 50, 51, 52, 53, 54, 55, 56, 57, 58, 59, 60, 61, 62, 63, 64, 65, 66, 67, 68, 69, 70, 71, 72, 73, 74, 75, 76, 77, 78, 79, 80, 81, 82, 83, 84, 85, 86, 87, 88, 89, 104, 105, 106] (by decide +kernel) (by decide +kernel)
set_option maxRecDepth 20000 in
theorem gX3_addLoan_Jx4a65c_add_9ea2d : GoodIn wsX3_addLoan (wsV RX3 66 RJx4a65c yJx4a65c_add_9ea2d wsJx4a65c_add_9ea2d) := goodIn_app (goodIn_of _ (by decide +kernel)) ggX3_addLoan_Jx4a65c_add_9ea2d
set_option maxRecDepth 20000 in
theorem ggX3_enter_X3_loanAt : GoodIn wsX3_enter wsX3_loanAt := goodIn_ca (goodIn_r _ [6, 7, 8, 9, 10, 11, 12, 13, 14, 15, 16, 17, 18, 19, 20, 21, 22, 23, 24, 25, 26, 27, 28, 29, 30, 31, 32, 33, 58, 59, 60, 61, 62, 63, 64, 65, 66, 67, 68] (by decide +kernel) (by decide +kernel)) (goodIn_sub (fun _ h => List.mem_cons_of_mem _ (List.mem_append_left _ (List.mem_append_right _ h))) (by decide +kernel))
set_option maxRecDepth 20000 in
theorem gX3_enter_X3_loanAt : GoodIn wsX3_enter (wsV RX3 70 RX3 yX3_loanAt wsX3_loanAt) := goodIn_app (goodIn_of _ (by decide +kernel)) ggX3_enter_X3_loanAt
set_option maxRecDepth 20000 in
theorem ggX3_enter_X3_requireState : GoodIn wsX3_enter wsX3_requireState := goodIn_ca (goodIn_r _ [36, 37, 38, 1, 52, 53, 54, 55, 56, 57] (by decide +kernel) (by decide +kernel)) (goodIn_sub (fun _ h => List.mem_cons_of_mem _ (List.mem_append_right _ h)) (by decide +kernel))
set_option maxRecDepth 20000 in
theorem gX3_enter_X3_requireState : GoodIn wsX3_enter (va_wsS RX3 74 yX3_requireState wsX3_requireState) := goodIn_app (goodIn_of _ (by decide +kernel)) ggX3_enter_X3_requireState
set_option maxRecDepth 20000 in
theorem ggX3_enter_X3_countOf : GoodIn wsX3_enter wsX3_countOf := goodIn_r _ [42, 43, 44, 45, 46, 47, 48, 49, 50, 51, 52, 53, 54, 55, 56, 57, 58, 59, 60, 61, 62, 63, 64, 65] (by decide +kernel) (by decide +kernel)
set_option maxRecDepth 20000 in
theorem gX3_enter_X3_countOf : GoodIn wsX3_enter (wsV RX3 81 RX3 yX3_countOf wsX3_countOf) := goodIn_app (goodIn_of _ (by decide +kernel)) ggX3_enter_X3_countOf
set_option maxRecDepth 20000 in
theorem ggX3_leave_X3_loanAt : GoodIn wsX3_leave wsX3_loanAt := goodIn_ca (goodIn_r _ [7, 8, 9, 10, 11, 12, 13, 14, 15, 16, 17, 18, 19, 20, 21, 22, 23, 24, 25, 26, 27, 28, 29, 30, 31, 32, 33, 34, 111, 112, 113, 114, 115, 116, 117, 118, 125, 126, 127] (by decide +kernel) (by decide +kernel)) (goodIn_sub (fun _ h => List.mem_cons_of_mem _ (List.mem_append_left _ (List.mem_append_right _ h))) (by decide +kernel))
set_option maxRecDepth 20000 in
theorem gX3_leave_X3_loanAt : GoodIn wsX3_leave (wsV RX3 70 RX3 yX3_loanAt wsX3_loanAt) := goodIn_app (goodIn_of _ (by decide +kernel)) ggX3_leave_X3_loanAt
set_option maxRecDepth 20000 in
theorem ggX3_leave_X3_requireState : GoodIn wsX3_leave wsX3_requireState := goodIn_ca (goodIn_r _ [37, 38, 39, 2, 119, 120, 121, 122, 123, 124] (by decide +kernel) (by decide +kernel)) (goodIn_sub (fun _ h => List.mem_cons_of_mem _ (List.mem_append_right _ h)) (by decide +kernel))
set_option maxRecDepth 20000 in
theorem gX3_leave_X3_requireState : GoodIn wsX3_leave (va_wsS RX3 74 yX3_requireState wsX3_requireState) := goodIn_app (goodIn_of _ (by decide +kernel)) ggX3_leave_X3_requireState
set_option maxRecDepth 20000 in
theorem ggX3_leave_X3_fillSheet : GoodIn wsX3_leave wsX3_fillSheet := goodIn_r _ [43, 10, 11, 1, 44, 45, 46, 47, 48, 49, 12, 13, 14, 15, 16, 17, 18, 19, 20, 21, 22, 23, 24, 25, 26, 27, 28, 29, 30, 31, 32, 33, 34, 50, 51, 52, 6, 53, 54, 55, 56, 57, 58, 59, 60, 61, 62, 63, 64, 65, 66, 67, 68, 69, 70, 71, 72, 73, 74, 75, 76, 77, 78, 79, 80, 81, 82, 83, 84, 85, 86, 87, 88, 89, 90, 91, 92, 93, 94, 95, 111, 112, 113, 114, 115, 116, 117, 118, 128, 129, 119, 120, 121, 122, 123, 124, 130, 131, 132, 133, 125, 126, 127] (by decide +kernel) (by decide +kernel)
set_option maxRecDepth 20000 in
theorem gX3_leave_X3_fillSheet : GoodIn wsX3_leave (wsV RX3 85 RX3 yX3_fillSheet wsX3_fillSheet) := goodIn_app (goodIn_of _ (by decide +kernel)) ggX3_leave_X3_fillSheet
set_option maxRecDepth 20000 in
theorem ggX3_leave_X3_loansThatAre : GoodIn wsX3_leave wsX3_loansThatAre := goodIn_r _ [99, 10, 11, 2, 12, 13, 14, 15, 16, 17, 18, 19, 20, 21, 22, 23, 24, 25, 26, 27, 28, 29, 30, 31, 32, 33, 34, 111, 112, 113, 114, 115, 116, 117, 118, 119, 120, 121, 122, 123, 124, 125, 126, 127] (by decide +kernel) (by decide +kernel)
set_option maxRecDepth 20000 in
theorem gX3_leave_X3_loansThatAre : GoodIn wsX3_leave (wsV RX3 88 RX3 yX3_loansThatAre wsX3_loansThatAre) := goodIn_app (goodIn_of _ (by decide +kernel)) ggX3_leave_X3_loansThatAre
set_option maxRecDepth 20000 in
theorem ggX3_leave_X2_allHold : GoodIn wsX3_leave wsX2_allHold := goodIn_r _ [104, 105, 106, 107, 103, 108, 109, 110, 128, 129] (by decide +kernel) (by decide +kernel)
set_option maxRecDepth 20000 in
theorem gX3_leave_X2_allHold : GoodIn wsX3_leave (wsV RX3 92 RX2 yX2_allHold wsX2_allHold) := goodIn_app (goodIn_of _ (by decide +kernel)) ggX3_leave_X2_allHold
set_option maxRecDepth 20000 in
theorem ggX3_swap_X3_loanAt : GoodIn wsX3_swap wsX3_loanAt := goodIn_ca (goodIn_r _ [7, 8, 9, 10, 11, 12, 13, 14, 15, 16, 17, 18, 19, 20, 21, 22, 23, 24, 25, 26, 27, 28, 29, 30, 31, 32, 33, 34, 115, 116, 117, 118, 119, 120, 121, 122, 129, 130, 131] (by decide +kernel) (by decide +kernel)) (goodIn_sub (fun _ h => List.mem_cons_of_mem _ (List.mem_append_left _ (List.mem_append_right _ h))) (by decide +kernel))
set_option maxRecDepth 20000 in
theorem gX3_swap_X3_loanAt : GoodIn wsX3_swap (wsV RX3 70 RX3 yX3_loanAt wsX3_loanAt) := goodIn_app (goodIn_of _ (by decide +kernel)) ggX3_swap_X3_loanAt
set_option maxRecDepth 20000 in
theorem ggX3_swap_X3_requireState : GoodIn wsX3_swap wsX3_requireState := goodIn_ca (goodIn_r _ [37, 38, 39, 2, 123, 124, 125, 126, 127, 128] (by decide +kernel) (by decide +kernel)) (goodIn_sub (fun _ h => List.mem_cons_of_mem _ (List.mem_append_right _ h)) (by decide +kernel))
set_option maxRecDepth 20000 in
theorem gX3_swap_X3_requireState : GoodIn wsX3_swap (va_wsS RX3 74 yX3_requireState wsX3_requireState) := goodIn_app (goodIn_of _ (by decide +kernel)) ggX3_swap_X3_requireState
set_option maxRecDepth 20000 in
theorem ggX3_swap_X3_loansThatAre : GoodIn wsX3_swap wsX3_loansThatAre := goodIn_r _ [43, 10, 11, 2, 12, 13, 14, 15, 16, 17, 18, 19, 20, 21, 22, 23, 24, 25, 26, 27, 28, 29, 30, 31, 32, 33, 34, 115, 116, 117, 118, 119, 120, 121, 122, 123, 124, 125, 126, 127, 128, 129, 130, 131] (by decide +kernel) (by decide +kernel)
set_option maxRecDepth 20000 in
theorem gX3_swap_X3_loansThatAre : GoodIn wsX3_swap (wsV RX3 88 RX3 yX3_loansThatAre wsX3_loansThatAre) := goodIn_app (goodIn_of _ (by decide +kernel)) ggX3_swap_X3_loansThatAre
set_option maxRecDepth 20000 in
theorem ggX3_swap_X3_fillSheet : GoodIn wsX3_swap wsX3_fillSheet := goodIn_r _ [47, 10, 11, 1, 48, 49, 50, 51, 52, 53, 12, 13, 14, 15, 16, 17, 18, 19, 20, 21, 22, 23, 24, 25, 26, 27, 28, 29, 30, 31, 32, 33, 34, 54, 55, 56, 6, 57, 58, 59, 60, 61, 62, 63, 64, 65, 66, 67, 68, 69, 70, 71, 72, 73, 74, 75, 76, 77, 78, 79, 80, 81, 82, 83, 84, 85, 86, 87, 88, 89, 90, 91, 92, 93, 94, 95, 96, 97, 98, 99, 115, 116, 117, 118, 119, 120, 121, 122, 132, 133, 123, 124, 125, 126, 127, 128, 134, 135, 136, 137, 129, 130, 131] (by decide +kernel) (by decide +kernel)
set_option maxRecDepth 20000 in
theorem gX3_swap_X3_fillSheet : GoodIn wsX3_swap (wsV RX3 85 RX3 yX3_fillSheet wsX3_fillSheet) := goodIn_app (goodIn_of _ (by decide +kernel)) ggX3_swap_X3_fillSheet
set_option maxRecDepth 20000 in
theorem ggX3_swap_X2_mostMissing : GoodIn wsX3_swap wsX2_mostMissing := goodIn_r _ [104, 105, 78, 65, 79, 106, 107, 103, 108, 109, 110, 111, 112, 113, 114, 132, 133] (by decide +kernel) (by decide +kernel)
set_option maxRecDepth 20000 in
theorem gX3_swap_X2_mostMissing : GoodIn wsX3_swap (wsV RX3 96 RX2 yX2_mostMissing wsX2_mostMissing) := goodIn_app (goodIn_of _ (by decide +kernel)) ggX3_swap_X2_mostMissing
set_option maxRecDepth 20000 in
theorem ggX3_setArrears_X3_loanAt : GoodIn wsX3_setArrears wsX3_loanAt := goodIn_ca (goodIn_r _ [9, 10, 11, 12, 13, 14, 15, 16, 17, 18, 19, 20, 21, 22, 23, 24, 25, 26, 27, 28, 29, 30, 31, 32, 33, 34, 35, 36, 48, 49, 50, 51, 52, 53, 54, 55, 56, 57, 58] (by decide +kernel) (by decide +kernel)) (goodIn_sub (fun _ h => List.mem_cons_of_mem _ (List.mem_append_left _ (List.mem_append_right _ h))) (by decide +kernel))
set_option maxRecDepth 20000 in
theorem gX3_setArrears_X3_loanAt : GoodIn wsX3_setArrears (wsV RX3 70 RX3 yX3_loanAt wsX3_loanAt) := goodIn_app (goodIn_of _ (by decide +kernel)) ggX3_setArrears_X3_loanAt
set_option maxRecDepth 20000 in
theorem ggX3_setArrears_X3_requireWithin : GoodIn wsX3_setArrears wsX3_requireWithin := goodIn_ca (goodIn_r _ [39, 40, 41] (by decide +kernel) (by decide +kernel)) (goodIn_sub (fun _ h => List.mem_cons_of_mem _ (List.mem_append_right _ h)) (by decide +kernel))
set_option maxRecDepth 20000 in
theorem gX3_setArrears_X3_requireWithin : GoodIn wsX3_setArrears (va_wsS RX3 42 yX3_requireWithin wsX3_requireWithin) := goodIn_app (goodIn_of _ (by decide +kernel)) ggX3_setArrears_X3_requireWithin
set_option maxRecDepth 20000 in
theorem ggX3_setWorth_X3_loanAt : GoodIn wsX3_setWorth wsX3_loanAt := goodIn_ca (goodIn_r _ [6, 7, 8, 9, 10, 11, 12, 13, 14, 15, 16, 17, 18, 19, 20, 21, 22, 23, 24, 25, 26, 27, 28, 29, 30, 31, 32, 33, 45, 46, 47, 48, 49, 50, 51, 52, 53, 54, 55] (by decide +kernel) (by decide +kernel)) (goodIn_sub (fun _ h => List.mem_cons_of_mem _ (List.mem_append_left _ (List.mem_append_right _ h))) (by decide +kernel))
set_option maxRecDepth 20000 in
theorem gX3_setWorth_X3_loanAt : GoodIn wsX3_setWorth (wsV RX3 70 RX3 yX3_loanAt wsX3_loanAt) := goodIn_app (goodIn_of _ (by decide +kernel)) ggX3_setWorth_X3_loanAt
set_option maxRecDepth 20000 in
theorem ggX3_setWorth_X3_requireWithin : GoodIn wsX3_setWorth wsX3_requireWithin := goodIn_ca (goodIn_r _ [36, 37, 38] (by decide +kernel) (by decide +kernel)) (goodIn_sub (fun _ h => List.mem_cons_of_mem _ (List.mem_append_right _ h)) (by decide +kernel))
set_option maxRecDepth 20000 in
theorem gX3_setWorth_X3_requireWithin : GoodIn wsX3_setWorth (va_wsS RX3 42 yX3_requireWithin wsX3_requireWithin) := goodIn_app (goodIn_of _ (by decide +kernel)) ggX3_setWorth_X3_requireWithin
set_option maxRecDepth 20000 in
theorem ggX3_stateOf_X3_loanAt : GoodIn wsX3_stateOf wsX3_loanAt := goodIn_ca (goodIn_r _ [6, 7, 8, 9, 10, 11, 12, 13, 14, 15, 16, 17, 18, 19, 20, 21, 22, 23, 24, 25, 26, 27, 28, 29, 30, 31, 32, 33, 40, 41, 42, 43, 44, 45, 46, 47, 48, 49, 50] (by decide +kernel) (by decide +kernel)) (goodIn_sub (fun _ h => List.mem_cons_of_mem _ (List.mem_append_right _ h)) (by decide +kernel))
set_option maxRecDepth 20000 in
theorem gX3_stateOf_X3_loanAt : GoodIn wsX3_stateOf (wsV RX3 70 RX3 yX3_loanAt wsX3_loanAt) := goodIn_app (goodIn_of _ (by decide +kernel)) ggX3_stateOf_X3_loanAt
set_option maxRecDepth 20000 in
theorem ggX3_counts_X3_loanAt : GoodIn wsX3_counts wsX3_loanAt := goodIn_ca (goodIn_r _ [5, 6, 7, 8, 9, 10, 11, 12, 13, 14, 15, 16, 17, 18, 19, 20, 21, 22, 23, 24, 25, 26, 27, 28, 29, 30, 31, 32, 46, 47, 48, 49, 50, 51, 52, 53, 54, 55, 56] (by decide +kernel) (by decide +kernel)) (goodIn_sub (fun _ h => List.mem_cons_of_mem _ (List.mem_append_right _ h)) (by decide +kernel))
set_option maxRecDepth 20000 in
theorem gX3_counts_X3_loanAt : GoodIn wsX3_counts (wsV RX3 70 RX3 yX3_loanAt wsX3_loanAt) := goodIn_app (goodIn_of _ (by decide +kernel)) ggX3_counts_X3_loanAt
set_option maxRecDepth 20000 in
theorem ggX3_counts_X3_countOf : GoodIn wsX3_counts wsX3_countOf := goodIn_r _ [36, 37, 38, 39, 40, 41, 42, 43, 44, 45, 57, 58, 59, 60, 61, 62, 46, 47, 48, 49, 50, 51, 52, 53] (by decide +kernel) (by decide +kernel)
set_option maxRecDepth 20000 in
theorem gX3_counts_X3_countOf : GoodIn wsX3_counts (wsV RX3 81 RX3 yX3_countOf wsX3_countOf) := goodIn_app (goodIn_of _ (by decide +kernel)) ggX3_counts_X3_countOf
set_option maxRecDepth 20000 in
theorem ggX3_addBond_X3_requireWithin : GoodIn wsX3_addBond wsX3_requireWithin := goodIn_ca (goodIn_r _ [12, 13, 14] (by decide +kernel) (by decide +kernel)) (goodIn_sub (fun _ h => List.mem_cons_of_mem _ (List.mem_append_right _ h)) (by decide +kernel))
set_option maxRecDepth 20000 in
theorem gX3_addBond_X3_requireWithin : GoodIn wsX3_addBond (va_wsS RX3 42 yX3_requireWithin wsX3_requireWithin) := goodIn_app (goodIn_of _ (by decide +kernel)) ggX3_addBond_X3_requireWithin
set_option maxRecDepth 20000 in
theorem ggX3_addBond_X3_requireDueAhead : GoodIn wsX3_addBond wsX3_requireDueAhead := goodIn_ca (goodIn_r _ [18, 13, 14, 19, 90, 91, 92, 93, 94, 95, 96, 97] (by decide +kernel) (by decide +kernel)) (goodIn_sub (fun _ h => List.mem_cons_of_mem _ (List.mem_append_right _ h)) (by decide +kernel))
set_option maxRecDepth 20000 in
theorem gX3_addBond_X3_requireDueAhead : GoodIn wsX3_addBond (wsV RX3 46 RX3 yX3_requireDueAhead wsX3_requireDueAhead) := goodIn_app (goodIn_of _ (by decide +kernel)) ggX3_addBond_X3_requireDueAhead
set_option maxRecDepth 20000 in
theorem ggX3_addBond_Jx4a65c_size_8abf5 : GoodIn wsX3_addBond wsJx4a65c_size_8abf5 := goodIn_r _ [24, 25, 102, 103, 104] (by decide +kernel) (by decide +kernel)
set_option maxRecDepth 20000 in
theorem gX3_addBond_Jx4a65c_size_8abf5 : GoodIn wsX3_addBond (wsV RX3 50 RJx4a65c yJx4a65c_size_8abf5 wsJx4a65c_size_8abf5) := goodIn_app (goodIn_of _ (by decide +kernel)) ggX3_addBond_Jx4a65c_size_8abf5
set_option maxRecDepth 20000 in
theorem ggX3_addBond_X0_init : GoodIn wsX3_addBond wsX0_init := goodIn_r _ [28, 29, 30, 31, 32, 33, 34, 35, 98, 99, 100, 101] (by decide +kernel) (by decide +kernel)
set_option maxRecDepth 20000 in
theorem gX3_addBond_X0_init : GoodIn wsX3_addBond (wsX0_init) := ggX3_addBond_X0_init
set_option maxRecDepth 20000 in
theorem ggX3_addBond_Jx4a65c_add_9ea2d : GoodIn wsX3_addBond wsJx4a65c_add_9ea2d := goodIn_r _ [39, 40, 41, 42, 25, 43, 44, 45, 23, 46, 47, 48, 49, 50, 51, 52, 53, 54, 55, 56, 57, 58, 59, 60, 61, 62, 63, 64, 65, 66, 67, 68, 69, 70, 71, 72, 73, 74, 75, 76, 77, 78, 79, 80, 81, 82, 83, 84, 85, 86, 87, 88, 89, 102, 103, 104] (by decide +kernel) (by decide +kernel)
set_option maxRecDepth 20000 in
theorem gX3_addBond_Jx4a65c_add_9ea2d : GoodIn wsX3_addBond (wsV RX3 66 RJx4a65c yJx4a65c_add_9ea2d wsJx4a65c_add_9ea2d) := goodIn_app (goodIn_of _ (by decide +kernel)) ggX3_addBond_Jx4a65c_add_9ea2d
set_option maxRecDepth 20000 in
theorem ggX3_takeCash_X3_requireWithin : GoodIn wsX3_takeCash wsX3_requireWithin := goodIn_ca (goodIn_r _ [8, 9, 10] (by decide +kernel) (by decide +kernel)) (goodIn_sub (fun _ h => List.mem_cons_of_mem _ (List.mem_append_right _ h)) (by decide +kernel))
set_option maxRecDepth 20000 in
theorem gX3_takeCash_X3_requireWithin : GoodIn wsX3_takeCash (va_wsS RX3 42 yX3_requireWithin wsX3_requireWithin) := goodIn_app (goodIn_of _ (by decide +kernel)) ggX3_takeCash_X3_requireWithin
set_option maxRecDepth 20000 in
theorem ggX3_setRules_X3_requireWithin : GoodIn wsX3_setRules wsX3_requireWithin := goodIn_ca (goodIn_r _ [7, 8, 9] (by decide +kernel) (by decide +kernel)) (goodIn_sub (fun _ h => List.mem_cons_of_mem _ (List.mem_append_right _ h)) (by decide +kernel))
set_option maxRecDepth 20000 in
theorem gX3_setRules_X3_requireWithin : GoodIn wsX3_setRules (va_wsS RX3 42 yX3_requireWithin wsX3_requireWithin) := goodIn_app (goodIn_of _ (by decide +kernel)) ggX3_setRules_X3_requireWithin
set_option maxRecDepth 20000 in
theorem ggX3_bondState_X3_bondAt : GoodIn wsX3_bondState wsX3_bondAt := goodIn_ca (goodIn_r _ [6, 7, 8, 9, 10, 11, 12, 13, 14, 15, 16, 17, 18, 19, 20, 21, 22, 23, 24, 25, 26, 27, 28, 29, 30, 31, 32, 33, 38, 39, 40, 41, 42, 43, 44, 45, 46, 47, 48] (by decide +kernel) (by decide +kernel)) (goodIn_sub (fun _ h => List.mem_cons_of_mem _ (List.mem_append_right _ h)) (by decide +kernel))
set_option maxRecDepth 20000 in
theorem gX3_bondState_X3_bondAt : GoodIn wsX3_bondState (wsV RX3 119 RX3 yX3_bondAt wsX3_bondAt) := goodIn_app (goodIn_of _ (by decide +kernel)) ggX3_bondState_X3_bondAt
set_option maxRecDepth 20000 in
theorem ggX3_dueOf_X3_bondAt : GoodIn wsX3_dueOf wsX3_bondAt := goodIn_ca (goodIn_r _ [6, 7, 8, 9, 10, 11, 12, 13, 14, 15, 16, 17, 18, 19, 20, 21, 22, 23, 24, 25, 26, 27, 28, 29, 30, 31, 32, 33, 38, 39, 40, 41, 42, 43, 44, 45, 46, 47, 48] (by decide +kernel) (by decide +kernel)) (goodIn_sub (fun _ h => List.mem_cons_of_mem _ (List.mem_append_right _ h)) (by decide +kernel))
set_option maxRecDepth 20000 in
theorem gX3_dueOf_X3_bondAt : GoodIn wsX3_dueOf (wsV RX3 119 RX3 yX3_bondAt wsX3_bondAt) := goodIn_app (goodIn_of _ (by decide +kernel)) ggX3_dueOf_X3_bondAt
set_option maxRecDepth 20000 in
theorem ggX3_debt_Jx4a65c_size_8abf5 : GoodIn wsX3_debt wsJx4a65c_size_8abf5 := goodIn_r _ [9, 10, 40, 41, 42] (by decide +kernel) (by decide +kernel)
set_option maxRecDepth 20000 in
theorem gX3_debt_Jx4a65c_size_8abf5 : GoodIn wsX3_debt (wsV RX3 50 RJx4a65c yJx4a65c_size_8abf5 wsJx4a65c_size_8abf5) := goodIn_app (goodIn_of _ (by decide +kernel)) ggX3_debt_Jx4a65c_size_8abf5
set_option maxRecDepth 20000 in
theorem ggX3_debt_Jx4a65c_get_915e3 : GoodIn wsX3_debt wsJx4a65c_get_915e3 := goodIn_r _ [14, 10, 15, 16, 17, 18, 19, 20, 21, 22, 23, 24, 25, 8, 26, 27, 40, 41, 42] (by decide +kernel) (by decide +kernel)
set_option maxRecDepth 20000 in
theorem gX3_debt_Jx4a65c_get_915e3 : GoodIn wsX3_debt (wsV RX3 127 RJx4a65c yJx4a65c_get_915e3 wsJx4a65c_get_915e3) := goodIn_app (goodIn_of _ (by decide +kernel)) ggX3_debt_Jx4a65c_get_915e3
set_option maxRecDepth 20000 in
theorem ggX3_substitutes_X3_debt : GoodIn wsX3_substitutes wsX3_debt := goodIn_r _ [10, 11, 12, 13, 14, 15, 16, 17, 18, 19, 20, 21, 22, 23, 24, 25, 26, 27, 28, 29, 30, 31, 32, 33, 34, 35, 36, 37, 38, 39, 40, 41, 42, 43, 44, 45, 46, 47, 48, 49, 50, 51, 52] (by decide +kernel) (by decide +kernel)
set_option maxRecDepth 20000 in
theorem gX3_substitutes_X3_debt : GoodIn wsX3_substitutes (wsV RX3 134 RX3 yX3_debt wsX3_debt) := goodIn_app (goodIn_of _ (by decide +kernel)) ggX3_substitutes_X3_debt
set_option maxRecDepth 20000 in
theorem ggX3_pass_X3_requireWithin : GoodIn wsX3_pass wsX3_requireWithin := goodIn_ca (goodIn_r _ [5, 6, 7] (by decide +kernel) (by decide +kernel)) (goodIn_sub (fun _ h => List.mem_cons_of_mem _ (List.mem_append_right _ h)) (by decide +kernel))
set_option maxRecDepth 20000 in
theorem gX3_pass_X3_requireWithin : GoodIn wsX3_pass (va_wsS RX3 42 yX3_requireWithin wsX3_requireWithin) := goodIn_app (goodIn_of _ (by decide +kernel)) ggX3_pass_X3_requireWithin
set_option maxRecDepth 20000 in
theorem ggX3_pass_X3_receiveDueLoans : GoodIn wsX3_pass wsX3_receiveDueLoans := goodIn_r _ [11, 12, 13, 14, 15, 1, 16, 17, 18, 19, 20, 21, 22, 23, 24, 25, 26, 27, 28, 29, 30, 31, 32, 33, 34, 35, 36, 37, 38, 39, 40, 41, 56, 57, 58, 59, 60, 61, 62, 63, 64, 65, 66, 67, 68, 69, 70, 71, 72] (by decide +kernel) (by decide +kernel)
set_option maxRecDepth 20000 in
theorem gX3_pass_X3_receiveDueLoans : GoodIn wsX3_pass (wsV RX3 142 RX3 yX3_receiveDueLoans wsX3_receiveDueLoans) := goodIn_app (goodIn_of _ (by decide +kernel)) ggX3_pass_X3_receiveDueLoans
set_option maxRecDepth 20000 in
theorem ggX3_pass_X3_settleDueBonds : GoodIn wsX3_pass wsX3_settleDueBonds := goodIn_r _ [45, 46, 47, 48, 49, 1, 19, 20, 21, 22, 23, 24, 25, 26, 27, 28, 29, 30, 31, 32, 33, 34, 35, 36, 37, 38, 39, 40, 41, 50, 51, 52, 4, 53, 17, 54, 55, 56, 57, 58, 59, 60, 61, 62, 63, 73, 74, 75, 76, 70, 71, 72] (by decide +kernel) (by decide +kernel)
set_option maxRecDepth 20000 in
theorem gX3_pass_X3_settleDueBonds : GoodIn wsX3_pass (wsV RX3 145 RX3 yX3_settleDueBonds wsX3_settleDueBonds) := goodIn_app (goodIn_of _ (by decide +kernel)) ggX3_pass_X3_settleDueBonds
set_option maxRecDepth 20000 in
theorem ggX3_holds_X3_lacking : GoodIn wsX3_holds wsX3_lacking := goodIn_ca (goodIn_r _ [5, 6, 7, 8, 4, 9, 10, 11, 12, 13, 14, 15, 16, 17, 18, 19, 20, 21, 22, 23, 24, 25, 26, 27, 28, 29, 30, 31, 32, 33, 34, 35, 36, 37, 38, 39, 40, 41, 42, 43, 44, 45, 46, 47, 48, 49, 50, 51, 52, 53, 54, 55, 56, 57, 58, 59, 60, 61, 62, 63, 64, 65, 66, 67, 68, 69, 70, 71, 72, 73, 74, 75, 76, 77, 78, 79, 80, 81, 82, 83, 84, 85, 86, 87, 88, 89, 90, 91, 92, 93, 94, 95, 96, 97, 98, 99, 100, 101, 102, 103, 104, 105, 106, 107, 108, 109, 110, 111, 112, 113, 114, 115, 116, 117, 118, 119, 120, 121, 122, 123, 124, 125, 126, 127, 128, 129, 130, 131, 132, 133, 134, 135] (by decide +kernel) (by decide +kernel)) (goodIn_sub (fun _ h => List.mem_cons_of_mem _ (List.mem_append_right _ h)) (by decide +kernel))
set_option maxRecDepth 20000 in
theorem gX3_holds_X3_lacking : GoodIn wsX3_holds (wsV RX3 148 RX3 yX3_lacking wsX3_lacking) := goodIn_app (goodIn_of _ (by decide +kernel)) ggX3_holds_X3_lacking
set_option maxRecDepth 20000 in
theorem ggX3_lacking_X3_requireWithin : GoodIn wsX3_lacking wsX3_requireWithin := goodIn_ca (goodIn_r _ [5, 6, 7] (by decide +kernel) (by decide +kernel)) (goodIn_sub (fun _ h => List.mem_cons_of_mem _ (List.mem_append_right _ h)) (by decide +kernel))
set_option maxRecDepth 20000 in
theorem gX3_lacking_X3_requireWithin : GoodIn wsX3_lacking (va_wsS RX3 42 yX3_requireWithin wsX3_requireWithin) := goodIn_app (goodIn_of _ (by decide +kernel)) ggX3_lacking_X3_requireWithin
set_option maxRecDepth 20000 in
theorem ggX3_lacking_X3_fillSheet : GoodIn wsX3_lacking wsX3_fillSheet := goodIn_r _ [11, 12, 13, 1, 14, 15, 16, 17, 18, 19, 20, 21, 22, 23, 24, 25, 26, 27, 28, 29, 30, 31, 32, 33, 34, 35, 36, 37, 38, 39, 40, 41, 42, 43, 44, 45, 4, 46, 47, 48, 49, 50, 51, 52, 53, 54, 55, 56, 57, 58, 59, 60, 61, 62, 63, 64, 65, 66, 67, 68, 69, 70, 71, 72, 73, 74, 75, 76, 77, 78, 79, 80, 81, 82, 83, 84, 85, 86, 87, 88, 109, 110, 111, 112, 113, 114, 115, 116, 117, 118, 119, 120, 121, 122, 123, 124, 125, 126, 127, 128, 129, 130, 131] (by decide +kernel) (by decide +kernel)
set_option maxRecDepth 20000 in
theorem gX3_lacking_X3_fillSheet : GoodIn wsX3_lacking (wsV RX3 85 RX3 yX3_fillSheet wsX3_fillSheet) := goodIn_app (goodIn_of _ (by decide +kernel)) ggX3_lacking_X3_fillSheet
set_option maxRecDepth 20000 in
theorem ggX3_lacking_X3_loansThatAre : GoodIn wsX3_lacking wsX3_loansThatAre := goodIn_r _ [92, 12, 13, 93, 20, 21, 22, 23, 24, 25, 26, 27, 28, 29, 30, 31, 32, 33, 34, 35, 36, 37, 38, 39, 40, 41, 42, 109, 110, 111, 112, 113, 114, 115, 116, 119, 120, 121, 122, 123, 124, 129, 130, 131] (by decide +kernel) (by decide +kernel)
set_option maxRecDepth 20000 in
theorem gX3_lacking_X3_loansThatAre : GoodIn wsX3_lacking (wsV RX3 88 RX3 yX3_loansThatAre wsX3_loansThatAre) := goodIn_app (goodIn_of _ (by decide +kernel)) ggX3_lacking_X3_loansThatAre
set_option maxRecDepth 20000 in
theorem ggX3_lacking_X2_mostMissing : GoodIn wsX3_lacking wsX2_mostMissing := goodIn_r _ [98, 99, 67, 54, 68, 100, 101, 97, 102, 103, 104, 105, 106, 107, 108, 117, 118] (by decide +kernel) (by decide +kernel)
set_option maxRecDepth 20000 in
theorem gX3_lacking_X2_mostMissing : GoodIn wsX3_lacking (wsV RX3 96 RX2 yX2_mostMissing wsX2_mostMissing) := goodIn_app (goodIn_of _ (by decide +kernel)) ggX3_lacking_X2_mostMissing
set_option maxRecDepth 20000 in
theorem ggX3_leastToAdd_X3_fillSheet : GoodIn wsX3_leastToAdd wsX3_fillSheet := goodIn_r _ [6, 7, 8, 1, 9, 10, 11, 12, 13, 14, 15, 16, 17, 18, 19, 20, 21, 22, 23, 24, 25, 26, 27, 28, 29, 30, 31, 32, 33, 34, 35, 36, 37, 38, 39, 40, 5, 41, 42, 43, 44, 45, 46, 47, 48, 49, 50, 51, 52, 53, 54, 55, 56, 57, 58, 59, 60, 61, 62, 63, 64, 65, 66, 67, 68, 69, 70, 71, 72, 73, 74, 75, 76, 77, 78, 79, 80, 81, 82, 83, 113, 114, 115, 116, 117, 118, 119, 120, 121, 122, 123, 124, 125, 126, 127, 128, 129, 130, 131, 132, 133, 134, 135] (by decide +kernel) (by decide +kernel)
set_option maxRecDepth 20000 in
theorem gX3_leastToAdd_X3_fillSheet : GoodIn wsX3_leastToAdd (wsV RX3 85 RX3 yX3_fillSheet wsX3_fillSheet) := goodIn_app (goodIn_of _ (by decide +kernel)) ggX3_leastToAdd_X3_fillSheet
set_option maxRecDepth 20000 in
theorem ggX3_leastToAdd_X3_loansThatAre : GoodIn wsX3_leastToAdd wsX3_loansThatAre := goodIn_r _ [87, 7, 8, 88, 15, 16, 17, 18, 19, 20, 21, 22, 23, 24, 25, 26, 27, 28, 29, 30, 31, 32, 33, 34, 35, 36, 37, 113, 114, 115, 116, 117, 118, 119, 120, 123, 124, 125, 126, 127, 128, 133, 134, 135] (by decide +kernel) (by decide +kernel)
set_option maxRecDepth 20000 in
theorem gX3_leastToAdd_X3_loansThatAre : GoodIn wsX3_leastToAdd (wsV RX3 88 RX3 yX3_loansThatAre wsX3_loansThatAre) := goodIn_app (goodIn_of _ (by decide +kernel)) ggX3_leastToAdd_X3_loansThatAre
set_option maxRecDepth 20000 in
theorem ggX3_leastToAdd_X3_leastWith : GoodIn wsX3_leastToAdd wsX3_leastWith := goodIn_r _ [91, 92, 93, 5, 94, 95, 96, 97, 98, 99, 100, 101, 102, 103, 104, 105, 106, 107, 108, 109, 110, 111, 112, 89, 90, 121, 122] (by decide +kernel) (by decide +kernel)
set_option maxRecDepth 20000 in
theorem gX3_leastToAdd_X3_leastWith : GoodIn wsX3_leastToAdd (va_wsS RX3 152 yX3_leastWith wsX3_leastWith) := goodIn_app (goodIn_of _ (by decide +kernel)) ggX3_leastToAdd_X3_leastWith
set_option maxRecDepth 20000 in
theorem ggX3_leastToAddByAll_X3_fillSheet : GoodIn wsX3_leastToAddByAll wsX3_fillSheet := goodIn_r _ [7, 1, 8, 2, 9, 10, 11, 12, 13, 14, 15, 16, 17, 18, 19, 20, 21, 22, 23, 24, 25, 26, 27, 28, 29, 30, 31, 32, 33, 34, 35, 36, 37, 38, 39, 40, 6, 41, 42, 43, 44, 45, 46, 47, 48, 49, 50, 51, 52, 53, 54, 55, 56, 57, 58, 59, 60, 61, 62, 63, 64, 65, 66, 67, 68, 69, 70, 71, 72, 73, 74, 75, 76, 77, 78, 79, 80, 81, 82, 83, 110, 111, 112, 113, 114, 115, 116, 117, 118, 119, 120, 121, 122, 123, 124, 125, 126, 127, 128, 129, 130, 131, 132] (by decide +kernel) (by decide +kernel)
set_option maxRecDepth 20000 in
theorem gX3_leastToAddByAll_X3_fillSheet : GoodIn wsX3_leastToAddByAll (wsV RX3 85 RX3 yX3_fillSheet wsX3_fillSheet) := goodIn_app (goodIn_of _ (by decide +kernel)) ggX3_leastToAddByAll_X3_fillSheet
set_option maxRecDepth 20000 in
theorem ggX3_leastToAddByAll_X3_loansThatAre : GoodIn wsX3_leastToAddByAll wsX3_loansThatAre := goodIn_r _ [87, 1, 8, 88, 15, 16, 17, 18, 19, 20, 21, 22, 23, 24, 25, 26, 27, 28, 29, 30, 31, 32, 33, 34, 35, 36, 37, 110, 111, 112, 113, 114, 115, 116, 117, 120, 121, 122, 123, 124, 125, 130, 131, 132] (by decide +kernel) (by decide +kernel)
set_option maxRecDepth 20000 in
theorem gX3_leastToAddByAll_X3_loansThatAre : GoodIn wsX3_leastToAddByAll (wsV RX3 88 RX3 yX3_loansThatAre wsX3_loansThatAre) := goodIn_app (goodIn_of _ (by decide +kernel)) ggX3_leastToAddByAll_X3_loansThatAre
set_option maxRecDepth 20000 in
theorem ggX3_leastToAddByAll_Jx4a65c_size_8abf5 : GoodIn wsX3_leastToAddByAll wsJx4a65c_size_8abf5 := goodIn_r _ [19, 20, 130, 131, 132] (by decide +kernel) (by decide +kernel)
set_option maxRecDepth 20000 in
theorem gX3_leastToAddByAll_Jx4a65c_size_8abf5 : GoodIn wsX3_leastToAddByAll (wsV RX3 50 RJx4a65c yJx4a65c_size_8abf5 wsJx4a65c_size_8abf5) := goodIn_app (goodIn_of _ (by decide +kernel)) ggX3_leastToAddByAll_Jx4a65c_size_8abf5
set_option maxRecDepth 20000 in
theorem ggX3_leastToAddByAll_X3_isLess : GoodIn wsX3_leastToAddByAll wsX3_isLess := goodIn_r _ [91, 92, 93, 94, 95, 96, 97, 98] (by decide +kernel) (by decide +kernel)
set_option maxRecDepth 20000 in
theorem gX3_leastToAddByAll_X3_isLess : GoodIn wsX3_leastToAddByAll (va_wsS RX3 156 yX3_isLess wsX3_isLess) := goodIn_app (goodIn_of _ (by decide +kernel)) ggX3_leastToAddByAll_X3_isLess
set_option maxRecDepth 20000 in
theorem ggX3_leastToAddByAll_X2_allHold : GoodIn wsX3_leastToAddByAll wsX2_allHold := goodIn_r _ [103, 104, 105, 106, 102, 107, 108, 109, 118, 119] (by decide +kernel) (by decide +kernel)
set_option maxRecDepth 20000 in
theorem gX3_leastToAddByAll_X2_allHold : GoodIn wsX3_leastToAddByAll (wsV RX3 92 RX2 yX2_allHold wsX2_allHold) := goodIn_app (goodIn_of _ (by decide +kernel)) ggX3_leastToAddByAll_X2_allHold
set_option maxRecDepth 20000 in
theorem ggX3_loanAt_Jx4a65c_size_8abf5 : GoodIn wsX3_loanAt wsJx4a65c_size_8abf5 := goodIn_r _ [9, 10, 36, 37, 38] (by decide +kernel) (by decide +kernel)
set_option maxRecDepth 20000 in
theorem gX3_loanAt_Jx4a65c_size_8abf5 : GoodIn wsX3_loanAt (wsV RX3 50 RJx4a65c yJx4a65c_size_8abf5 wsJx4a65c_size_8abf5) := goodIn_app (goodIn_of _ (by decide +kernel)) ggX3_loanAt_Jx4a65c_size_8abf5
set_option maxRecDepth 20000 in
theorem ggX3_loanAt_Jx4a65c_get_915e3 : GoodIn wsX3_loanAt wsJx4a65c_get_915e3 := goodIn_r _ [14, 10, 15, 16, 17, 18, 19, 20, 21, 22, 23, 24, 25, 8, 26, 27, 36, 37, 38] (by decide +kernel) (by decide +kernel)
set_option maxRecDepth 20000 in
theorem gX3_loanAt_Jx4a65c_get_915e3 : GoodIn wsX3_loanAt (wsV RX3 127 RJx4a65c yJx4a65c_get_915e3 wsJx4a65c_get_915e3) := goodIn_app (goodIn_of _ (by decide +kernel)) ggX3_loanAt_Jx4a65c_get_915e3
set_option maxRecDepth 20000 in
theorem ggX3_bondAt_Jx4a65c_size_8abf5 : GoodIn wsX3_bondAt wsJx4a65c_size_8abf5 := goodIn_r _ [9, 10, 36, 37, 38] (by decide +kernel) (by decide +kernel)
set_option maxRecDepth 20000 in
theorem gX3_bondAt_Jx4a65c_size_8abf5 : GoodIn wsX3_bondAt (wsV RX3 50 RJx4a65c yJx4a65c_size_8abf5 wsJx4a65c_size_8abf5) := goodIn_app (goodIn_of _ (by decide +kernel)) ggX3_bondAt_Jx4a65c_size_8abf5
set_option maxRecDepth 20000 in
theorem ggX3_bondAt_Jx4a65c_get_915e3 : GoodIn wsX3_bondAt wsJx4a65c_get_915e3 := goodIn_r _ [14, 10, 15, 16, 17, 18, 19, 20, 21, 22, 23, 24, 25, 8, 26, 27, 36, 37, 38] (by decide +kernel) (by decide +kernel)
set_option maxRecDepth 20000 in
theorem gX3_bondAt_Jx4a65c_get_915e3 : GoodIn wsX3_bondAt (wsV RX3 127 RJx4a65c yJx4a65c_get_915e3 wsJx4a65c_get_915e3) := goodIn_app (goodIn_of _ (by decide +kernel)) ggX3_bondAt_Jx4a65c_get_915e3
set_option maxRecDepth 20000 in
theorem ggX3_receiveDueLoans_Jx4a65c_size_8abf5 : GoodIn wsX3_receiveDueLoans wsJx4a65c_size_8abf5 := goodIn_r _ [13, 14, 46, 47, 48] (by decide +kernel) (by decide +kernel)
set_option maxRecDepth 20000 in
theorem gX3_receiveDueLoans_Jx4a65c_size_8abf5 : GoodIn wsX3_receiveDueLoans (wsV RX3 50 RJx4a65c yJx4a65c_size_8abf5 wsJx4a65c_size_8abf5) := goodIn_app (goodIn_of _ (by decide +kernel)) ggX3_receiveDueLoans_Jx4a65c_size_8abf5
set_option maxRecDepth 20000 in
theorem ggX3_receiveDueLoans_Jx4a65c_get_915e3 : GoodIn wsX3_receiveDueLoans wsJx4a65c_get_915e3 := goodIn_r _ [18, 14, 19, 20, 21, 22, 23, 24, 25, 26, 27, 28, 29, 12, 30, 31, 46, 47, 48] (by decide +kernel) (by decide +kernel)
set_option maxRecDepth 20000 in
theorem gX3_receiveDueLoans_Jx4a65c_get_915e3 : GoodIn wsX3_receiveDueLoans (wsV RX3 127 RJx4a65c yJx4a65c_get_915e3 wsJx4a65c_get_915e3) := goodIn_app (goodIn_of _ (by decide +kernel)) ggX3_receiveDueLoans_Jx4a65c_get_915e3
set_option maxRecDepth 20000 in
theorem ggX3_settleDueBonds_Jx4a65c_size_8abf5 : GoodIn wsX3_settleDueBonds wsJx4a65c_size_8abf5 := goodIn_r _ [10, 11, 49, 50, 51] (by decide +kernel) (by decide +kernel)
set_option maxRecDepth 20000 in
theorem gX3_settleDueBonds_Jx4a65c_size_8abf5 : GoodIn wsX3_settleDueBonds (wsV RX3 50 RJx4a65c yJx4a65c_size_8abf5 wsJx4a65c_size_8abf5) := goodIn_app (goodIn_of _ (by decide +kernel)) ggX3_settleDueBonds_Jx4a65c_size_8abf5
set_option maxRecDepth 20000 in
theorem ggX3_settleDueBonds_Jx4a65c_get_915e3 : GoodIn wsX3_settleDueBonds wsJx4a65c_get_915e3 := goodIn_r _ [15, 11, 16, 17, 18, 19, 20, 21, 22, 23, 24, 25, 26, 9, 27, 28, 49, 50, 51] (by decide +kernel) (by decide +kernel)
set_option maxRecDepth 20000 in
theorem gX3_settleDueBonds_Jx4a65c_get_915e3 : GoodIn wsX3_settleDueBonds (wsV RX3 127 RJx4a65c yJx4a65c_get_915e3 wsJx4a65c_get_915e3) := goodIn_app (goodIn_of _ (by decide +kernel)) ggX3_settleDueBonds_Jx4a65c_get_915e3
set_option maxRecDepth 20000 in
theorem ggX3_settleDueBonds_X3_settle : GoodIn wsX3_settleDueBonds wsX3_settle := goodIn_r _ [33, 34, 35, 3, 36, 5, 4, 37, 38, 39, 40, 41, 42, 43, 44, 45, 46, 47, 48] (by decide +kernel) (by decide +kernel)
set_option maxRecDepth 20000 in
theorem gX3_settleDueBonds_X3_settle : GoodIn wsX3_settleDueBonds (wsV RX3 178 RX3 yX3_settle wsX3_settle) := goodIn_app (goodIn_of _ (by decide +kernel)) ggX3_settleDueBonds_X3_settle
set_option maxRecDepth 20000 in
theorem ggX3_loansThatAre_Jx4a65c_size_8abf5 : GoodIn wsX3_loansThatAre wsJx4a65c_size_8abf5 := goodIn_r _ [8, 9, 41, 42, 43] (by decide +kernel) (by decide +kernel)
set_option maxRecDepth 20000 in
theorem gX3_loansThatAre_Jx4a65c_size_8abf5 : GoodIn wsX3_loansThatAre (wsV RX3 50 RJx4a65c yJx4a65c_size_8abf5 wsJx4a65c_size_8abf5) := goodIn_app (goodIn_of _ (by decide +kernel)) ggX3_loansThatAre_Jx4a65c_size_8abf5
set_option maxRecDepth 20000 in
theorem ggX3_loansThatAre_Jx4a65c_get_915e3 : GoodIn wsX3_loansThatAre wsJx4a65c_get_915e3 := goodIn_r _ [13, 9, 14, 15, 16, 17, 18, 19, 20, 21, 22, 23, 24, 7, 25, 26, 41, 42, 43] (by decide +kernel) (by decide +kernel)
set_option maxRecDepth 20000 in
theorem gX3_loansThatAre_Jx4a65c_get_915e3 : GoodIn wsX3_loansThatAre (wsV RX3 127 RJx4a65c yJx4a65c_get_915e3 wsJx4a65c_get_915e3) := goodIn_app (goodIn_of _ (by decide +kernel)) ggX3_loansThatAre_Jx4a65c_get_915e3
set_option maxRecDepth 20000 in
theorem ggX3_fillSheet_Jx4a65c_size_8abf5 : GoodIn wsX3_fillSheet wsJx4a65c_size_8abf5 := goodIn_r _ [14, 15, 100, 101, 102] (by decide +kernel) (by decide +kernel)
set_option maxRecDepth 20000 in
theorem gX3_fillSheet_Jx4a65c_size_8abf5 : GoodIn wsX3_fillSheet (wsV RX3 50 RJx4a65c yJx4a65c_size_8abf5 wsJx4a65c_size_8abf5) := goodIn_app (goodIn_of _ (by decide +kernel)) ggX3_fillSheet_Jx4a65c_size_8abf5
set_option maxRecDepth 20000 in
theorem ggX3_fillSheet_Jx4a65c_get_915e3 : GoodIn wsX3_fillSheet wsJx4a65c_get_915e3 := goodIn_r _ [19, 15, 20, 21, 22, 23, 24, 25, 26, 27, 28, 29, 30, 13, 31, 32, 100, 101, 102] (by decide +kernel) (by decide +kernel)
set_option maxRecDepth 20000 in
theorem gX3_fillSheet_Jx4a65c_get_915e3 : GoodIn wsX3_fillSheet (wsV RX3 127 RJx4a65c yJx4a65c_get_915e3 wsJx4a65c_get_915e3) := goodIn_app (goodIn_of _ (by decide +kernel)) ggX3_fillSheet_Jx4a65c_get_915e3
set_option maxRecDepth 20000 in
theorem ggX3_fillSheet_X3_countOf : GoodIn wsX3_fillSheet wsX3_countOf := goodIn_r _ [37, 38, 39, 40, 41, 42, 43, 44, 45, 46, 90, 91, 92, 93, 94, 95, 80, 81, 82, 83, 84, 85, 86, 87] (by decide +kernel) (by decide +kernel)
set_option maxRecDepth 20000 in
theorem gX3_fillSheet_X3_countOf : GoodIn wsX3_fillSheet (wsV RX3 81 RX3 yX3_countOf wsX3_countOf) := goodIn_app (goodIn_of _ (by decide +kernel)) ggX3_fillSheet_X3_countOf
set_option maxRecDepth 20000 in
theorem ggX3_fillSheet_X3_fillRow : GoodIn wsX3_fillSheet wsX3_fillRow := goodIn_r _ [50, 51, 52, 53, 54, 36, 55, 56, 57, 58, 45, 59, 80, 81, 82, 83, 84, 85, 86, 87] (by decide +kernel) (by decide +kernel)
set_option maxRecDepth 20000 in
theorem gX3_fillSheet_X3_fillRow : GoodIn wsX3_fillSheet (wsV RX3 196 RX3 yX3_fillRow wsX3_fillRow) := goodIn_app (goodIn_of _ (by decide +kernel)) ggX3_fillSheet_X3_fillRow
set_option maxRecDepth 20000 in
theorem ggX3_fillSheet_X3_startWithCashAndSubstitutes : GoodIn wsX3_fillSheet wsX3_startWithCashAndSubstitutes := goodIn_r _ [63, 64, 65, 66, 67, 36, 68, 43, 44, 45, 46, 69, 70, 71, 72, 7, 8, 9, 73, 10, 11, 12, 13, 14, 15, 16, 17, 18, 19, 20, 21, 22, 23, 24, 25, 26, 27, 28, 29, 30, 31, 32, 80, 81, 82, 83, 84, 85, 86, 87, 96, 97, 98, 99, 100, 101, 102] (by decide +kernel) (by decide +kernel)
set_option maxRecDepth 20000 in
theorem gX3_fillSheet_X3_startWithCashAndSubstitutes : GoodIn wsX3_fillSheet (wsV RX3 204 RX3 yX3_startWithCashAndSubstitutes wsX3_startWithCashAndSubstitutes) := goodIn_app (goodIn_of _ (by decide +kernel)) ggX3_fillSheet_X3_startWithCashAndSubstitutes
set_option maxRecDepth 20000 in
theorem ggX3_fillSheet_X3_addBondTo : GoodIn wsX3_fillSheet wsX3_addBondTo := goodIn_r _ [77, 73, 78, 79, 51, 52, 53, 54, 36, 55, 56, 57, 58, 45, 59, 96, 97, 98, 99, 80, 81, 82, 83, 84, 85, 86, 87] (by decide +kernel) (by decide +kernel)
set_option maxRecDepth 20000 in
theorem gX3_fillSheet_X3_addBondTo : GoodIn wsX3_fillSheet (wsV RX3 208 RX3 yX3_addBondTo wsX3_addBondTo) := goodIn_app (goodIn_of _ (by decide +kernel)) ggX3_fillSheet_X3_addBondTo
set_option maxRecDepth 20000 in
theorem ggX3_fillRow_X3_worthNow : GoodIn wsX3_fillRow wsX3_worthNow := goodIn_r _ [6, 7, 1, 8, 9, 10, 11, 12, 13, 14, 15, 16, 17, 18, 19] (by decide +kernel) (by decide +kernel)
set_option maxRecDepth 20000 in
theorem gX3_fillRow_X3_worthNow : GoodIn wsX3_fillRow (wsV RX3 212 RX3 yX3_worthNow wsX3_worthNow) := goodIn_app (goodIn_of _ (by decide +kernel)) ggX3_fillRow_X3_worthNow
set_option maxRecDepth 20000 in
theorem ggX3_startWithCashAndSubstitutes_X3_substitutes : GoodIn wsX3_startWithCashAndSubstitutes wsX3_substitutes := goodIn_r _ [6, 1, 7, 8, 9, 10, 11, 12, 13, 5, 14, 15, 16, 17, 18, 19, 20, 21, 22, 23, 24, 25, 26, 27, 28, 29, 30, 31, 32, 33, 34, 35, 36, 37, 38, 39, 40, 41, 42, 43, 44, 45, 46, 47, 48, 49, 50, 51, 52, 53, 54, 55, 56] (by decide +kernel) (by decide +kernel)
set_option maxRecDepth 20000 in
theorem gX3_startWithCashAndSubstitutes_X3_substitutes : GoodIn wsX3_startWithCashAndSubstitutes (wsV RX3 215 RX3 yX3_substitutes wsX3_substitutes) := goodIn_app (goodIn_of _ (by decide +kernel)) ggX3_startWithCashAndSubstitutes_X3_substitutes
set_option maxRecDepth 20000 in
theorem ggX3_addBondTo_X3_worthNow : GoodIn wsX3_addBondTo wsX3_worthNow := goodIn_r _ [9, 10, 4, 11, 12, 13, 14, 19, 20, 21, 22, 23, 24, 25, 26] (by decide +kernel) (by decide +kernel)
set_option maxRecDepth 20000 in
theorem gX3_addBondTo_X3_worthNow : GoodIn wsX3_addBondTo (wsV RX3 212 RX3 yX3_worthNow wsX3_worthNow) := goodIn_app (goodIn_of _ (by decide +kernel)) ggX3_addBondTo_X3_worthNow
set_option maxRecDepth 20000 in
theorem ggX3_leastWith_X3_isLess : GoodIn wsX3_leastWith wsX3_isLess := goodIn_r _ [4, 5, 6, 7, 8, 9, 10, 11] (by decide +kernel) (by decide +kernel)
set_option maxRecDepth 20000 in
theorem gX3_leastWith_X3_isLess : GoodIn wsX3_leastWith (va_wsS RX3 156 yX3_isLess wsX3_isLess) := goodIn_app (goodIn_of _ (by decide +kernel)) ggX3_leastWith_X3_isLess
set_option maxRecDepth 20000 in
theorem ggX3_leastWith_X2_allHold : GoodIn wsX3_leastWith wsX2_allHold := goodIn_r _ [16, 17, 18, 19, 15, 20, 21, 22, 25, 26] (by decide +kernel) (by decide +kernel)
set_option maxRecDepth 20000 in
theorem gX3_leastWith_X2_allHold : GoodIn wsX3_leastWith (wsV RX3 92 RX2 yX2_allHold wsX2_allHold) := goodIn_app (goodIn_of _ (by decide +kernel)) ggX3_leastWith_X2_allHold
set_option maxRecDepth 20000 in
theorem ggX3_leastWith_X3_leastWith : GoodIn wsX3_leastWith wsX3_leastWith := goodIn_r _ [0, 1, 2, 3, 4, 5, 6, 7, 8, 9, 10, 11, 12, 13, 14, 15, 16, 17, 18, 19, 20, 21, 22, 23, 24, 25, 26] (by decide +kernel) (by decide +kernel)
set_option maxRecDepth 20000 in
theorem gX3_leastWith_X3_leastWith : GoodIn wsX3_leastWith (va_wsS RX3 152 yX3_leastWith wsX3_leastWith) := goodIn_app (goodIn_of _ (by decide +kernel)) ggX3_leastWith_X3_leastWith
set_option maxRecDepth 20000 in
theorem ggX3_isLess_J6_bitCount_0f7a4 : GoodIn wsX3_isLess wsJ6_bitCount_0f7a4 := goodIn_r _ [4, 5, 6, 7] (by decide +kernel) (by decide +kernel)
set_option maxRecDepth 20000 in
theorem gX3_isLess_J6_bitCount_0f7a4 : GoodIn wsX3_isLess (va_wsS RX3 218 yJ6_bitCount_0f7a4 wsJ6_bitCount_0f7a4) := goodIn_app (goodIn_of _ (by decide +kernel)) ggX3_isLess_J6_bitCount_0f7a4
set_option maxRecDepth 20000 in
theorem ggX4_beside_X4_owed : GoodIn wsX4_beside wsX4_owed := goodIn_r _ [6, 7, 8, 9, 10, 11, 12, 13, 14, 15, 16, 17, 18, 19, 20, 21, 22, 23, 24, 25, 26, 27] (by decide +kernel) (by decide +kernel)
set_option maxRecDepth 20000 in
theorem gX4_beside_X4_owed : GoodIn wsX4_beside (wsV RX4 60 RX4 yX4_owed wsX4_owed) := goodIn_app (goodIn_of _ (by decide +kernel)) ggX4_beside_X4_owed
set_option maxRecDepth 20000 in
theorem ggX4_lackOfFace_X4_beside : GoodIn wsX4_lackOfFace wsX4_beside := goodIn_r _ [8, 9, 10, 11, 12, 7, 13, 14, 15, 16, 26, 27, 28, 29, 30, 31, 32, 33, 34, 35, 36, 37, 38, 39, 40, 41, 42, 43] (by decide +kernel) (by decide +kernel)
set_option maxRecDepth 20000 in
theorem gX4_lackOfFace_X4_beside : GoodIn wsX4_lackOfFace (wsV RX4 70 RX4 yX4_beside wsX4_beside) := goodIn_app (goodIn_of _ (by decide +kernel)) ggX4_lackOfFace_X4_beside
set_option maxRecDepth 20000 in
theorem ggX4_lackOfFace_X4_countOf : GoodIn wsX4_lackOfFace wsX4_countOf := goodIn_r _ [20, 21, 22, 23, 24, 25, 26, 27, 28, 29, 30, 31, 32, 33, 34, 35, 36, 37, 38, 39, 40, 41, 42, 43] (by decide +kernel) (by decide +kernel)
set_option maxRecDepth 20000 in
theorem gX4_lackOfFace_X4_countOf : GoodIn wsX4_lackOfFace (wsV RX4 73 RX4 yX4_countOf wsX4_countOf) := goodIn_app (goodIn_of _ (by decide +kernel)) ggX4_lackOfFace_X4_countOf
set_option maxRecDepth 20000 in
theorem ggX4_lackOfFace_X4_owed : GoodIn wsX4_lackOfFace wsX4_owed := goodIn_r _ [13, 14, 15, 16, 26, 27, 28, 29, 30, 31, 32, 33, 34, 35, 36, 37, 38, 39, 40, 41, 42, 43] (by decide +kernel) (by decide +kernel)
set_option maxRecDepth 20000 in
theorem gX4_lackOfFace_X4_owed : GoodIn wsX4_lackOfFace (wsV RX4 60 RX4 yX4_owed wsX4_owed) := goodIn_app (goodIn_of _ (by decide +kernel)) ggX4_lackOfFace_X4_owed
set_option maxRecDepth 20000 in
theorem ggX4_lackOfWorth_X4_beside : GoodIn wsX4_lackOfWorth wsX4_beside := goodIn_r _ [11, 12, 13, 14, 15, 10, 16, 1, 2, 3, 31, 32, 33, 34, 35, 36, 37, 38, 39, 40, 41, 42, 43, 44, 45, 46, 47, 48] (by decide +kernel) (by decide +kernel)
set_option maxRecDepth 20000 in
theorem gX4_lackOfWorth_X4_beside : GoodIn wsX4_lackOfWorth (wsV RX4 70 RX4 yX4_beside wsX4_beside) := goodIn_app (goodIn_of _ (by decide +kernel)) ggX4_lackOfWorth_X4_beside
set_option maxRecDepth 20000 in
theorem ggX4_lackOfWorth_X4_valued : GoodIn wsX4_lackOfWorth wsX4_valued := goodIn_r _ [20, 21, 31, 32, 33, 34, 35, 36, 37, 38, 39, 40, 41, 42, 43, 44, 45, 46, 47, 48] (by decide +kernel) (by decide +kernel)
set_option maxRecDepth 20000 in
theorem gX4_lackOfWorth_X4_valued : GoodIn wsX4_lackOfWorth (wsV RX4 79 RX4 yX4_valued wsX4_valued) := goodIn_app (goodIn_of _ (by decide +kernel)) ggX4_lackOfWorth_X4_valued
set_option maxRecDepth 20000 in
theorem ggX4_lackOfWorth_X4_countOf : GoodIn wsX4_lackOfWorth wsX4_countOf := goodIn_r _ [25, 26, 27, 28, 29, 30, 31, 32, 33, 34, 35, 36, 37, 38, 39, 40, 41, 42, 43, 44, 45, 46, 47, 48] (by decide +kernel) (by decide +kernel)
set_option maxRecDepth 20000 in
theorem gX4_lackOfWorth_X4_countOf : GoodIn wsX4_lackOfWorth (wsV RX4 73 RX4 yX4_countOf wsX4_countOf) := goodIn_app (goodIn_of _ (by decide +kernel)) ggX4_lackOfWorth_X4_countOf
set_option maxRecDepth 20000 in
theorem ggX4_lackOfMoney_X4_countOf : GoodIn wsX4_lackOfMoney wsX4_countOf := goodIn_r _ [13, 14, 15, 16, 17, 18, 19, 20, 21, 22, 23, 24, 25, 26, 27, 28, 29, 30, 31, 32, 33, 34, 35, 36] (by decide +kernel) (by decide +kernel)
set_option maxRecDepth 20000 in
theorem gX4_lackOfMoney_X4_countOf : GoodIn wsX4_lackOfMoney (wsV RX4 73 RX4 yX4_countOf wsX4_countOf) := goodIn_app (goodIn_of _ (by decide +kernel)) ggX4_lackOfMoney_X4_countOf
set_option maxRecDepth 20000 in
theorem ggX4_lack_X4_lackOfFace : GoodIn wsX4_lack wsX4_lackOfFace := goodIn_r _ [6, 7, 8, 9, 10, 11, 12, 5, 13, 14, 15, 16, 17, 18, 19, 20, 21, 22, 23, 24, 25, 26, 27, 28, 29, 30, 46, 47, 48, 49, 50, 51, 52, 53, 54, 55, 56, 57, 58, 59, 60, 61, 62, 63] (by decide +kernel) (by decide +kernel)
set_option maxRecDepth 20000 in
theorem gX4_lack_X4_lackOfFace : GoodIn wsX4_lack (wsV RX4 83 RX4 yX4_lackOfFace wsX4_lackOfFace) := goodIn_app (goodIn_of _ (by decide +kernel)) ggX4_lack_X4_lackOfFace
set_option maxRecDepth 20000 in
theorem ggX4_lack_X4_lackOfMoney : GoodIn wsX4_lack wsX4_lackOfMoney := goodIn_r _ [34, 14, 19, 20, 35, 36, 21, 7, 37, 22, 23, 24, 5, 25, 26, 27, 28, 29, 30, 46, 47, 48, 49, 50, 51, 52, 53, 54, 55, 56, 57, 58, 59, 60, 61, 62, 63] (by decide +kernel) (by decide +kernel)
set_option maxRecDepth 20000 in
theorem gX4_lack_X4_lackOfMoney : GoodIn wsX4_lack (wsV RX4 87 RX4 yX4_lackOfMoney wsX4_lackOfMoney) := goodIn_app (goodIn_of _ (by decide +kernel)) ggX4_lack_X4_lackOfMoney
set_option maxRecDepth 20000 in
theorem ggX4_lack_X4_lackOfWorth : GoodIn wsX4_lack wsX4_lackOfWorth := goodIn_r _ [41, 19, 20, 21, 35, 7, 37, 10, 11, 12, 5, 13, 14, 15, 16, 17, 18, 42, 43, 44, 45, 36, 22, 23, 24, 25, 26, 27, 28, 29, 30, 46, 47, 48, 49, 50, 51, 52, 53, 54, 55, 56, 57, 58, 59, 60, 61, 62, 63] (by decide +kernel) (by decide +kernel)
set_option maxRecDepth 20000 in
theorem gX4_lack_X4_lackOfWorth : GoodIn wsX4_lack (wsV RX4 90 RX4 yX4_lackOfWorth wsX4_lackOfWorth) := goodIn_app (goodIn_of _ (by decide +kernel)) ggX4_lack_X4_lackOfWorth
set_option maxRecDepth 20000 in
theorem ggX4_isSafe_X4_lack : GoodIn wsX4_isSafe wsX4_lack := goodIn_r _ [5, 6, 7, 8, 9, 4, 10, 11, 12, 13, 14, 15, 16, 17, 18, 19, 20, 21, 22, 23, 24, 25, 26, 27, 28, 29, 30, 31, 32, 33, 34, 35, 36, 37, 38, 39, 40, 41, 42, 43, 44, 45, 46, 47, 48, 49, 50, 51, 52, 53, 54, 55, 56, 57, 58, 59, 60, 61, 62, 63, 64, 65, 66, 67] (by decide +kernel) (by decide +kernel)
set_option maxRecDepth 20000 in
theorem gX4_isSafe_X4_lack : GoodIn wsX4_isSafe (wsV RX4 94 RX4 yX4_lack wsX4_lack) := goodIn_app (goodIn_of _ (by decide +kernel)) ggX4_isSafe_X4_lack
set_option maxRecDepth 20000 in
theorem ggX4_addLoan_X4_isWithin : GoodIn wsX4_addLoan wsX4_isWithin := goodIn_r _ [10] (by decide +kernel) (by decide +kernel)
set_option maxRecDepth 20000 in
theorem gX4_addLoan_X4_isWithin : GoodIn wsX4_addLoan (va_wsS RX4 97 yX4_isWithin wsX4_isWithin) := goodIn_app (goodIn_of _ (by decide +kernel)) ggX4_addLoan_X4_isWithin
set_option maxRecDepth 20000 in
theorem ggX4_addLoan_X4_goes : GoodIn wsX4_addLoan wsX4_goes := goodIn_r _ [14, 15, 16, 17, 18, 19, 20, 21, 22, 23, 24, 25, 26, 27, 28, 29, 30, 31, 32, 33] (by decide +kernel) (by decide +kernel)
set_option maxRecDepth 20000 in
theorem gX4_addLoan_X4_goes : GoodIn wsX4_addLoan (wsV RX4 101 RX4 yX4_goes wsX4_goes) := goodIn_app (goodIn_of _ (by decide +kernel)) ggX4_addLoan_X4_goes
set_option maxRecDepth 20000 in
theorem ggX4_enter_X4_isLoan : GoodIn wsX4_enter wsX4_isLoan := goodIn_r _ [6, 7, 22, 23, 24, 25, 26, 27, 28, 29, 30, 31, 32, 33, 34, 35, 36, 37, 38, 39] (by decide +kernel) (by decide +kernel)
set_option maxRecDepth 20000 in
theorem gX4_enter_X4_isLoan : GoodIn wsX4_enter (wsV RX4 105 RX4 yX4_isLoan wsX4_isLoan) := goodIn_app (goodIn_of _ (by decide +kernel)) ggX4_enter_X4_isLoan
set_option maxRecDepth 20000 in
theorem ggX4_enter_X4_goes : GoodIn wsX4_enter wsX4_goes := goodIn_r _ [11, 12, 22, 23, 24, 25, 26, 27, 28, 29, 30, 31, 32, 33, 34, 35, 36, 37, 38, 39] (by decide +kernel) (by decide +kernel)
set_option maxRecDepth 20000 in
theorem gX4_enter_X4_goes : GoodIn wsX4_enter (wsV RX4 101 RX4 yX4_goes wsX4_goes) := goodIn_app (goodIn_of _ (by decide +kernel)) ggX4_enter_X4_goes
set_option maxRecDepth 20000 in
theorem ggX4_enter_X4_countOf : GoodIn wsX4_enter wsX4_countOf := goodIn_r _ [16, 17, 18, 19, 20, 21, 22, 23, 24, 25, 26, 27, 28, 29, 30, 31, 32, 33, 34, 35, 36, 37, 38, 39] (by decide +kernel) (by decide +kernel)
set_option maxRecDepth 20000 in
theorem gX4_enter_X4_countOf : GoodIn wsX4_enter (wsV RX4 73 RX4 yX4_countOf wsX4_countOf) := goodIn_app (goodIn_of _ (by decide +kernel)) ggX4_enter_X4_countOf
set_option maxRecDepth 20000 in
theorem ggX4_leave_X4_isLoan : GoodIn wsX4_leave wsX4_isLoan := goodIn_r _ [6, 7, 68, 69, 70, 71, 72, 73, 74, 75, 76, 77, 78, 79, 80, 81, 82, 83, 84, 85] (by decide +kernel) (by decide +kernel)
set_option maxRecDepth 20000 in
theorem gX4_leave_X4_isLoan : GoodIn wsX4_leave (wsV RX4 105 RX4 yX4_isLoan wsX4_isLoan) := goodIn_app (goodIn_of _ (by decide +kernel)) ggX4_leave_X4_isLoan
set_option maxRecDepth 20000 in
theorem ggX4_leave_X4_goes : GoodIn wsX4_leave wsX4_goes := goodIn_r _ [11, 12, 68, 69, 70, 71, 72, 73, 74, 75, 76, 77, 78, 79, 80, 81, 82, 83, 84, 85] (by decide +kernel) (by decide +kernel)
set_option maxRecDepth 20000 in
theorem gX4_leave_X4_goes : GoodIn wsX4_leave (wsV RX4 101 RX4 yX4_goes wsX4_goes) := goodIn_app (goodIn_of _ (by decide +kernel)) ggX4_leave_X4_goes
set_option maxRecDepth 20000 in
theorem ggX4_leave_X4_pool : GoodIn wsX4_leave wsX4_pool := goodIn_r _ [16, 7, 1, 68, 69, 70, 71, 72, 73, 74, 75, 76, 77, 78, 79, 80, 81, 82, 83, 84, 85] (by decide +kernel) (by decide +kernel)
set_option maxRecDepth 20000 in
theorem gX4_leave_X4_pool : GoodIn wsX4_leave (wsV RX4 109 RX4 yX4_pool wsX4_pool) := goodIn_app (goodIn_of _ (by decide +kernel)) ggX4_leave_X4_pool
set_option maxRecDepth 20000 in
theorem ggX4_leave_X4_isSafe : GoodIn wsX4_leave wsX4_isSafe := goodIn_r _ [20, 21, 22, 23, 5, 24, 25, 26, 27, 28, 29, 7, 30, 31, 32, 33, 34, 35, 36, 37, 38, 39, 40, 41, 42, 43, 44, 45, 46, 47, 48, 49, 50, 51, 52, 53, 54, 55, 56, 57, 58, 59, 60, 61, 62, 63, 64, 65, 66, 67, 68, 69, 70, 71, 72, 73, 74, 75, 76, 77, 78, 79, 80, 81, 82, 83, 84, 85] (by decide +kernel) (by decide +kernel)
set_option maxRecDepth 20000 in
theorem gX4_leave_X4_isSafe : GoodIn wsX4_leave (wsV RX4 112 RX4 yX4_isSafe wsX4_isSafe) := goodIn_app (goodIn_of _ (by decide +kernel)) ggX4_leave_X4_isSafe
set_option maxRecDepth 20000 in
theorem ggX4_swap_X4_isLoan : GoodIn wsX4_swap wsX4_isLoan := goodIn_r _ [6, 7, 64, 65, 66, 67, 68, 69, 70, 71, 72, 73, 74, 75, 76, 77, 78, 79, 80, 81] (by decide +kernel) (by decide +kernel)
set_option maxRecDepth 20000 in
theorem gX4_swap_X4_isLoan : GoodIn wsX4_swap (wsV RX4 105 RX4 yX4_isLoan wsX4_isLoan) := goodIn_app (goodIn_of _ (by decide +kernel)) ggX4_swap_X4_isLoan
set_option maxRecDepth 20000 in
theorem ggX4_swap_X4_goes : GoodIn wsX4_swap wsX4_goes := goodIn_r _ [11, 12, 64, 65, 66, 67, 68, 69, 70, 71, 72, 73, 74, 75, 76, 77, 78, 79, 80, 81] (by decide +kernel) (by decide +kernel)
set_option maxRecDepth 20000 in
theorem gX4_swap_X4_goes : GoodIn wsX4_swap (wsV RX4 101 RX4 yX4_goes wsX4_goes) := goodIn_app (goodIn_of _ (by decide +kernel)) ggX4_swap_X4_goes
set_option maxRecDepth 20000 in
theorem ggX4_swap_X4_pool : GoodIn wsX4_swap wsX4_pool := goodIn_r _ [16, 7, 1, 64, 65, 66, 67, 68, 69, 70, 71, 72, 73, 74, 75, 76, 77, 78, 79, 80, 81] (by decide +kernel) (by decide +kernel)
set_option maxRecDepth 20000 in
theorem gX4_swap_X4_pool : GoodIn wsX4_swap (wsV RX4 109 RX4 yX4_pool wsX4_pool) := goodIn_app (goodIn_of _ (by decide +kernel)) ggX4_swap_X4_pool
set_option maxRecDepth 20000 in
theorem ggX4_swap_X4_lack : GoodIn wsX4_swap wsX4_lack := goodIn_r _ [20, 21, 22, 23, 24, 5, 25, 7, 26, 27, 28, 29, 30, 31, 32, 33, 34, 35, 36, 37, 38, 39, 40, 41, 42, 43, 44, 45, 46, 47, 48, 49, 50, 51, 52, 53, 54, 55, 56, 57, 58, 59, 60, 61, 62, 63, 64, 65, 66, 67, 68, 69, 70, 71, 72, 73, 74, 75, 76, 77, 78, 79, 80, 81] (by decide +kernel) (by decide +kernel)
set_option maxRecDepth 20000 in
theorem gX4_swap_X4_lack : GoodIn wsX4_swap (wsV RX4 94 RX4 yX4_lack wsX4_lack) := goodIn_app (goodIn_of _ (by decide +kernel)) ggX4_swap_X4_lack
set_option maxRecDepth 20000 in
theorem ggX4_setArrears_X4_isLoan : GoodIn wsX4_setArrears wsX4_isLoan := goodIn_r _ [7, 8, 17, 18, 19, 20, 21, 22, 23, 24, 25, 26, 27, 28, 29, 30, 31, 32, 33, 34] (by decide +kernel) (by decide +kernel)
set_option maxRecDepth 20000 in
theorem gX4_setArrears_X4_isLoan : GoodIn wsX4_setArrears (wsV RX4 105 RX4 yX4_isLoan wsX4_isLoan) := goodIn_app (goodIn_of _ (by decide +kernel)) ggX4_setArrears_X4_isLoan
set_option maxRecDepth 20000 in
theorem ggX4_setArrears_X4_isWithin : GoodIn wsX4_setArrears wsX4_isWithin := goodIn_r _ [11] (by decide +kernel) (by decide +kernel)
set_option maxRecDepth 20000 in
theorem gX4_setArrears_X4_isWithin : GoodIn wsX4_setArrears (va_wsS RX4 97 yX4_isWithin wsX4_isWithin) := goodIn_app (goodIn_of _ (by decide +kernel)) ggX4_setArrears_X4_isWithin
set_option maxRecDepth 20000 in
theorem ggX4_setArrears_X4_goes : GoodIn wsX4_setArrears wsX4_goes := goodIn_r _ [15, 16, 17, 18, 19, 20, 21, 22, 23, 24, 25, 26, 27, 28, 29, 30, 31, 32, 33, 34] (by decide +kernel) (by decide +kernel)
set_option maxRecDepth 20000 in
theorem gX4_setArrears_X4_goes : GoodIn wsX4_setArrears (wsV RX4 101 RX4 yX4_goes wsX4_goes) := goodIn_app (goodIn_of _ (by decide +kernel)) ggX4_setArrears_X4_goes
set_option maxRecDepth 20000 in
theorem ggX4_setWorth_X4_isLoan : GoodIn wsX4_setWorth wsX4_isLoan := goodIn_r _ [6, 7, 16, 17, 18, 19, 20, 21, 22, 23, 24, 25, 26, 27, 28, 29, 30, 31, 32, 33] (by decide +kernel) (by decide +kernel)
set_option maxRecDepth 20000 in
theorem gX4_setWorth_X4_isLoan : GoodIn wsX4_setWorth (wsV RX4 105 RX4 yX4_isLoan wsX4_isLoan) := goodIn_app (goodIn_of _ (by decide +kernel)) ggX4_setWorth_X4_isLoan
set_option maxRecDepth 20000 in
theorem ggX4_setWorth_X4_isWithin : GoodIn wsX4_setWorth wsX4_isWithin := goodIn_r _ [10] (by decide +kernel) (by decide +kernel)
set_option maxRecDepth 20000 in
theorem gX4_setWorth_X4_isWithin : GoodIn wsX4_setWorth (va_wsS RX4 97 yX4_isWithin wsX4_isWithin) := goodIn_app (goodIn_of _ (by decide +kernel)) ggX4_setWorth_X4_isWithin
set_option maxRecDepth 20000 in
theorem ggX4_setWorth_X4_goes : GoodIn wsX4_setWorth wsX4_goes := goodIn_r _ [14, 15, 16, 17, 18, 19, 20, 21, 22, 23, 24, 25, 26, 27, 28, 29, 30, 31, 32, 33] (by decide +kernel) (by decide +kernel)
set_option maxRecDepth 20000 in
theorem gX4_setWorth_X4_goes : GoodIn wsX4_setWorth (wsV RX4 101 RX4 yX4_goes wsX4_goes) := goodIn_app (goodIn_of _ (by decide +kernel)) ggX4_setWorth_X4_goes
set_option maxRecDepth 20000 in
theorem ggX4_stateOf_X4_isLoan : GoodIn wsX4_stateOf wsX4_isLoan := goodIn_r _ [6, 7, 13, 14, 15, 16, 17, 18, 19, 20, 21, 22, 23, 24, 25, 26, 27, 28, 29, 30] (by decide +kernel) (by decide +kernel)
set_option maxRecDepth 20000 in
theorem gX4_stateOf_X4_isLoan : GoodIn wsX4_stateOf (wsV RX4 105 RX4 yX4_isLoan wsX4_isLoan) := goodIn_app (goodIn_of _ (by decide +kernel)) ggX4_stateOf_X4_isLoan
set_option maxRecDepth 20000 in
theorem ggX4_stateOf_X4_goes : GoodIn wsX4_stateOf wsX4_goes := goodIn_r _ [11, 12, 13, 14, 15, 16, 17, 18, 19, 20, 21, 22, 23, 24, 25, 26, 27, 28, 29, 30] (by decide +kernel) (by decide +kernel)
set_option maxRecDepth 20000 in
theorem gX4_stateOf_X4_goes : GoodIn wsX4_stateOf (wsV RX4 101 RX4 yX4_goes wsX4_goes) := goodIn_app (goodIn_of _ (by decide +kernel)) ggX4_stateOf_X4_goes
set_option maxRecDepth 20000 in
theorem ggX4_counts_X4_isLoan : GoodIn wsX4_counts wsX4_isLoan := goodIn_r _ [5, 6, 21, 22, 23, 24, 25, 26, 27, 28, 29, 30, 31, 32, 33, 34, 35, 36, 37, 38] (by decide +kernel) (by decide +kernel)
set_option maxRecDepth 20000 in
theorem gX4_counts_X4_isLoan : GoodIn wsX4_counts (wsV RX4 105 RX4 yX4_isLoan wsX4_isLoan) := goodIn_app (goodIn_of _ (by decide +kernel)) ggX4_counts_X4_isLoan
set_option maxRecDepth 20000 in
theorem ggX4_counts_X4_goes : GoodIn wsX4_counts wsX4_goes := goodIn_r _ [10, 11, 21, 22, 23, 24, 25, 26, 27, 28, 29, 30, 31, 32, 33, 34, 35, 36, 37, 38] (by decide +kernel) (by decide +kernel)
set_option maxRecDepth 20000 in
theorem gX4_counts_X4_goes : GoodIn wsX4_counts (wsV RX4 101 RX4 yX4_goes wsX4_goes) := goodIn_app (goodIn_of _ (by decide +kernel)) ggX4_counts_X4_goes
set_option maxRecDepth 20000 in
theorem ggX4_counts_X4_countOf : GoodIn wsX4_counts wsX4_countOf := goodIn_r _ [15, 16, 17, 18, 19, 20, 21, 22, 23, 24, 25, 26, 27, 28, 29, 30, 31, 32, 33, 34, 35, 36, 37, 38] (by decide +kernel) (by decide +kernel)
set_option maxRecDepth 20000 in
theorem gX4_counts_X4_countOf : GoodIn wsX4_counts (wsV RX4 73 RX4 yX4_countOf wsX4_countOf) := goodIn_app (goodIn_of _ (by decide +kernel)) ggX4_counts_X4_countOf
set_option maxRecDepth 20000 in
theorem ggX4_addBond_X4_isWithin : GoodIn wsX4_addBond wsX4_isWithin := goodIn_r _ [10] (by decide +kernel) (by decide +kernel)
set_option maxRecDepth 20000 in
theorem gX4_addBond_X4_isWithin : GoodIn wsX4_addBond (va_wsS RX4 97 yX4_isWithin wsX4_isWithin) := goodIn_app (goodIn_of _ (by decide +kernel)) ggX4_addBond_X4_isWithin
set_option maxRecDepth 20000 in
theorem ggX4_addBond_X4_goes : GoodIn wsX4_addBond wsX4_goes := goodIn_r _ [14, 15, 16, 17, 18, 19, 20, 21, 22, 23, 24, 25, 26, 27, 28, 29, 30, 31, 32, 33] (by decide +kernel) (by decide +kernel)
set_option maxRecDepth 20000 in
theorem gX4_addBond_X4_goes : GoodIn wsX4_addBond (wsV RX4 101 RX4 yX4_goes wsX4_goes) := goodIn_app (goodIn_of _ (by decide +kernel)) ggX4_addBond_X4_goes
set_option maxRecDepth 20000 in
theorem ggX4_takeCash_X4_isWithin : GoodIn wsX4_takeCash wsX4_isWithin := goodIn_r _ [6] (by decide +kernel) (by decide +kernel)
set_option maxRecDepth 20000 in
theorem gX4_takeCash_X4_isWithin : GoodIn wsX4_takeCash (va_wsS RX4 97 yX4_isWithin wsX4_isWithin) := goodIn_app (goodIn_of _ (by decide +kernel)) ggX4_takeCash_X4_isWithin
set_option maxRecDepth 20000 in
theorem ggX4_takeCash_X4_goes : GoodIn wsX4_takeCash wsX4_goes := goodIn_r _ [10, 11, 12, 13, 14, 15, 16, 17, 18, 19, 20, 21, 22, 23, 24, 25, 26, 27, 28, 29] (by decide +kernel) (by decide +kernel)
set_option maxRecDepth 20000 in
theorem gX4_takeCash_X4_goes : GoodIn wsX4_takeCash (wsV RX4 101 RX4 yX4_goes wsX4_goes) := goodIn_app (goodIn_of _ (by decide +kernel)) ggX4_takeCash_X4_goes
set_option maxRecDepth 20000 in
theorem ggX4_setRules_X4_isWithin : GoodIn wsX4_setRules wsX4_isWithin := goodIn_r _ [7] (by decide +kernel) (by decide +kernel)
set_option maxRecDepth 20000 in
theorem gX4_setRules_X4_isWithin : GoodIn wsX4_setRules (va_wsS RX4 97 yX4_isWithin wsX4_isWithin) := goodIn_app (goodIn_of _ (by decide +kernel)) ggX4_setRules_X4_isWithin
set_option maxRecDepth 20000 in
theorem ggX4_setRules_X4_goes : GoodIn wsX4_setRules wsX4_goes := goodIn_r _ [11, 12, 13, 14, 15, 16, 17, 18, 19, 20, 21, 22, 23, 24, 25, 26, 27, 28, 29, 30] (by decide +kernel) (by decide +kernel)
set_option maxRecDepth 20000 in
theorem gX4_setRules_X4_goes : GoodIn wsX4_setRules (wsV RX4 101 RX4 yX4_goes wsX4_goes) := goodIn_app (goodIn_of _ (by decide +kernel)) ggX4_setRules_X4_goes
set_option maxRecDepth 20000 in
theorem ggX4_bondState_X4_isBond : GoodIn wsX4_bondState wsX4_isBond := goodIn_r _ [6, 7, 13, 14, 15, 16, 17, 18, 19, 20, 21, 22, 23, 24, 25, 26, 27, 28, 29, 30] (by decide +kernel) (by decide +kernel)
set_option maxRecDepth 20000 in
theorem gX4_bondState_X4_isBond : GoodIn wsX4_bondState (wsV RX4 117 RX4 yX4_isBond wsX4_isBond) := goodIn_app (goodIn_of _ (by decide +kernel)) ggX4_bondState_X4_isBond
set_option maxRecDepth 20000 in
theorem ggX4_bondState_X4_goes : GoodIn wsX4_bondState wsX4_goes := goodIn_r _ [11, 12, 13, 14, 15, 16, 17, 18, 19, 20, 21, 22, 23, 24, 25, 26, 27, 28, 29, 30] (by decide +kernel) (by decide +kernel)
set_option maxRecDepth 20000 in
theorem gX4_bondState_X4_goes : GoodIn wsX4_bondState (wsV RX4 101 RX4 yX4_goes wsX4_goes) := goodIn_app (goodIn_of _ (by decide +kernel)) ggX4_bondState_X4_goes
set_option maxRecDepth 20000 in
theorem ggX4_dueOf_X4_isBond : GoodIn wsX4_dueOf wsX4_isBond := goodIn_r _ [6, 7, 13, 14, 15, 16, 17, 18, 19, 20, 21, 22, 23, 24, 25, 26, 27, 28, 29, 30] (by decide +kernel) (by decide +kernel)
set_option maxRecDepth 20000 in
theorem gX4_dueOf_X4_isBond : GoodIn wsX4_dueOf (wsV RX4 117 RX4 yX4_isBond wsX4_isBond) := goodIn_app (goodIn_of _ (by decide +kernel)) ggX4_dueOf_X4_isBond
set_option maxRecDepth 20000 in
theorem ggX4_dueOf_X4_goes : GoodIn wsX4_dueOf wsX4_goes := goodIn_r _ [11, 12, 13, 14, 15, 16, 17, 18, 19, 20, 21, 22, 23, 24, 25, 26, 27, 28, 29, 30] (by decide +kernel) (by decide +kernel)
set_option maxRecDepth 20000 in
theorem gX4_dueOf_X4_goes : GoodIn wsX4_dueOf (wsV RX4 101 RX4 yX4_goes wsX4_goes) := goodIn_app (goodIn_of _ (by decide +kernel)) ggX4_dueOf_X4_goes
set_option maxRecDepth 20000 in
theorem ggX4_debt_X4_owed : GoodIn wsX4_debt wsX4_owed := goodIn_r _ [6, 7, 8, 9, 10, 11, 12, 13, 14, 15, 16, 17, 18, 19, 20, 21, 22, 23, 24, 25, 26, 27] (by decide +kernel) (by decide +kernel)
set_option maxRecDepth 20000 in
theorem gX4_debt_X4_owed : GoodIn wsX4_debt (wsV RX4 60 RX4 yX4_owed wsX4_owed) := goodIn_app (goodIn_of _ (by decide +kernel)) ggX4_debt_X4_owed
set_option maxRecDepth 20000 in
theorem ggX4_substitutes_X4_beside : GoodIn wsX4_substitutes wsX4_beside := goodIn_r _ [6, 7, 8, 9, 10, 5, 11, 12, 13, 14, 15, 16, 17, 18, 19, 20, 21, 22, 23, 24, 25, 26, 27, 28, 29, 30, 31, 32] (by decide +kernel) (by decide +kernel)
set_option maxRecDepth 20000 in
theorem gX4_substitutes_X4_beside : GoodIn wsX4_substitutes (wsV RX4 70 RX4 yX4_beside wsX4_beside) := goodIn_app (goodIn_of _ (by decide +kernel)) ggX4_substitutes_X4_beside
set_option maxRecDepth 20000 in
theorem ggX4_pass_X4_isWithin : GoodIn wsX4_pass wsX4_isWithin := goodIn_r _ [5] (by decide +kernel) (by decide +kernel)
set_option maxRecDepth 20000 in
theorem gX4_pass_X4_isWithin : GoodIn wsX4_pass (va_wsS RX4 97 yX4_isWithin wsX4_isWithin) := goodIn_app (goodIn_of _ (by decide +kernel)) ggX4_pass_X4_isWithin
set_option maxRecDepth 20000 in
theorem ggX4_pass_X4_goes : GoodIn wsX4_pass wsX4_goes := goodIn_r _ [9, 10, 26, 27, 28, 29, 30, 31, 32, 33, 34, 35, 36, 37, 38, 39, 40, 41, 42, 43] (by decide +kernel) (by decide +kernel)
set_option maxRecDepth 20000 in
theorem gX4_pass_X4_goes : GoodIn wsX4_pass (wsV RX4 101 RX4 yX4_goes wsX4_goes) := goodIn_app (goodIn_of _ (by decide +kernel)) ggX4_pass_X4_goes
set_option maxRecDepth 20000 in
theorem ggX4_pass_X4_lives : GoodIn wsX4_pass wsX4_lives := goodIn_r _ [14, 1, 15, 16, 17, 18, 19, 20, 21, 22, 23, 24, 25, 26, 27, 28, 29, 30, 31, 32, 33, 34, 35, 36, 37, 38, 39, 40, 41, 42, 43] (by decide +kernel) (by decide +kernel)
set_option maxRecDepth 20000 in
theorem gX4_pass_X4_lives : GoodIn wsX4_pass (wsV RX4 120 RX4 yX4_lives wsX4_lives) := goodIn_app (goodIn_of _ (by decide +kernel)) ggX4_pass_X4_lives
set_option maxRecDepth 20000 in
theorem ggX4_holds_X4_isWithin : GoodIn wsX4_holds wsX4_isWithin := goodIn_r _ [4] (by decide +kernel) (by decide +kernel)
set_option maxRecDepth 20000 in
theorem gX4_holds_X4_isWithin : GoodIn wsX4_holds (va_wsS RX4 97 yX4_isWithin wsX4_isWithin) := goodIn_app (goodIn_of _ (by decide +kernel)) ggX4_holds_X4_isWithin
set_option maxRecDepth 20000 in
theorem ggX4_holds_X4_goes : GoodIn wsX4_holds wsX4_goes := goodIn_r _ [8, 9, 63, 64, 65, 66, 67, 68, 69, 70, 71, 72, 73, 74, 75, 76, 77, 78, 79, 80] (by decide +kernel) (by decide +kernel)
set_option maxRecDepth 20000 in
theorem gX4_holds_X4_goes : GoodIn wsX4_holds (wsV RX4 101 RX4 yX4_goes wsX4_goes) := goodIn_app (goodIn_of _ (by decide +kernel)) ggX4_holds_X4_goes
set_option maxRecDepth 20000 in
theorem ggX4_holds_X4_pool : GoodIn wsX4_holds wsX4_pool := goodIn_r _ [13, 14, 15, 63, 64, 65, 66, 67, 68, 69, 70, 71, 72, 73, 74, 75, 76, 77, 78, 79, 80] (by decide +kernel) (by decide +kernel)
set_option maxRecDepth 20000 in
theorem gX4_holds_X4_pool : GoodIn wsX4_holds (wsV RX4 109 RX4 yX4_pool wsX4_pool) := goodIn_app (goodIn_of _ (by decide +kernel)) ggX4_holds_X4_pool
set_option maxRecDepth 20000 in
theorem ggX4_holds_X4_lack : GoodIn wsX4_holds wsX4_lack := goodIn_r _ [19, 20, 21, 22, 23, 3, 24, 14, 25, 26, 27, 28, 29, 30, 31, 32, 33, 34, 35, 36, 37, 38, 39, 40, 41, 42, 43, 44, 45, 46, 47, 48, 49, 50, 51, 52, 53, 54, 55, 56, 57, 58, 59, 60, 61, 62, 63, 64, 65, 66, 67, 68, 69, 70, 71, 72, 73, 74, 75, 76, 77, 78, 79, 80] (by decide +kernel) (by decide +kernel)
set_option maxRecDepth 20000 in
theorem gX4_holds_X4_lack : GoodIn wsX4_holds (wsV RX4 94 RX4 yX4_lack wsX4_lack) := goodIn_app (goodIn_of _ (by decide +kernel)) ggX4_holds_X4_lack
set_option maxRecDepth 20000 in
theorem ggX4_lacking_X4_isWithin : GoodIn wsX4_lacking wsX4_isWithin := goodIn_r _ [4] (by decide +kernel) (by decide +kernel)
set_option maxRecDepth 20000 in
theorem gX4_lacking_X4_isWithin : GoodIn wsX4_lacking (va_wsS RX4 97 yX4_isWithin wsX4_isWithin) := goodIn_app (goodIn_of _ (by decide +kernel)) ggX4_lacking_X4_isWithin
set_option maxRecDepth 20000 in
theorem ggX4_lacking_X4_goes : GoodIn wsX4_lacking wsX4_goes := goodIn_r _ [8, 9, 63, 64, 65, 66, 67, 68, 69, 70, 71, 72, 73, 74, 75, 76, 77, 78, 79, 80] (by decide +kernel) (by decide +kernel)
set_option maxRecDepth 20000 in
theorem gX4_lacking_X4_goes : GoodIn wsX4_lacking (wsV RX4 101 RX4 yX4_goes wsX4_goes) := goodIn_app (goodIn_of _ (by decide +kernel)) ggX4_lacking_X4_goes
set_option maxRecDepth 20000 in
theorem ggX4_lacking_X4_pool : GoodIn wsX4_lacking wsX4_pool := goodIn_r _ [13, 14, 15, 63, 64, 65, 66, 67, 68, 69, 70, 71, 72, 73, 74, 75, 76, 77, 78, 79, 80] (by decide +kernel) (by decide +kernel)
set_option maxRecDepth 20000 in
theorem gX4_lacking_X4_pool : GoodIn wsX4_lacking (wsV RX4 109 RX4 yX4_pool wsX4_pool) := goodIn_app (goodIn_of _ (by decide +kernel)) ggX4_lacking_X4_pool
set_option maxRecDepth 20000 in
theorem ggX4_lacking_X4_lack : GoodIn wsX4_lacking wsX4_lack := goodIn_r _ [19, 20, 21, 22, 23, 3, 24, 14, 25, 26, 27, 28, 29, 30, 31, 32, 33, 34, 35, 36, 37, 38, 39, 40, 41, 42, 43, 44, 45, 46, 47, 48, 49, 50, 51, 52, 53, 54, 55, 56, 57, 58, 59, 60, 61, 62, 63, 64, 65, 66, 67, 68, 69, 70, 71, 72, 73, 74, 75, 76, 77, 78, 79, 80] (by decide +kernel) (by decide +kernel)
set_option maxRecDepth 20000 in
theorem gX4_lacking_X4_lack : GoodIn wsX4_lacking (wsV RX4 94 RX4 yX4_lack wsX4_lack) := goodIn_app (goodIn_of _ (by decide +kernel)) ggX4_lacking_X4_lack
set_option maxRecDepth 20000 in
theorem ggX4_leastToAdd_X4_pool : GoodIn wsX4_leastToAdd wsX4_pool := goodIn_r _ [8, 2, 3, 63, 64, 65, 66, 67, 68, 69, 70, 71, 72, 73, 74, 75, 76, 77, 78, 79, 80] (by decide +kernel) (by decide +kernel)
set_option maxRecDepth 20000 in
theorem gX4_leastToAdd_X4_pool : GoodIn wsX4_leastToAdd (wsV RX4 109 RX4 yX4_pool wsX4_pool) := goodIn_app (goodIn_of _ (by decide +kernel)) ggX4_leastToAdd_X4_pool
set_option maxRecDepth 20000 in
theorem ggX4_leastToAdd_X4_size : GoodIn wsX4_leastToAdd wsX4_size := goodIn_r _ [11] (by decide +kernel) (by decide +kernel)
set_option maxRecDepth 20000 in
theorem gX4_leastToAdd_X4_size : GoodIn wsX4_leastToAdd (va_wsS RX4 123 yX4_size wsX4_size) := goodIn_app (goodIn_of _ (by decide +kernel)) ggX4_leastToAdd_X4_size
set_option maxRecDepth 20000 in
theorem ggX4_leastToAdd_X4_isSafe : GoodIn wsX4_leastToAdd wsX4_isSafe := goodIn_r _ [15, 16, 17, 18, 7, 19, 20, 21, 22, 23, 24, 2, 25, 26, 27, 28, 29, 30, 31, 32, 33, 34, 35, 36, 37, 38, 39, 40, 41, 42, 43, 44, 45, 46, 47, 48, 49, 50, 51, 52, 53, 54, 55, 56, 57, 58, 59, 60, 61, 62, 63, 64, 65, 66, 67, 68, 69, 70, 71, 72, 73, 74, 75, 76, 77, 78, 79, 80] (by decide +kernel) (by decide +kernel)
set_option maxRecDepth 20000 in
theorem gX4_leastToAdd_X4_isSafe : GoodIn wsX4_leastToAdd (wsV RX4 112 RX4 yX4_isSafe wsX4_isSafe) := goodIn_app (goodIn_of _ (by decide +kernel)) ggX4_leastToAdd_X4_isSafe
set_option maxRecDepth 20000 in
theorem ggX4_leastToAddByAll_X4_leastToAdd : GoodIn wsX4_leastToAddByAll wsX4_leastToAdd := goodIn_r _ [5, 6, 7, 8, 9, 10, 11, 4, 12, 13, 14, 15, 16, 17, 18, 19, 20, 21, 22, 23, 24, 25, 26, 27, 28, 29, 30, 31, 32, 33, 34, 35, 36, 37, 38, 39, 40, 41, 42, 43, 44, 45, 46, 47, 48, 49, 50, 51, 52, 53, 54, 55, 56, 57, 58, 59, 60, 61, 62, 63, 64, 65, 66, 67, 68, 69, 70, 71, 72, 73, 74, 75, 76, 77, 78, 79, 80, 81, 82, 83, 84] (by decide +kernel) (by decide +kernel)
set_option maxRecDepth 20000 in
theorem gX4_leastToAddByAll_X4_leastToAdd : GoodIn wsX4_leastToAddByAll (wsV RX4 126 RX4 yX4_leastToAdd wsX4_leastToAdd) := goodIn_app (goodIn_of _ (by decide +kernel)) ggX4_leastToAddByAll_X4_leastToAdd
set_option maxRecDepth 20000 in
theorem ggJxc12de_init_da8c8_Jxa1e45_init_da8c8 : GoodIn wsJxc12de_init_da8c8 wsJxa1e45_init_da8c8 := goodIn_r _ [5, 6, 7, 8] (by decide +kernel) (by decide +kernel)
set_option maxRecDepth 20000 in
theorem gJxc12de_init_da8c8_Jxa1e45_init_da8c8 : GoodIn wsJxc12de_init_da8c8 (wsJxa1e45_init_da8c8) := ggJxc12de_init_da8c8_Jxa1e45_init_da8c8
set_option maxRecDepth 20000 in
theorem ggJx4a65c_init_da8c8_Jxc12de_init_da8c8 : GoodIn wsJx4a65c_init_da8c8 wsJxc12de_init_da8c8 := goodIn_r _ [6, 7, 8, 9, 10, 11, 12, 13, 14, 15, 16, 17] (by decide +kernel) (by decide +kernel)
set_option maxRecDepth 20000 in
theorem gJx4a65c_init_da8c8_Jxc12de_init_da8c8 : GoodIn wsJx4a65c_init_da8c8 (wsJxc12de_init_da8c8) := ggJx4a65c_init_da8c8_Jxc12de_init_da8c8
set_option maxRecDepth 20000 in
theorem ggJx4a65c_grow_92f84_J8_newLength_cabcc : GoodIn wsJx4a65c_grow_92f84 wsJ8_newLength_cabcc := goodIn_r _ [11, 12, 4, 5, 6, 13, 14, 15, 10, 16] (by decide +kernel) (by decide +kernel)
set_option maxRecDepth 20000 in
theorem gJx4a65c_grow_92f84_J8_newLength_cabcc : GoodIn wsJx4a65c_grow_92f84 (va_wsS RJx4a65c 73 yJ8_newLength_cabcc wsJ8_newLength_cabcc) := goodIn_app (goodIn_of _ (by decide +kernel)) ggJx4a65c_grow_92f84_J8_newLength_cabcc
set_option maxRecDepth 20000 in
theorem ggJx4a65c_grow_92f84_J7_copyOf_1904c : GoodIn wsJx4a65c_grow_92f84 wsJ7_copyOf_1904c := goodIn_r _ [20, 21, 22, 23, 24, 25, 26, 19, 27, 28, 29, 30, 31, 5, 32, 33, 34, 35, 36] (by decide +kernel) (by decide +kernel)
set_option maxRecDepth 20000 in
theorem gJx4a65c_grow_92f84_J7_copyOf_1904c : GoodIn wsJx4a65c_grow_92f84 (va_wsS RJx4a65c 66 yJ7_copyOf_1904c wsJ7_copyOf_1904c) := goodIn_app (goodIn_of _ (by decide +kernel)) ggJx4a65c_grow_92f84_J7_copyOf_1904c
set_option maxRecDepth 20000 in
theorem ggJx4a65c_grow_d5877_Jx4a65c_grow_92f84 : GoodIn wsJx4a65c_grow_d5877 wsJx4a65c_grow_92f84 := goodIn_r _ [6, 7, 8, 9, 10, 11, 12, 13, 14, 15, 16, 17, 18, 19, 20, 21, 22, 23, 24, 25, 26, 27, 28, 29, 30, 31, 32, 33, 34, 35, 36, 37, 38, 39, 40, 41, 42, 43, 44, 45] (by decide +kernel) (by decide +kernel)
set_option maxRecDepth 20000 in
theorem gJx4a65c_grow_d5877_Jx4a65c_grow_92f84 : GoodIn wsJx4a65c_grow_d5877 (wsV RJx4a65c 69 RJx4a65c yJx4a65c_grow_92f84 wsJx4a65c_grow_92f84) := goodIn_app (goodIn_of _ (by decide +kernel)) ggJx4a65c_grow_d5877_Jx4a65c_grow_92f84
set_option maxRecDepth 20000 in
theorem ggJx4a65c_get_915e3_J15_checkIndex_7cf53 : GoodIn wsJx4a65c_get_915e3 wsJ15_checkIndex_7cf53 := goodIn_r _ [5, 6, 7, 8, 9] (by decide +kernel) (by decide +kernel)
set_option maxRecDepth 20000 in
theorem gJx4a65c_get_915e3_J15_checkIndex_7cf53 : GoodIn wsJx4a65c_get_915e3 (va_wsS RJx4a65c 118 yJ15_checkIndex_7cf53 wsJ15_checkIndex_7cf53) := goodIn_app (goodIn_of _ (by decide +kernel)) ggJx4a65c_get_915e3_J15_checkIndex_7cf53
set_option maxRecDepth 20000 in
theorem ggJx4a65c_get_915e3_Jx4a65c_elementData_915e3 : GoodIn wsJx4a65c_get_915e3 wsJx4a65c_elementData_915e3 := goodIn_r _ [14, 15, 16, 17, 18] (by decide +kernel) (by decide +kernel)
set_option maxRecDepth 20000 in
theorem gJx4a65c_get_915e3_Jx4a65c_elementData_915e3 : GoodIn wsJx4a65c_get_915e3 (wsV RJx4a65c 123 RJx4a65c yJx4a65c_elementData_915e3 wsJx4a65c_elementData_915e3) := goodIn_app (goodIn_of _ (by decide +kernel)) ggJx4a65c_get_915e3_Jx4a65c_elementData_915e3
set_option maxRecDepth 20000 in
theorem ggJx4a65c_add_72be8_Jx4a65c_grow_d5877 : GoodIn wsJx4a65c_add_72be8 wsJx4a65c_grow_d5877 := goodIn_r _ [6, 1, 7, 8, 9, 5, 10, 11, 12, 13, 14, 15, 16, 17, 18, 19, 20, 21, 22, 23, 24, 25, 26, 27, 28, 29, 30, 31, 32, 33, 34, 35, 36, 37, 38, 39, 40, 41, 42, 43, 44, 45, 46, 47, 48, 49] (by decide +kernel) (by decide +kernel)
set_option maxRecDepth 20000 in
theorem gJx4a65c_add_72be8_Jx4a65c_grow_d5877 : GoodIn wsJx4a65c_add_72be8 (wsV RJx4a65c 129 RJx4a65c yJx4a65c_grow_d5877 wsJx4a65c_grow_d5877) := goodIn_app (goodIn_of _ (by decide +kernel)) ggJx4a65c_add_72be8_Jx4a65c_grow_d5877
set_option maxRecDepth 20000 in
theorem ggJx4a65c_add_9ea2d_Jx4a65c_add_72be8 : GoodIn wsJx4a65c_add_9ea2d wsJx4a65c_add_72be8 := goodIn_r _ [9, 4, 10, 11, 12, 8, 13, 14, 15, 16, 17, 3, 18, 19, 20, 21, 22, 23, 24, 25, 26, 27, 28, 29, 30, 31, 32, 33, 34, 35, 36, 37, 38, 39, 40, 41, 42, 43, 44, 45, 46, 47, 48, 49, 50, 51, 52, 53, 54, 55] (by decide +kernel) (by decide +kernel)
set_option maxRecDepth 20000 in
theorem gJx4a65c_add_9ea2d_Jx4a65c_add_72be8 : GoodIn wsJx4a65c_add_9ea2d (wsV RJx4a65c 131 RJx4a65c yJx4a65c_add_72be8 wsJx4a65c_add_72be8) := goodIn_app (goodIn_of _ (by decide +kernel)) ggJx4a65c_add_9ea2d_Jx4a65c_add_72be8
set_option maxRecDepth 20000 in
theorem ggJ7_copyOf_1904c_J7_copyOf_6403c : GoodIn wsJ7_copyOf_1904c wsJ7_copyOf_6403c := goodIn_r _ [8, 9, 10, 11, 12, 13, 14, 15, 16, 17, 18] (by decide +kernel) (by decide +kernel)
set_option maxRecDepth 20000 in
theorem gJ7_copyOf_1904c_J7_copyOf_6403c : GoodIn wsJ7_copyOf_1904c (va_wsS RJ7 300 yJ7_copyOf_6403c wsJ7_copyOf_6403c) := goodIn_app (goodIn_of _ (by decide +kernel)) ggJ7_copyOf_1904c_J7_copyOf_6403c
set_option maxRecDepth 20000 in
theorem ggJ15_checkIndex_7cf53_J3_checkIndex_8e157 : GoodIn wsJ15_checkIndex_7cf53 wsJ3_checkIndex_8e157 := goodIn_r _ [4] (by decide +kernel) (by decide +kernel)
set_option maxRecDepth 20000 in
theorem gJ15_checkIndex_7cf53_J3_checkIndex_8e157 : GoodIn wsJ15_checkIndex_7cf53 (va_wsS RJ15 105 yJ3_checkIndex_8e157 wsJ3_checkIndex_8e157) := goodIn_app (goodIn_of _ (by decide +kernel)) ggJ15_checkIndex_7cf53_J3_checkIndex_8e157
set_option maxRecDepth 20000 in
theorem ggJ8_newLength_cabcc_J8_hugeLength_7cf53 : GoodIn wsJ8_newLength_cabcc wsJ8_hugeLength_7cf53 := goodIn_r _ [9, 5] (by decide +kernel) (by decide +kernel)
set_option maxRecDepth 20000 in
theorem gJ8_newLength_cabcc_J8_hugeLength_7cf53 : GoodIn wsJ8_newLength_cabcc (va_wsS RJ8 201 yJ8_hugeLength_7cf53 wsJ8_hugeLength_7cf53) := goodIn_app (goodIn_of _ (by decide +kernel)) ggJ8_newLength_cabcc_J8_hugeLength_7cf53
end
section
set_option maxRecDepth 20000 in
theorem ggL_addLoan_X3_addLoan : GoodIn wsL_addLoan wsX3_addLoan := goodIn_ca (goodIn_ca (goodIn_r _ [7, 8, 9, 10, 11, 12, 13, 14, 15, 6, 16, 17, 18, 19, 20, 21, 22, 23, 24, 25, 26, 27, 28, 29, 30, 31, 32, 33, 34, 35, 36, 37, 38, 39, 40, 41, 42, 43, 44, 45, 46, 47, 48, 49, 50, 51, 52, 53, 54, 55, 56, 57, 58, 59, 60, 61, 62, 63, 64, 65, 66, 67, 68, 69, 70, 71, 72, 73, 74, 75, 76, 77, 78, 79, 80, 81, 82, 83, 84, 85, 86, 87, 88, 89, 90, 91, 92, 93, 94, 95, 96, 97, 98, 99, 100, 101, 102, 103, 104, 105, 106, 107, 108, 109, 110, 111, 112] (by decide +kernel) (by decide +kernel)) (goodIn_sub (fun _ h => List.mem_cons_of_mem _ (List.mem_append_left _ (List.mem_append_right _ h))) (by decide +kernel))) (goodIn_sub (fun _ h => List.mem_cons_of_mem _ (List.mem_append_right _ h)) (by decide +kernel))
set_option maxRecDepth 20000 in
theorem gL_addLoan_X3_addLoan : GoodIn wsL_addLoan (wsV RL 7 RX3 yX3_addLoan wsX3_addLoan) := goodIn_app (goodIn_of _ (by decide +kernel)) ggL_addLoan_X3_addLoan
set_option maxRecDepth 20000 in
theorem ggL_enter_X3_enter : GoodIn wsL_enter wsX3_enter := goodIn_ca (goodIn_ca (goodIn_r _ [7, 8, 9, 10, 11, 6, 12, 13, 14, 15, 16, 17, 18, 19, 20, 21, 22, 23, 24, 25, 26, 27, 28, 29, 30, 31, 32, 33, 34, 35, 36, 37, 38, 39, 40, 41, 42, 43, 44, 45, 46, 47, 48, 49, 50, 51, 52, 53, 54, 55, 56, 57, 58, 59, 60, 61, 62, 63, 64, 65, 66, 67, 68, 69, 70, 71, 72, 73, 74] (by decide +kernel) (by decide +kernel)) (goodIn_sub (fun _ h => List.mem_cons_of_mem _ (List.mem_append_left _ (List.mem_append_right _ h))) (by decide +kernel))) (goodIn_sub (fun _ h => List.mem_cons_of_mem _ (List.mem_append_right _ h)) (by decide +kernel))
set_option maxRecDepth 20000 in
theorem gL_enter_X3_enter : GoodIn wsL_enter (wsV RL 17 RX3 yX3_enter wsX3_enter) := goodIn_app (goodIn_of _ (by decide +kernel)) ggL_enter_X3_enter
set_option maxRecDepth 20000 in
theorem ggL_leave_X3_leave : GoodIn wsL_leave wsX3_leave := goodIn_ca (goodIn_ca (goodIn_r _ [7, 8, 9, 10, 11, 12, 6, 13, 14, 15, 16, 17, 18, 19, 20, 21, 22, 23, 24, 25, 26, 27, 28, 29, 30, 31, 32, 33, 34, 35, 36, 37, 38, 39, 40, 41, 42, 43, 44, 45, 46, 47, 48, 49, 50, 51, 52, 53, 54, 55, 56, 57, 58, 59, 60, 61, 62, 63, 64, 65, 66, 67, 68, 69, 70, 71, 72, 73, 74, 75, 76, 77, 78, 79, 80, 81, 82, 83, 84, 85, 86, 87, 88, 89, 90, 91, 92, 93, 94, 95, 96, 97, 98, 99, 100, 101, 102, 103, 104, 105, 106, 107, 108, 109, 110, 111, 112, 113, 114, 115, 116, 117, 118, 119, 120, 121, 122, 123, 124, 125, 126, 127, 128, 129, 130, 131, 132, 133, 134, 135, 136, 137, 138, 139] (by decide +kernel) (by decide +kernel)) (goodIn_sub (fun _ h => List.mem_cons_of_mem _ (List.mem_append_left _ (List.mem_append_right _ h))) (by decide +kernel))) (goodIn_sub (fun _ h => List.mem_cons_of_mem _ (List.mem_append_right _ h)) (by decide +kernel))
set_option maxRecDepth 20000 in
theorem gL_leave_X3_leave : GoodIn wsL_leave (wsV RL 23 RX3 yX3_leave wsX3_leave) := goodIn_app (goodIn_of _ (by decide +kernel)) ggL_leave_X3_leave
set_option maxRecDepth 20000 in
theorem ggL_swap_X3_swap : GoodIn wsL_swap wsX3_swap := goodIn_ca (goodIn_ca (goodIn_r _ [7, 8, 9, 10, 11, 12, 6, 13, 14, 15, 16, 17, 18, 19, 20, 21, 22, 23, 24, 25, 26, 27, 28, 29, 30, 31, 32, 33, 34, 35, 36, 37, 38, 39, 40, 41, 42, 43, 44, 45, 46, 47, 48, 49, 50, 51, 52, 53, 54, 55, 56, 57, 58, 59, 60, 61, 62, 63, 64, 65, 66, 67, 68, 69, 70, 71, 72, 73, 74, 75, 76, 77, 78, 79, 80, 81, 82, 83, 84, 85, 86, 87, 88, 89, 90, 91, 92, 93, 94, 95, 96, 97, 98, 99, 100, 101, 102, 103, 104, 105, 106, 107, 108, 109, 110, 111, 112, 113, 114, 115, 116, 117, 118, 119, 120, 121, 122, 123, 124, 125, 126, 127, 128, 129, 130, 131, 132, 133, 134, 135, 136, 137, 138, 139, 140, 141, 142, 143] (by decide +kernel) (by decide +kernel)) (goodIn_sub (fun _ h => List.mem_cons_of_mem _ (List.mem_append_left _ (List.mem_append_right _ h))) (by decide +kernel))) (goodIn_sub (fun _ h => List.mem_cons_of_mem _ (List.mem_append_right _ h)) (by decide +kernel))
set_option maxRecDepth 20000 in
theorem gL_swap_X3_swap : GoodIn wsL_swap (wsV RL 27 RX3 yX3_swap wsX3_swap) := goodIn_app (goodIn_of _ (by decide +kernel)) ggL_swap_X3_swap
set_option maxRecDepth 20000 in
theorem ggL_setArrears_X3_setArrears : GoodIn wsL_setArrears wsX3_setArrears := goodIn_ca (goodIn_ca (goodIn_ca (goodIn_r _ [8, 9, 10, 11, 12, 13, 14, 15, 7, 16, 17, 18, 19, 20, 21, 22, 23, 24, 25, 26, 27, 28, 29, 30, 31, 32, 33, 34, 35, 36, 37, 38, 39, 40, 41, 42, 43, 44, 45, 46, 47, 48, 49, 50, 51, 52, 53, 54, 55, 56, 57, 58, 59, 60, 61, 62, 63, 64, 65] (by decide +kernel) (by decide +kernel)) (goodIn_sub (fun _ h => List.mem_cons_of_mem _ (List.mem_append_left _ (List.mem_append_left _ (List.mem_append_right _ h)))) (by decide +kernel))) (goodIn_sub (fun _ h => List.mem_cons_of_mem _ (List.mem_append_left _ (List.mem_append_right _ h))) (by decide +kernel))) (goodIn_sub (fun _ h => List.mem_cons_of_mem _ (List.mem_append_right _ h)) (by decide +kernel))
set_option maxRecDepth 20000 in
theorem gL_setArrears_X3_setArrears : GoodIn wsL_setArrears (wsV RL 31 RX3 yX3_setArrears wsX3_setArrears) := goodIn_app (goodIn_of _ (by decide +kernel)) ggL_setArrears_X3_setArrears
set_option maxRecDepth 20000 in
theorem ggL_setWorth_X3_setWorth : GoodIn wsL_setWorth wsX3_setWorth := goodIn_ca (goodIn_ca (goodIn_r _ [7, 8, 9, 10, 11, 6, 12, 13, 14, 15, 16, 17, 18, 19, 20, 21, 22, 23, 24, 25, 26, 27, 28, 29, 30, 31, 32, 33, 34, 35, 36, 37, 38, 39, 40, 41, 42, 43, 44, 45, 46, 47, 48, 49, 50, 51, 52, 53, 54, 55, 56, 57, 58, 59, 60, 61] (by decide +kernel) (by decide +kernel)) (goodIn_sub (fun _ h => List.mem_cons_of_mem _ (List.mem_append_left _ (List.mem_append_right _ h))) (by decide +kernel))) (goodIn_sub (fun _ h => List.mem_cons_of_mem _ (List.mem_append_right _ h)) (by decide +kernel))
set_option maxRecDepth 20000 in
theorem gL_setWorth_X3_setWorth : GoodIn wsL_setWorth (wsV RL 35 RX3 yX3_setWorth wsX3_setWorth) := goodIn_app (goodIn_of _ (by decide +kernel)) ggL_setWorth_X3_setWorth
set_option maxRecDepth 20000 in
theorem ggL_stateOf_X3_stateOf : GoodIn wsL_stateOf wsX3_stateOf := goodIn_ca (goodIn_r _ [6, 7, 8, 9, 10, 5, 11, 12, 13, 14, 15, 16, 17, 18, 19, 20, 21, 22, 23, 24, 25, 26, 27, 28, 29, 30, 31, 32, 33, 34, 35, 36, 37, 38, 39, 40, 41, 42, 43, 44, 45, 46, 47, 48, 49, 50, 51, 52, 53, 54, 55] (by decide +kernel) (by decide +kernel)) (goodIn_sub (fun _ h => List.mem_cons_of_mem _ (List.mem_append_right _ h)) (by decide +kernel))
set_option maxRecDepth 20000 in
theorem gL_stateOf_X3_stateOf : GoodIn wsL_stateOf (wsV RL 38 RX3 yX3_stateOf wsX3_stateOf) := goodIn_app (goodIn_of _ (by decide +kernel)) ggL_stateOf_X3_stateOf
set_option maxRecDepth 20000 in
theorem ggL_counts_X3_counts : GoodIn wsL_counts wsX3_counts := goodIn_ca (goodIn_r _ [6, 7, 8, 9, 5, 10, 11, 12, 13, 14, 15, 16, 17, 18, 19, 20, 21, 22, 23, 24, 25, 26, 27, 28, 29, 30, 31, 32, 33, 34, 35, 36, 37, 38, 39, 40, 41, 42, 43, 44, 45, 46, 47, 48, 49, 50, 51, 52, 53, 54, 55, 56, 57, 58, 59, 60, 61, 62, 63, 64, 65, 66, 67] (by decide +kernel) (by decide +kernel)) (goodIn_sub (fun _ h => List.mem_cons_of_mem _ (List.mem_append_right _ h)) (by decide +kernel))
set_option maxRecDepth 20000 in
theorem gL_counts_X3_counts : GoodIn wsL_counts (wsV RL 41 RX3 yX3_counts wsX3_counts) := goodIn_app (goodIn_of _ (by decide +kernel)) ggL_counts_X3_counts
set_option maxRecDepth 20000 in
theorem ggL_addBond_X3_addBond : GoodIn wsL_addBond wsX3_addBond := goodIn_ca (goodIn_ca (goodIn_r _ [7, 8, 9, 10, 11, 12, 13, 14, 15, 16, 17, 6, 18, 19, 20, 21, 22, 23, 24, 25, 26, 27, 28, 29, 30, 31, 32, 33, 34, 35, 36, 37, 38, 39, 40, 41, 42, 43, 44, 45, 46, 47, 48, 49, 50, 51, 52, 53, 54, 55, 56, 57, 58, 59, 60, 61, 62, 63, 64, 65, 66, 67, 68, 69, 70, 71, 72, 73, 74, 75, 76, 77, 78, 79, 80, 81, 82, 83, 84, 85, 86, 87, 88, 89, 90, 91, 92, 93, 94, 95, 96, 97, 98, 99, 100, 101, 102, 103, 104, 105, 106, 107, 108, 109, 110] (by decide +kernel) (by decide +kernel)) (goodIn_sub (fun _ h => List.mem_cons_of_mem _ (List.mem_append_left _ (List.mem_append_right _ h))) (by decide +kernel))) (goodIn_sub (fun _ h => List.mem_cons_of_mem _ (List.mem_append_right _ h)) (by decide +kernel))
set_option maxRecDepth 20000 in
theorem gL_addBond_X3_addBond : GoodIn wsL_addBond (wsV RL 44 RX3 yX3_addBond wsX3_addBond) := goodIn_app (goodIn_of _ (by decide +kernel)) ggL_addBond_X3_addBond
set_option maxRecDepth 20000 in
theorem ggL_takeCash_X3_takeCash : GoodIn wsL_takeCash wsX3_takeCash := goodIn_ca (goodIn_ca (goodIn_r _ [7, 8, 9, 10, 11, 12, 13, 6, 14, 15, 16, 17, 18, 19, 20, 21, 22, 23, 24] (by decide +kernel) (by decide +kernel)) (goodIn_sub (fun _ h => List.mem_cons_of_mem _ (List.mem_append_left _ (List.mem_append_right _ h))) (by decide +kernel))) (goodIn_sub (fun _ h => List.mem_cons_of_mem _ (List.mem_append_right _ h)) (by decide +kernel))
set_option maxRecDepth 20000 in
theorem gL_takeCash_X3_takeCash : GoodIn wsL_takeCash (wsV RL 47 RX3 yX3_takeCash wsX3_takeCash) := goodIn_app (goodIn_of _ (by decide +kernel)) ggL_takeCash_X3_takeCash
set_option maxRecDepth 20000 in
theorem ggL_setRules_X3_setRules : GoodIn wsL_setRules wsX3_setRules := goodIn_ca (goodIn_r _ [6, 7, 8, 9, 10, 11, 5, 12, 13, 14, 15, 16, 17, 18, 19, 20, 21, 22] (by decide +kernel) (by decide +kernel)) (goodIn_sub (fun _ h => List.mem_cons_of_mem _ (List.mem_append_right _ h)) (by decide +kernel))
set_option maxRecDepth 20000 in
theorem gL_setRules_X3_setRules : GoodIn wsL_setRules (wsV RL 50 RX3 yX3_setRules wsX3_setRules) := goodIn_app (goodIn_of _ (by decide +kernel)) ggL_setRules_X3_setRules
set_option maxRecDepth 20000 in
theorem ggL_bondState_X3_bondState : GoodIn wsL_bondState wsX3_bondState := goodIn_ca (goodIn_r _ [6, 7, 8, 9, 10, 5, 11, 12, 13, 14, 15, 16, 17, 18, 19, 20, 21, 22, 23, 24, 25, 26, 27, 28, 29, 30, 31, 32, 33, 34, 35, 36, 37, 38, 39, 40, 41, 42, 43, 44, 45, 46, 47, 48, 49, 50, 51, 52, 53] (by decide +kernel) (by decide +kernel)) (goodIn_sub (fun _ h => List.mem_cons_of_mem _ (List.mem_append_right _ h)) (by decide +kernel))
set_option maxRecDepth 20000 in
theorem gL_bondState_X3_bondState : GoodIn wsL_bondState (wsV RL 54 RX3 yX3_bondState wsX3_bondState) := goodIn_app (goodIn_of _ (by decide +kernel)) ggL_bondState_X3_bondState
set_option maxRecDepth 20000 in
theorem ggL_dueOf_X3_dueOf : GoodIn wsL_dueOf wsX3_dueOf := goodIn_ca (goodIn_r _ [6, 7, 8, 9, 10, 5, 11, 12, 13, 14, 15, 16, 17, 18, 19, 20, 21, 22, 23, 24, 25, 26, 27, 28, 29, 30, 31, 32, 33, 34, 35, 36, 37, 38, 39, 40, 41, 42, 43, 44, 45, 46, 47, 48, 49, 50, 51, 52, 53] (by decide +kernel) (by decide +kernel)) (goodIn_sub (fun _ h => List.mem_cons_of_mem _ (List.mem_append_right _ h)) (by decide +kernel))
set_option maxRecDepth 20000 in
theorem gL_dueOf_X3_dueOf : GoodIn wsL_dueOf (wsV RL 57 RX3 yX3_dueOf wsX3_dueOf) := goodIn_app (goodIn_of _ (by decide +kernel)) ggL_dueOf_X3_dueOf
set_option maxRecDepth 20000 in
theorem ggL_pass_X3_pass : GoodIn wsL_pass wsX3_pass := goodIn_ca (goodIn_r _ [6, 7, 8, 9, 5, 10, 11, 12, 13, 14, 15, 16, 17, 18, 19, 20, 21, 22, 23, 24, 25, 26, 27, 28, 29, 30, 31, 32, 33, 34, 35, 36, 37, 38, 39, 40, 41, 42, 43, 44, 45, 46, 47, 48, 49, 50, 51, 52, 53, 54, 55, 56, 57, 58, 59, 60, 61, 62, 63, 64, 65, 66, 67, 68, 69, 70, 71, 72, 73, 74, 75, 76, 77, 78, 79, 80, 81] (by decide +kernel) (by decide +kernel)) (goodIn_sub (fun _ h => List.mem_cons_of_mem _ (List.mem_append_right _ h)) (by decide +kernel))
set_option maxRecDepth 20000 in
theorem gL_pass_X3_pass : GoodIn wsL_pass (wsV RL 60 RX3 yX3_pass wsX3_pass) := goodIn_app (goodIn_of _ (by decide +kernel)) ggL_pass_X3_pass
set_option maxRecDepth 20000 in
theorem ggL_holds_X3_holds : GoodIn wsL_holds wsX3_holds := goodIn_ca (goodIn_r _ [6, 7, 8, 9, 5, 10, 11, 12, 13, 14, 15, 16, 17, 18, 19, 20, 21, 22, 23, 24, 25, 26, 27, 28, 29, 30, 31, 32, 33, 34, 35, 36, 37, 38, 39, 40, 41, 42, 43, 44, 45, 46, 47, 48, 49, 50, 51, 52, 53, 54, 55, 56, 57, 58, 59, 60, 61, 62, 63, 64, 65, 66, 67, 68, 69, 70, 71, 72, 73, 74, 75, 76, 77, 78, 79, 80, 81, 82, 83, 84, 85, 86, 87, 88, 89, 90, 91, 92, 93, 94, 95, 96, 97, 98, 99, 100, 101, 102, 103, 104, 105, 106, 107, 108, 109, 110, 111, 112, 113, 114, 115, 116, 117, 118, 119, 120, 121, 122, 123, 124, 125, 126, 127, 128, 129, 130, 131, 132, 133, 134, 135, 136, 137, 138, 139, 140] (by decide +kernel) (by decide +kernel)) (goodIn_sub (fun _ h => List.mem_cons_of_mem _ (List.mem_append_right _ h)) (by decide +kernel))
set_option maxRecDepth 20000 in
theorem gL_holds_X3_holds : GoodIn wsL_holds (wsV RL 63 RX3 yX3_holds wsX3_holds) := goodIn_app (goodIn_of _ (by decide +kernel)) ggL_holds_X3_holds
set_option maxRecDepth 20000 in
theorem ggL_lacking_X3_lacking : GoodIn wsL_lacking wsX3_lacking := goodIn_ca (goodIn_r _ [6, 7, 8, 9, 5, 10, 11, 12, 13, 14, 15, 16, 17, 18, 19, 20, 21, 22, 23, 24, 25, 26, 27, 28, 29, 30, 31, 32, 33, 34, 35, 36, 37, 38, 39, 40, 41, 42, 43, 44, 45, 46, 47, 48, 49, 50, 51, 52, 53, 54, 55, 56, 57, 58, 59, 60, 61, 62, 63, 64, 65, 66, 67, 68, 69, 70, 71, 72, 73, 74, 75, 76, 77, 78, 79, 80, 81, 82, 83, 84, 85, 86, 87, 88, 89, 90, 91, 92, 93, 94, 95, 96, 97, 98, 99, 100, 101, 102, 103, 104, 105, 106, 107, 108, 109, 110, 111, 112, 113, 114, 115, 116, 117, 118, 119, 120, 121, 122, 123, 124, 125, 126, 127, 128, 129, 130, 131, 132, 133, 134, 135, 136] (by decide +kernel) (by decide +kernel)) (goodIn_sub (fun _ h => List.mem_cons_of_mem _ (List.mem_append_right _ h)) (by decide +kernel))
set_option maxRecDepth 20000 in
theorem gL_lacking_X3_lacking : GoodIn wsL_lacking (wsV RL 66 RX3 yX3_lacking wsX3_lacking) := goodIn_app (goodIn_of _ (by decide +kernel)) ggL_lacking_X3_lacking
set_option maxRecDepth 20000 in
theorem ggL_law_X3_init : GoodIn wsL_law wsX3_init := goodIn_r _ [9, 10, 11, 12, 13, 14, 15, 16, 17, 18, 19, 20, 21, 22, 23, 24, 25, 26, 27, 28, 29, 30, 31, 32, 33, 34, 35, 36, 37, 38, 39, 40, 41, 42, 43, 44, 45, 46, 47, 48, 599, 600, 601, 573, 574, 575, 576, 577, 578, 579, 580, 602, 603] (by decide +kernel) (by decide +kernel)
set_option maxRecDepth 20000 in
theorem gL_law_X3_init : GoodIn wsL_law (wsX3_init) := ggL_law_X3_init
set_option maxRecDepth 20000 in
theorem ggL_law_X4_init : GoodIn wsL_law wsX4_init := goodIn_r _ [51, 52, 11, 12, 53, 54, 55, 45, 56, 57, 58, 59, 60, 61, 62, 63, 64, 65, 66, 581, 582, 583, 584, 585, 586, 587, 588, 589, 590, 591, 592, 593, 594, 595, 596, 597, 598] (by decide +kernel) (by decide +kernel)
set_option maxRecDepth 20000 in
theorem gL_law_X4_init : GoodIn wsL_law (wsX4_init) := ggL_law_X4_init
set_option maxRecDepth 20000 in
theorem ggL_law_L_addLoan : GoodIn wsL_law wsL_addLoan := goodIn_ca (goodIn_ca (goodIn_r _ [70, 71, 72, 73, 74, 75, 2, 76, 77, 78, 16, 79, 80, 81, 82, 83, 84, 85, 86, 87, 88, 89, 90, 22, 91, 92, 93, 15, 94, 95, 96, 97, 98, 99, 11, 12, 100, 101, 102, 103, 104, 105, 106, 107, 108, 109, 110, 111, 31, 112, 113, 114, 115, 116, 117, 118, 119, 120, 121, 122, 123, 30, 124, 125, 126, 127, 128, 129, 130, 131, 132, 133, 134, 135, 136, 137, 138, 139, 140, 141, 142, 143, 144, 145, 146, 147, 148, 149, 150, 151, 152, 153, 154, 155, 156, 157, 573, 574, 575, 576, 577, 578, 579, 580, 604, 605, 606, 607, 608, 609, 599, 600, 601] (by decide +kernel) (by decide +kernel)) (goodIn_sub (fun _ h => List.mem_append_left _ (List.mem_append_left _ (List.mem_append_right _ h))) (by decide +kernel))) (goodIn_sub (fun _ h => List.mem_append_left _ (List.mem_append_right _ h)) (by decide +kernel))
set_option maxRecDepth 20000 in
theorem gL_law_L_addLoan : GoodIn wsL_law (va_wsS RL 74 yL_addLoan wsL_addLoan) := goodIn_app (goodIn_of _ (by decide +kernel)) ggL_law_L_addLoan
set_option maxRecDepth 20000 in
theorem ggL_law_X4_addLoan : GoodIn wsL_law wsX4_addLoan := goodIn_r _ [161, 162, 163, 56, 57, 58, 59, 164, 165, 5, 166, 167, 168, 169, 170, 171, 581, 582, 583, 584, 585, 586, 587, 588, 589, 590, 591, 592, 593, 594, 595, 596, 597, 598] (by decide +kernel) (by decide +kernel)
set_option maxRecDepth 20000 in
theorem gL_law_X4_addLoan : GoodIn wsL_law (wsV RL 79 RX4 yX4_addLoan wsX4_addLoan) := goodIn_app (goodIn_of _ (by decide +kernel)) ggL_law_X4_addLoan
set_option maxRecDepth 20000 in
theorem ggL_law_X4_thrown : GoodIn wsL_law wsX4_thrown := goodIn_r _ [175, 171, 581, 582, 583, 584, 585, 586, 587, 588, 589, 590, 591, 592, 593, 594, 595, 596, 597, 598] (by decide +kernel) (by decide +kernel)
set_option maxRecDepth 20000 in
theorem gL_law_X4_thrown : GoodIn wsL_law (wsV RL 80 RX4 yX4_thrown wsX4_thrown) := goodIn_app (goodIn_of _ (by decide +kernel)) ggL_law_X4_thrown
set_option maxRecDepth 20000 in
theorem ggL_law_L_enter : GoodIn wsL_law wsL_enter := goodIn_ca (goodIn_ca (goodIn_r _ [178, 179, 72, 180, 181, 182, 2, 183, 184, 185, 186, 187, 188, 189, 190, 16, 191, 91, 92, 93, 15, 94, 95, 192, 193, 194, 195, 196, 197, 198, 199, 200, 201, 202, 203, 204, 205, 206, 207, 31, 208, 209, 210, 77, 78, 211, 212, 213, 214, 215, 216, 24, 217, 218, 219, 152, 126, 153, 604, 605, 606, 607, 608, 609, 573, 574, 575, 576, 577, 578, 579, 580, 599, 600, 601] (by decide +kernel) (by decide +kernel)) (goodIn_sub (fun _ h => List.mem_append_right _ h) (by decide +kernel))) (goodIn_sub (fun _ h => List.mem_append_left _ (List.mem_append_left _ (List.mem_append_right _ h))) (by decide +kernel))
set_option maxRecDepth 20000 in
theorem gL_law_L_enter : GoodIn wsL_law (va_wsS RL 84 yL_enter wsL_enter) := goodIn_app (goodIn_of _ (by decide +kernel)) ggL_law_L_enter
set_option maxRecDepth 20000 in
theorem ggL_law_X4_enter : GoodIn wsL_law wsX4_enter := goodIn_r _ [223, 61, 224, 225, 226, 5, 227, 163, 167, 168, 169, 170, 171, 228, 229, 230, 231, 57, 56, 60, 58, 53, 581, 582, 583, 584, 585, 586, 587, 588, 589, 590, 591, 592, 593, 594, 595, 596, 597, 598] (by decide +kernel) (by decide +kernel)
set_option maxRecDepth 20000 in
theorem gL_law_X4_enter : GoodIn wsL_law (wsV RL 87 RX4 yX4_enter wsX4_enter) := goodIn_app (goodIn_of _ (by decide +kernel)) ggL_law_X4_enter
set_option maxRecDepth 20000 in
theorem ggL_law_L_leave : GoodIn wsL_law wsL_leave := goodIn_ca (goodIn_ca (goodIn_r _ [234, 179, 72, 235, 236, 237, 2, 238, 21, 184, 185, 186, 187, 188, 189, 190, 16, 191, 91, 92, 93, 15, 94, 95, 192, 193, 194, 195, 196, 197, 198, 199, 200, 201, 202, 203, 204, 205, 206, 207, 31, 208, 209, 210, 77, 78, 239, 240, 241, 242, 243, 244, 245, 17, 246, 247, 211, 212, 213, 214, 215, 216, 24, 217, 218, 219, 152, 126, 153, 248, 249, 250, 251, 22, 252, 253, 254, 255, 26, 256, 125, 127, 257, 258, 259, 260, 23, 261, 262, 263, 264, 265, 266, 267, 268, 269, 270, 271, 272, 273, 25, 274, 275, 276, 277, 278, 279, 280, 281, 20, 282, 283, 284, 285, 286, 46, 48, 573, 574, 575, 576, 577, 578, 579, 580, 604, 605, 606, 607, 608, 609, 599, 600, 601, 602, 603, 610, 611, 612, 613] (by decide +kernel) (by decide +kernel)) (goodIn_sub (fun _ h => List.mem_append_right _ h) (by decide +kernel))) (goodIn_sub (fun _ h => List.mem_append_left _ (List.mem_append_left _ (List.mem_append_right _ h))) (by decide +kernel))
set_option maxRecDepth 20000 in
theorem gL_law_L_leave : GoodIn wsL_law (va_wsS RL 88 yL_leave wsL_leave) := goodIn_app (goodIn_of _ (by decide +kernel)) ggL_law_L_leave
set_option maxRecDepth 20000 in
theorem ggL_law_X4_leave : GoodIn wsL_law wsX4_leave := goodIn_r _ [290, 61, 224, 225, 226, 5, 227, 163, 167, 168, 169, 170, 171, 291, 292, 293, 294, 295, 296, 297, 298, 299, 300, 301, 302, 55, 303, 304, 305, 306, 54, 307, 308, 309, 310, 311, 312, 313, 314, 315, 316, 317, 64, 62, 228, 229, 230, 231, 57, 56, 60, 58, 53, 318, 319, 320, 321, 63, 162, 59, 322, 323, 324, 325, 326, 327, 328, 329, 581, 582, 583, 584, 585, 586, 587, 588, 589, 590, 591, 592, 593, 594, 595, 596, 597, 598] (by decide +kernel) (by decide +kernel)
set_option maxRecDepth 20000 in
theorem gL_law_X4_leave : GoodIn wsL_law (wsV RL 90 RX4 yX4_leave wsX4_leave) := goodIn_app (goodIn_of _ (by decide +kernel)) ggL_law_X4_leave
set_option maxRecDepth 20000 in
theorem ggL_law_L_swap : GoodIn wsL_law wsL_swap := goodIn_ca (goodIn_ca (goodIn_r _ [332, 179, 72, 333, 334, 335, 2, 336, 21, 184, 185, 186, 187, 188, 189, 190, 16, 191, 91, 92, 93, 15, 94, 95, 192, 193, 194, 195, 196, 197, 198, 199, 200, 201, 202, 203, 204, 205, 206, 207, 31, 208, 209, 210, 77, 78, 275, 276, 277, 278, 239, 240, 241, 242, 243, 244, 245, 17, 246, 247, 211, 212, 213, 214, 215, 216, 24, 217, 218, 219, 152, 126, 153, 248, 249, 250, 251, 22, 252, 253, 254, 255, 26, 256, 125, 127, 257, 258, 259, 260, 23, 261, 262, 263, 264, 265, 266, 267, 268, 269, 270, 271, 272, 273, 25, 274, 337, 338, 339, 20, 340, 341, 342, 343, 344, 283, 284, 285, 286, 46, 48, 573, 574, 575, 576, 577, 578, 579, 580, 604, 605, 606, 607, 608, 609, 599, 600, 601, 602, 603, 610, 611, 612, 613] (by decide +kernel) (by decide +kernel)) (goodIn_sub (fun _ h => List.mem_append_right _ h) (by decide +kernel))) (goodIn_sub (fun _ h => List.mem_append_left _ (List.mem_append_left _ (List.mem_append_right _ h))) (by decide +kernel))
set_option maxRecDepth 20000 in
theorem gL_law_L_swap : GoodIn wsL_law (va_wsS RL 91 yL_swap wsL_swap) := goodIn_app (goodIn_of _ (by decide +kernel)) ggL_law_L_swap
set_option maxRecDepth 20000 in
theorem ggL_law_X4_swap : GoodIn wsL_law wsX4_swap := goodIn_r _ [348, 61, 224, 225, 226, 5, 227, 163, 167, 168, 169, 170, 171, 291, 292, 293, 294, 299, 300, 301, 302, 55, 303, 304, 305, 306, 54, 307, 308, 309, 310, 311, 312, 313, 314, 315, 316, 317, 64, 62, 228, 229, 230, 231, 57, 56, 60, 58, 53, 318, 319, 320, 321, 63, 162, 59, 322, 323, 324, 325, 326, 327, 328, 329, 581, 582, 583, 584, 585, 586, 587, 588, 589, 590, 591, 592, 593, 594, 595, 596, 597, 598] (by decide +kernel) (by decide +kernel)
set_option maxRecDepth 20000 in
theorem gL_law_X4_swap : GoodIn wsL_law (wsV RL 94 RX4 yX4_swap wsX4_swap) := goodIn_app (goodIn_of _ (by decide +kernel)) ggL_law_X4_swap
set_option maxRecDepth 20000 in
theorem ggL_law_L_setArrears : GoodIn wsL_law wsL_setArrears := goodIn_ca (goodIn_ca (goodIn_ca (goodIn_r _ [351, 179, 71, 72, 352, 353, 354, 2, 355, 77, 78, 184, 215, 185, 186, 187, 188, 189, 190, 16, 191, 91, 92, 93, 15, 94, 95, 192, 193, 194, 195, 196, 197, 198, 199, 200, 201, 202, 203, 204, 205, 206, 207, 31, 82, 83, 84, 85, 86, 604, 605, 606, 607, 608, 609, 573, 574, 575, 576, 577, 578, 579, 580, 599, 600, 601] (by decide +kernel) (by decide +kernel)) (goodIn_sub (fun _ h => List.mem_append_left _ (List.mem_append_left _ (List.mem_append_right _ h))) (by decide +kernel))) (goodIn_sub (fun _ h => List.mem_append_right _ h) (by decide +kernel))) (goodIn_sub (fun _ h => List.mem_append_left _ (List.mem_append_right _ h)) (by decide +kernel))
set_option maxRecDepth 20000 in
theorem gL_law_L_setArrears : GoodIn wsL_law (va_wsS RL 95 yL_setArrears wsL_setArrears) := goodIn_app (goodIn_of _ (by decide +kernel)) ggL_law_L_setArrears
set_option maxRecDepth 20000 in
theorem ggL_law_X4_setArrears : GoodIn wsL_law wsX4_setArrears := goodIn_r _ [359, 61, 60, 224, 225, 226, 5, 227, 163, 164, 165, 166, 167, 168, 169, 170, 171, 581, 582, 583, 584, 585, 586, 587, 588, 589, 590, 591, 592, 593, 594, 595, 596, 597, 598] (by decide +kernel) (by decide +kernel)
set_option maxRecDepth 20000 in
theorem gL_law_X4_setArrears : GoodIn wsL_law (wsV RL 97 RX4 yX4_setArrears wsX4_setArrears) := goodIn_app (goodIn_of _ (by decide +kernel)) ggL_law_X4_setArrears
set_option maxRecDepth 20000 in
theorem ggL_law_L_setWorth : GoodIn wsL_law wsL_setWorth := goodIn_ca (goodIn_ca (goodIn_r _ [362, 179, 71, 363, 364, 365, 2, 366, 218, 185, 186, 187, 188, 189, 190, 16, 191, 91, 92, 93, 15, 94, 95, 192, 193, 194, 195, 196, 197, 198, 199, 200, 201, 202, 203, 204, 205, 206, 207, 31, 82, 83, 84, 85, 86, 604, 605, 606, 607, 608, 609, 573, 574, 575, 576, 577, 578, 579, 580, 599, 600, 601] (by decide +kernel) (by decide +kernel)) (goodIn_sub (fun _ h => List.mem_append_right _ h) (by decide +kernel))) (goodIn_sub (fun _ h => List.mem_append_left _ (List.mem_append_right _ h)) (by decide +kernel))
set_option maxRecDepth 20000 in
theorem gL_law_L_setWorth : GoodIn wsL_law (va_wsS RL 98 yL_setWorth wsL_setWorth) := goodIn_app (goodIn_of _ (by decide +kernel)) ggL_law_L_setWorth
set_option maxRecDepth 20000 in
theorem ggL_law_X4_setWorth : GoodIn wsL_law wsX4_setWorth := goodIn_r _ [370, 57, 224, 225, 226, 5, 227, 163, 164, 165, 166, 167, 168, 169, 170, 171, 581, 582, 583, 584, 585, 586, 587, 588, 589, 590, 591, 592, 593, 594, 595, 596, 597, 598] (by decide +kernel) (by decide +kernel)
set_option maxRecDepth 20000 in
theorem gL_law_X4_setWorth : GoodIn wsL_law (wsV RL 100 RX4 yX4_setWorth wsX4_setWorth) := goodIn_app (goodIn_of _ (by decide +kernel)) ggL_law_X4_setWorth
set_option maxRecDepth 20000 in
theorem ggL_law_L_stateOf : GoodIn wsL_law wsL_stateOf := goodIn_ca (goodIn_r _ [373, 179, 374, 375, 376, 2, 377, 184, 185, 186, 187, 188, 189, 190, 16, 191, 91, 92, 93, 15, 94, 95, 192, 193, 194, 195, 196, 197, 198, 199, 200, 201, 202, 203, 204, 205, 206, 207, 31, 604, 605, 606, 607, 608, 609, 573, 574, 575, 576, 577, 578, 579, 580, 599, 600, 601] (by decide +kernel) (by decide +kernel)) (goodIn_sub (fun _ h => List.mem_append_right _ h) (by decide +kernel))
set_option maxRecDepth 20000 in
theorem gL_law_L_stateOf : GoodIn wsL_law (va_wsS RL 101 yL_stateOf wsL_stateOf) := goodIn_app (goodIn_of _ (by decide +kernel)) ggL_law_L_stateOf
set_option maxRecDepth 20000 in
theorem ggL_law_X4_stateOf : GoodIn wsL_law wsX4_stateOf := goodIn_r _ [381, 61, 224, 225, 226, 5, 227, 163, 167, 168, 169, 170, 171, 581, 582, 583, 584, 585, 586, 587, 588, 589, 590, 591, 592, 593, 594, 595, 596, 597, 598] (by decide +kernel) (by decide +kernel)
set_option maxRecDepth 20000 in
theorem gL_law_X4_stateOf : GoodIn wsL_law (wsV RL 103 RX4 yX4_stateOf wsX4_stateOf) := goodIn_app (goodIn_of _ (by decide +kernel)) ggL_law_X4_stateOf
set_option maxRecDepth 20000 in
theorem ggL_law_L_counts : GoodIn wsL_law wsL_counts := goodIn_ca (goodIn_r _ [384, 179, 385, 386, 387, 2, 388, 185, 186, 187, 188, 189, 190, 16, 191, 91, 92, 93, 15, 94, 95, 192, 193, 194, 195, 196, 197, 198, 199, 200, 201, 202, 203, 204, 205, 206, 207, 31, 211, 212, 213, 214, 215, 216, 24, 217, 218, 219, 152, 126, 153, 573, 574, 575, 576, 577, 578, 579, 580, 599, 600, 601, 604, 605, 606, 607, 608, 609] (by decide +kernel) (by decide +kernel)) (goodIn_sub (fun _ h => List.mem_append_right _ h) (by decide +kernel))
set_option maxRecDepth 20000 in
theorem gL_law_L_counts : GoodIn wsL_law (va_wsS RL 104 yL_counts wsL_counts) := goodIn_app (goodIn_of _ (by decide +kernel)) ggL_law_L_counts
set_option maxRecDepth 20000 in
theorem ggL_law_X4_counts : GoodIn wsL_law wsX4_counts := goodIn_r _ [392, 224, 225, 226, 5, 227, 163, 167, 168, 169, 170, 171, 228, 229, 230, 231, 57, 56, 60, 58, 53, 581, 582, 583, 584, 585, 586, 587, 588, 589, 590, 591, 592, 593, 594, 595, 596, 597, 598] (by decide +kernel) (by decide +kernel)
set_option maxRecDepth 20000 in
theorem gL_law_X4_counts : GoodIn wsL_law (wsV RL 106 RX4 yX4_counts wsX4_counts) := goodIn_app (goodIn_of _ (by decide +kernel)) ggL_law_X4_counts
set_option maxRecDepth 20000 in
theorem ggL_law_L_addBond : GoodIn wsL_law wsL_addBond := goodIn_ca (goodIn_ca (goodIn_r _ [395, 71, 72, 396, 397, 398, 2, 399, 77, 78, 400, 17, 401, 402, 403, 23, 82, 83, 84, 85, 86, 87, 88, 89, 90, 22, 91, 92, 93, 15, 94, 95, 404, 405, 406, 407, 11, 12, 408, 409, 410, 411, 106, 107, 108, 109, 110, 111, 31, 112, 113, 114, 115, 116, 117, 118, 119, 120, 121, 122, 123, 30, 124, 125, 126, 127, 128, 129, 130, 131, 132, 133, 134, 135, 136, 137, 138, 139, 140, 141, 142, 143, 144, 145, 146, 147, 148, 149, 150, 151, 152, 153, 154, 155, 156, 157, 573, 574, 575, 576, 577, 578, 579, 580, 610, 611, 612, 613, 599, 600, 601] (by decide +kernel) (by decide +kernel)) (goodIn_sub (fun _ h => List.mem_append_left _ (List.mem_append_left _ (List.mem_append_right _ h))) (by decide +kernel))) (goodIn_sub (fun _ h => List.mem_append_left _ (List.mem_append_right _ h)) (by decide +kernel))
set_option maxRecDepth 20000 in
theorem gL_law_L_addBond : GoodIn wsL_law (va_wsS RL 107 yL_addBond wsL_addBond) := goodIn_app (goodIn_of _ (by decide +kernel)) ggL_law_L_addBond
set_option maxRecDepth 20000 in
theorem ggL_law_X4_addBond : GoodIn wsL_law wsX4_addBond := goodIn_r _ [415, 416, 162, 317, 62, 63, 312, 164, 165, 5, 166, 167, 168, 169, 170, 171, 581, 582, 583, 584, 585, 586, 587, 588, 589, 590, 591, 592, 593, 594, 595, 596, 597, 598] (by decide +kernel) (by decide +kernel)
set_option maxRecDepth 20000 in
theorem gL_law_X4_addBond : GoodIn wsL_law (wsV RL 109 RX4 yX4_addBond wsX4_addBond) := goodIn_app (goodIn_of _ (by decide +kernel)) ggL_law_X4_addBond
set_option maxRecDepth 20000 in
theorem ggL_law_L_takeCash : GoodIn wsL_law wsL_takeCash := goodIn_ca (goodIn_ca (goodIn_r _ [419, 71, 72, 420, 421, 422, 2, 423, 77, 78, 424, 23, 82, 83, 84, 85, 86, 573, 574, 575, 576, 577, 578, 579, 580] (by decide +kernel) (by decide +kernel)) (goodIn_sub (fun _ h => List.mem_append_left _ (List.mem_append_left _ (List.mem_append_right _ h))) (by decide +kernel))) (goodIn_sub (fun _ h => List.mem_append_left _ (List.mem_append_right _ h)) (by decide +kernel))
set_option maxRecDepth 20000 in
theorem gL_law_L_takeCash : GoodIn wsL_law (va_wsS RL 110 yL_takeCash wsL_takeCash) := goodIn_app (goodIn_of _ (by decide +kernel)) ggL_law_L_takeCash
set_option maxRecDepth 20000 in
theorem ggL_law_X4_takeCash : GoodIn wsL_law wsX4_takeCash := goodIn_r _ [428, 429, 312, 164, 165, 5, 166, 167, 168, 169, 170, 171, 581, 582, 583, 584, 585, 586, 587, 588, 589, 590, 591, 592, 593, 594, 595, 596, 597, 598] (by decide +kernel) (by decide +kernel)
set_option maxRecDepth 20000 in
theorem gL_law_X4_takeCash : GoodIn wsL_law (wsV RL 112 RX4 yX4_takeCash wsX4_takeCash) := goodIn_app (goodIn_of _ (by decide +kernel)) ggL_law_X4_takeCash
set_option maxRecDepth 20000 in
theorem ggL_law_L_setRules : GoodIn wsL_law wsL_setRules := goodIn_ca (goodIn_r _ [432, 71, 433, 434, 435, 2, 436, 24, 25, 26, 82, 83, 84, 85, 86, 573, 574, 575, 576, 577, 578, 579, 580] (by decide +kernel) (by decide +kernel)) (goodIn_sub (fun _ h => List.mem_append_left _ (List.mem_append_right _ h)) (by decide +kernel))
set_option maxRecDepth 20000 in
theorem gL_law_L_setRules : GoodIn wsL_law (va_wsS RL 113 yL_setRules wsL_setRules) := goodIn_app (goodIn_of _ (by decide +kernel)) ggL_law_L_setRules
set_option maxRecDepth 20000 in
theorem ggL_law_X4_setRules : GoodIn wsL_law wsX4_setRules := goodIn_r _ [440, 53, 54, 55, 164, 165, 5, 166, 167, 168, 169, 170, 171, 581, 582, 583, 584, 585, 586, 587, 588, 589, 590, 591, 592, 593, 594, 595, 596, 597, 598] (by decide +kernel) (by decide +kernel)
set_option maxRecDepth 20000 in
theorem gL_law_X4_setRules : GoodIn wsL_law (wsV RL 116 RX4 yX4_setRules wsX4_setRules) := goodIn_app (goodIn_of _ (by decide +kernel)) ggL_law_X4_setRules
set_option maxRecDepth 20000 in
theorem ggL_law_L_bondState : GoodIn wsL_law wsL_bondState := goodIn_ca (goodIn_r _ [443, 179, 444, 445, 446, 2, 447, 247, 448, 449, 450, 451, 189, 190, 17, 246, 91, 92, 93, 15, 94, 95, 192, 193, 194, 195, 196, 197, 198, 199, 200, 201, 202, 203, 204, 205, 206, 207, 31, 610, 611, 612, 613, 573, 574, 575, 576, 577, 578, 579, 580, 599, 600, 601] (by decide +kernel) (by decide +kernel)) (goodIn_sub (fun _ h => List.mem_append_right _ h) (by decide +kernel))
set_option maxRecDepth 20000 in
theorem gL_law_L_bondState : GoodIn wsL_law (va_wsS RL 117 yL_bondState wsL_bondState) := goodIn_app (goodIn_of _ (by decide +kernel)) ggL_law_L_bondState
set_option maxRecDepth 20000 in
theorem ggL_law_X4_bondState : GoodIn wsL_law wsX4_bondState := goodIn_r _ [455, 64, 456, 457, 458, 5, 459, 317, 167, 168, 169, 170, 171, 581, 582, 583, 584, 585, 586, 587, 588, 589, 590, 591, 592, 593, 594, 595, 596, 597, 598] (by decide +kernel) (by decide +kernel)
set_option maxRecDepth 20000 in
theorem gL_law_X4_bondState : GoodIn wsL_law (wsV RL 119 RX4 yX4_bondState wsX4_bondState) := goodIn_app (goodIn_of _ (by decide +kernel)) ggL_law_X4_bondState
set_option maxRecDepth 20000 in
theorem ggL_law_L_dueOf : GoodIn wsL_law wsL_dueOf := goodIn_ca (goodIn_r _ [462, 179, 463, 464, 465, 2, 466, 274, 448, 449, 450, 451, 189, 190, 17, 246, 91, 92, 93, 15, 94, 95, 192, 193, 194, 195, 196, 197, 198, 199, 200, 201, 202, 203, 204, 205, 206, 207, 31, 610, 611, 612, 613, 573, 574, 575, 576, 577, 578, 579, 580, 599, 600, 601] (by decide +kernel) (by decide +kernel)) (goodIn_sub (fun _ h => List.mem_append_right _ h) (by decide +kernel))
set_option maxRecDepth 20000 in
theorem gL_law_L_dueOf : GoodIn wsL_law (va_wsS RL 120 yL_dueOf wsL_dueOf) := goodIn_app (goodIn_of _ (by decide +kernel)) ggL_law_L_dueOf
set_option maxRecDepth 20000 in
theorem ggL_law_X4_dueOf : GoodIn wsL_law wsX4_dueOf := goodIn_r _ [470, 63, 456, 457, 458, 5, 459, 317, 167, 168, 169, 170, 171, 581, 582, 583, 584, 585, 586, 587, 588, 589, 590, 591, 592, 593, 594, 595, 596, 597, 598] (by decide +kernel) (by decide +kernel)
set_option maxRecDepth 20000 in
theorem gL_law_X4_dueOf : GoodIn wsL_law (wsV RL 122 RX4 yX4_dueOf wsX4_dueOf) := goodIn_app (goodIn_of _ (by decide +kernel)) ggL_law_X4_dueOf
set_option maxRecDepth 20000 in
theorem ggL_law_X3_cash : GoodIn wsL_law wsX3_cash := goodIn_r _ [474, 23, 573, 574, 575, 576, 577, 578, 579, 580] (by decide +kernel) (by decide +kernel)
set_option maxRecDepth 20000 in
theorem gL_law_X3_cash : GoodIn wsL_law (wsV RL 123 RX3 yX3_cash wsX3_cash) := goodIn_app (goodIn_of _ (by decide +kernel)) ggL_law_X3_cash
set_option maxRecDepth 20000 in
theorem ggL_law_X4_cash : GoodIn wsL_law wsX4_cash := goodIn_r _ [478, 171, 312, 581, 582, 583, 584, 585, 586, 587, 588, 589, 590, 591, 592, 593, 594, 595, 596, 597, 598] (by decide +kernel) (by decide +kernel)
set_option maxRecDepth 20000 in
theorem gL_law_X4_cash : GoodIn wsL_law (wsV RL 126 RX4 yX4_cash wsX4_cash) := goodIn_app (goodIn_of _ (by decide +kernel)) ggL_law_X4_cash
set_option maxRecDepth 20000 in
theorem ggL_law_X3_debt : GoodIn wsL_law wsX3_debt := goodIn_r _ [268, 17, 246, 247, 269, 91, 92, 93, 15, 94, 95, 192, 193, 194, 195, 196, 197, 198, 199, 200, 201, 202, 203, 204, 205, 206, 207, 31, 573, 574, 575, 576, 577, 578, 579, 580, 610, 611, 612, 613, 599, 600, 601] (by decide +kernel) (by decide +kernel)
set_option maxRecDepth 20000 in
theorem gL_law_X3_debt : GoodIn wsL_law (wsV RL 127 RX3 yX3_debt wsX3_debt) := goodIn_app (goodIn_of _ (by decide +kernel)) ggL_law_X3_debt
set_option maxRecDepth 20000 in
theorem ggL_law_X4_debt : GoodIn wsL_law wsX4_debt := goodIn_r _ [483, 171, 313, 314, 315, 5, 316, 317, 64, 62, 581, 582, 583, 584, 585, 586, 587, 588, 589, 590, 591, 592, 593, 594, 595, 596, 597, 598] (by decide +kernel) (by decide +kernel)
set_option maxRecDepth 20000 in
theorem gL_law_X4_debt : GoodIn wsL_law (wsV RL 130 RX4 yX4_debt wsX4_debt) := goodIn_app (goodIn_of _ (by decide +kernel)) ggL_law_X4_debt
set_option maxRecDepth 20000 in
theorem ggL_law_X3_substitutes : GoodIn wsL_law wsX3_substitutes := goodIn_r _ [264, 23, 219, 152, 126, 153, 265, 266, 267, 2, 268, 17, 246, 247, 269, 91, 92, 93, 15, 94, 95, 192, 193, 194, 195, 196, 197, 198, 199, 200, 201, 202, 203, 204, 205, 206, 207, 31, 573, 574, 575, 576, 577, 578, 579, 580, 610, 611, 612, 613, 599, 600, 601] (by decide +kernel) (by decide +kernel)
set_option maxRecDepth 20000 in
theorem gL_law_X3_substitutes : GoodIn wsL_law (wsV RL 131 RX3 yX3_substitutes wsX3_substitutes) := goodIn_app (goodIn_of _ (by decide +kernel)) ggL_law_X3_substitutes
set_option maxRecDepth 20000 in
theorem ggL_law_X4_substitutes : GoodIn wsL_law wsX4_substitutes := goodIn_r _ [488, 171, 308, 309, 310, 5, 311, 312, 313, 314, 315, 316, 317, 64, 62, 581, 582, 583, 584, 585, 586, 587, 588, 589, 590, 591, 592, 593, 594, 595, 596, 597, 598] (by decide +kernel) (by decide +kernel)
set_option maxRecDepth 20000 in
theorem gL_law_X4_substitutes : GoodIn wsL_law (wsV RL 134 RX4 yX4_substitutes wsX4_substitutes) := goodIn_app (goodIn_of _ (by decide +kernel)) ggL_law_X4_substitutes
set_option maxRecDepth 20000 in
theorem ggL_law_L_pass : GoodIn wsL_law wsL_pass := goodIn_ca (goodIn_r _ [491, 71, 492, 493, 494, 2, 495, 22, 82, 83, 84, 85, 86, 496, 497, 498, 499, 16, 191, 184, 244, 215, 23, 217, 91, 92, 93, 15, 94, 95, 192, 193, 194, 195, 196, 197, 198, 199, 200, 201, 202, 203, 204, 205, 206, 207, 31, 500, 501, 502, 503, 17, 246, 247, 274, 504, 505, 506, 507, 269, 508, 573, 574, 575, 576, 577, 578, 579, 580, 604, 605, 606, 607, 608, 609, 599, 600, 601, 610, 611, 612, 613] (by decide +kernel) (by decide +kernel)) (goodIn_sub (fun _ h => List.mem_append_left _ (List.mem_append_right _ h)) (by decide +kernel))
set_option maxRecDepth 20000 in
theorem gL_law_L_pass : GoodIn wsL_law (va_wsS RL 135 yL_pass wsL_pass) := goodIn_app (goodIn_of _ (by decide +kernel)) ggL_law_L_pass
set_option maxRecDepth 20000 in
theorem ggL_law_X4_pass : GoodIn wsL_law wsX4_pass := goodIn_r _ [512, 162, 164, 165, 5, 166, 167, 168, 169, 170, 171, 513, 514, 515, 516, 163, 61, 59, 60, 312, 56, 317, 64, 63, 62, 66, 581, 582, 583, 584, 585, 586, 587, 588, 589, 590, 591, 592, 593, 594, 595, 596, 597, 598] (by decide +kernel) (by decide +kernel)
set_option maxRecDepth 20000 in
theorem gL_law_X4_pass : GoodIn wsL_law (wsV RL 137 RX4 yX4_pass wsX4_pass) := goodIn_app (goodIn_of _ (by decide +kernel)) ggL_law_X4_pass
set_option maxRecDepth 20000 in
theorem ggL_law_L_holds : GoodIn wsL_law wsL_holds := goodIn_ca (goodIn_r _ [519, 71, 520, 521, 522, 2, 523, 524, 525, 526, 527, 21, 82, 83, 84, 85, 86, 239, 240, 241, 242, 16, 191, 243, 244, 245, 17, 246, 247, 91, 92, 93, 15, 94, 95, 192, 193, 194, 195, 196, 197, 198, 199, 200, 201, 202, 203, 204, 205, 206, 207, 31, 211, 212, 213, 214, 215, 216, 24, 217, 218, 219, 152, 126, 153, 248, 249, 250, 251, 22, 252, 253, 254, 255, 26, 256, 125, 127, 257, 258, 259, 260, 23, 261, 262, 263, 264, 265, 266, 267, 268, 269, 270, 271, 272, 273, 25, 274, 275, 276, 277, 278, 184, 337, 338, 339, 20, 340, 341, 342, 343, 344, 283, 284, 285, 286, 46, 48, 573, 574, 575, 576, 577, 578, 579, 580, 602, 603, 604, 605, 606, 607, 608, 609, 610, 611, 612, 613, 599, 600, 601] (by decide +kernel) (by decide +kernel)) (goodIn_sub (fun _ h => List.mem_append_left _ (List.mem_append_right _ h)) (by decide +kernel))
set_option maxRecDepth 20000 in
theorem gL_law_L_holds : GoodIn wsL_law (va_wsS RL 138 yL_holds wsL_holds) := goodIn_app (goodIn_of _ (by decide +kernel)) ggL_law_L_holds
set_option maxRecDepth 20000 in
theorem ggL_law_X4_holds : GoodIn wsL_law wsX4_holds := goodIn_r _ [531, 164, 165, 5, 166, 167, 168, 169, 170, 171, 291, 292, 293, 294, 163, 61, 299, 300, 301, 302, 55, 303, 304, 305, 306, 54, 307, 308, 309, 310, 311, 312, 313, 314, 315, 316, 317, 64, 62, 228, 229, 230, 231, 57, 56, 60, 58, 53, 318, 319, 320, 321, 63, 162, 59, 322, 323, 324, 325, 326, 327, 328, 329, 581, 582, 583, 584, 585, 586, 587, 588, 589, 590, 591, 592, 593, 594, 595, 596, 597, 598] (by decide +kernel) (by decide +kernel)
set_option maxRecDepth 20000 in
theorem gL_law_X4_holds : GoodIn wsL_law (wsV RL 140 RX4 yX4_holds wsX4_holds) := goodIn_app (goodIn_of _ (by decide +kernel)) ggL_law_X4_holds
set_option maxRecDepth 20000 in
theorem ggL_law_L_lacking : GoodIn wsL_law wsL_lacking := goodIn_ca (goodIn_r _ [534, 71, 535, 525, 526, 2, 527, 21, 82, 83, 84, 85, 86, 239, 240, 241, 242, 16, 191, 243, 244, 245, 17, 246, 247, 91, 92, 93, 15, 94, 95, 192, 193, 194, 195, 196, 197, 198, 199, 200, 201, 202, 203, 204, 205, 206, 207, 31, 211, 212, 213, 214, 215, 216, 24, 217, 218, 219, 152, 126, 153, 248, 249, 250, 251, 22, 252, 253, 254, 255, 26, 256, 125, 127, 257, 258, 259, 260, 23, 261, 262, 263, 264, 265, 266, 267, 268, 269, 270, 271, 272, 273, 25, 274, 275, 276, 277, 278, 184, 337, 338, 339, 20, 340, 341, 342, 343, 344, 283, 284, 285, 286, 46, 48, 573, 574, 575, 576, 577, 578, 579, 580, 602, 603, 604, 605, 606, 607, 608, 609, 610, 611, 612, 613, 599, 600, 601] (by decide +kernel) (by decide +kernel)) (goodIn_sub (fun _ h => List.mem_append_left _ (List.mem_append_right _ h)) (by decide +kernel))
set_option maxRecDepth 20000 in
theorem gL_law_L_lacking : GoodIn wsL_law (va_wsS RL 141 yL_lacking wsL_lacking) := goodIn_app (goodIn_of _ (by decide +kernel)) ggL_law_L_lacking
set_option maxRecDepth 20000 in
theorem ggL_law_X4_lacking : GoodIn wsL_law wsX4_lacking := goodIn_r _ [539, 164, 165, 5, 166, 167, 168, 169, 170, 171, 291, 292, 293, 294, 163, 61, 299, 300, 301, 302, 55, 303, 304, 305, 306, 54, 307, 308, 309, 310, 311, 312, 313, 314, 315, 316, 317, 64, 62, 228, 229, 230, 231, 57, 56, 60, 58, 53, 318, 319, 320, 321, 63, 162, 59, 322, 323, 324, 325, 326, 327, 328, 329, 581, 582, 583, 584, 585, 586, 587, 588, 589, 590, 591, 592, 593, 594, 595, 596, 597, 598] (by decide +kernel) (by decide +kernel)
set_option maxRecDepth 20000 in
theorem gL_law_X4_lacking : GoodIn wsL_law (wsV RL 143 RX4 yX4_lacking wsX4_lacking) := goodIn_app (goodIn_of _ (by decide +kernel)) ggL_law_X4_lacking
set_option maxRecDepth 20000 in
theorem ggL_law_X3_leastToAdd : GoodIn wsL_law wsX3_leastToAdd := goodIn_r _ [543, 21, 239, 240, 241, 2, 242, 16, 191, 243, 244, 245, 17, 246, 247, 91, 92, 93, 15, 94, 95, 192, 193, 194, 195, 196, 197, 198, 199, 200, 201, 202, 203, 204, 205, 206, 207, 31, 211, 212, 213, 214, 215, 216, 24, 217, 218, 219, 152, 126, 153, 248, 249, 250, 251, 22, 252, 253, 254, 255, 26, 256, 125, 127, 257, 258, 259, 260, 23, 261, 262, 263, 264, 265, 266, 267, 268, 269, 270, 271, 272, 273, 25, 274, 275, 276, 277, 278, 184, 544, 545, 546, 547, 548, 549, 550, 551, 552, 553, 554, 555, 556, 279, 280, 281, 20, 282, 283, 284, 285, 286, 46, 48, 573, 574, 575, 576, 577, 578, 579, 580, 602, 603, 604, 605, 606, 607, 608, 609, 610, 611, 612, 613, 599, 600, 601] (by decide +kernel) (by decide +kernel)
set_option maxRecDepth 20000 in
theorem gL_law_X3_leastToAdd : GoodIn wsL_law (wsV RL 144 RX3 yX3_leastToAdd wsX3_leastToAdd) := goodIn_app (goodIn_of _ (by decide +kernel)) ggL_law_X3_leastToAdd
set_option maxRecDepth 20000 in
theorem ggL_law_X4_leastToAdd : GoodIn wsL_law wsX4_leastToAdd := goodIn_r _ [560, 171, 163, 61, 291, 292, 293, 5, 294, 561, 562, 563, 295, 296, 297, 298, 299, 300, 301, 302, 55, 303, 304, 305, 306, 54, 307, 308, 309, 310, 311, 312, 313, 314, 315, 316, 317, 64, 62, 228, 229, 230, 231, 57, 56, 60, 58, 53, 318, 319, 320, 321, 63, 162, 59, 322, 323, 324, 325, 326, 327, 328, 329, 581, 582, 583, 584, 585, 586, 587, 588, 589, 590, 591, 592, 593, 594, 595, 596, 597, 598] (by decide +kernel) (by decide +kernel)
set_option maxRecDepth 20000 in
theorem gL_law_X4_leastToAdd : GoodIn wsL_law (wsV RL 147 RX4 yX4_leastToAdd wsX4_leastToAdd) := goodIn_app (goodIn_of _ (by decide +kernel)) ggL_law_X4_leastToAdd
set_option maxRecDepth 20000 in
theorem ggL_law_X3_leastToAddByAll : GoodIn wsL_law wsX3_leastToAddByAll := goodIn_r _ [567, 16, 21, 239, 240, 241, 2, 242, 191, 243, 244, 245, 17, 246, 247, 91, 92, 93, 15, 94, 95, 192, 193, 194, 195, 196, 197, 198, 199, 200, 201, 202, 203, 204, 205, 206, 207, 31, 211, 212, 213, 214, 215, 216, 24, 217, 218, 219, 152, 126, 153, 248, 249, 250, 251, 22, 252, 253, 254, 255, 26, 256, 125, 127, 257, 258, 259, 260, 23, 261, 262, 263, 264, 265, 266, 267, 268, 269, 270, 271, 272, 273, 25, 274, 275, 276, 277, 278, 184, 547, 548, 549, 550, 551, 552, 553, 554, 555, 556, 279, 280, 281, 20, 282, 283, 284, 285, 286, 46, 48, 573, 574, 575, 576, 577, 578, 579, 580, 602, 603, 604, 605, 606, 607, 608, 609, 610, 611, 612, 613, 599, 600, 601] (by decide +kernel) (by decide +kernel)
set_option maxRecDepth 20000 in
theorem gL_law_X3_leastToAddByAll : GoodIn wsL_law (wsV RL 148 RX3 yX3_leastToAddByAll wsX3_leastToAddByAll) := goodIn_app (goodIn_of _ (by decide +kernel)) ggL_law_X3_leastToAddByAll
set_option maxRecDepth 20000 in
theorem ggL_law_X4_leastToAddByAll : GoodIn wsL_law wsX4_leastToAddByAll := goodIn_r _ [571, 572, 558, 559, 5, 560, 171, 163, 61, 291, 292, 293, 294, 561, 562, 563, 295, 296, 297, 298, 299, 300, 301, 302, 55, 303, 304, 305, 306, 54, 307, 308, 309, 310, 311, 312, 313, 314, 315, 316, 317, 64, 62, 228, 229, 230, 231, 57, 56, 60, 58, 53, 318, 319, 320, 321, 63, 162, 59, 322, 323, 324, 325, 326, 327, 328, 329, 581, 582, 583, 584, 585, 586, 587, 588, 589, 590, 591, 592, 593, 594, 595, 596, 597, 598] (by decide +kernel) (by decide +kernel)
set_option maxRecDepth 20000 in
theorem gL_law_X4_leastToAddByAll : GoodIn wsL_law (wsV RL 151 RX4 yX4_leastToAddByAll wsX4_leastToAddByAll) := goodIn_app (goodIn_of _ (by decide +kernel)) ggL_law_X4_leastToAddByAll
end
section
/-! ===== my world: which roles live, where they lie, what lies there ===== -/
abbrev vT (cs : Nat → ClassId) : List (ClassId × FieldType) := [(cs 0, .int), (cs 1, .boolean), (cs 2, .object "java/lang/Object"), (cs 3, .array .int), (cs 4, .long)]
def wP (D : va_G) (A : Nat → Prop) (lv : Nat → Prop) (ad : Nat → Nat) (ct : Nat → va_E) (H : Heap) : Prop :=
  (∀ r, lv r → r < 64) ∧ (∀ r r', lv r → lv r' → ad r = ad r' → r = r') ∧ ∀ r, lv r → A (ad r) ∧ va_at D vwCl (ad r, ct r) H
theorem wP.hat {D : va_G} {A lv : Nat → Prop} {ad : Nat → Nat} {ct : Nat → va_E} {H : Heap} (h : wP D A lv ad ct H) {r : Nat} (hr : lv r) : va_at D vwCl (ad r, ct r) H := (h.2.2 r hr).2
theorem wP.keptA {D : va_G} {A A1 lv : Nat → Prop} {ad : Nat → Nat} {ct : Nat → va_E} {H H1 : Heap} (h : wP D A lv ad ct H) (hd : ∀ q, A q → ¬ A1 q) (hk : ∀ q, q < H.size → ¬ A1 q → H1[q]? = H[q]?) : wP D A lv ad ct H1 :=
  ⟨h.1, h.2.1, fun r hr => ⟨(h.2.2 r hr).1, (h.hat hr).kept (hk _ (h.hat hr).lt (hd _ (h.2.2 r hr).1))⟩⟩
theorem wP.kept {D : va_G} {A lv : Nat → Prop} {ad : Nat → Nat} {ct : Nat → va_E} {H H1 : Heap} (h : wP D A lv ad ct H) (hk : ∀ q, q < H.size → ¬ (fun _ : Nat => False) q → H1[q]? = H[q]?) : wP D A lv ad ct H1 :=
  h.keptA (fun _ _ h => h) hk
theorem wP.to {D : va_G} {A lv lv' : Nat → Prop} {ad ad' : Nat → Nat} {ct ct' : Nat → va_E} {H : Heap} (h : wP D A lv ad ct H) (ht : ∀ r, lv' r → lv r ∧ ad' r = ad r ∧ ct' r = ct r) : wP D A lv' ad' ct' H := by
  refine ⟨fun r hr => h.1 r (ht r hr).1, fun r r' hr hr' e => ?_, fun r hr => ?_⟩
  · obtain ⟨a1, a2, -⟩ := ht r hr
    obtain ⟨b1, b2, -⟩ := ht r' hr'
    exact h.2.1 r r' a1 b1 (by rw [← a2, ← b2]; exact e)
  · obtain ⟨a1, a2, a3⟩ := ht r hr
    rw [a2, a3]
    exact h.2.2 r a1
theorem wP.open_ {D : va_G} {A lv : Nat → Prop} {ad : Nat → Nat} {ct : Nat → va_E} {H : Heap} (h : wP D A lv ad ct H) {r0 : Nat} (hr : lv r0) :
    ∃ ws : va_W, ws[0]? = some (ad r0, ct r0) ∧ (∀ r, lv r → ∃ k : Nat, ws[k]? = some (ad r, ct r)) ∧ va_P D vwCl ws H ∧ va_D A ws ∧ ∀ (e : va_E) (H1 : Heap), va_P D vwCl (ws.set 0 (ad r0, e)) H1 → wP D A lv ad (va_up ct r0 e) H1 := by
  classical
  obtain ⟨rs, hrs, hnd⟩ : ∃ rs : List Nat, (∀ r, r ∈ rs ↔ (lv r ∧ r ≠ r0)) ∧ rs.Nodup := by
    refine ⟨(List.range 64).filter (fun r => decide (lv r ∧ r ≠ r0)), fun r => ?_, List.Nodup.sublist List.filter_sublist List.nodup_range⟩
    rw [List.mem_filter, List.mem_range, decide_eq_true_iff]
    exact ⟨fun q => q.2, fun q => ⟨h.1 r q.1, q⟩⟩
  have hnd2 : (r0 :: rs).Nodup := List.nodup_cons.mpr ⟨fun q => ((hrs r0).mp q).2 rfl, hnd⟩
  have hlv : ∀ r, r ∈ r0 :: rs → lv r := fun r q => by
    rcases List.mem_cons.mp q with e | e
    · rw [e]; exact hr
    · exact ((hrs r).mp e).1
  refine ⟨(r0 :: rs).map (fun r => (ad r, ct r)), rfl, fun r q => ?_, fun k q hk => ?_, ⟨fun i j x y hi hj hxy => ?_, fun k q hk => ?_⟩, fun e H1 hP => ?_⟩
  · have hm : r ∈ r0 :: rs := by
      by_cases e : r = r0
      · rw [e]; exact List.mem_cons_self
      · exact List.mem_cons_of_mem _ ((hrs r).mpr ⟨q, e⟩)
    obtain ⟨k, hk⟩ := List.mem_iff_getElem?.mp hm
    exact ⟨k, by rw [List.getElem?_map, hk]; rfl⟩
  · obtain ⟨r, h1, rfl⟩ := List.mem_map.mp (List.mem_of_getElem? hk)
    exact h.hat (hlv r h1)
  · rw [List.getElem?_map] at hi hj
    cases h1 : (r0 :: rs)[i]? with
    | none => rw [h1] at hi; cases hi
    | some r1 =>
      cases h2 : (r0 :: rs)[j]? with
      | none => rw [h2] at hj; cases hj
      | some r2 =>
        rw [h1] at hi
        rw [h2] at hj
        cases hi
        cases hj
        have e := h.2.1 r1 r2 (hlv _ (List.mem_of_getElem? h1)) (hlv _ (List.mem_of_getElem? h2)) hxy
        subst e
        exact List.getElem?_inj (List.getElem?_eq_some_iff.mp h1).1 hnd2 (h1.trans h2.symm)
  · obtain ⟨r, h1, rfl⟩ := List.mem_map.mp (List.mem_of_getElem? hk)
    exact (h.2.2 r (hlv r h1)).1
  · refine ⟨h.1, h.2.1, fun r q => ⟨(h.2.2 r q).1, ?_⟩⟩
    by_cases e0 : r = r0
    · subst e0
      rw [va_up_self]
      exact hP 0 _ rfl
    · rw [va_up_ne _ _ e0]
      have hm : r ∈ rs := (hrs r).mpr ⟨q, e0⟩
      obtain ⟨k, hk⟩ := List.mem_iff_getElem?.mp hm
      exact hP (k + 1) (ad r, ct r) (by
        show (rs.map (fun r => (ad r, ct r)))[k]? = _
        rw [List.getElem?_map, hk]; rfl)
theorem wP.openN {D : va_G} {A lv : Nat → Prop} {ad : Nat → Nat} {ct : Nat → va_E} {H : Heap} (h : wP D A lv ad ct H) {r0 : Nat} (hr : ¬ lv r0) (h64 : r0 < 64) :
    ∃ ws : va_W, va_P D vwCl ws H ∧ va_D A ws ∧ ∀ (q : Nat) (e : va_E) (H1 : Heap), va_P D vwCl (ws ++ [(q, e)]) H1 → va_D A (ws ++ [(q, e)]) → wP D A (fun r => lv r ∨ r = r0) (va_up ad r0 q) (va_up ct r0 e) H1 := by
  classical
  obtain ⟨rs, hrs, hnd⟩ : ∃ rs : List Nat, (∀ r, r ∈ rs ↔ lv r) ∧ rs.Nodup := by
    refine ⟨(List.range 64).filter (fun r => decide (lv r)), fun r => ?_, List.Nodup.sublist List.filter_sublist List.nodup_range⟩
    rw [List.mem_filter, List.mem_range, decide_eq_true_iff]
    exact ⟨fun q => q.2, fun q => ⟨h.1 r q, q⟩⟩
  have hget : ∀ r, lv r → ∃ k : Nat, k < rs.length ∧ (rs.map (fun r => (ad r, ct r)))[k]? = some (ad r, ct r) := fun r q => by
    obtain ⟨k, hk⟩ := List.mem_iff_getElem?.mp ((hrs r).mpr q)
    exact ⟨k, (List.getElem?_eq_some_iff.mp hk).1, by rw [List.getElem?_map, hk]; rfl⟩
  refine ⟨rs.map (fun r => (ad r, ct r)), fun k q hk => ?_, ⟨fun i j x y hi hj hxy => ?_, fun k q hk => ?_⟩, fun q e H1 hP hD => ?_⟩
  · obtain ⟨r, h1, rfl⟩ := List.mem_map.mp (List.mem_of_getElem? hk)
    exact h.hat ((hrs r).mp h1)
  · rw [List.getElem?_map] at hi hj
    cases h1 : rs[i]? with
    | none => rw [h1] at hi; cases hi
    | some r1 =>
      cases h2 : rs[j]? with
      | none => rw [h2] at hj; cases hj
      | some r2 =>
        rw [h1] at hi
        rw [h2] at hj
        cases hi
        cases hj
        have e := h.2.1 r1 r2 ((hrs _).mp (List.mem_of_getElem? h1)) ((hrs _).mp (List.mem_of_getElem? h2)) hxy
        subst e
        exact List.getElem?_inj (List.getElem?_eq_some_iff.mp h1).1 hnd (h1.trans h2.symm)
  · obtain ⟨r, h1, rfl⟩ := List.mem_map.mp (List.mem_of_getElem? hk)
    exact (h.2.2 r ((hrs r).mp h1)).1
  · have hlast : (rs.map (fun r => (ad r, ct r)) ++ [(q, e)])[rs.length]? = some (q, e) := by
      rw [List.getElem?_append_right (by rw [List.length_map]; exact Nat.le_refl _), List.length_map, Nat.sub_self]
      rfl
    have hold : ∀ r, lv r → ∃ k : Nat, k < rs.length ∧ (rs.map (fun r => (ad r, ct r)) ++ [(q, e)])[k]? = some (ad r, ct r) := fun r z => by
      obtain ⟨k, h1, h2⟩ := hget r z
      exact ⟨k, h1, by rw [List.getElem?_append_left (by rw [List.length_map]; exact h1)]; exact h2⟩
    have hfr : ∀ r, lv r → ad r ≠ q := fun r z e1 => by
      obtain ⟨k, h1, h2⟩ := hold r z
      have := hD.1 k rs.length _ _ h2 hlast e1
      omega
    have hne : ∀ r, lv r → r ≠ r0 := fun r z e1 => hr (e1 ▸ z)
    refine ⟨fun r z => ?_, fun r r' z z' e1 => ?_, fun r z => ?_⟩
    · rcases z with z | z
      · exact h.1 r z
      · omega
    · rcases z with z | z <;> rcases z' with z' | z'
      · rw [va_up_ne _ _ (hne r z), va_up_ne _ _ (hne r' z')] at e1
        exact h.2.1 r r' z z' e1
      · subst z'
        rw [va_up_ne _ _ (hne r z), va_up_self] at e1
        exact absurd e1 (hfr r z)
      · subst z
        rw [va_up_ne _ _ (hne r' z'), va_up_self] at e1
        exact absurd e1.symm (hfr r' z')
      · rw [z, z']
    · rcases z with z | z
      · rw [va_up_ne _ _ (hne r z), va_up_ne _ _ (hne r z)]
        obtain ⟨k, h1, h2⟩ := hold r z
        exact ⟨(h.2.2 r z).1, hP k _ h2⟩
      · subst z
        rw [va_up_self, va_up_self]
        exact ⟨hD.2 _ _ hlast, hP _ _ hlast⟩
/-- an empty world -/
theorem wP.nil {D : va_G} {A : Nat → Prop} {ad : Nat → Nat} {ct : Nat → va_E} {H : Heap} : wP D A (fun _ => False) ad ct H := ⟨fun _ h => h.elim, fun _ _ h => h.elim, fun _ h => h.elim⟩
section WB
variable {p : Program} {l : Launch} {e : Env} {R : Room} {s : State} {m : MethodId} {args : Array Value} {below : List Frame} {meth : Method} {c : Code} {H : Heap} {locs : List Loc} {cells slots : Nat} {Q : State → Prop}
variable {cc : ByteArray} {pc : Nat} {ls : Array Slot} {rest : List Value} {D : va_G} {A A0 : Nat → Prop} {tys : List (ClassId × FieldType)} {H0 : Heap} {lv : Nat → Prop} {ad : Nat → Nat} {ct : Nat → va_E}
theorem wb_get (hexec : p.tables.exec = Jvm.exec) (hb : c.code = cc) {own ref C : String} {T : u_T} {N ci index : Nat} {Ts : List Cond} (hts : ∀ w ∈ Ts, w.before args s = true) (hin : ∀ w ∈ u_ws C T N, w ∈ Ts) (hown : s.vm.findClass own = some m.cls) (hK : va_K D vwCl tys s) (hW : wP D A lv ad ct H) (r : Nat) (hr : lv r) {fs : List Value} (he : ct r = .inr (ci, fs)) (hc : vwCl[ci]? = some (C, T, N)) (k : Nat) (hk : k < N) (hlink : (Cond.fieldLink own index ref (T k).2.1 (T k).2.2.1).before args s = true) (hsame : ∀ x, s.fieldFound? (T k).1 (T k).2.1 (T k).2.2.1 = some x → s.fieldFound? ref (T k).2.1 (T k).2.2.1 = some x) {v : Value} (hv : fs[k]? = some v) (hdg : decode cc pc = .ok (.getfield index, 3))
    (kk : W p l e R s m args below meth c H locs cells slots Q (F0 m (pc + 3) ls (v :: rest))) : W p l e R s m args below meth c H locs cells slots Q (F0 m pc ls (.ref (ad r) :: rest)) := by
  obtain ⟨ws, h0, -, hP, hD, -⟩ := hW.open_ hr
  exact va_get hexec hb hts hin hown hK hP 0 (by rw [h0, he]) hc k hk hlink hsame hv hdg kk
theorem wb_put (hexec : p.tables.exec = Jvm.exec) (hb : c.code = cc) {own ref C : String} {T : u_T} {N ci index : Nat} {Ts : List Cond} (hts : ∀ w ∈ Ts, w.before args s = true) (hin : ∀ w ∈ u_ws C T N, w ∈ Ts) (ty0 : Nat → FieldType) (hty : ∀ k, k < N → parseFieldDescriptor (T k).2.2.1 = some (ty0 k)) (hnm : ∀ a, a < N → ∀ b, b < N → a ≠ b → (T a).2.1 ≠ (T b).2.1) (hown : s.vm.findClass own = some m.cls) (hK : va_K D vwCl tys s) (hW : wP D A lv ad ct H) (hS : va_S A H0 H locs) (r : Nat) (hr : lv r) {fs : List Value} (he : ct r = .inr (ci, fs)) (hc : vwCl[ci]? = some (C, T, N)) (k : Nat) (hk : k < N) (hlink : (Cond.fieldLink own index ref (T k).2.1 (T k).2.2.1).before args s = true) (hsame : ∀ x, s.fieldFound? (T k).1 (T k).2.1 (T k).2.2.1 = some x → s.fieldFound? ref (T k).2.1 (T k).2.2.1 = some x) (hfin : (T k).2.2.2 = false) {ty : FieldType} {v : Value} (hd : parseFieldDescriptor (T k).2.2.1 = some ty) (hn : narrow ty v = v) (hfit : fits ty v = true) (hl : k < fs.length)
    (hdg : decode cc pc = .ok (.putfield index, 3)) (kk : ∀ (H1 : Heap) (locs1 : List Loc), wP D A lv ad (va_up ct r (.inr (ci, fs.set k v))) H1 → va_S A H0 H1 locs1 → W p l e R s m args below meth c H1 locs1 cells slots Q (F0 m (pc + 3) ls rest)) : W p l e R s m args below meth c H locs cells slots Q (F0 m pc ls (v :: .ref (ad r) :: rest)) := by
  obtain ⟨ws, h0, -, hP, hD, back⟩ := hW.open_ hr
  exact va_put hexec hb hts hin ty0 hty hnm hown hK hP hD hS 0 (by rw [h0, he]) hc k hk hlink hsame hfin hd hn hfit hl hdg fun H1 locs1 hP1 _ hS1 => kk H1 locs1 (back _ _ hP1) hS1
theorem wb_putF (hexec : p.tables.exec = Jvm.exec) (hb : c.code = cc) {own ref C : String} {T : u_T} {N ci index : Nat} {Ts : List Cond} (hts : ∀ w ∈ Ts, w.before args s = true) (hin : ∀ w ∈ u_ws C T N, w ∈ Ts) (ty0 : Nat → FieldType) (hty : ∀ k, k < N → parseFieldDescriptor (T k).2.2.1 = some (ty0 k)) (hnm : ∀ a, a < N → ∀ b, b < N → a ≠ b → (T a).2.1 ≠ (T b).2.1) (hown : s.vm.findClass own = some m.cls) (hK : va_K D vwCl tys s) (hW : wP D A lv ad ct H) (hS : va_S A H0 H locs) (r : Nat) (hr : lv r) {fs : List Value} (he : ct r = .inr (ci, fs)) (hc : vwCl[ci]? = some (C, T, N)) (k : Nat) (hk : k < N) (hlink : (Cond.fieldLink own index ref (T k).2.1 (T k).2.2.1).before args s = true) (hsame : ∀ x, s.fieldFound? (T k).1 (T k).2.1 (T k).2.2.1 = some x → s.fieldFound? ref (T k).2.1 (T k).2.2.1 = some x) (hfin : (T k).2.2.2 = true) (hin2 : meth.name = "<init>") (hdecl : (T k).1 = own) {ty : FieldType} {v : Value} (hd : parseFieldDescriptor (T k).2.2.1 = some ty) (hn : narrow ty v = v) (hfit : fits ty v = true) (hl : k < fs.length)
    (hdg : decode cc pc = .ok (.putfield index, 3)) (kk : ∀ (H1 : Heap) (locs1 : List Loc), wP D A lv ad (va_up ct r (.inr (ci, fs.set k v))) H1 → va_S A H0 H1 locs1 → W p l e R s m args below meth c H1 locs1 cells slots Q (F0 m (pc + 3) ls rest)) : W p l e R s m args below meth c H locs cells slots Q (F0 m pc ls (v :: .ref (ad r) :: rest)) := by
  obtain ⟨ws, h0, -, hP, hD, back⟩ := hW.open_ hr
  exact va_putF hexec hb hts hin ty0 hty hnm hown hK hP hD hS 0 (by rw [h0, he]) hc k hk hlink hsame hfin hin2 hdecl hd hn hfit hl hdg fun H1 locs1 hP1 _ hS1 => kk H1 locs1 (back _ _ hP1) hS1
/-- the index is a small number -/
theorem wb_iald (hexec : p.tables.exec = Jvm.exec) (hb : c.code = cc) (hK : va_K D vwCl tys s) (hW : wP D A lv ad ct H) (r : Nat) (hr : lv r) (t0 : Nat) {cA : ClassId} {n : Nat} {f : Nat → Int32} (he : ct r = .inl (cA, n, .inl f)) (ht : tys[t0]? = some (cA, .int)) {i : Int32} (j : Nat) (hi : i = nI j) (hj : j < n) (hn : n < 1000) (hdg : decode cc pc = .ok (.iaload, 1))
    (kk : W p l e R s m args below meth c H locs cells slots Q (F0 m (pc + 1) ls (.int (f j) :: rest))) : W p l e R s m args below meth c H locs cells slots Q (F0 m pc ls (.int i :: .ref (ad r) :: rest)) := by
  subst hi
  obtain ⟨ws, h0, -, hP, hD, -⟩ := hW.open_ hr
  exact va_iald hexec hb hK hP 0 t0 (by rw [h0, he]) ht (vp_in_nI hj (by omega)) hdg (by rw [nI_clamp (by omega)]; exact kk)
theorem wb_zald (hexec : p.tables.exec = Jvm.exec) (hb : c.code = cc) (hK : va_K D vwCl tys s) (hW : wP D A lv ad ct H) (r : Nat) (hr : lv r) (t0 : Nat) {cA : ClassId} {n : Nat} {f : Nat → Int32} (he : ct r = .inl (cA, n, .inl f)) (ht : tys[t0]? = some (cA, .boolean)) {i : Int32} (j : Nat) (hi : i = nI j) (hj : j < n) (hn : n < 1000) (hdg : decode cc pc = .ok (.baload, 1))
    (kk : W p l e R s m args below meth c H locs cells slots Q (F0 m (pc + 1) ls (.int (f j) :: rest))) : W p l e R s m args below meth c H locs cells slots Q (F0 m pc ls (.int i :: .ref (ad r) :: rest)) := by
  subst hi
  obtain ⟨ws, h0, -, hP, hD, -⟩ := hW.open_ hr
  exact va_zald hexec hb hK hP 0 t0 (by rw [h0, he]) ht (vp_in_nI hj (by omega)) hdg (by rw [nI_clamp (by omega)]; exact kk)
theorem wb_aald (hexec : p.tables.exec = Jvm.exec) (hb : c.code = cc) (hK : va_K D vwCl tys s) (hW : wP D A lv ad ct H) (r : Nat) (hr : lv r) (t0 : Nat) {cA : ClassId} {C : String} {n : Nat} {f : Nat → Option Nat} (he : ct r = .inl (cA, n, .inr (.inr (.inr (.inr f))))) (ht : tys[t0]? = some (cA, .object C)) {i : Int32} (j : Nat) (hi : i = nI j) (hj : j < n) (hn : n < 1000) (hdg : decode cc pc = .ok (.aaload, 1))
    (kk : W p l e R s m args below meth c H locs cells slots Q (F0 m (pc + 1) ls (va_rf (f j) :: rest))) : W p l e R s m args below meth c H locs cells slots Q (F0 m pc ls (.int i :: .ref (ad r) :: rest)) := by
  subst hi
  obtain ⟨ws, h0, -, hP, hD, -⟩ := hW.open_ hr
  exact va_aldq hexec hb hK hP 0 t0 (by rw [h0, he]) ht (vp_in_nI hj (by omega)) hdg (by rw [nI_clamp (by omega)]; exact kk)
theorem wb_aaldI (hexec : p.tables.exec = Jvm.exec) (hb : c.code = cc) (hK : va_K D vwCl tys s) (hW : wP D A lv ad ct H) (r : Nat) (hr : lv r) (t0 : Nat) {cA : ClassId} {n : Nat} {f : Nat → Option Nat} (he : ct r = .inl (cA, n, .inr (.inr (.inr (.inr f))))) (ht : tys[t0]? = some (cA, .array .int)) {i : Int32} (j : Nat) (hi : i = nI j) (hj : j < n) (hn : n < 1000) (hdg : decode cc pc = .ok (.aaload, 1))
    (kk : W p l e R s m args below meth c H locs cells slots Q (F0 m (pc + 1) ls (va_rf (f j) :: rest))) : W p l e R s m args below meth c H locs cells slots Q (F0 m pc ls (.int i :: .ref (ad r) :: rest)) := by
  subst hi
  have h0 : va_at D vwCl (ad r, .inl (cA, n, .inr (.inr (.inr (.inr f))))) H := by
    have := hW.hat hr
    rw [he] at this
    exact this
  have h1 : H[ad r]? = some (arrV cA n (fun j => va_rf (f j))) := by rw [← vp_cell_q]; exact h0
  exact W.aald (v := va_rf (f j)) (ty := .array .int) hexec hb h1 ((hK.2 t0 _ ht).1 n (fun j => va_rf (f j))) rfl (fun q => by cases q) (by show ¬ (_ < 0 ∨ (arrV _ _ _).slots.size ≤ _); rw [arrV_size]; exact vp_in_nI hj (by omega)) (by show (arrV _ _ _).slots[_]? = _; rw [nI_clamp (by omega), arrV_read _ _ hj]) rfl rfl hdg kk
theorem wb_alen (hexec : p.tables.exec = Jvm.exec) (hb : c.code = cc) (hK : va_K D vwCl tys s) (hW : wP D A lv ad ct H) (r : Nat) (hr : lv r) (t0 : Nat) {cA : ClassId} {n : Nat} {x : (Nat → Int32) ⊕ (Nat → Int64) ⊕ (Nat → UInt32) ⊕ (Nat → UInt64) ⊕ (Nat → Option Nat)} (he : ct r = .inl (cA, n, x)) {ty : FieldType} (ht : tys[t0]? = some (cA, ty)) (hdg : decode cc pc = .ok (.arraylength, 1))
    (kk : W p l e R s m args below meth c H locs cells slots Q (F0 m (pc + 1) ls (.int (nI n) :: rest))) : W p l e R s m args below meth c H locs cells slots Q (F0 m pc ls (.ref (ad r) :: rest)) := by
  obtain ⟨ws, h0, -, hP, hD, -⟩ := hW.open_ hr
  exact va_alen hexec hb hK hP 0 t0 (by rw [h0, he]) ht hdg kk
theorem wb_iast (hexec : p.tables.exec = Jvm.exec) (hb : c.code = cc) (hK : va_K D vwCl tys s) (hW : wP D A lv ad ct H) (hS : va_S A H0 H locs) (r : Nat) (hr : lv r) (t0 : Nat) {cA : ClassId} {n : Nat} {f : Nat → Int32} (he : ct r = .inl (cA, n, .inl f)) (ht : tys[t0]? = some (cA, .int)) {i x : Int32} (j : Nat) (hi : i = nI j) (hj : j < n) (hn : n < 1000) (hdg : decode cc pc = .ok (.iastore, 1))
    (kk : ∀ (H1 : Heap) (locs1 : List Loc), wP D A lv ad (va_up ct r (.inl (cA, n, .inl (upd f j x)))) H1 → va_S A H0 H1 locs1 → W p l e R s m args below meth c H1 locs1 cells slots Q (F0 m (pc + 1) ls rest)) : W p l e R s m args below meth c H locs cells slots Q (F0 m pc ls (.int x :: .int i :: .ref (ad r) :: rest)) := by
  subst hi
  obtain ⟨ws, h0, -, hP, hD, back⟩ := hW.open_ hr
  refine va_iast hexec hb hK hP hD hS 0 t0 (by rw [h0, he]) ht (vp_in_nI hj (by omega)) hdg fun H1 locs1 hP1 _ hS1 => ?_
  rw [nI_clamp (by omega)] at hP1
  exact kk H1 locs1 (back _ _ hP1) hS1
theorem wb_zast (hexec : p.tables.exec = Jvm.exec) (hb : c.code = cc) (hK : va_K D vwCl tys s) (hW : wP D A lv ad ct H) (hS : va_S A H0 H locs) (r : Nat) (hr : lv r) (t0 : Nat) {cA : ClassId} {n : Nat} {f : Nat → Int32} (he : ct r = .inl (cA, n, .inl f)) (ht : tys[t0]? = some (cA, .boolean)) {i x : Int32} (hx1 : vp_nar .boolean x = x) (j : Nat) (hi : i = nI j) (hj : j < n) (hn : n < 1000) (hdg : decode cc pc = .ok (.bastore, 1))
    (kk : ∀ (H1 : Heap) (locs1 : List Loc), wP D A lv ad (va_up ct r (.inl (cA, n, .inl (upd f j x)))) H1 → va_S A H0 H1 locs1 → W p l e R s m args below meth c H1 locs1 cells slots Q (F0 m (pc + 1) ls rest)) : W p l e R s m args below meth c H locs cells slots Q (F0 m pc ls (.int x :: .int i :: .ref (ad r) :: rest)) := by
  subst hi
  obtain ⟨ws, h0, -, hP, hD, back⟩ := hW.open_ hr
  refine va_zast hexec hb hK hP hD hS 0 t0 (by rw [h0, he]) ht (vp_in_nI hj (by omega)) hdg fun H1 locs1 hP1 _ hS1 => ?_
  rw [nI_clamp (by omega), hx1] at hP1
  exact kk H1 locs1 (back _ _ hP1) hS1
theorem wb_aast (hexec : p.tables.exec = Jvm.exec) (hb : c.code = cc) (hK : va_K D vwCl tys s) (hW : wP D A lv ad ct H) (hS : va_S A H0 H locs) (r rv : Nat) (hr : lv r) (hrv : lv rv) (t0 ci : Nat) {E : String} {cA : ClassId} {q : vw_C} {n : Nat} {vs : List Value} {f : Nat → Option Nat} (he : ct r = .inl (cA, n, .inr (.inr (.inr (.inr f))))) (ht : tys[t0]? = some (cA, .object E)) (hca : va_Nw (.castable q.1 E) s) (hv : ct rv = .inr (ci, vs)) (hc : vwCl[ci]? = some q) {i : Int32} (j : Nat) (hi : i = nI j) (hj : j < n) (hn : n < 1000) (hdg : decode cc pc = .ok (.aastore, 1))
    (kk : ∀ (H1 : Heap) (locs1 : List Loc), wP D A lv ad (va_up ct r (.inl (cA, n, .inr (.inr (.inr (.inr (va_up f j (some (ad rv)))))))) ) H1 → va_S A H0 H1 locs1 → W p l e R s m args below meth c H1 locs1 cells slots Q (F0 m (pc + 1) ls rest)) : W p l e R s m args below meth c H locs cells slots Q (F0 m pc ls (.ref (ad rv) :: .int i :: .ref (ad r) :: rest)) := by
  subst hi
  obtain ⟨ws, h0, hall, hP, hD, back⟩ := hW.open_ hr
  obtain ⟨kv, hkv⟩ := hall rv hrv
  refine va_astqO hexec hb hK hP hD hS 0 t0 kv ci (by rw [h0, he]) ht hca (by rw [hkv, hv]) hc (vp_in_nI hj (by omega)) hdg fun H1 locs1 hP1 _ hS1 => ?_
  rw [nI_clamp (by omega)] at hP1
  exact kk H1 locs1 (back _ _ hP1) hS1
theorem wb_new (hexec : p.tables.exec = Jvm.exec) (hb : c.code = cc) {own C : String} {T : u_T} {N ci index : Nat} {Ts : List Cond} (hts : ∀ w ∈ Ts, w.before args s = true) (hin : ∀ w ∈ u_ws C T N, w ∈ Ts) (ty : Nat → FieldType) (hty : ∀ k, k < N → parseFieldDescriptor (T k).2.2.1 = some (ty k)) (hown : s.vm.findClass own = some m.cls) (hcl : (Cond.classLink own index C).before args s = true) (hinst : (Cond.instantiable C N).before args s = true) (hini : (Cond.initialized C).before args s = true)
    (hK : va_K D vwCl tys s) (hW : wP D A lv ad ct H) (hS : va_S A H0 H locs) (hA : ∀ q, H0.size ≤ q → A q) (r : Nat) (hr : ¬ lv r) (h64 : r < 64) (hc : vwCl[ci]? = some (C, T, N)) {fs : List Value} (hfs : ∀ j, j < N → defaultValue (ty j) = vp_V fs j) (hcells : cells + 1 ≤ R.cells) (hslots : slots + N ≤ R.slots) (hdg : decode cc pc = .ok (.new index, 3))
    (kk : ∀ (q : Nat) (H1 : Heap), wP D A (fun z => lv z ∨ z = r) (va_up ad r q) (va_up ct r (.inr (ci, fs))) H1 → va_S A H0 H1 locs →
      W p l e R s m args below meth c H1 locs (cells + 1) (slots + N) Q (F0 m (pc + 3) ls (.ref q :: rest))) : W p l e R s m args below meth c H locs cells slots Q (F0 m pc ls rest) := by
  obtain ⟨ws, hP, hD, back⟩ := hW.openN hr h64
  exact va_new hexec hb hts hin ty hty hown hcl hinst hini hK hP hD hS hA hc hfs hcells hslots hdg fun q H1 hP1 hD1 hS1 => kk q H1 (back _ _ _ hP1 hD1) hS1
theorem wb_newa (hexec : p.tables.exec = Jvm.exec) (hb : c.code = cc) {atype : ArrayType} (harr : (Cond.arrayClass (newarray.typeOf atype)).before args s = true) {ty : FieldType} (hty : newarray.typeOf atype = ty) (hK : va_K D vwCl tys s) (hW : wP D A lv ad ct H) (hS : va_S A H0 H locs) (hA : ∀ q, H0.size ≤ q → A q) (r : Nat) (hr : ¬ lv r) (h64 : r < 64) (t0 : Nat) {cA : ClassId} (ht : tys[t0]? = some (cA, ty)) (hno : ∀ C, ty ≠ .object C)
    {n : Int32} {N' : Nat} {a0 : vp_A} (ha : ∀ cA : ClassId, vp_cell cA a0 = arrV cA N' (fun _ => defaultValue ty)) (hn : ¬ n < 0) (hN : n.toNatClampNeg = N') (hbytes : N' * componentBytes ty ≤ 536870912) (hcells : cells + 1 ≤ R.cells) (hslots : slots + N' ≤ R.slots) (hdg : decode cc pc = .ok (.newarray atype, 2))
    (kk : ∀ (q : Nat) (H1 : Heap), wP D A (fun z => lv z ∨ z = r) (va_up ad r q) (va_up ct r (.inl (cA, a0))) H1 → va_S A H0 H1 locs →
      W p l e R s m args below meth c H1 locs (cells + 1) (slots + N') Q (F0 m (pc + 2) ls (.ref q :: rest))) : W p l e R s m args below meth c H locs cells slots Q (F0 m pc ls (.int n :: rest)) := by
  obtain ⟨ws, hP, hD, back⟩ := hW.openN hr h64
  refine va_newa hexec hb harr hty hK hP hD hS hA ha hn hN hbytes hcells hslots hdg fun q cA' H1 hK1 hP1 hD1 hS1 => ?_
  have e1 : cA' = cA := by
    have h1 := (hK.2 t0 _ ht).2
    have h2 := (hK1.2 tys.length (cA', ty) (by rw [List.getElem?_append_right (Nat.le_refl _), Nat.sub_self]; rfl)).2
    cases ty with
    | object C => exact absurd rfl (hno C)
    | _ => exact Option.some.inj (h2.symm.trans h1)
  subst e1
  exact kk q H1 (back _ _ _ hP1 hD1) hS1
theorem wb_newq (hexec : p.tables.exec = Jvm.exec) (hb : c.code = cc) {own C : String} {index : Nat} (hown : s.vm.findClass own = some m.cls) (hclink : (Cond.classLink own index C).before args s = true) (hover : va_AO C s) (hK : va_K D vwCl tys s) (hW : wP D A lv ad ct H) (hS : va_S A H0 H locs) (hA : ∀ q, H0.size ≤ q → A q) (r : Nat) (hr : ¬ lv r) (h64 : r < 64) (t0 : Nat) {cA : ClassId} (ht : tys[t0]? = some (cA, .object C))
    {n : Int32} {N' : Nat} (hn : ¬ n < 0) (hN : n.toNatClampNeg = N') (hbytes : N' * 4 ≤ 536870912) (hcells : cells + 1 ≤ R.cells) (hslots : slots + N' ≤ R.slots) (hdg : decode cc pc = .ok (.anewarray index, 3))
    (kk : ∀ (q : Nat) (H1 : Heap), wP D A (fun z => lv z ∨ z = r) (va_up ad r q) (va_up ct r (.inl (cA, N', .inr (.inr (.inr (.inr (fun _ => none))))))) H1 → va_S A H0 H1 locs →
      W p l e R s m args below meth c H1 locs (cells + 1) (slots + N') Q (F0 m (pc + 3) ls (.ref q :: rest))) : W p l e R s m args below meth c H locs cells slots Q (F0 m pc ls (.int n :: rest)) := by
  obtain ⟨ws, hP, hD, back⟩ := hW.openN hr h64
  refine va_newq hexec hb hown hclink hover hK hP hD hS hA hn hN hbytes hcells hslots hdg fun q cA' H1 hK1 hP1 hD1 hS1 => ?_
  have e1 : cA' = cA := by
    obtain ⟨-, _, _, -, -, -, h1⟩ := hK.2 t0 _ ht
    obtain ⟨-, _, _, -, -, -, h2⟩ := hK1.2 tys.length (cA', .object C) (by rw [List.getElem?_append_right (Nat.le_refl _), Nat.sub_self]; rfl)
    exact Option.some.inj (h2.symm.trans h1)
  subst e1
  exact kk q H1 (back _ _ _ hP1 hD1) hS1
theorem wb_recv {s : State} {q : vw_C} {r ci : Nat} {fs : List Value} (hK : va_K D vwCl tys s) (hW : wP D A lv ad ct H) (hr : lv r) (hc : vwCl[ci]? = some q) (he : ct r = .inr (ci, fs)) : ∃ cell : Cell, H[ad r]? = some cell ∧ cell.vm.isStatics = false ∧ s.vm.findClass q.1 = some cell.cls := by
  obtain ⟨ws, h0, -, hP, hD, -⟩ := hW.open_ hr
  exact va_recv hK hP hc (q0 := 0) (fs := fs) (by rw [h0, he])
end WB
end
