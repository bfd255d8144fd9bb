theorem cbad_use {s : State} {args : Array Value} (h : ∀ w ∈ cbad, va_Nw w s) : ∀ w ∈ cbad, w.before args s = true := by
  intro w hw
  have h1 := h w hw
  simp only [cbad, List.mem_cons, List.not_mem_nil, or_false] at hw
  rcases hw with rfl | rfl | rfl | rfl | rfl | rfl | rfl | rfl <;> exact va_Nw.use rfl h1
def xA : String := "java/lang/IllegalArgumentException"
def xS : String := "java/lang/IllegalStateException"
def xI : String := "java/lang/IndexOutOfBoundsException"
abbrev dueOk (g : Nat → Int32) (w : Int32) : Prop := ¬ w ≤ g 0 ∧ ¬ 600 < w
theorem x3a_g : ∀ w ∈ Cond.classLink RX3 160 "java/lang/IllegalArgumentException" :: Cond.initialized "java/lang/IllegalArgumentException" :: vx_atS RX3 164 "java/lang/IllegalArgumentException" ["java/lang/RuntimeException", "java/lang/Exception"], vx_ot w = true := by decide +kernel
theorem x3s_g : ∀ w ∈ Cond.classLink RX3 54 "java/lang/IllegalStateException" :: Cond.initialized "java/lang/IllegalStateException" :: vx_atS RX3 58 "java/lang/IllegalStateException" ["java/lang/RuntimeException", "java/lang/Exception"], vx_ot w = true := by decide +kernel
theorem x3i_g : ∀ w ∈ Cond.classLink RX3 169 "java/lang/IndexOutOfBoundsException" :: Cond.initialized "java/lang/IndexOutOfBoundsException" :: vx_atS RX3 173 "java/lang/IndexOutOfBoundsException" ["java/lang/RuntimeException", "java/lang/Exception"], vx_ot w = true := by decide +kernel
/-- a thrown call leaves the old cells -/
theorem xF0 {s t : State} {H : Heap} {locs : List Loc} (hS : va_S (fun _ => False) s.heap H locs) (hz : H.size ≤ t.heap.size) (hk : ∀ q : Nat, q < H.size → t.heap[q]? = H[q]?) : va_F (fun _ => False) s t :=
  ⟨Nat.le_trans hS.1 hz, fun q h _ => (hk q (Nat.lt_of_lt_of_le h hS.1)).trans (hS.2.1 q h (fun f => f))⟩
theorem xFA {A : Nat → Prop} {s t : State} {H : Heap} {locs : List Loc} (hS : va_S A s.heap H locs) (hz : H.size ≤ t.heap.size) (hk : ∀ q : Nat, q < H.size → t.heap[q]? = H[q]?) : va_F A s t :=
  ⟨Nat.le_trans hS.1 hz, fun q h ha => (hk q (Nat.lt_of_lt_of_le h hS.1)).trans (hS.2.1 q h ha)⟩
