/-- what stands at the law: the machine, the words, the script, the classes -/
def LC (p : Program) (s : State) (m : MethodId) (c : Code) (b L : Nat) (xs : Nat → Int32) (D : va_G) (K : Nat → ClassId) : Prop :=
  p.tables.exec = Jvm.exec ∧ c.code = b_L_law ∧ c.maxLocals = 4 ∧ s.vm.findClass R_L = some m.cls ∧ (∀ w ∈ xW0, w.before #[Value.ref b] s = true) ∧ va_X b L xs s s.heap ∧ b < s.heap.size ∧ L ≤ 2560 ∧ va_K D vwCl (xT K) s ∧ xN xNW s
/-- at the loop's head: both have the same numbers -/
def LI (D : va_G) (K : Nat → ClassId) (s : State) (b q0 q1 i : Nat) (H : Heap) (locs : List Loc) (ls : Array Slot) : Prop :=
  lv_has ls 4 [(3, .int (nI i)), (2, .ref q1), (1, .ref q0), (0, .ref b)] ∧ va_S (fun q => s.heap.size ≤ q) s.heap H locs ∧ ∃ (σ : xS) (ad : Nat → Nat) (w : Nat → Option va_E), Inv σ ∧ RepX K σ ad w ∧ RepM K σ ad w ∧ xw D vwCl s.heap.size ad w H ∧ ad 0 = q0 ∧ ad 200 = q1
theorem RepM_at {K : Nat → ClassId} {σ : xS} {ad : Nat → Nat} {w : Nat → Option va_E} (h : RepM K σ ad w) : ∃ fs : List Value, w 200 = some (.inr (5, fs)) := by
  obtain ⟨_, _, _, _, h, _⟩ := h
  exact ⟨_, h⟩
def nil_w : Nat → Option va_E := fun _ => none
def nil_a : Nat → Nat := fun _ => 0
theorem xw_nil {D : va_G} {cl : List vw_C} {B : Nat} {H : Heap} : xw D cl B nil_a nil_w H := ⟨fun t e h => (by cases h), fun t u h => absurd rfl h, fun t h => absurd rfl h⟩
