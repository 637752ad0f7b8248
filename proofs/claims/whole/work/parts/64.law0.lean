/-- the array classes that the tables name -/
theorem xK_prim {s : State} {args : Array Value} {ty : FieldType} (h : (Cond.arrayClass ty).before args s = true) (hno : ∀ C, ty ≠ .object C) : ∃ cA : ClassId, ArrOfT s cA ty ∧ va_RA s cA ty := by
  obtain ⟨c, k, comp, h1, h2, h3⟩ := Cond.arrayClass_spec h
  refine ⟨c, fun n z => ⟨fun k h => (by cases h), k, h2, comp, h3⟩, ?_⟩
  cases ty with
  | object C => exact absurd rfl (hno C)
  | _ => exact h1
theorem xK_obj {s : State} {C : String} (h : va_AO C s) : ∃ cA : ClassId, ArrOfT s cA (.object C) ∧ va_RA s cA (.object C) := by
  obtain ⟨comp, c, k, h1, -, h3, h4, h5⟩ := Cond.arrayOver_spec h
  exact ⟨c, fun n z => ⟨fun k h => (by cases h), k, h3, comp, h4⟩, k, comp, h3, h4, h1, h5⟩
/-- a loop that makes cells: their count grows with n -/
theorem xloopC {p : Program} {l : Launch} {e : Env} {R : Room} {s : State} {m : MethodId} {args : Array Value} {below : List Frame} {meth : Method} {c : Code} {Q : State → Prop} {pc : Nat} {H : Heap} {locs : List Loc} {ls : Array Slot}
    (c0 c1 s0 s1 : Nat) (N : Nat) (I : Nat → Heap → List Loc → Array Slot → Prop) (hI : I 0 H locs ls)
    (hs : ∀ (n : Nat) (H : Heap) (locs : List Loc) (ls : Array Slot), n ≤ N → I n H locs ls → (n < N → ∀ (H1 : Heap) (locs1 : List Loc) (ls1 : Array Slot), I (n + 1) H1 locs1 ls1 → W p l e R s m args below meth c H1 locs1 (c0 + c1 * n + c1) (s0 + s1 * n + s1) Q (F0 m pc ls1 [])) → W p l e R s m args below meth c H locs (c0 + c1 * n) (s0 + s1 * n) Q (F0 m pc ls [])) :
    W p l e R s m args below meth c H locs c0 s0 Q (F0 m pc ls []) := by
  have key : ∀ (r n : Nat) (H : Heap) (locs : List Loc) (ls : Array Slot), n + r = N → I n H locs ls → W p l e R s m args below meth c H locs (c0 + c1 * n) (s0 + s1 * n) Q (F0 m pc ls []) := by
    intro r
    induction r with
    | zero => intro n H locs ls hn hI; exact hs n H locs ls (by omega) hI (fun h => absurd h (by omega))
    | succ r ih => intro n H locs ls hn hI; exact hs n H locs ls (by omega) hI (fun _ H1 locs1 ls1 h => by rw [Nat.add_assoc, Nat.add_assoc, ← Nat.mul_succ, ← Nat.mul_succ]; exact ih (n + 1) H1 locs1 ls1 (by omega) h)
  exact key N 0 H locs ls (by omega) hI
theorem fq_same {n b : Nat} {ad ad1 : Nat → Nat} (h : ∀ i, i < n → ad1 (b + i) = ad (b + i)) : (fun i => if i < n then some (ad1 (b + i)) else none) = fun i => if i < n then some (ad (b + i)) else none := by
  funext i
  by_cases hi : i < n
  · rw [if_pos hi, if_pos hi, h i hi]
  · rw [if_neg hi, if_neg hi]
theorem RepX_frame {K : Nat → ClassId} {σ : xS} {ad ad1 : Nat → Nat} {w w1 : Nat → Option va_E} (hnb : σ.1 0 ≤ 8) (hns : σ.1 1 ≤ 6) (hnr : σ.1 2 ≤ 8) (h : ∀ t, t < 200 → w1 t = w t ∧ ad1 t = ad t) (hR : RepX K σ ad w) : RepX K σ ad1 w1 := by
  obtain ⟨r0, r1, r2, r3, r4, r5, r6, r7, rb, rba, rbt, rbo, rs, rss, rr⟩ := hR
  have hw : ∀ t, t < 200 → w1 t = w t := fun t ht => (h t ht).1
  have ha : ∀ t, t < 200 → ad1 t = ad t := fun t ht => (h t ht).2
  have f1 := fq_same (n := σ.1 0) (b := 100) (ad := ad) (ad1 := ad1) (fun i hi => ha _ (by omega))
  have f2 := fq_same (n := σ.1 1) (b := 140) (ad := ad) (ad1 := ad1) (fun i hi => ha _ (by omega))
  have f3 := fq_same (n := σ.1 2) (b := 160) (ad := ad) (ad1 := ad1) (fun i hi => ha _ (by omega))
  refine ⟨?_, ?_, ?_, ?_, ?_, ?_, ?_, ?_, fun i hi => ?_, fun i hi => ?_, fun i hi => ?_, fun i hi => ?_, fun i hi => ?_, fun i hi => ?_, fun i hi => ?_⟩
  · simp (disch := omega) only [hw, ha, r0]
  · rw [f1, hw 1 (by omega)]; exact r1
  · rw [f2, hw 2 (by omega)]; exact r2
  · rw [f3, hw 3 (by omega)]; exact r3
  · simp (disch := omega) only [hw, ha, r4]
  · rw [hw 5 (by omega)]; exact r5
  · rw [hw 6 (by omega)]; exact r6
  · rw [hw 7 (by omega)]; exact r7
  · simp (disch := omega) only [hw, ha, rb i hi]
  · rw [hw (110 + i) (by omega)]; exact rba i hi
  · rw [hw (120 + i) (by omega)]; exact rbt i hi
  · rw [hw (130 + i) (by omega)]; exact rbo i hi
  · simp (disch := omega) only [hw, ha, rs i hi]
  · rw [hw (150 + i) (by omega)]; exact rss i hi
  · rw [hw (160 + i) (by omega)]; exact rr i hi
theorem RepM_frame {K : Nat → ClassId} {σ : xS} {ad ad1 : Nat → Nat} {w w1 : Nat → Option va_E} (h : ∀ t, 200 ≤ t → w1 t = w t ∧ ad1 t = ad t) (hR : RepM K σ ad w) : RepM K σ ad1 w1 := by
  have hw : ∀ t, 200 ≤ t → w1 t = w t := fun t ht => (h t ht).1
  have ha : ∀ t, 200 ≤ t → ad1 t = ad t := fun t ht => (h t ht).2
  unfold RepM at *
  simp (disch := omega) only [hw, ha]
  exact hR
