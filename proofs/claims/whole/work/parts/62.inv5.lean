theorem xi_lt {n i : Nat} {x : Int32} (h : xi n x = some i) : i < n := by
  unfold xi at h
  split at h
  · rename_i hc
    have e := Option.some.inj h
    have h0 : ¬ x < 0 := by rw [Int32.lt_iff_toInt_lt, Int32.toInt_zero]; omega
    obtain ⟨j, hj, rfl⟩ := nI_of h0
    rw [nI_toInt hj] at hc
    rw [nI_clamp hj] at e
    omega
  · cases h
theorem IF_today {σ : xS} {x1 : Int32} (h : Inv σ) : Inv (f_today σ x1).1 := by
  unfold f_today
  split
  · exact Inv_today h
  · exact h
theorem IF_tolerance {σ : xS} {x1 : Int32} (h : Inv σ) : Inv (f_tolerance σ x1).1 := by
  unfold f_tolerance
  split
  · rename_i hx; exact Inv_tol h (xin_nn hx)
  · exact h
theorem IF_parts {σ : xS} {x1 x2 x3 : Int32} (h : Inv σ) : Inv (f_parts σ x1 x2 x3).1 := by
  unfold f_parts
  cases e : xi (σ.1 0) x1 with
  | none => exact h
  | some i =>
    have hi := xi_lt e
    simp only [opt_s]
    split
    · exact h
    · split
      · exact h
      · split
        · exact h
        · cases e2 : xi 4 x2 with
          | none => exact h
          | some k =>
            simp only [opt_s]
            split
            · exact Inv_parts h hi
            · exact h
theorem IF_assay {σ : xS} {x1 x2 x3 x4 : Int32} (h : Inv σ) : Inv (f_assay σ x1 x2 x3 x4).1 := by
  unfold f_assay
  cases e : xi (σ.1 0) x1 with
  | none => exact h
  | some i =>
    have hi := xi_lt e
    simp only [opt_s]
    split
    · exact h
    · cases e2 : xi 4 x3 with
      | none => exact h
      | some k =>
        cases e3 : xi 3 x2 with
        | none => exact h
        | some j =>
          simp only [opt_s]
          split
          · rename_i hx; exact Inv_assay h hi (xin_nn hx)
          · exact h
theorem IF_price {σ : xS} {x1 x2 : Int32} {x3 : Int64} (h : Inv σ) : Inv (f_price σ x1 x2 x3).1 := by
  unfold f_price
  cases e : xi 4 x1 with
  | none => exact h
  | some k =>
    have hk := xi_lt e
    simp only [opt_s]
    split
    · split
      · unfold f_append
        split
        · rename_i hc
          split
          · exact Inv_price h hk hc
          · split
            · exact Inv_price h hk hc
            · exact h
        · exact h
      · exact h
    · exact h
theorem IF_sell {σ : xS} {x1 : Int32} (h : Inv σ) : Inv (f_sell σ x1).1 := by
  unfold f_sell
  cases e : xi (σ.1 1) x1 with
  | none => exact h
  | some j => exact Inv_sell h
theorem IF_stage {σ : xS} {x1 x2 x3 : Int32} (h : Inv σ) : Inv (f_stage σ x1 x2 x3).1 := by
  unfold f_stage
  split
  · split
    · rename_i hc
      split
      · split
        · exact Inv_stage h hc
        · exact h
      · exact h
    · exact h
  · exact h
theorem IF_rule {σ : xS} {x1 x2 x3 x4 : Int32} (h : Inv σ) : Inv (f_rule σ x1 x2 x3 x4).1 := by
  unfold f_rule
  split
  · split
    · rename_i hx
      split
      · rename_i hc
        split
        · split
          · exact Inv_rule h hc hx
          · exact h
        · exact h
      · exact h
    · exact h
  · exact h
theorem IF_batch {σ : xS} {g : Int64} (h : Inv σ) : Inv (f_batch σ g).1 := by
  unfold f_batch
  split
  · rename_i hg
    split
    · rename_i hc
      have h1 := xin_g hg
      refine Inv_new h hc h1.1 ?_
      have h2 := pw_1 (σ.1 0)
      have h3 : (2 : Int) ^ (σ.1 0 + 2) = 4 * 2 ^ σ.1 0 := by rw [Int.pow_succ, Int.pow_succ]; omega
      rw [h3]
      omega
    · exact h
  · exact h
theorem IF_run {σ : xS} {x1 : Int32} (h : Inv σ) : Inv (f_run σ x1).1 := by
  unfold f_run
  cases e : xi (σ.1 0) x1 with
  | none => exact h
  | some i =>
    have hi := xi_lt e
    simp only [opt_s]
    split
    · exact h
    · split
      · exact h
      · rename_i hz; exact Inv_run h hi (by simpa using hz)
theorem IF_mix {σ : xS} {x1 x2 : Int32} (h : Inv σ) : Inv (f_mix σ x1 x2).1 := by
  unfold f_mix
  cases e : xi (σ.1 0) x1 with
  | none => exact h
  | some i =>
    cases e2 : xi (σ.1 0) x2 with
    | none => exact h
    | some j =>
      have hi := xi_lt e
      have hj := xi_lt e2
      simp only [opt_s]
      split
      · exact h
      · rename_i hne
        split
        · rename_i hc
          split
          · exact h
          · split
            · exact h
            · split
              · exact Inv_mix h hi hj hne hc
              · exact h
        · exact h
