theorem pw_sum {i j n : Nat} (hi : i < n) (hj : j < n) (hne : i ≠ j) : (2 : Int) ^ (i + 2) + 2 ^ (j + 2) ≤ 2 ^ (n + 2) := by
  have key : ∀ a b : Nat, a < b → b < n → 2 ^ (a + 2) + 2 ^ (b + 2) ≤ 2 ^ (n + 2) := by
    intro a b hab hb
    have h1 : 2 ^ (a + 2) ≤ 2 ^ (b + 1) := Nat.pow_le_pow_right (by decide) (by omega)
    have h2 : 2 ^ (b + 2) ≤ 2 ^ (n + 1) := Nat.pow_le_pow_right (by decide) (by omega)
    have h3 : 2 ^ (b + 2) = 2 * 2 ^ (b + 1) := by rw [Nat.pow_succ]; omega
    have h4 : 2 ^ (n + 2) = 2 * 2 ^ (n + 1) := by rw [Nat.pow_succ]; omega
    omega
  have h : 2 ^ (i + 2) + 2 ^ (j + 2) ≤ 2 ^ (n + 2) := by
    rcases Nat.lt_or_gt_of_ne hne with h | h
    · exact key i j h hj
    · have := key j i h hi; omega
  exact_mod_cast h
theorem add_b {a b : Int64} (ha : 0 ≤ a.toInt ∧ a.toInt ≤ 2 ^ 60) (hb : 0 ≤ b.toInt ∧ b.toInt ≤ 2 ^ 60) : (a + b).toInt = a.toInt + b.toInt := by
  rw [Int64.toInt_add]
  exact bm64 (by omega) (by omega)
theorem mixw {σ : xS} {i j : Nat} (h : Inv σ) (hi : i < σ.1 0) (hj : j < σ.1 0) (hne : i ≠ j) : 0 ≤ (σ.2.2.1 1 i + σ.2.2.1 1 j).toInt ∧ (σ.2.2.1 1 i + σ.2.2.1 1 j).toInt ≤ 2 ^ 47 * (2 ^ (σ.1 0 + 2) - 3) := by
  obtain ⟨hnb, hns, hnr, hpc, hst, hto, htl, hrm, hpa, hwt, hdf, hds⟩ := h
  have ai := hwt i hi
  have aj := hwt j hj
  have bi := hwt_55 (by omega) ai.2
  have bj := hwt_55 (by omega) aj.2
  rw [add_b ⟨ai.1, by omega⟩ ⟨aj.1, by omega⟩]
  have hp := pw_sum hi hj hne
  have ci : (σ.2.2.1 1 i).toInt ≤ 2 ^ 47 * (2 ^ (i + 2) - 2) := by have := ai.2; revert this; cases σ.2.2.2 1 i <;> simp <;> omega
  have cj : (σ.2.2.1 1 j).toInt ≤ 2 ^ 47 * (2 ^ (j + 2) - 2) := by have := aj.2; revert this; cases σ.2.2.2 1 j <;> simp <;> omega
  generalize (2 : Int) ^ (i + 2) = pi at *
  generalize (2 : Int) ^ (j + 2) = pj at *
  generalize (2 : Int) ^ (σ.1 0 + 2) = pn at *
  omega
/-- what a run leaves of the longs -/
theorem passN_L {σ : xS} {i : Nat} (h : Inv σ) (hi : i < σ.1 0) : ∀ n, n ≤ σ.1 1 → ∃ Lt : Nat → Nat → Int64, passN σ i n = (σ.1, σ.2.1, Lt, σ.2.2.2) ∧ (∀ j, j ≠ i → Lt 1 j = σ.2.2.1 1 j) ∧ (∀ j, j ≠ i → j < 8 → Lt (10 + j) = σ.2.2.1 (10 + j) ∧ Lt (20 + j) = σ.2.2.1 (20 + j)) ∧ (∀ s, n ≤ s → Lt (30 + s) = σ.2.2.1 (30 + s)) ∧ 0 ≤ (Lt 1 i).toInt ∧ (Lt 1 i).toInt ≤ (σ.2.2.1 1 i).toInt + n * 2 ^ 44 := by
  obtain ⟨hnb, hns, hnr, hpc, hst, hto, htl, hrm, hpa, hwt, hdf, hds⟩ := h
  have a0 := hwt i hi
  have b0 := hwt_55 (by omega) a0.2
  intro n
  induction n with
  | zero => intro _; exact ⟨σ.2.2.1, rfl, fun _ _ => rfl, fun _ _ _ => ⟨rfl, rfl⟩, fun _ _ => rfl, a0.1, by omega⟩
  | succ n ih =>
    intro hn
    obtain ⟨Lt, e, h1, h2, h3, h4, h5⟩ := ih (by omega)
    have hm := mxs_b (w := Lt 1 i) (T := tog (σ.1, σ.2.1, Lt, σ.2.2.2) i n / 1000000) h4 (by omega) (div_b _)
    refine ⟨(s_pass (σ.1, σ.2.1, Lt, σ.2.2.2) i n).2.2.1, by rw [passN, e]; rfl, fun j hj => ?_, fun j hj h8 => ⟨?_, ?_⟩, fun s hs => ?_, ?_, ?_⟩
    · simp (disch := omega) only [s_pass, pL, row_eq, pk_uLn]; exact h1 j hj
    · simp (disch := omega) only [s_pass, pL, row_ne]; exact (h2 j hj h8).1
    · simp (disch := omega) only [s_pass, pL, row_ne]; exact (h2 j hj h8).2
    · simp (disch := omega) only [s_pass, pL, row_ne]; exact h3 s (by omega)
    · simp (disch := omega) only [s_pass, pL, row_eq, pk_uLs]; exact hm.1
    · simp (disch := omega) only [s_pass, pL, row_eq, pk_uLs]; omega
