theorem Inv_run {σ : xS} {i : Nat} (h : Inv σ) (hi : i < σ.1 0) (hz : σ.2.2.2 1 i = false) : Inv (s_run σ (passN σ i (σ.1 1)).2.2.1 i) := by
  obtain ⟨Lt, e, h1, h2, h3, h4, h5⟩ := passN_L h hi (σ.1 1) (Nat.le_refl _)
  rw [e]
  obtain ⟨hnb, hns, hnr, hpc, hst, hto, htl, hrm, hpa, hwt, hdf, hds⟩ := h
  have a0 := hwt i hi
  rw [hz] at a0
  unfold s_run
  refine ⟨?_, ?_, ?_, fun a ha => ?_, fun a => ?_, fun a j ha hj => ?_, ?_, fun a ha => ?_, fun a ha => ?_, fun a ha => ?_, fun a ha h8 => ?_, fun a ha h6 => ?_⟩
  · simp (disch := omega) only [pN, pI, pZ, row_ne]; exact hnb
  · simp (disch := omega) only [pN, pI, pZ, row_ne]; exact hns
  · simp (disch := omega) only [pN, pI, pZ, row_ne]; exact hnr
  · simp (disch := omega) only [pN, pI, pZ, row_ne]; exact hpc a ha
  · by_cases ea : a = i
    · rw [ea]; simp only [pN, pI, pZ, row_eq]; exact hns
    · simp (disch := omega) only [pN, pI, pZ, row_ne]; exact hst a
  · have ha : a < σ.1 0 := by simpa (disch := omega) only [pN, pI, pZ, row_ne] using ha
    simp (disch := omega) only [pN, pI, pZ, row_ne]; exact hto a j ha hj
  · simp (disch := omega) only [pN, pI, pZ, row_ne]; exact htl
  · have ha : a < σ.1 2 := by simpa (disch := omega) only [pN, pI, pZ, row_ne] using ha
    simp (disch := omega) only [pN, pI, pZ, row_ne]; exact hrm a ha
  · have ha : a < σ.1 0 := by simpa (disch := omega) only [pN, pI, pZ, row_ne] using ha
    by_cases ea : a = i
    · rw [ea]; simp only [pN, pI, pZ, row_eq, pk_us]; exact Or.inr trivial
    · simp (disch := omega) only [pN, pI, pZ, row_ne, row_eq, pk_un]; exact hpa a ha
  · have ha : a < σ.1 0 := by simpa (disch := omega) only [pN, pI, pZ, row_ne] using ha
    by_cases ea : a = i
    · rw [ea]; simp only [pN, pI, pZ, row_eq]
      refine ⟨h4, ?_⟩
      have a1 := a0.2
      simp only [if_true]
      simp only [Bool.false_eq_true, if_false] at a1
      generalize (2 : Int) ^ (i + 2) = pi at *
      omega
    · simp (disch := omega) only [pN, pI, pZ, row_ne, row_eq]
      rw [h1 a ea]; exact hwt a ha
  · have ha : σ.1 0 ≤ a := by simpa (disch := omega) only [pN, pI, pZ, row_ne] using ha
    obtain ⟨y1, y2, y3, y4, y5, y6⟩ := hdf a ha h8
    have hl := h2 a (by omega) h8
    simp (disch := omega) only [pN, pI, pZ, row_ne, row_eq]
    exact ⟨y1, y2, y3, y4, hl.1.trans y5, hl.2.trans y6⟩
  · have ha : σ.1 1 ≤ a := by simpa (disch := omega) only [pN, pI, pZ, row_ne] using ha
    exact (h3 a ha).trans (hds a ha h6)
theorem Inv_mix {σ : xS} {i j : Nat} (h : Inv σ) (hi : i < σ.1 0) (hj : j < σ.1 0) (hne : i ≠ j) (hc : σ.1 0 < 8) : Inv (s_mix σ i j) := by
  have hw := mixw h hi hj hne
  have hN := Inv_new (d := mx (σ.2.1 1 i) (σ.2.1 1 j)) (b := true) h hc hw.1 hw.2
  have hnb1 : (s_new σ (σ.2.2.1 1 i + σ.2.2.1 1 j) (mx (σ.2.1 1 i) (σ.2.1 1 j)) true).1 0 = σ.1 0 + 1 := by simp (disch := omega) only [s_new, pN, pI, pL, pZ, row_eq]
  have hz1 : (s_new σ (σ.2.2.1 1 i + σ.2.2.1 1 j) (mx (σ.2.1 1 i) (σ.2.1 1 j)) true).2.2.2 1 = σ.2.2.2 1 := by simp (disch := omega) only [s_new, pN, pI, pL, pZ, row_ne]
  have hz2 : (s_new σ (σ.2.2.1 1 i + σ.2.2.1 1 j) (mx (σ.2.1 1 i) (σ.2.1 1 j)) true).2.2.2 2 = σ.2.2.2 2 := by simp (disch := omega) only [s_new, pN, pI, pL, pZ, row_ne]
  have hdd := (h.2.2.2.2.2.2.2.2.2.2.1 (σ.1 0) (Nat.le_refl _) hc).2.1
  unfold s_mix
  generalize s_new σ (σ.2.2.1 1 i + σ.2.2.1 1 j) (mx (σ.2.1 1 i) (σ.2.1 1 j)) true = τ at *
  obtain ⟨hnb, hns, hnr, hpc, hst, hto, htl, hrm, hpa, hwt, hdf, hds⟩ := hN
  refine ⟨hnb, hns, hnr, hpc, hst, hto, htl, hrm, hpa, fun a ha => ?_, fun a ha h8 => ?_, fun a ha h6 => ?_⟩
  · have ha : a < τ.1 0 := ha
    have b0 := hwt a ha
    rw [hz1] at b0
    by_cases ea : a = σ.1 0
    · rw [ea] at b0 ⊢
      rw [hdd] at b0
      simp (disch := omega) only [pL, pZ, row_ne, row_eq]
      refine ⟨b0.1, ?_⟩
      have b1 := b0.2
      simp only [Bool.false_eq_true, if_false] at b1
      generalize (2 : Int) ^ (σ.1 0 + 2) = pi at *
      split <;> omega
    · simp (disch := omega) only [pL, pZ, row_ne, row_eq]
      exact b0
  · have ha : τ.1 0 ≤ a := ha
    obtain ⟨y1, y2, y3, y4, y5, y6⟩ := hdf a ha h8
    rw [hnb1] at ha
    rw [hz1] at y2
    rw [hz2] at y3
    simp (disch := omega) only [pL, pZ, row_ne, row_eq]
    exact ⟨y1, y2, y3, y4, y5, y6⟩
  · simp (disch := omega) only [pL, pZ, row_ne]; exact hds a ha h6
theorem xin_g {g : Int64} (h : xin g 1 1000000000 = true) : 0 ≤ g.toInt ∧ g.toInt ≤ 1000000000 := by
  simp only [xin, Bool.and_eq_true, decide_eq_true_eq, Int64.le_iff_toInt_le] at h
  rw [show (1 : Int64).toInt = 1 by decide, show (1000000000 : Int64).toInt = 1000000000 by decide] at h
  omega
theorem pw_1 (n : Nat) : (1 : Int) ≤ 2 ^ n := by
  have h : 1 ≤ 2 ^ n := Nat.one_le_two_pow
  exact_mod_cast h
