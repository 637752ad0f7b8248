theorem Inv_stage {σ : xS} {x1 x2 x3 : Int32} (h : Inv σ) (hc : σ.1 1 < 6) : Inv (s_stage σ x1 x2 x3) := by
  obtain ⟨hnb, hns, hnr, hpc, hst, hto, htl, hrm, hpa, hwt, hdf, hds⟩ := h
  unfold s_stage
  refine ⟨?_, ?_, ?_, fun a ha => ?_, fun a => ?_, fun i j hi hj => ?_, ?_, fun i hi => ?_, fun i hi => ?_, fun i hi => ?_, fun i hi h8 => ?_, fun i hi h6 => ?_⟩
  · simp (disch := omega) only [pN, pI, row_ne]; exact hnb
  · simp (disch := omega) only [pN, pI, row_eq]; omega
  · simp (disch := omega) only [pN, pI, row_ne]; exact hnr
  · simp (disch := omega) only [pN, pI, row_ne]; exact hpc a ha
  · simp (disch := omega) only [pN, pI, row_ne]; exact hst a
  · have hi : i < σ.1 0 := by simpa (disch := omega) only [pN, pI, row_ne] using hi
    simp (disch := omega) only [pN, pI, row_ne]; exact hto i j hi hj
  · simp (disch := omega) only [pN, pI, row_ne]; exact htl
  · have hi : i < σ.1 2 := by simpa (disch := omega) only [pN, pI, row_ne] using hi
    simp (disch := omega) only [pN, pI, row_ne]; exact hrm i hi
  · have hi : i < σ.1 0 := by simpa (disch := omega) only [pN, pI, row_ne] using hi
    simp (disch := omega) only [pN, pI, row_ne]; exact hpa i hi
  · have hi : i < σ.1 0 := by simpa (disch := omega) only [pN, pI, row_ne] using hi
    exact hwt i hi
  · have hi : σ.1 0 ≤ i := by simpa (disch := omega) only [pN, pI, row_ne] using hi
    simp (disch := omega) only [pN, pI, row_ne]; exact hdf i hi h8
  · have hi : σ.1 1 + 1 ≤ i := by simpa (disch := omega) only [pN, pI, row_eq] using hi
    exact hds i (by omega) h6
theorem Inv_rule {σ : xS} {x1 x2 x3 x4 : Int32} (h : Inv σ) (hc : σ.1 2 < 8) (hx : xm x2 = true) : Inv (s_rule σ x1 x2 x3 x4) := by
  obtain ⟨hnb, hns, hnr, hpc, hst, hto, htl, hrm, hpa, hwt, hdf, hds⟩ := h
  unfold s_rule
  refine ⟨?_, ?_, ?_, fun a ha => ?_, fun a => ?_, fun i j hi hj => ?_, ?_, fun i hi => ?_, fun i hi => ?_, fun i hi => ?_, fun i hi h8 => ?_, fun i hi h6 => ?_⟩
  · simp (disch := omega) only [pN, pI, row_ne]; exact hnb
  · simp (disch := omega) only [pN, pI, row_ne]; exact hns
  · simp (disch := omega) only [pN, pI, row_eq]; omega
  · simp (disch := omega) only [pN, pI, row_ne]; exact hpc a ha
  · simp (disch := omega) only [pN, pI, row_ne]; exact hst a
  · have hi : i < σ.1 0 := by simpa (disch := omega) only [pN, pI, row_ne] using hi
    simp (disch := omega) only [pN, pI, row_ne]; exact hto i j hi hj
  · simp (disch := omega) only [pN, pI, row_ne]; exact htl
  · have hi : i < σ.1 2 + 1 := by simpa (disch := omega) only [pN, pI, row_eq] using hi
    simp (disch := omega) only [pN, pI, row_ne, row_eq]
    by_cases e : i = σ.1 2
    · rw [e, pk_us]; exact xm_of hx
    · rw [pk_un e]; exact hrm i (by omega)
  · have hi : i < σ.1 0 := by simpa (disch := omega) only [pN, pI, row_ne] using hi
    simp (disch := omega) only [pN, pI, row_ne]; exact hpa i hi
  · have hi : i < σ.1 0 := by simpa (disch := omega) only [pN, pI, row_ne] using hi
    exact hwt i hi
  · have hi : σ.1 0 ≤ i := by simpa (disch := omega) only [pN, pI, row_ne] using hi
    simp (disch := omega) only [pN, pI, row_ne]; exact hdf i hi h8
  · have hi : σ.1 1 ≤ i := by simpa (disch := omega) only [pN, pI, row_ne] using hi
    exact hds i hi h6
/-- one more batch, of weight g: a fresh one, or a mixture -/
theorem Inv_new {σ : xS} {g : Int64} {d : Int32} {b : Bool} (h : Inv σ) (hc : σ.1 0 < 8) (h0 : 0 ≤ g.toInt) (hg : g.toInt ≤ 2 ^ 47 * (2 ^ (σ.1 0 + 2) - 3)) : Inv (s_new σ g d b) := by
  obtain ⟨hnb, hns, hnr, hpc, hst, hto, htl, hrm, hpa, hwt, hdf, hds⟩ := h
  obtain ⟨z1, z2, z3, z4, z5, z6⟩ := hdf (σ.1 0) (Nat.le_refl _) hc
  unfold s_new
  refine ⟨?_, ?_, ?_, fun a ha => ?_, fun a => ?_, fun i j hi hj => ?_, ?_, fun i hi => ?_, fun i hi => ?_, fun i hi => ?_, fun i hi h8 => ?_, fun i hi h6 => ?_⟩
  · simp (disch := omega) only [pN, pI, pL, pZ, row_eq]; omega
  · simp (disch := omega) only [pN, pI, pL, pZ, row_ne]; exact hns
  · simp (disch := omega) only [pN, pI, pL, pZ, row_ne]; exact hnr
  · simp (disch := omega) only [pN, pI, pL, pZ, row_ne]; exact hpc a ha
  · simp (disch := omega) only [pN, pI, pL, pZ, row_ne]; exact hst a
  · have hi : i < σ.1 0 + 1 := by simpa (disch := omega) only [pN, pI, pL, pZ, row_eq] using hi
    by_cases e : i = σ.1 0
    · rw [e]; simp (disch := omega) only [pN, pI, pL, pZ, row_ne, row_eq]; exact Or.inl trivial
    · simp (disch := omega) only [pN, pI, pL, pZ, row_ne]; exact hto i j (by omega) hj
  · simp (disch := omega) only [pN, pI, pL, pZ, row_ne]; exact htl
  · have hi : i < σ.1 2 := by simpa (disch := omega) only [pN, pI, pL, pZ, row_ne] using hi
    simp (disch := omega) only [pN, pI, pL, pZ, row_ne]; exact hrm i hi
  · have hi : i < σ.1 0 + 1 := by simpa (disch := omega) only [pN, pI, pL, pZ, row_eq] using hi
    by_cases e : i = σ.1 0
    · rw [e]; simp (disch := omega) only [pN, pI, pL, pZ, row_ne, row_eq, pk_us]; exact Or.inl ⟨trivial, z4⟩
    · simp (disch := omega) only [pN, pI, pL, pZ, row_ne, row_eq, pk_un]; exact hpa i (by omega)
  · have hi : i < σ.1 0 + 1 := by simpa (disch := omega) only [pN, pI, pL, pZ, row_eq] using hi
    by_cases e : i = σ.1 0
    · rw [e]; simp (disch := omega) only [pN, pI, pL, pZ, row_ne, row_eq, pk_uLs, z2]; exact ⟨h0, hg⟩
    · simp (disch := omega) only [pN, pI, pL, pZ, row_ne, row_eq, pk_uLn]; exact hwt i (by omega)
  · have hi : σ.1 0 + 1 ≤ i := by simpa (disch := omega) only [pN, pI, pL, pZ, row_eq] using hi
    obtain ⟨y1, y2, y3, y4, y5, y6⟩ := hdf i (by omega) h8
    simp (disch := omega) only [pN, pI, pL, pZ, row_ne, row_eq]
    exact ⟨y1, y2, y3, y4, y5, y6⟩
  · have hi : σ.1 1 ≤ i := by simpa (disch := omega) only [pN, pI, pL, pZ, row_ne] using hi
    simp (disch := omega) only [pN, pI, pL, pZ, row_ne]; exact hds i hi h6
