theorem Inv_0 : Inv s_0 := by
  refine ⟨by decide, by decide, by decide, fun k _ => Nat.zero_le _, fun i => Nat.zero_le _, fun i j h => absurd h (Nat.not_lt_zero i), by decide, fun i h => absurd h (Nat.not_lt_zero i), fun i h => absurd h (Nat.not_lt_zero i), fun i h => absurd h (Nat.not_lt_zero i), fun i _ _ => ⟨rfl, rfl, rfl, rfl, rfl, rfl⟩, fun i _ _ => rfl⟩
/-- changes that leave the counts and all that Inv speaks of -/
theorem Inv_today {σ : xS} {x : Int32} (h : Inv σ) : Inv (pI σ 0 (upd (σ.2.1 0) 0 x)) := by
  obtain ⟨hnb, hns, hnr, hpc, hst, hto, htl, hrm, hpa, hwt, hdf, hds⟩ := h
  refine ⟨hnb, hns, hnr, hpc, hst, fun i j hi hj => ?_, ?_, fun i hi => ?_, fun i hi => ?_, hwt, hdf, hds⟩
  · simp (disch := omega) only [pI, row_ne]; exact hto i j hi hj
  · simp (disch := omega) only [pI, row_eq, pk_un]; exact htl
  · simp (disch := omega) only [pI, row_ne]; exact hrm i hi
  · simp (disch := omega) only [pI, row_ne]; exact hpa i hi
theorem xin_nn {x : Int32} {m : Int64} (h : xin x.toInt64 0 m = true) : 0 ≤ x := by
  simp only [xin, Bool.and_eq_true, decide_eq_true_eq, Int64.le_iff_toInt_le, toI64] at h
  rw [Int32.le_iff_toInt_le]
  exact h.1
theorem Inv_tol {σ : xS} {x : Int32} (h : Inv σ) (hx : 0 ≤ x) : Inv (pI σ 0 (upd (σ.2.1 0) 1 x)) := by
  obtain ⟨hnb, hns, hnr, hpc, hst, hto, htl, hrm, hpa, hwt, hdf, hds⟩ := h
  refine ⟨hnb, hns, hnr, hpc, hst, fun i j hi hj => ?_, ?_, fun i hi => ?_, fun i hi => ?_, hwt, hdf, hds⟩
  · simp (disch := omega) only [pI, row_ne]; exact hto i j hi hj
  · simp (disch := omega) only [pI, row_eq, pk_us]; exact hx
  · simp (disch := omega) only [pI, row_ne]; exact hrm i hi
  · simp (disch := omega) only [pI, row_ne]; exact hpa i hi
theorem Inv_parts {σ : xS} {i : Nat} {f : Nat → Int64} (h : Inv σ) (hi : i < σ.1 0) : Inv (pL σ (10 + i) f) := by
  obtain ⟨hnb, hns, hnr, hpc, hst, hto, htl, hrm, hpa, hwt, hdf, hds⟩ := h
  refine ⟨hnb, hns, hnr, hpc, hst, hto, htl, hrm, hpa, fun j hj => ?_, fun j hj h8 => ?_, fun j hj h6 => ?_⟩
  · simp (disch := omega) only [pL, row_ne]; exact hwt j hj
  · have hj : σ.1 0 ≤ j := hj
    simp (disch := omega) only [pL, row_ne]; exact hdf j hj h8
  · simp (disch := omega) only [pL, row_ne]; exact hds j hj h6
theorem Inv_assay {σ : xS} {i k : Nat} {x : Int32} (h : Inv σ) (hi : i < σ.1 0) (hx : 0 ≤ x) : Inv (pI σ (20 + i) (upd (σ.2.1 (20 + i)) k x)) := by
  obtain ⟨hnb, hns, hnr, hpc, hst, hto, htl, hrm, hpa, hwt, hdf, hds⟩ := h
  refine ⟨hnb, hns, hnr, hpc, hst, fun a j ha hj => ?_, ?_, fun a ha => ?_, fun a ha => ?_, hwt, hdf, hds⟩
  · have ha : a < σ.1 0 := ha
    by_cases e : a = i
    · rw [e]; simp only [pI, row_eq]
      by_cases e2 : j = k
      · rw [e2, pk_us]; exact Or.inr hx
      · rw [pk_un e2]; exact hto i j hi hj
    · simp (disch := omega) only [pI, row_ne]; exact hto a j ha hj
  · simp (disch := omega) only [pI, row_ne]; exact htl
  · simp (disch := omega) only [pI, row_ne]; exact hrm a ha
  · have ha : a < σ.1 0 := ha
    simp (disch := omega) only [pI, row_ne]; exact hpa a ha
theorem Inv_price {σ : xS} {k : Nat} {d : Int32} {c : Int64} (h : Inv σ) (hk : k < 4) (hc : σ.1 (11 + 2 * k) < 6) : Inv (s_price σ k d c) := by
  obtain ⟨hnb, hns, hnr, hpc, hst, hto, htl, hrm, hpa, hwt, hdf, hds⟩ := h
  unfold s_price
  refine ⟨?_, ?_, ?_, fun a ha => ?_, fun a => ?_, fun i j hi hj => ?_, ?_, fun i hi => ?_, fun i hi => ?_, fun i hi => ?_, fun i hi h8 => ?_, fun i hi h6 => ?_⟩
  · simp (disch := omega) only [pN, pL, pI, row_ne]; exact hnb
  · simp (disch := omega) only [pN, pL, pI, row_ne]; exact hns
  · simp (disch := omega) only [pN, pL, pI, row_ne]; exact hnr
  · by_cases e : a = k
    · rw [e]; simp only [pN, row_eq]; omega
    · simp (disch := omega) only [pN, pL, pI, row_ne]; exact hpc a ha
  · simp (disch := omega) only [pN, pL, pI, row_ne]; exact hst a
  · have hi : i < σ.1 0 := by simpa (disch := omega) only [pN, pL, pI, row_ne] using hi
    simp (disch := omega) only [pN, pL, pI, row_ne]; exact hto i j hi hj
  · simp (disch := omega) only [pN, pL, pI, row_ne]; exact htl
  · have hi : i < σ.1 2 := by simpa (disch := omega) only [pN, pL, pI, row_ne] using hi
    simp (disch := omega) only [pN, pL, pI, row_ne]; exact hrm i hi
  · have hi : i < σ.1 0 := by simpa (disch := omega) only [pN, pL, pI, row_ne] using hi
    simp (disch := omega) only [pN, pL, pI, row_ne]; exact hpa i hi
  · have hi : i < σ.1 0 := by simpa (disch := omega) only [pN, pL, pI, row_ne] using hi
    simp (disch := omega) only [pN, pL, pI, row_ne]; exact hwt i hi
  · have hi : σ.1 0 ≤ i := by simpa (disch := omega) only [pN, pL, pI, row_ne] using hi
    simp (disch := omega) only [pN, pL, pI, row_ne]; exact hdf i hi h8
  · have hi : σ.1 1 ≤ i := by simpa (disch := omega) only [pN, pL, pI, row_ne] using hi
    simp (disch := omega) only [pN, pL, pI, row_ne]; exact hds i hi h6
theorem Inv_sell {σ : xS} {j : Nat} {g : Nat → Int64} (h : Inv σ) : Inv (pL (pL σ (30 + j) (fun _ => 0)) 0 g) := by
  obtain ⟨hnb, hns, hnr, hpc, hst, hto, htl, hrm, hpa, hwt, hdf, hds⟩ := h
  refine ⟨hnb, hns, hnr, hpc, hst, hto, htl, hrm, hpa, fun i hi => ?_, fun i hi h8 => ?_, fun i hi h6 => ?_⟩
  · simp (disch := omega) only [pL, row_ne]; exact hwt i hi
  · simp (disch := omega) only [pL, row_ne]; exact hdf i hi h8
  · by_cases e : i = j
    · rw [e]; simp (disch := omega) only [pL, row_ne, row_eq]
    · simp (disch := omega) only [pL, row_ne]; exact hds i hi h6
