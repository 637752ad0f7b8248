theorem bm64 {x : Int} (h1 : -(2 ^ 63) ≤ x) (h2 : x < 2 ^ 63) : x.bmod (2 ^ 64) = x := by
  rw [Int.bmod_def]
  split <;> omega
theorem tdv {x : Int} (h1 : -(2 ^ 63) ≤ x) (h2 : x < 2 ^ 63) : -(2 ^ 44) ≤ x.tdiv 1000000 ∧ x.tdiv 1000000 ≤ 2 ^ 44 := by
  rcases Int.le_total 0 x with h | h
  · rw [Int.tdiv_eq_ediv_of_nonneg h]; omega
  · have e : x.tdiv 1000000 = -((-x).tdiv 1000000) := by rw [Int.neg_tdiv, Int.neg_neg]
    rw [e, Int.tdiv_eq_ediv_of_nonneg (by omega)]; omega
theorem div_b (a : Int64) : -(2 ^ 44) ≤ (a / 1000000).toInt ∧ (a / 1000000).toInt ≤ 2 ^ 44 := by
  have h1 : -(2 ^ 63) ≤ a.toInt := Int64.le_toInt a
  have h2 : a.toInt < 2 ^ 63 := Int64.toInt_lt a
  have h3 := tdv h1 h2
  have e : (a / 1000000).toInt = a.toInt.tdiv 1000000 := by
    rw [Int64.toInt_div, show (1000000 : Int64).toInt = 1000000 by decide]
    exact bm64 (by omega) (by omega)
  rw [e]; exact h3
theorem sub_b {w T : Int64} (h0 : 0 ≤ w.toInt) (h1 : w.toInt ≤ 2 ^ 60) (hT : -(2 ^ 44) ≤ T.toInt ∧ T.toInt ≤ 2 ^ 44) : (w - T).toInt = w.toInt - T.toInt := by
  rw [Int64.toInt_sub]
  exact bm64 (by omega) (by omega)
theorem mxs {w T : Int64} (h0 : 0 ≤ w.toInt) (h1 : w.toInt ≤ 2 ^ 60) (hT : -(2 ^ 44) ≤ T.toInt ∧ T.toInt ≤ 2 ^ 44) : (T ≤ w → w - T = mxL 0 (w - T)) ∧ (¬ T ≤ w → 0 = mxL 0 (w - T)) := by
  have e := sub_b h0 h1 hT
  unfold mxL
  simp only [Int64.le_iff_toInt_le, Int64.lt_iff_toInt_lt, e, show (0 : Int64).toInt = 0 by decide]
  exact ⟨fun h => by rw [if_neg (by omega)], fun h => by rw [if_pos (by omega)]⟩
theorem mxs_b {w T : Int64} (h0 : 0 ≤ w.toInt) (h1 : w.toInt ≤ 2 ^ 60) (hT : -(2 ^ 44) ≤ T.toInt ∧ T.toInt ≤ 2 ^ 44) : 0 ≤ (mxL 0 (w - T)).toInt ∧ (mxL 0 (w - T)).toInt ≤ w.toInt + 2 ^ 44 := by
  have e := sub_b h0 h1 hT
  unfold mxL
  simp only [Int64.lt_iff_toInt_lt, e, show (0 : Int64).toInt = 0 by decide]
  split
  · rw [show (0 : Int64).toInt = 0 by decide]; omega
  · rw [e]; omega
theorem pw8 {i : Nat} (h : i < 8) : (2 : Int) ^ (i + 2) ≤ 512 := by
  rcases (show i = 0 ∨ i = 1 ∨ i = 2 ∨ i = 3 ∨ i = 4 ∨ i = 5 ∨ i = 6 ∨ i = 7 by omega) with rfl | rfl | rfl | rfl | rfl | rfl | rfl | rfl <;> decide
theorem hwt_55 {i : Nat} {x : Int} {b : Bool} (h : i < 8) (hx : x ≤ 2 ^ 47 * (2 ^ (i + 2) - (if b then 2 else 3))) : x ≤ 2 ^ 56 := by
  have := pw8 h
  cases b <;> simp at hx <;> omega
/-- behind the reference's making -/
def PM0 (D : va_G) (K : Nat → ClassId) (B : Nat) (ad : Nat → Nat) (w : Nat → Option va_E) (σ : xS) (H1 : Heap) : Prop :=
  ∃ (ad1 : Nat → Nat) (w1 : Nat → Option va_E), xw D vwCl B ad1 w1 H1 ∧ RepM K σ ad1 w1 ∧ ad1 200 = ad 200 ∧ ∀ t, t < 200 → w1 t = w t ∧ ad1 t = ad t
theorem grt_mx (x y : Int32) : grt x y = mx x y := by
  unfold grt mx
  rcases i32_tr x y with ⟨h1, h2, -, -⟩ | ⟨h1, h2, -, rfl⟩ | ⟨h1, h2, -, -⟩
  · rw [if_neg h2, if_pos h1]
  · rfl
  · rw [if_pos h2, if_neg h1]
