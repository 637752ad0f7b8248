theorem i32_tr (a b : Int32) : (a < b ∧ ¬ b < a ∧ a.toInt < b.toInt ∧ True) ∨ (¬ a < b ∧ ¬ b < a ∧ a.toInt = b.toInt ∧ a = b) ∨ (¬ a < b ∧ b < a ∧ b.toInt < a.toInt ∧ True) := by
  simp only [Int32.lt_iff_toInt_lt]
  rcases Int.lt_trichotomy a.toInt b.toInt with h | h | h
  · exact Or.inl ⟨h, by omega, h, trivial⟩
  · exact Or.inr (Or.inl ⟨by omega, by omega, h, Int32.toInt_inj.mp h⟩)
  · exact Or.inr (Or.inr ⟨by omega, h, h, trivial⟩)
theorem i32_irr (a : Int32) : ¬ a < a := fun h => by rw [Int32.lt_iff_toInt_lt] at h; omega
theorem i32_trans {a b c : Int32} (h1 : a < b) (h2 : b < c) : a < c := by rw [Int32.lt_iff_toInt_lt] at *; omega
theorem i32_ring (a b c : Int32) : a + b + c - a - b = c ∧ a + b + c - a - c = b ∧ a + b + c - b - a = c ∧ a + b + c - b - c = a ∧ a + b + c - c - a = b ∧ a + b + c - c - b = a := by
  refine ⟨?_, ?_, ?_, ?_, ?_, ?_⟩ <;> (apply Int32.toBitVec_inj.mp; simp only [Int32.toBitVec_add, Int32.toBitVec_sub]; generalize a.toBitVec = a; generalize b.toBitVec = b; generalize c.toBitVec = c; apply BitVec.eq_of_toNat_eq; simp only [BitVec.toNat_add, BitVec.toNat_sub]; omega)
theorem mid3 (a b c : Int32) : a + b + c - lst a (lst b c) - grt a (grt b c) = mx (mn a b) (mn (mx a b) c) := by
  obtain ⟨r1, r2, r3, r4, r5, r6⟩ := i32_ring a b c
  unfold lst grt mx mn
  rcases i32_tr a b with ⟨h1, h2, h3, h4⟩ | ⟨h1, h2, h3, h4⟩ | ⟨h1, h2, h3, h4⟩ <;> rcases i32_tr b c with ⟨k1, k2, k3, k4⟩ | ⟨k1, k2, k3, k4⟩ | ⟨k1, k2, k3, k4⟩ <;> rcases i32_tr a c with ⟨l1, l2, l3, l4⟩ | ⟨l1, l2, l3, l4⟩ | ⟨l1, l2, l3, l4⟩ <;>
    first
      | (exfalso; omega)
      | (simp only [h1, h2, k1, k2, l1, l2, i32_irr, if_true, if_false]; first | assumption | (simp only [h4] at *; first | assumption | simp_all) | (simp only [k4] at *; first | assumption | simp_all) | (simp only [l4] at *; first | assumption | simp_all) | simp_all)
theorem spr3 (a b c : Int32) : grt a (grt b c) = mx (mx a b) c ∧ lst a (lst b c) = mn (mn a b) c := by
  unfold lst grt mx mn
  rcases i32_tr a b with ⟨h1, h2, h3, h4⟩ | ⟨h1, h2, h3, h4⟩ | ⟨h1, h2, h3, h4⟩ <;> rcases i32_tr b c with ⟨k1, k2, k3, k4⟩ | ⟨k1, k2, k3, k4⟩ | ⟨k1, k2, k3, k4⟩ <;> rcases i32_tr a c with ⟨l1, l2, l3, l4⟩ | ⟨l1, l2, l3, l4⟩ | ⟨l1, l2, l3, l4⟩ <;>
    first
      | (exfalso; omega)
      | (simp only [h1, h2, k1, k2, l1, l2, i32_irr, if_true, if_false, and_self]; done)
      | (simp only [h1, h2, k1, k2, l1, l2, i32_irr, if_true, if_false]; simp_all)
theorem tld_mid (T : Nat → Int32) (k : Nat) : tld T k 1 = mid T k := by
  unfold tld mid tlo thi
  rw [if_neg (show ¬ (1 : Int32) = 0 by decide), if_neg (show ¬ (1 : Int32) = 2 by decide), mid3]
theorem tld_spr (T : Nat → Int32) (k : Nat) {x : Int32} (hx : 0 ≤ x) : tld T k 2 - tld T k 0 ≤ x ↔ spr T k ≤ x := by
  unfold tld spr tlo thi
  rw [if_neg (show ¬ (2 : Int32) = 0 by decide), if_pos (show (2 : Int32) = 2 by decide), if_pos (show (0 : Int32) = 0 by decide), (spr3 _ _ _).1, (spr3 _ _ _).2]
  by_cases h : allT T k = true
  · rw [if_pos h, if_pos h, if_pos h]
  · rw [if_neg h, if_neg h, if_neg h]
    rw [show (-1 : Int32) - -1 = 0 by decide]
    refine ⟨fun _ => ?_, fun _ => hx⟩
    rw [Int32.le_iff_toInt_le] at *
    rw [i32_m1]
    rw [show (0 : Int32).toInt = 0 by decide] at hx
    omega
theorem mx_ok {a b : Int32} (ha : 0 ≤ a) (hb : 0 ≤ b) : 0 ≤ mx a b := by unfold mx; split <;> assumption
theorem mn_ok {a b : Int32} (ha : 0 ≤ a) (hb : 0 ≤ b) : 0 ≤ mn a b := by unfold mn; split <;> assumption
theorem mid_ok {T : Nat → Int32} {k : Nat} (h : okT T k) : mid T k = -1 ∨ 0 ≤ mid T k := by
  unfold mid
  by_cases ha : allT T k = true
  · rw [if_pos ha]
    simp only [allT, Bool.and_eq_true, Bool.not_eq_true', decide_eq_false_iff_not] at ha
    obtain ⟨h0, h1, h2⟩ := h
    have g0 := h0.resolve_left ha.1
    have g1 := h1.resolve_left ha.2.1
    have g2 := h2.resolve_left ha.2.2
    exact Or.inr (mx_ok (mn_ok g0 g1) (mn_ok (mx_ok g0 g1) g2))
  · rw [if_neg ha]; exact Or.inl rfl
theorem xi_z {x : Int32} : xi 0 x = none := xi_none (by omega)
theorem m1_le {x : Int32} (h : ¬ x < 0) : (-1 : Int32) ≤ x := by
  have := i32_nn h
  rw [Int32.le_iff_toInt_le, i32_m1]; omega
