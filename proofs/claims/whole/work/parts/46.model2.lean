theorem rel4 {F : Nat → Int64} {G : Nat → Nat → Int64} {c n i : Nat} {v0 v1 v2 v3 : Int64} (h : ∀ b q, b < n → q < 4 → F (4 * b + q) = G (c + b) q) : ∀ b q, b < n → q < 4 → vp_updL (vp_updL (vp_updL (vp_updL F (4 * i + 0) v0) (4 * i + 1) v1) (4 * i + 2) v2) (4 * i + 3) v3 (4 * b + q) = row G (c + i) (vp_updL (vp_updL (vp_updL (vp_updL (G (c + i)) 0 v0) 1 v1) 2 v2) 3 v3) (c + b) q := by
  have e0 := relA (c := c) (i := i) (k := 0) (v := v0) h (by decide)
  have e1 := relA (c := c) (i := i) (k := 1) (v := v1) e0 (by decide)
  have e2 := relA (c := c) (i := i) (k := 2) (v := v2) e1 (by decide)
  have e3 := relA (c := c) (i := i) (k := 3) (v := v3) e2 (by decide)
  intro b q hb hq
  rw [e3 b q hb hq]
  simp only [row_eq, row_row]
theorem relT4 {F : Nat → Int64} {G : Nat → Nat → Int64} {c n i j : Nat} {v0 v1 v2 v3 : Int64} (hj : j < 6) (h : ∀ b q, b < n → q < 24 → F (24 * b + q) = G (c + b) q) : ∀ b q, b < n → q < 24 → vp_updL (vp_updL (vp_updL (vp_updL F (24 * i + (j * 4 + 0)) v0) (24 * i + (j * 4 + 1)) v1) (24 * i + (j * 4 + 2)) v2) (24 * i + (j * 4 + 3)) v3 (24 * b + q) = row G (c + i) (vp_updL (vp_updL (vp_updL (vp_updL (G (c + i)) (j * 4) v0) (j * 4 + 1) v1) (j * 4 + 2) v2) (j * 4 + 3) v3) (c + b) q := by
  have e0 := relT (c := c) (i := i) (k := j * 4 + 0) (v := v0) h (by omega)
  have e1 := relT (c := c) (i := i) (k := j * 4 + 1) (v := v1) e0 (by omega)
  have e2 := relT (c := c) (i := i) (k := j * 4 + 2) (v := v2) e1 (by omega)
  have e3 := relT (c := c) (i := i) (k := j * 4 + 3) (v := v3) e2 (by omega)
  intro b q hb hq
  rw [e3 b q hb hq]
  simp only [row_eq, row_row, Nat.add_zero]
theorem relZ {F : Nat → Int64} {G : Nat → Nat → Int64} {c n i : Nat} (h : ∀ b q, b < n → q < 4 → F (4 * b + q) = G (c + b) q) : ∀ b q, b < n → q < 4 → vp_updL (vp_updL (vp_updL (vp_updL F (4 * i + 0) 0) (4 * i + 1) 0) (4 * i + 2) 0) (4 * i + 3) 0 (4 * b + q) = row G (c + i) (fun _ => 0) (c + b) q := by
  intro b q hb hq
  rw [rel4 (c := c) (i := i) h b q hb hq]
  by_cases e : b = i
  · subst e
    rw [row_eq, row_eq]
    rcases (show q = 0 ∨ q = 1 ∨ q = 2 ∨ q = 3 by omega) with rfl | rfl | rfl | rfl <;> simp [vp_updL]
  · rw [row_ne (by omega), row_ne (by omega)]
theorem row_in {α : Type} {G : Nat → α} {k c j : Nat} {X Y : α} (h : j ≠ k) : row (row G k X) c Y j = row G c Y j := by
  by_cases e : j = c
  · subst e; rw [row_eq, row_eq]
  · rw [row_ne e, row_ne e, row_ne h]
