/-- behind a call that changes the class: its cells for the new numbers, all other cells as they were -/
def PX (D : va_G) (K : Nat → ClassId) (B : Nat) (ad : Nat → Nat) (w : Nat → Option va_E) (σ : xS) (H1 : Heap) : Prop :=
  ∃ (ad1 : Nat → Nat) (w1 : Nat → Option va_E), xw D vwCl B ad1 w1 H1 ∧ RepX K σ ad1 w1 ∧ ad1 0 = ad 0 ∧ ∀ t, 200 ≤ t → w1 t = w t ∧ ad1 t = ad t
theorem PX_same {D : va_G} {K : Nat → ClassId} {B : Nat} {ad : Nat → Nat} {w : Nat → Option va_E} {σ : xS} {H : Heap} (hw : xw D vwCl B ad w H) (hR : RepX K σ ad w) : PX D K B ad w σ H := ⟨ad, w, hw, hR, rfl, fun _ _ => ⟨rfl, rfl⟩⟩
theorem fq_push {n : Nat} {ad ad1 : Nat → Nat} {b q : Nat} (hq : ad1 (b + n) = q) (h : ∀ i, i < n → ad1 (b + i) = ad (b + i)) : va_up (fun i => if i < n then some (ad (b + i)) else none) n (some q) = fun i => if i < n + 1 then some (ad1 (b + i)) else none := by
  funext i
  unfold va_up
  by_cases hi : i = n
  · subst hi
    rw [if_pos rfl, if_pos (by omega), hq]
  · rw [if_neg hi]
    show (if i < n then some (ad (b + i)) else none) = _
    by_cases hl : i < n
    · rw [if_pos hl, if_pos (by omega), h i hl]
    · rw [if_neg hl, if_neg (by omega)]
theorem fc_up {f : Nat → Nat} {k n : Nat} {x : Int32} (hx : x = nI n) : upd (fun j => nI (f (11 + 2 * j))) k x = fun j => nI (row f (11 + 2 * k) n (11 + 2 * j)) := by
  funext j
  by_cases h : j = k
  · subst h
    rw [pk_us, row_eq, hx]
  · rw [pk_un h, row_ne (by omega)]
theorem toI64 (x : Int32) : x.toInt64.toInt = x.toInt := by first | exact Int32.toInt_toInt64 x | simp
theorem xin_xi {x : Int32} (h : xin x.toInt64 0 2 = false) : xi 3 x = none := by
  refine xi_none (fun hx => ?_)
  simp only [xin, Bool.and_eq_false_iff, decide_eq_false_iff_not, Int64.le_iff_toInt_le, toI64] at h
  rw [show (0 : Int64).toInt = 0 by decide, show (2 : Int64).toInt = 2 by decide] at h
  omega
theorem xin_of {x : Int32} (h : xin x.toInt64 0 2 = true) : ∃ j, j < 3 ∧ x = nI j := by
  simp only [xin, Bool.and_eq_true, decide_eq_true_eq, Int64.le_iff_toInt_le, toI64] at h
  rw [show (0 : Int64).toInt = 0 by decide, show (2 : Int64).toInt = 2 by decide] at h
  exact xi_some (n := 3) (by omega) (by decide)
theorem nI_back (n : Nat) : nI n + 1 - 1 = nI n := by rw [← nI_succ, nI_pred]
def f_today (σ : xS) (x1 : Int32) : xS × Int32 := if xin x1.toInt64 (σ.2.1 0 0).toInt64 100000 then (pI σ 0 (upd (σ.2.1 0) 0 x1), 1) else (σ, 0)
def f_tolerance (σ : xS) (x1 : Int32) : xS × Int32 := if xin x1.toInt64 0 1000000 then (pI σ 0 (upd (σ.2.1 0) 1 x1), 1) else (σ, 0)
def f_parts (σ : xS) (x1 x2 x3 : Int32) : xS × Int32 := opt (xi (σ.1 0) x1) (σ, 0) fun i => if σ.2.2.2 2 i then (σ, 0) else if σ.2.2.2 1 i then (σ, 0) else if σ.2.2.2 0 i then (σ, 0) else opt (xi 4 x2) (σ, 0) fun k => if xin x3.toInt64 0 1000000 then (pL σ (10 + i) (vp_updL (σ.2.2.1 (10 + i)) k (σ.2.2.1 1 i * x3.toInt64)), 1) else (σ, 0)
def f_assay (σ : xS) (x1 x2 x3 x4 : Int32) : xS × Int32 := opt (xi (σ.1 0) x1) (σ, 0) fun i => if σ.2.2.2 2 i then (σ, 0) else opt (xi 4 x3) (σ, 0) fun k => opt (xi 3 x2) (σ, 0) fun j => if xin x4.toInt64 0 1000000 then (pI σ (20 + i) (upd (σ.2.1 (20 + i)) (k * 3 + j) x4), 1) else (σ, 0)
def s_price (σ : xS) (k : Nat) (d : Int32) (c : Int64) : xS := pN (pL (pI σ 40 (upd (σ.2.1 40) (k * 6 + σ.1 (11 + 2 * k)) d)) 40 (vp_updL (σ.2.2.1 40) (k * 6 + σ.1 (11 + 2 * k)) c)) (11 + 2 * k) (σ.1 (11 + 2 * k) + 1)
def f_append (σ : xS) (k : Nat) (d : Int32) (c : Int64) : xS × Int32 := if σ.1 (11 + 2 * k) < 6 then (if σ.1 (11 + 2 * k) ≤ 0 then (s_price σ k d c, 1) else if σ.2.1 40 (k * 6 + σ.1 (11 + 2 * k) - 1) < d then (s_price σ k d c, 1) else (σ, 0)) else (σ, 0)
def f_price (σ : xS) (x1 x2 : Int32) (x3 : Int64) : xS × Int32 := opt (xi 4 x1) (σ, 0) fun k => if xin x2.toInt64 0 100000 then (if xin x3 0 1000000 then f_append σ k x2 x3 else (σ, 0)) else (σ, 0)
theorem nar1 : narrow .boolean (.int 1) = .int 1 := by decide
theorem nar0 : narrow .boolean (.int 0) = .int 0 := by decide
theorem f_append_nar {σ : xS} {k : Nat} {d : Int32} {u : Int64} : narrow .boolean (.int (f_append σ k d u).2) = .int (f_append σ k d u).2 := by
  unfold f_append
  split
  · split
    · exact nar1
    · split
      · exact nar1
      · exact nar0
  · exact nar0
