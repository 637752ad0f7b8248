theorem xu_xu {w : Nat → Option va_E} {t : Nat} {e e1 : va_E} : xu (xu w t e) t e1 = xu w t e1 := by
  funext u
  unfold xu
  by_cases h : u = t
  · simp [h]
  · simp [h]
theorem bI_ff : bI false = 0 := rfl
theorem bI_tt : bI true = 1 := rfl
/-- behind the making of cells: the tags in L are new or changed, all others as they were -/
def Fr (ad ad1 : Nat → Nat) (w w1 : Nat → Option va_E) (L : List Nat) : Prop := ∀ u, u ∉ L → w1 u = w u ∧ ad1 u = ad u
/-- one more batch, in numbers -/
def s_new (σ : xS) (g : Int64) (d : Int32) (b : Bool) : xS := pN (pZ (pI (pI (pI (pL σ 1 (vp_updL (σ.2.2.1 1) (σ.1 0) g)) 1 (upd (σ.2.1 1) (σ.1 0) d)) (20 + σ.1 0) (fun _ => -1)) 10 (upd (σ.2.1 10) (σ.1 0) (-1))) 0 (row (σ.2.2.2 0) (σ.1 0) b)) 0 (σ.1 0 + 1)
def f_batch (σ : xS) (g : Int64) : xS × Int32 := if xin g 1 1000000000 then (if σ.1 0 < 8 then (s_new σ g (σ.2.1 0 0) false, nI (σ.1 0)) else (σ, -1)) else (σ, -1)
def s_stage (σ : xS) (x1 x2 x3 : Int32) : xS := pN (pI (pI (pI σ 3 (upd (σ.2.1 3) (σ.1 1) x1)) 4 (upd (σ.2.1 4) (σ.1 1) x2)) 5 (upd (σ.2.1 5) (σ.1 1) x3)) 1 (σ.1 1 + 1)
def f_stage (σ : xS) (x1 x2 x3 : Int32) : xS × Int32 := if xm x1 then (if σ.1 1 < 6 then (if xin x2.toInt64 0 1000 then (if xin x3.toInt64 0 1000 then (s_stage σ x1 x2 x3, nI (σ.1 1)) else (σ, -1)) else (σ, -1)) else (σ, -1)) else (σ, -1)
def s_rule (σ : xS) (x1 x2 x3 x4 : Int32) : xS := pN (pI (pI (pI (pI σ 6 (upd (σ.2.1 6) (σ.1 2) x1)) 7 (upd (σ.2.1 7) (σ.1 2) x2)) 8 (upd (σ.2.1 8) (σ.1 2) x3)) 9 (upd (σ.2.1 9) (σ.1 2) x4)) 2 (σ.1 2 + 1)
def f_rule (σ : xS) (x1 x2 x3 x4 : Int32) : xS × Int32 := if xin x1.toInt64 0 9 then (if xm x2 then (if σ.1 2 < 8 then (if xin x3.toInt64 0 1000000 then (if xin x4.toInt64 0 100000 then (s_rule σ x1 x2 x3 x4, nI (σ.1 2)) else (σ, -1)) else (σ, -1)) else (σ, -1)) else (σ, -1)) else (σ, -1)
