/-- behind a call that changes the reference -/
def PM (D : va_G) (K : Nat → ClassId) (B : Nat) (ad : Nat → Nat) (w : Nat → Option va_E) (σ : xS) (H1 : Heap) : Prop :=
  ∃ w1 : Nat → Option va_E, xw D vwCl B ad w1 H1 ∧ RepM K σ ad w1 ∧ ∀ t, t < 200 → w1 t = w t
theorem PM_same {D : va_G} {K : Nat → ClassId} {B : Nat} {ad : Nat → Nat} {w : Nat → Option va_E} {σ : xS} {H : Heap} (hw : xw D vwCl B ad w H) (hR : RepM K σ ad w) : PM D K B ad w σ H := ⟨w, hw, hR, fun _ _ => rfl⟩
/-- rows that lie in one array -/
theorem relA {F : Nat → Int64} {G : Nat → Nat → Int64} {c n i k : Nat} {v : Int64} (h : ∀ b q, b < n → q < 4 → F (4 * b + q) = G (c + b) q) (hk : k < 4) : ∀ b q, b < n → q < 4 → vp_updL F (4 * i + k) v (4 * b + q) = row G (c + i) (vp_updL (G (c + i)) k v) (c + b) q := by
  intro b q hb hq
  by_cases e : b = i
  · subst e
    rw [row_eq]
    by_cases e2 : q = k
    · subst e2; rw [pk_uLs, pk_uLs]
    · rw [pk_uLn (by omega), pk_uLn e2]; exact h b q hb hq
  · rw [row_ne (by omega), pk_uLn (by omega)]; exact h b q hb hq
theorem relT {F : Nat → Int64} {G : Nat → Nat → Int64} {c n i k : Nat} {v : Int64} (h : ∀ b q, b < n → q < 24 → F (24 * b + q) = G (c + b) q) (hk : k < 24) : ∀ b q, b < n → q < 24 → vp_updL F (24 * i + k) v (24 * b + q) = row G (c + i) (vp_updL (G (c + i)) k v) (c + b) q := by
  intro b q hb hq
  by_cases e : b = i
  · subst e
    rw [row_eq]
    by_cases e2 : q = k
    · subst e2; rw [pk_uLs, pk_uLs]
    · rw [pk_uLn (by omega), pk_uLn e2]; exact h b q hb hq
  · rw [row_ne (by omega), pk_uLn (by omega)]; exact h b q hb hq
theorem relO {F : Nat → Int32} {G : Nat → Nat → Int32} {c n i k : Nat} {v : Int32} (h : ∀ b q, b < n → q < 12 → F (12 * b + q) = G (c + b) q) (hk : k < 12) : ∀ b q, b < n → q < 12 → upd F (12 * i + k) v (12 * b + q) = row G (c + i) (upd (G (c + i)) k v) (c + b) q := by
  intro b q hb hq
  by_cases e : b = i
  · subst e
    rw [row_eq]
    by_cases e2 : q = k
    · subst e2; rw [pk_us, pk_us]
    · rw [pk_un (by omega), pk_un e2]; exact h b q hb hq
  · rw [row_ne (by omega), pk_un (by omega)]; exact h b q hb hq
/-- the first s labs' words of batch m are -1 -/
def relN (F : Nat → Int32) (G : Nat → Nat → Int32) (m s : Nat) : Prop := ∀ b q, b < 8 → q < 12 → F (12 * b + q) = if b = m ∧ q < s then -1 else G (20 + b) q
theorem relN_0 {F : Nat → Int32} {G : Nat → Nat → Int32} {m : Nat} (h : ∀ b q, b < 8 → q < 12 → F (12 * b + q) = G (20 + b) q) : relN F G m 0 := fun b q hb hq => by rw [if_neg (by omega)]; exact h b q hb hq
theorem relN_s {F : Nat → Int32} {G : Nat → Nat → Int32} {m s : Nat} (h : relN F G m s) (hs : s < 12) : relN (upd F (12 * m + s) (-1)) G m (s + 1) := fun b q hb hq => by
  by_cases e : b = m ∧ q = s
  · obtain ⟨rfl, rfl⟩ := e
    rw [pk_us, if_pos (by omega)]
  · rw [pk_un (by omega), h b q hb hq]
    by_cases e2 : b = m ∧ q < s
    · rw [if_pos e2, if_pos (by omega)]
    · rw [if_neg e2, if_neg (by omega)]
theorem relN_12 {F : Nat → Int32} {G : Nat → Nat → Int32} {m : Nat} (h : relN F G m 12) : ∀ b q, b < 8 → q < 12 → F (12 * b + q) = row G (20 + m) (fun _ => -1) (20 + b) q := fun b q hb hq => by
  rw [h b q hb hq]
  by_cases e : b = m
  · subst e; rw [if_pos (by omega), row_eq]
  · rw [if_neg (by omega), row_ne (by omega)]
theorem fz_up {f : Nat → Bool} {k : Nat} {b : Bool} {x : Int32} (hx : x = bI b) : upd (fun j => bI (f j)) k x = fun j => bI (row f k b j) := by
  funext j
  by_cases h : j = k
  · subst h; rw [pk_us, row_eq, hx]
  · rw [pk_un h, row_ne h]
theorem row_same {α : Type} {f : Nat → α} {k : Nat} {v : α} (h : f k = v) : row f k v = f := by
  funext j
  by_cases e : j = k
  · subst e; rw [row_eq, h]
  · rw [row_ne e]
theorem row_row {α : Type} {f : Nat → α} {k : Nat} {u v : α} : row (row f k u) k v = row f k v := by
  funext j
  by_cases e : j = k
  · subst e; rw [row_eq, row_eq]
  · rw [row_ne e, row_ne e, row_ne e]
/-- two roads that meet -/
theorem xjoin {p : Program} {l : Launch} {e : Env} {R : Room} {s : State} {m : MethodId} {args : Array Value} {below : List Frame} {meth : Method} {c : Code} {H : Heap} {locs : List Loc} {cells slots : Nat} {Q : State → Prop} {pc : Nat} {ls : Array Slot} {st : List Value} (pcj : Nat) (stj : List Value) (hj : W p l e R s m args below meth c H locs cells slots Q (F0 m pcj ls stj)) (hb : W p l e R s m args below meth c H locs cells slots Q (F0 m pcj ls stj) → W p l e R s m args below meth c H locs cells slots Q (F0 m pc ls st)) : W p l e R s m args below meth c H locs cells slots Q (F0 m pc ls st) := hb hj
def lst (x y : Int32) : Int32 := if x < y then x else y
def grt (x y : Int32) : Int32 := if y < x then x else y
theorem opt_c {α : Type} {o : Option Nat} {d : α} : opt o d (fun _ => d) = d := by cases o <;> rfl
/-- the reference's words on three labs' words -/
def tlo (T : Nat → Int32) (k : Nat) : Int32 := lst (T (k * 3)) (lst (T (k * 3 + 1)) (T (k * 3 + 2)))
def thi (T : Nat → Int32) (k : Nat) : Int32 := grt (T (k * 3)) (grt (T (k * 3 + 1)) (T (k * 3 + 2)))
def tld (T : Nat → Int32) (k : Nat) (x : Int32) : Int32 := if allT T k then (if x = 0 then tlo T k else if x = 2 then thi T k else T (k * 3) + T (k * 3 + 1) + T (k * 3 + 2) - tlo T k - thi T k) else -1
def okT (T : Nat → Int32) (k : Nat) : Prop := (T (k * 3) = -1 ∨ 0 ≤ T (k * 3)) ∧ (T (k * 3 + 1) = -1 ∨ 0 ≤ T (k * 3 + 1)) ∧ (T (k * 3 + 2) = -1 ∨ 0 ≤ T (k * 3 + 2))
theorem i32_m1 : (-1 : Int32).toInt = -1 := by decide
theorem ok_neg {x : Int32} (h : x = -1 ∨ 0 ≤ x) : x < 0 ↔ x = -1 := by
  constructor
  · intro hx
    rcases h with h | h
    · exact h
    · rw [Int32.lt_iff_toInt_lt] at hx; rw [Int32.le_iff_toInt_le] at h; omega
  · rintro rfl; decide
theorem ok_n1 {x : Int32} (h : x = -1 ∨ 0 ≤ x) (hx : ¬ x < 0) : ¬ x = -1 := fun e => hx ((ok_neg h).mpr e)
theorem i32_tri {x y z l h : Int32} (e : (l = x ∧ h = y) ∨ (l = x ∧ h = z) ∨ (l = y ∧ h = x) ∨ (l = y ∧ h = z) ∨ (l = z ∧ h = x) ∨ (l = z ∧ h = y) ) : (l = x ∧ h = y → x + y + z - l - h = z) ∧ (l = x ∧ h = z → x + y + z - l - h = y) ∧ (l = y ∧ h = x → x + y + z - l - h = z) ∧ (l = y ∧ h = z → x + y + z - l - h = x) ∧ (l = z ∧ h = x → x + y + z - l - h = y) ∧ (l = z ∧ h = y → x + y + z - l - h = x) := by
  have key : ∀ a b c : Int32, a + b + c - a - b = c ∧ a + b + c - a - c = b ∧ a + b + c - b - a = c ∧ a + b + c - b - c = a ∧ a + b + c - c - a = b ∧ a + b + c - c - b = a := by
    intro a b c
    refine ⟨?_, ?_, ?_, ?_, ?_, ?_⟩ <;> (apply Int32.toBitVec_inj.mp; simp only [Int32.toBitVec_add, Int32.toBitVec_sub]; generalize a.toBitVec = a; generalize b.toBitVec = b; generalize c.toBitVec = c; first | (apply BitVec.eq_of_toNat_eq; simp only [BitVec.toNat_add, BitVec.toNat_sub]; omega))
  obtain ⟨k1, k2, k3, k4, k5, k6⟩ := key x y z
  refine ⟨?_, ?_, ?_, ?_, ?_, ?_⟩ <;> (rintro ⟨rfl, rfl⟩; assumption)
