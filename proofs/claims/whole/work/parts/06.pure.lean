/-! THE STATE, as numbers: counts, ints, longs, truths, by row and place -/
abbrev xS : Type := (Nat → Nat) × (Nat → Nat → Int32) × (Nat → Nat → Int64) × (Nat → Nat → Bool)
def row {α : Type} (f : Nat → α) (k : Nat) (v : α) : Nat → α := fun j => if j = k then v else f j
theorem row_eq {α : Type} {f : Nat → α} {k : Nat} {v : α} : row f k v k = v := by simp [row]
theorem row_ne {α : Type} {f : Nat → α} {k j : Nat} {v : α} (h : j ≠ k) : row f k v j = f j := by simp [row, h]
def pN (σ : xS) (k v : Nat) : xS := (row σ.1 k v, σ.2)
def pI (σ : xS) (k : Nat) (f : Nat → Int32) : xS := (σ.1, row σ.2.1 k f, σ.2.2)
def pL (σ : xS) (k : Nat) (f : Nat → Int64) : xS := (σ.1, σ.2.1, row σ.2.2.1 k f, σ.2.2.2)
def pZ (σ : xS) (k : Nat) (f : Nat → Bool) : xS := (σ.1, σ.2.1, σ.2.2.1, row σ.2.2.2 k f)
/-- the number that an argument names, of n -/
def xi (n : Nat) (x : Int32) : Option Nat := if 0 ≤ x.toInt ∧ x.toInt < (n : Int) then some x.toNatClampNeg else none
theorem xi_nI {n i : Nat} (h : i < n) (hn : n < 2 ^ 31) : xi n (nI i) = some i := by
  unfold xi
  rw [nI_toInt (by omega), nI_clamp (by omega), if_pos (by omega)]
theorem xi_none {n : Nat} {x : Int32} (h : ¬ (0 ≤ x.toInt ∧ x.toInt < (n : Int))) : xi n x = none := if_neg h
theorem xi_some {n : Nat} {x : Int32} (h : 0 ≤ x.toInt ∧ x.toInt < (n : Int)) (hn : n < 2 ^ 31) : ∃ i, i < n ∧ x = nI i := by
  have h0 : ¬ x < 0 := by rw [Int32.lt_iff_toInt_lt, Int32.toInt_zero]; omega
  obtain ⟨j, hj, rfl⟩ := nI_of h0
  rw [nI_toInt hj] at h
  exact ⟨j, by omega, rfl⟩
def xin (a b c : Int64) : Bool := decide (b ≤ a) && decide (a ≤ c)
def xm (x : Int32) : Bool := decide (0 ≤ x.toInt ∧ x.toInt < 4)
theorem vp_cell_congrL {cA : ClassId} {n : Nat} {f g : Nat → Int64} (h : ∀ j, j < n → f j = g j) : vp_cell cA (n, .inr (.inl f)) = vp_cell cA (n, .inr (.inl g)) := by
  rw [vp_cell_l, vp_cell_l]
  unfold arrV
  congr 1
  congr 1
  funext j
  show Value.long (f j.val) = Value.long (g j.val)
  rw [h j.val j.isLt]
theorem vp_cell_congrI {cA : ClassId} {n : Nat} {f g : Nat → Int32} (h : ∀ j, j < n → f j = g j) : vp_cell cA (n, .inl f) = vp_cell cA (n, .inl g) := by
  rw [vp_cell_i, vp_cell_i]
  unfold arrV
  congr 1
  congr 1
  funext j
  show Value.int (f j.val) = Value.int (g j.val)
  rw [h j.val j.isLt]
theorem vp_cell_congrQ {cA : ClassId} {n : Nat} {f g : Nat → Option Nat} (h : ∀ j, j < n → f j = g j) : vp_cell cA (n, .inr (.inr (.inr (.inr f)))) = vp_cell cA (n, .inr (.inr (.inr (.inr g)))) := by
  rw [vp_cell_q, vp_cell_q]
  unfold arrV
  congr 1
  congr 1
  funext j
  show va_rf (f j.val) = va_rf (g j.val)
  rw [h j.val j.isLt]
/-- a cell said in other words -/
theorem xw.as {D : va_G} {cl : List vw_C} {B : Nat} {ad : Nat → Nat} {w : Nat → Option va_E} {H : Heap} (t : Nat) {cA : ClassId} {a b : vp_A} (h : xw D cl B ad w H) (ht : w t = some (.inl (cA, a))) (hab : vp_cell cA a = vp_cell cA b) : xw D cl B ad (xu w t (.inl (cA, b))) H := by
  refine h.set ht ?_ (fun _ _ => rfl)
  show H[ad t]? = some (vp_cell cA b)
  rw [← hab]
  exact h.1 t _ ht
theorem i32_nn {x : Int32} (h : ¬ x < 0) : 0 ≤ x.toInt := by rw [Int32.lt_iff_toInt_lt, Int32.toInt_zero] at h; omega
theorem i32_n {x : Int32} (h : x < 0) : x.toInt < 0 := by rw [Int32.lt_iff_toInt_lt, Int32.toInt_zero] at h; omega
theorem i32_4 : (4 : Int32).toInt = 4 := by decide
theorem xm_0 {x : Int32} (h : x < 0) : xm x = false := by
  have := i32_n h
  exact decide_eq_false (by omega)
theorem xm_4 {x : Int32} (h : 4 ≤ x) : xm x = false := by
  rw [Int32.le_iff_toInt_le, i32_4] at h
  exact decide_eq_false (by omega)
theorem xm_t {x : Int32} (h : ¬ x < 0) (h4 : ¬ 4 ≤ x) : xm x = true := by
  have := i32_nn h
  rw [Int32.le_iff_toInt_le, i32_4] at h4
  exact decide_eq_true (by omega)
theorem xm_nI {k : Nat} (h : k < 4) : xm (nI k) = true := decide_eq_true (by rw [nI_toInt (by omega)]; omega)
theorem xm_of {x : Int32} (h : xm x = true) : ∃ k, k < 4 ∧ x = nI k := xi_some (n := 4) (of_decide_eq_true h) (by decide)
theorem xin_1 {a b c : Int64} (h : a < b) : xin a b c = false := by
  simp only [xin, Bool.and_eq_false_iff, decide_eq_false_iff_not]
  exact Or.inl (Int64.not_le.mpr h)
theorem xin_2 {a b c : Int64} (h : c < a) : xin a b c = false := by
  simp only [xin, Bool.and_eq_false_iff, decide_eq_false_iff_not]
  exact Or.inr (Int64.not_le.mpr h)
theorem xin_t {a b c : Int64} (h : ¬ a < b) (h2 : ¬ c < a) : xin a b c = true := by
  simp only [xin, Bool.and_eq_true, decide_eq_true_eq]
  exact ⟨Int64.not_lt.mp h, Int64.not_lt.mp h2⟩
theorem xi_0 {n : Nat} {x : Int32} (h : x < 0) : xi n x = none := by
  have := i32_n h
  exact xi_none (by omega)
theorem xi_n {n : Nat} {x : Int32} (h : nI n ≤ x) (hn : n < 2147483648) : xi n x = none := by
  rw [Int32.le_iff_toInt_le, nI_toInt hn] at h
  exact xi_none (by omega)
theorem xi_t {n : Nat} {x : Int32} (h : ¬ x < 0) (h2 : ¬ nI n ≤ x) (hn : n < 2147483648) : ∃ i, i < n ∧ x = nI i := by
  have := i32_nn h
  rw [Int32.le_iff_toInt_le, nI_toInt hn] at h2
  exact xi_some (by omega) hn
/-- the machine's greater and lesser -/
def mx (x y : Int32) : Int32 := if x < y then y else x
def mn (x y : Int32) : Int32 := if y < x then y else x
def mxL (x y : Int64) : Int64 := if y < x then x else y
/-- of three labs' words T on metal k: told by all; the middle; how far apart -/
def allT (T : Nat → Int32) (k : Nat) : Bool := !(decide (T (k * 3) = -1)) && (!(decide (T (k * 3 + 1) = -1)) && !(decide (T (k * 3 + 2) = -1)))
def mid (T : Nat → Int32) (k : Nat) : Int32 := if allT T k then mx (mn (T (k * 3)) (T (k * 3 + 1))) (mn (mx (T (k * 3)) (T (k * 3 + 1))) (T (k * 3 + 2))) else -1
def spr (T : Nat → Int32) (k : Nat) : Int32 := if allT T k then mx (mx (T (k * 3)) (T (k * 3 + 1))) (T (k * 3 + 2)) - mn (mn (T (k * 3)) (T (k * 3 + 1))) (T (k * 3 + 2)) else -1
/-- the price of metal k on a day, of its first n prices; of all -/
def prN (σ : xS) (k : Nat) (d : Int32) : Nat → Int64
  | 0 => 0
  | n + 1 => if σ.2.1 40 (k * 6 + n) ≤ d then σ.2.2.1 40 (k * 6 + n) else prN σ k d n
def pr (σ : xS) (d : Int32) (k : Nat) : Int64 := prN σ k d (σ.1 (11 + 2 * k))
/-- what amounts A come to on a day -/
def wor (σ : xS) (A : Nat → Int64) (d : Int32) : Int64 :=
  (0 + A 0 / 1000000 * pr σ d 0 + A 1 / 1000000 * pr σ d 1 + A 2 / 1000000 * pr σ d 2 + A 3 / 1000000 * pr σ d 3) +
  (0 + (A 0 - A 0 / 1000000 * 1000000) * pr σ d 0 + (A 1 - A 1 / 1000000 * 1000000) * pr σ d 1 + (A 2 - A 2 / 1000000 * 1000000) * pr σ d 2 + (A 3 - A 3 / 1000000 * 1000000) * pr σ d 3) / 1000000
/-- what always holds of the numbers -/
def Inv (σ : xS) : Prop :=
  σ.1 0 ≤ 8 ∧ σ.1 1 ≤ 6 ∧ σ.1 2 ≤ 8 ∧ (∀ k, k < 4 → σ.1 (11 + 2 * k) ≤ 6) ∧ (∀ i, σ.1 (10 + 2 * i) ≤ 6) ∧
  (∀ i j, i < σ.1 0 → j < 12 → σ.2.1 (20 + i) j = -1 ∨ 0 ≤ σ.2.1 (20 + i) j) ∧ 0 ≤ σ.2.1 0 1 ∧ (∀ i, i < σ.1 2 → ∃ k, k < 4 ∧ σ.2.1 7 i = nI k) ∧
  (∀ i, i < σ.1 0 → (σ.2.1 10 i = -1 ∧ σ.1 (10 + 2 * i) = 0) ∨ σ.2.1 10 i = nI (σ.1 (10 + 2 * i))) ∧
  (∀ i, i < σ.1 0 → 0 ≤ (σ.2.2.1 1 i).toInt ∧ (σ.2.2.1 1 i).toInt ≤ 2 ^ 47 * (2 ^ (i + 2) - (if σ.2.2.2 1 i then 2 else 3))) ∧
  (∀ i, σ.1 0 ≤ i → i < 8 → σ.2.2.2 0 i = false ∧ σ.2.2.2 1 i = false ∧ σ.2.2.2 2 i = false ∧ σ.1 (10 + 2 * i) = 0 ∧ (σ.2.2.1 (10 + i) = fun _ => 0) ∧ (σ.2.2.1 (20 + i) = fun _ => 0)) ∧
  (∀ i, σ.1 1 ≤ i → i < 6 → σ.2.2.1 (30 + i) = fun _ => 0)
def opt {α : Type} (o : Option Nat) (d : α) (f : Nat → α) : α := match o with
  | none => d
  | some i => f i
theorem opt_n {α : Type} {d : α} {f : Nat → α} : opt none d f = d := rfl
theorem opt_s {α : Type} {d : α} {f : Nat → α} {i : Nat} : opt (some i) d f = f i := rfl
theorem xm_xi {x : Int32} (h : xm x = false) : xi 4 x = none := xi_none (of_decide_eq_false h)
theorem nLT {a b : Nat} (ha : a < 2147483648) (hb : b < 2147483648) : nI a < nI b ↔ a < b := nI_ltI ha hb
theorem nLE {a b : Nat} (ha : a < 2147483648) (hb : b < 2147483648) : nI a ≤ nI b ↔ a ≤ b := nI_leI ha hb
theorem nEQ {a b : Nat} (ha : a < 2147483648) (hb : b < 2147483648) : nI a = nI b ↔ a = b := nI_eq ha hb
/-- a loop: an invariant by a number that goes up to N -/
theorem xloop {p : Program} {l : Launch} {e : Env} {R : Room} {s : State} {m : MethodId} {args : Array Value} {below : List Frame} {meth : Method} {c : Code} {cells slots : Nat} {Q : State → Prop} {pc : Nat} {H : Heap} {locs : List Loc} {ls : Array Slot}
    (N : Nat) (I : Nat → Heap → List Loc → Array Slot → Prop) (n0 : Nat) (h0 : n0 ≤ N) (hI : I n0 H locs ls)
    (hs : ∀ (n : Nat) (H : Heap) (locs : List Loc) (ls : Array Slot), n ≤ N → I n H locs ls → (n < N → ∀ (H1 : Heap) (locs1 : List Loc) (ls1 : Array Slot), I (n + 1) H1 locs1 ls1 → W p l e R s m args below meth c H1 locs1 cells slots Q (F0 m pc ls1 [])) → W p l e R s m args below meth c H locs cells slots Q (F0 m pc ls [])) :
    W p l e R s m args below meth c H locs cells slots Q (F0 m pc ls []) := by
  have key : ∀ (r n : Nat) (H : Heap) (locs : List Loc) (ls : Array Slot), n + r = N → I n H locs ls → W p l e R s m args below meth c H locs cells slots Q (F0 m pc ls []) := by
    intro r
    induction r with
    | zero => intro n H locs ls hn hI; exact hs n H locs ls (by omega) hI (fun h => absurd h (by omega))
    | succ r ih => intro n H locs ls hn hI; exact hs n H locs ls (by omega) hI (fun _ H1 locs1 ls1 h => ih (n + 1) H1 locs1 ls1 (by omega) h)
  exact key (N - n0) n0 H locs ls (by omega) hI
def hasS (T : Nat → Int32) (x : Int32) : Bool := !(decide (spr T 0 ≤ x)) || (!(decide (spr T 1 ≤ x)) || (!(decide (spr T 2 ≤ x)) || !(decide (spr T 3 ≤ x))))
def thou (σ : xS) (j : Nat) (x : Int32) : Int32 := if x = σ.2.1 3 j then σ.2.1 4 j else σ.2.1 5 j
/-- whether rule r gives batch i its class -/
def fits_ (σ : xS) (r i : Nat) : Bool := opt (xi 4 (σ.2.1 7 r)) false fun k => !(decide (mid (σ.2.1 (20 + i)) k = -1)) && (decide (mid (σ.2.1 (20 + i)) k ≤ σ.2.1 8 r) && (decide (spr (σ.2.1 (20 + i)) k ≤ σ.2.1 0 1) && decide (σ.2.1 9 r ≤ σ.2.1 0 0 - σ.2.1 1 i)))
def fst_ (p : Nat → Bool) : Nat → Nat → Option Nat
  | 0, _ => none
  | m + 1, n => if p n then some n else fst_ p m (n + 1)
theorem fst_s {p : Nat → Bool} {N n : Nat} (h : n < N) : fst_ p (N - n) n = if p n then some n else fst_ p (N - (n + 1)) (n + 1) := by
  rw [show N - n = (N - (n + 1)) + 1 by omega]; rfl
def dsp (p : Nat → Bool) (k : Int32) : Nat → Nat → Int32 → Int32
  | 0, _, _ => -1
  | m + 1, n, c => if p n then (if c = k then nI n else dsp p k m (n + 1) (c + 1)) else dsp p k m (n + 1) c
theorem dsp_s {p : Nat → Bool} {k c : Int32} {N n : Nat} (h : n < N) : dsp p k (N - n) n c = if p n then (if c = k then nI n else dsp p k (N - (n + 1)) (n + 1) (c + 1)) else dsp p k (N - (n + 1)) (n + 1) c := by
  rw [show N - n = (N - (n + 1)) + 1 by omega]; rfl
def f_settled (σ : xS) (x1 x2 : Int32) : Int32 := opt (xi (σ.1 0) x1) (-1) fun i => opt (xi 4 x2) (-1) fun k => mid (σ.2.1 (20 + i)) k
def f_disputed (σ : xS) (x1 x2 : Int32) : Bool := opt (xi (σ.1 0) x1) false fun i => opt (xi 4 x2) false fun k => !(decide (spr (σ.2.1 (20 + i)) k ≤ σ.2.1 0 1))
def f_worth (σ : xS) (x1 x2 : Int32) : Int64 := opt (xi (σ.1 0) x1) (-1) fun i => if 0 ≤ x2 then wor σ (σ.2.2.1 (10 + i)) x2 else -1
def f_cls (σ : xS) (x1 : Int32) : Int32 := opt (xi (σ.1 0) x1) (-1) fun i => if σ.2.2.2 2 i then -1 else opt (fst_ (fun r => fits_ σ r i) (σ.1 2) 0) 99 fun r => σ.2.1 6 r
def disp (σ : xS) (i : Nat) : Bool := !σ.2.2.2 2 i && hasS (σ.2.1 (20 + i)) (σ.2.1 0 1)
def f_dispute (σ : xS) (x1 : Int32) : Int32 := dsp (disp σ) x1 (σ.1 0) 0 0
