/-- the class: its cells, out of the numbers -/
def RepX (K : Nat → ClassId) (σ : xS) (ad : Nat → Nat) (w : Nat → Option va_E) : Prop :=
  w 0 = some (.inr (0, [.ref (ad 1), .int (nI (σ.1 0)), .ref (ad 2), .int (nI (σ.1 1)), .ref (ad 3), .int (nI (σ.1 2)), .ref (ad 4), .int (σ.2.1 0 0), .int (σ.2.1 0 1), .long (σ.2.2.1 0 0)])) ∧
  w 1 = some (.inl (K 2, 8, .inr (.inr (.inr (.inr (fun i => if i < σ.1 0 then some (ad (100 + i)) else none)))))) ∧
  w 2 = some (.inl (K 3, 6, .inr (.inr (.inr (.inr (fun i => if i < σ.1 1 then some (ad (140 + i)) else none)))))) ∧
  w 3 = some (.inl (K 4, 8, .inr (.inr (.inr (.inr (fun i => if i < σ.1 2 then some (ad (160 + i)) else none)))))) ∧
  w 4 = some (.inr (4, [.ref (ad 5), .ref (ad 6), .ref (ad 7)])) ∧
  w 5 = some (.inl (K 0, 4, .inl (fun k => nI (σ.1 (11 + 2 * k))))) ∧
  w 6 = some (.inl (K 0, 24, .inl (σ.2.1 40))) ∧
  w 7 = some (.inl (K 1, 24, .inr (.inl (σ.2.2.1 40)))) ∧
  (∀ i, i < σ.1 0 → w (100 + i) = some (.inr (1, [.int (σ.2.1 1 i), .int (bI (σ.2.2.2 0 i)), .ref (ad (110 + i)), .ref (ad (120 + i)), .ref (ad (130 + i)), .long (σ.2.2.1 1 i), .int (bI (σ.2.2.2 1 i)), .int (bI (σ.2.2.2 2 i)), .int (nI (σ.1 (10 + 2 * i)))]))) ∧
  (∀ i, i < σ.1 0 → w (110 + i) = some (.inl (K 1, 4, .inr (.inl (σ.2.2.1 (10 + i)))))) ∧
  (∀ i, i < σ.1 0 → w (120 + i) = some (.inl (K 1, 24, .inr (.inl (σ.2.2.1 (20 + i)))))) ∧
  (∀ i, i < σ.1 0 → w (130 + i) = some (.inl (K 0, 12, .inl (σ.2.1 (20 + i))))) ∧
  (∀ i, i < σ.1 1 → w (140 + i) = some (.inr (2, [.int (σ.2.1 3 i), .int (σ.2.1 4 i), .int (σ.2.1 5 i), .ref (ad (150 + i))]))) ∧
  (∀ i, i < σ.1 1 → w (150 + i) = some (.inl (K 1, 4, .inr (.inl (σ.2.2.1 (30 + i)))))) ∧
  (∀ i, i < σ.1 2 → w (160 + i) = some (.inr (3, [.int (σ.2.1 6 i), .int (σ.2.1 7 i), .int (σ.2.1 8 i), .int (σ.2.1 9 i)])))
/-- the reference -/
def RepM (K : Nat → ClassId) (σ : xS) (ad : Nat → Nat) (w : Nat → Option va_E) : Prop :=
  ∃ (FA : Nat → Int64) (FT : Nat → Int64) (FS : Nat → Int64) (FO : Nat → Int32),
  w 200 = some (.inr (5, [.int (σ.2.1 0 0), .int (nI (σ.1 0)), .ref (ad 203), .ref (ad 204), .ref (ad 205), .ref (ad 206), .ref (ad 207), .ref (ad 208), .ref (ad 209), .ref (ad 210), .int (nI (σ.1 1)), .ref (ad 212), .ref (ad 213), .ref (ad 214), .ref (ad 215), .ref (ad 216), .ref (ad 217), .ref (ad 218), .long (σ.2.2.1 0 0), .ref (ad 220), .int (σ.2.1 0 1), .int (nI (σ.1 2)), .ref (ad 223), .ref (ad 224), .ref (ad 225), .ref (ad 226)])) ∧
  w 203 = some (.inl (K 1, 8, .inr (.inl (σ.2.2.1 1)))) ∧
  w 204 = some (.inl (K 0, 8, .inl (σ.2.1 1))) ∧
  w 205 = some (.inl (K 5, 8, .inl (fun b => bI (σ.2.2.2 2 b)))) ∧
  w 206 = some (.inl (K 5, 8, .inl (fun b => bI (σ.2.2.2 0 b)))) ∧
  w 207 = some (.inl (K 5, 8, .inl (fun b => bI (σ.2.2.2 1 b)))) ∧
  w 208 = some (.inl (K 0, 8, .inl (σ.2.1 10))) ∧
  w 209 = some (.inl (K 1, 32, .inr (.inl FA))) ∧
  w 210 = some (.inl (K 1, 192, .inr (.inl FT))) ∧
  w 212 = some (.inl (K 0, 6, .inl (σ.2.1 3))) ∧
  w 213 = some (.inl (K 0, 6, .inl (σ.2.1 4))) ∧
  w 214 = some (.inl (K 0, 6, .inl (σ.2.1 5))) ∧
  w 215 = some (.inl (K 1, 24, .inr (.inl FS))) ∧
  w 216 = some (.inl (K 0, 4, .inl (fun k => nI (σ.1 (11 + 2 * k))))) ∧
  w 217 = some (.inl (K 0, 24, .inl (σ.2.1 40))) ∧
  w 218 = some (.inl (K 1, 24, .inr (.inl (σ.2.2.1 40)))) ∧
  w 220 = some (.inl (K 0, 96, .inl FO)) ∧
  w 223 = some (.inl (K 0, 8, .inl (σ.2.1 6))) ∧
  w 224 = some (.inl (K 0, 8, .inl (σ.2.1 7))) ∧
  w 225 = some (.inl (K 0, 8, .inl (σ.2.1 8))) ∧
  w 226 = some (.inl (K 0, 8, .inl (σ.2.1 9))) ∧
  (∀ b k, b < 8 → k < 4 → FA (4 * b + k) = σ.2.2.1 (10 + b) k) ∧
  (∀ b j, b < 8 → j < 24 → FT (24 * b + j) = σ.2.2.1 (20 + b) j) ∧
  (∀ b k, b < 6 → k < 4 → FS (4 * b + k) = σ.2.2.1 (30 + b) k) ∧
  (∀ b j, b < 8 → j < 12 → FO (12 * b + j) = σ.2.1 (20 + b) j)
