def f_sell (σ : xS) (x1 : Int32) : xS × Int64 := opt (xi (σ.1 1) x1) (σ, -1) fun j => (pL (pL σ (30 + j) (fun _ => 0)) 0 (vp_updL (σ.2.2.1 0) 0 (σ.2.2.1 0 0 + wor σ (σ.2.2.1 (30 + j)) (σ.2.1 0 0))), wor σ (σ.2.2.1 (30 + j)) (σ.2.1 0 0))
/-- what stage j takes of metal k of batch i -/
def pt (σ : xS) (i j k : Nat) (x : Int32) : Int64 := σ.2.2.1 (10 + i) k * (thou σ j x).toInt64 / 1000
def tog (σ : xS) (i j : Nat) : Int64 := 0 + pt σ i j 0 0 + pt σ i j 1 1 + pt σ i j 2 2 + pt σ i j 3 3
def s_pass (σ : xS) (i j : Nat) : xS :=
  pL (pL (pL (pL σ (10 + i) (vp_updL (vp_updL (vp_updL (vp_updL (σ.2.2.1 (10 + i)) 0 (σ.2.2.1 (10 + i) 0 - pt σ i j 0 0)) 1 (σ.2.2.1 (10 + i) 1 - pt σ i j 1 1)) 2 (σ.2.2.1 (10 + i) 2 - pt σ i j 2 2)) 3 (σ.2.2.1 (10 + i) 3 - pt σ i j 3 3)))
    (20 + i) (vp_updL (vp_updL (vp_updL (vp_updL (σ.2.2.1 (20 + i)) (j * 4) (pt σ i j 0 0)) (j * 4 + 1) (pt σ i j 1 1)) (j * 4 + 2) (pt σ i j 2 2)) (j * 4 + 3) (pt σ i j 3 3)))
    (30 + j) (vp_updL (vp_updL (vp_updL (vp_updL (σ.2.2.1 (30 + j)) 0 (σ.2.2.1 (30 + j) 0 + pt σ i j 0 0)) 1 (σ.2.2.1 (30 + j) 1 + pt σ i j 1 1)) 2 (σ.2.2.1 (30 + j) 2 + pt σ i j 2 2)) 3 (σ.2.2.1 (30 + j) 3 + pt σ i j 3 3)))
    1 (vp_updL (σ.2.2.1 1) i (mxL 0 (σ.2.2.1 1 i - tog σ i j / 1000000)))
def passN (σ : xS) (i : Nat) : Nat → xS
  | 0 => σ
  | n + 1 => s_pass (passN σ i n) i n
def s_run (σ : xS) (Lt : Nat → Nat → Int64) (i : Nat) : xS := pI (pN (pZ (σ.1, σ.2.1, Lt, σ.2.2.2) 1 (row (σ.2.2.2 1) i true)) (10 + 2 * i) (σ.1 1)) 10 (upd (σ.2.1 10) i (nI (σ.1 1)))
def f_run (σ : xS) (x1 : Int32) : xS × Int32 := opt (xi (σ.1 0) x1) (σ, -1) fun i => if σ.2.2.2 2 i then (σ, -1) else if σ.2.2.2 1 i then (σ, -1) else (s_run σ (passN σ i (σ.1 1)).2.2.1 i, nI (σ.1 1))
def s_mix (σ : xS) (i j : Nat) : xS :=
  pL (pZ (pZ (s_new σ (σ.2.2.1 1 i + σ.2.2.1 1 j) (mx (σ.2.1 1 i) (σ.2.1 1 j)) true) 2 (row (row (σ.2.2.2 2) i true) j true)) 1 (row (σ.2.2.2 1) (σ.1 0) (σ.2.2.2 1 i && σ.2.2.2 1 j)))
    (10 + σ.1 0) (vp_updL (vp_updL (vp_updL (vp_updL (fun _ => 0) 0 (σ.2.2.1 (10 + i) 0 + σ.2.2.1 (10 + j) 0)) 1 (σ.2.2.1 (10 + i) 1 + σ.2.2.1 (10 + j) 1)) 2 (σ.2.2.1 (10 + i) 2 + σ.2.2.1 (10 + j) 2)) 3 (σ.2.2.1 (10 + i) 3 + σ.2.2.1 (10 + j) 3))
def f_mix (σ : xS) (x1 x2 : Int32) : xS × Int32 := opt (xi (σ.1 0) x1) (σ, -1) fun i => opt (xi (σ.1 0) x2) (σ, -1) fun j => if i = j then (σ, -1) else if σ.1 0 < 8 then (if σ.2.2.2 2 i then (σ, -1) else if σ.2.2.2 2 j then (σ, -1) else if bI (σ.2.2.2 1 i) = bI (σ.2.2.2 1 j) then (s_mix σ i j, nI (σ.1 0)) else (σ, -1)) else (σ, -1)
/-- the numbers of a new object -/
def s_0 : xS := (fun _ => 0, fun k j => if k = 0 ∧ j = 1 then 50 else 0, fun _ _ => 0, fun _ _ => false)
