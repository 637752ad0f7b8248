set_option maxHeartbeats 4000000 in
set_option maxRecDepth 100000 in
theorem c_J_fillI {l : Launch} {D : va_G} {K : Nat → ClassId} {B : Nat} {ad : Nat → Nat} {w : Nat → Option va_E} {H : Heap} (hw : xw D vwCl B ad w H) (t n : Nat) (hn : n < 1000) (f : Nat → Int32) (u : Int32) (h0 : w t = some (.inl (K 0, n, .inl f))) (a : Nat) (ha : ad t = a) : xC l D K B y_J_fillI b_J_fillI 4 none rm_J_fillI [.ref a, .int u] H (fun v H1 => v = none ∧ xw D vwCl B ad (xu w t (.inl (K 0, n, .inl (fun _ => u)))) H1) := by
  refine Met.ofW (cc := b_J_fillI) (maxL := 4) (ret := none) (by decide) rfl ?_
  intro p e s m args below meth c s₁ B0 hml hv
  obtain ⟨rfl, hsz, hK, hN⟩ := hv
  have hx := B0.exec
  have hb := B0.bytes
  have hr := B0.returns
  have htw : ∀ w ∈ xW0, w.before [.ref a, .int u].toArray s = true := fun w h => atoms_spec (ws := Cond.code y_J_fillI b_J_fillI 4 none :: xW0) B0.pre w (List.mem_cons_of_mem _ h)
  have hown : s.vm.findClass R_J = some m.cls := findClass_of_methodNamed B0.named
  have hlocks := B0.notSynchronized
  subst hsz
  have hS : va_S (fun q => B ≤ q) s.heap s.heap [] := va_S.rf
  have hl := lv_entry ([.ref a, .int u]) (n := 4) (Nat.le_of_ble_eq_true rfl)
  rw [lg_entry_eq]
  generalize (lg_sl ([.ref a, .int u]) ++ List.replicate (4 - (lg_sl ([.ref a, .int u])).length) Slot.unset).toArray = ls at hl ⊢
  have hl : lv_has ls 4 [(0, .ref a), (1, .int u)] := hl
  have hH : s.heap = s.heap := rfl
  refine lv_iconst (v := 0) hx hb d_J_fillI_0 (by decide) ?_
  refine lv_istore_n (lv' := [(2, .int 0), (0, .ref a), (1, .int u)]) hx hb d_J_fillI_1 rfl hl (by decide) rfl (fun ls hl => ?_)
  refine lv_aload_n hx hb d_J_fillI_2 rfl (lv_at hl 1 rfl) ?_
  refine xr_alen (v := nI n) hx hb hK hw t 0 h0 ha rfl rfl d_J_fillI_3 ?_
  refine lv_istore_n (lv' := [(3, .int (nI n)), (2, .int 0), (0, .ref a), (1, .int u)]) hx hb d_J_fillI_4 rfl hl (by decide) rfl (fun ls hl => ?_)
  refine xloop n (fun i H locs ls => ∃ g : Nat → Int32, xw D vwCl B ad (xu w t (.inl (K 0, n, .inl g))) H ∧ va_S (fun q => B ≤ q) s.heap H locs ∧ (∀ j, j < i → g j = u) ∧ lv_has ls 4 [(3, .int (nI n)), (2, .int (nI i)), (0, .ref a), (1, .int u)]) 0 (Nat.zero_le _) ⟨f, hw.as t h0 rfl, hS, fun j hj => absurd hj (by omega), hl⟩ (fun i H locs ls hi hJ ih => ?_)
  obtain ⟨g, hw, hS, hg, hl⟩ := hJ
  refine lv_iload_n hx hb d_J_fillI_5 rfl (lv_at hl 1 rfl) ?_
  refine lv_iload_n hx hb d_J_fillI_6 rfl (lv_at hl 0 rfl) ?_
  refine lv_icmp_ge (tgt := 20) hx hb d_J_fillI_7 (by decide) (fun c_1 => ?_) (fun c_1 => ?_)
  · have c_1 : n ≤ i := (nLE (a := n) (b := i) (by omega) (by omega)).mp c_1
    have hw := hw.as t xu_eq (b := (n, .inl (fun _ => u))) (vp_cell_congrI (fun j hj => hg j (by omega)))
    rw [xu_xu] at hw
    exact W.vret hx hb hr (fun t ht _ => ⟨_, rfl, ⟨rfl, by rw [ht]; exact hw⟩, hS.F ht⟩) hS.2.2 d_J_fillI_20
  · have c_1 : ¬ n ≤ i := fun z => c_1 ((nLE (a := n) (b := i) (by omega) (by omega)).mpr z)
    refine lv_aload_n hx hb d_J_fillI_10 rfl (lv_at hl 2 rfl) ?_
    refine lv_iload_n hx hb d_J_fillI_11 rfl (lv_at hl 1 rfl) ?_
    refine lv_iload_n hx hb d_J_fillI_12 rfl (lv_at hl 3 rfl) ?_
    refine xr_iast (i := nI i) hx hb hK hw hS t 0 xu_eq ha rfl (xvin (a := i) rfl (by omega) (by omega)) d_J_fillI_13 (fun H locs hw hS => ?_)
    rw [show (nI i).toNatClampNeg = i from xcl (a := i) rfl (by omega)] at hw
    have hw : xw D vwCl B ad (xu (xu w t (.inl (K 0, n, .inl g))) t (.inl (K 0, n, .inl (upd g i u)))) H := hw
    refine lv_iinc (v := nI i + 1) (lv' := [(2, .int (nI i + 1)), (3, .int (nI n)), (0, .ref a), (1, .int u)]) hx hb d_J_fillI_14 hl (k := 1) rfl rfl (by decide) rfl (fun ls hl => ?_)
    refine lv_goto (tgt := 5) hx hb d_J_fillI_17 (by decide) ?_
    refine ih (by omega) _ _ _ ⟨upd g i u, by rw [xu_xu] at hw; exact hw, hS, fun j hj => ?_, ?_⟩
    · by_cases hji : j = i
      · rw [hji]; exact pk_us
      · rw [pk_un hji]; exact hg j (by omega)
    · rw [show nI (i + 1) = nI i + 1 from nI_succ i]; exact lv_sub hl [1, 0, 2, 3] rfl
set_option maxHeartbeats 4000000 in
set_option maxRecDepth 100000 in
theorem c_J_fillJ {l : Launch} {D : va_G} {K : Nat → ClassId} {B : Nat} {ad : Nat → Nat} {w : Nat → Option va_E} {H : Heap} (hw : xw D vwCl B ad w H) (t n : Nat) (hn : n < 1000) (f : Nat → Int64) (u : Int64) (h0 : w t = some (.inl (K 1, n, .inr (.inl f)))) (a : Nat) (ha : ad t = a) : xC l D K B y_J_fillJ b_J_fillJ 5 none rm_J_fillJ [.ref a, .long u] H (fun v H1 => v = none ∧ xw D vwCl B ad (xu w t (.inl (K 1, n, .inr (.inl (fun _ => u))))) H1) := by
  refine Met.ofW (cc := b_J_fillJ) (maxL := 5) (ret := none) (by decide) rfl ?_
  intro p e s m args below meth c s₁ B0 hml hv
  obtain ⟨rfl, hsz, hK, hN⟩ := hv
  have hx := B0.exec
  have hb := B0.bytes
  have hr := B0.returns
  have htw : ∀ w ∈ xW0, w.before [.ref a, .long u].toArray s = true := fun w h => atoms_spec (ws := Cond.code y_J_fillJ b_J_fillJ 5 none :: xW0) B0.pre w (List.mem_cons_of_mem _ h)
  have hown : s.vm.findClass R_J = some m.cls := findClass_of_methodNamed B0.named
  have hlocks := B0.notSynchronized
  subst hsz
  have hS : va_S (fun q => B ≤ q) s.heap s.heap [] := va_S.rf
  have hl := lv_entry ([.ref a, .long u]) (n := 5) (Nat.le_of_ble_eq_true rfl)
  rw [lg_entry_eq]
  generalize (lg_sl ([.ref a, .long u]) ++ List.replicate (5 - (lg_sl ([.ref a, .long u])).length) Slot.unset).toArray = ls at hl ⊢
  have hl : lv_has ls 5 [(0, .ref a), (1, .long u)] := hl
  have hH : s.heap = s.heap := rfl
  refine lv_iconst (v := 0) hx hb d_J_fillJ_0 (by decide) ?_
  refine lv_istore_n (lv' := [(3, .int 0), (0, .ref a), (1, .long u)]) hx hb d_J_fillJ_1 rfl hl (by decide) rfl (fun ls hl => ?_)
  refine lv_aload_n hx hb d_J_fillJ_2 rfl (lv_at hl 1 rfl) ?_
  refine xr_alen (v := nI n) hx hb hK hw t 1 h0 ha rfl rfl d_J_fillJ_3 ?_
  refine lv_istore (lv' := [(4, .int (nI n)), (3, .int 0), (0, .ref a), (1, .long u)]) hx hb d_J_fillJ_4 hl (by decide) rfl (fun ls hl => ?_)
  refine xloop n (fun i H locs ls => ∃ g : Nat → Int64, xw D vwCl B ad (xu w t (.inl (K 1, n, .inr (.inl g)))) H ∧ va_S (fun q => B ≤ q) s.heap H locs ∧ (∀ j, j < i → g j = u) ∧ lv_has ls 5 [(4, .int (nI n)), (3, .int (nI i)), (0, .ref a), (1, .long u)]) 0 (Nat.zero_le _) ⟨f, hw.as t h0 rfl, hS, fun j hj => absurd hj (by omega), hl⟩ (fun i H locs ls hi hJ ih => ?_)
  obtain ⟨g, hw, hS, hg, hl⟩ := hJ
  refine lv_iload_n hx hb d_J_fillJ_6 rfl (lv_at hl 1 rfl) ?_
  refine lv_iload hx hb d_J_fillJ_7 (lv_at hl 0 rfl) ?_
  refine lv_icmp_ge (tgt := 22) hx hb d_J_fillJ_9 (by decide) (fun c_1 => ?_) (fun c_1 => ?_)
  · have c_1 : n ≤ i := (nLE (a := n) (b := i) (by omega) (by omega)).mp c_1
    have hw := hw.as t xu_eq (b := (n, .inr (.inl (fun _ => u)))) (vp_cell_congrL (fun j hj => hg j (by omega)))
    rw [xu_xu] at hw
    exact W.vret hx hb hr (fun t ht _ => ⟨_, rfl, ⟨rfl, by rw [ht]; exact hw⟩, hS.F ht⟩) hS.2.2 d_J_fillJ_22
  · have c_1 : ¬ n ≤ i := fun z => c_1 ((nLE (a := n) (b := i) (by omega) (by omega)).mpr z)
    refine lv_aload_n hx hb d_J_fillJ_12 rfl (lv_at hl 2 rfl) ?_
    refine lv_iload_n hx hb d_J_fillJ_13 rfl (lv_at hl 1 rfl) ?_
    refine lv_lload_n hx hb d_J_fillJ_14 rfl (lv_at hl 3 rfl) ?_
    refine xr_last (i := nI i) hx hb hK hw hS t 1 xu_eq ha rfl (xvin (a := i) rfl (by omega) (by omega)) d_J_fillJ_15 (fun H locs hw hS => ?_)
    rw [show (nI i).toNatClampNeg = i from xcl (a := i) rfl (by omega)] at hw
    have hw : xw D vwCl B ad (xu (xu w t (.inl (K 1, n, .inr (.inl g)))) t (.inl (K 1, n, .inr (.inl (vp_updL g i u))))) H := hw
    refine lv_iinc (v := nI i + 1) (lv' := [(3, .int (nI i + 1)), (4, .int (nI n)), (0, .ref a), (1, .long u)]) hx hb d_J_fillJ_16 hl (k := 1) rfl rfl (by decide) rfl (fun ls hl => ?_)
    refine lv_goto (tgt := 6) hx hb d_J_fillJ_19 (by decide) ?_
    refine ih (by omega) _ _ _ ⟨vp_updL g i u, by rw [xu_xu] at hw; exact hw, hS, fun j hj => ?_, ?_⟩
    · by_cases hji : j = i
      · rw [hji]; exact pk_uLs
      · rw [pk_uLn hji]; exact hg j (by omega)
    · rw [show nI (i + 1) = nI i + 1 from nI_succ i]; exact lv_sub hl [1, 0, 2, 3] rfl
set_option maxHeartbeats 4000000 in
set_option maxRecDepth 100000 in
theorem c_S_init {l : Launch} {D : va_G} {K : Nat → ClassId} {B : Nat} {ad : Nat → Nat} {w : Nat → Option va_E} {H : Heap} (hw : xw D vwCl B ad w H) (t t1 : Nat) (y1 y2 y3 : Int32) (hd : t ≠ t1) (h0 : w t = some (.inr (2, [.int 0, .int 0, .int 0, .null]))) (hB : B ≤ H.size) (a : Nat) (ha : ad t = a) : xC l D K B y_S_init b_S_init 4 none rm_S_init [.ref a, .int y1, .int y2, .int y3] H (fun v H1 => v = none ∧ ∃ (ad1 : Nat → Nat) (w1 : Nat → Option va_E), xw D vwCl B ad1 w1 H1 ∧ w1 t = some (.inr (2, [.int y1, .int y2, .int y3, .ref (ad1 t1)])) ∧ w1 t1 = some (.inl (K 1, 4, .inr (.inl (fun _ => 0)))) ∧ ad1 t = ad t ∧ Fr ad ad1 w w1 [t, t1]) := by
  refine Met.ofW (cc := b_S_init) (maxL := 4) (ret := none) (by decide) rfl ?_
  intro p e s m args below meth c s₁ B0 hml hv
  obtain ⟨rfl, hsz, hK, hN⟩ := hv
  have hx := B0.exec
  have hb := B0.bytes
  have hr := B0.returns
  have htw : ∀ w ∈ xW0, w.before [.ref a, .int y1, .int y2, .int y3].toArray s = true := fun w h => atoms_spec (ws := Cond.code y_S_init b_S_init 4 none :: xW0) B0.pre w (List.mem_cons_of_mem _ h)
  have hown : s.vm.findClass R_S = some m.cls := findClass_of_methodNamed B0.named
  have hlocks := B0.notSynchronized
  have hin : meth.name = "<init>" := (name_of_methodNamed B0.named B0.method).1
  subst hsz
  have hS : va_S (fun q => B ≤ q) s.heap s.heap [] := va_S.rf
  have hl := lv_entry ([.ref a, .int y1, .int y2, .int y3]) (n := 4) (Nat.le_of_ble_eq_true rfl)
  rw [lg_entry_eq]
  generalize (lg_sl ([.ref a, .int y1, .int y2, .int y3]) ++ List.replicate (4 - (lg_sl ([.ref a, .int y1, .int y2, .int y3])).length) Slot.unset).toArray = ls at hl ⊢
  have hl : lv_has ls 4 [(0, .ref a), (1, .int y1), (2, .int y2), (3, .int y3)] := hl
  have hH : s.heap = s.heap := rfl
  refine lv_aload_n hx hb d_S_init_0 rfl (lv_at hl 0 rfl) ?_
  refine W.objInit hx hb hown (htw _ u_153) (htw _ u_15) (htw _ u_16) rfl (by rw [hml]; exact hl.1) rfl d_S_init_1 (Nat.le_of_ble_eq_true rfl) (Nat.le_of_ble_eq_true rfl) ?_
  refine W.eq (g2 := F0 m 4 ls []) rfl ?_
  refine lv_aload_n hx hb d_S_init_4 rfl (lv_at hl 0 rfl) ?_
  refine lv_iload_n hx hb d_S_init_5 rfl (lv_at hl 1 rfl) ?_
  refine xr_putF (ci := 2) (v := .int y1) (ty := .int) (C := R_S) (T := T_S) (N := 4) hx hb htw in_S ty_S tk_S nm_S hown hK hw hS t h0 ha rfl 0 (by decide) (htw _ u_154) (fun _ h9 => h9) rfl hin rfl (by decide +kernel) rfl rfl (Nat.le_of_ble_eq_true rfl) d_S_init_6 (fun H locs hw hS => ?_)
  have hw : xw D vwCl B ad (xu w t (.inr (2, [.int y1, .int 0, .int 0, .null]))) H := hw
  refine lv_aload_n hx hb d_S_init_9 rfl (lv_at hl 0 rfl) ?_
  refine lv_iload_n hx hb d_S_init_10 rfl (lv_at hl 2 rfl) ?_
  refine xr_putF (ci := 2) (v := .int y2) (ty := .int) (C := R_S) (T := T_S) (N := 4) hx hb htw in_S ty_S tk_S nm_S hown hK hw hS t xu_eq ha rfl 1 (by decide) (htw _ u_155) (fun _ h9 => h9) rfl hin rfl (by decide +kernel) rfl rfl (Nat.le_of_ble_eq_true rfl) d_S_init_11 (fun H locs hw hS => ?_)
  have hw : xw D vwCl B ad (xu (xu w t (.inr (2, [.int y1, .int 0, .int 0, .null]))) t (.inr (2, [.int y1, .int y2, .int 0, .null]))) H := hw
  refine lv_aload_n hx hb d_S_init_14 rfl (lv_at hl 0 rfl) ?_
  refine lv_iload_n hx hb d_S_init_15 rfl (lv_at hl 3 rfl) ?_
  refine xr_putF (ci := 2) (v := .int y3) (ty := .int) (C := R_S) (T := T_S) (N := 4) hx hb htw in_S ty_S tk_S nm_S hown hK hw hS t xu_eq ha rfl 2 (by decide) (htw _ u_156) (fun _ h9 => h9) rfl hin rfl (by decide +kernel) rfl rfl (Nat.le_of_ble_eq_true rfl) d_S_init_16 (fun H locs hw hS => ?_)
  have hw : xw D vwCl B ad (xu (xu (xu w t (.inr (2, [.int y1, .int 0, .int 0, .null]))) t (.inr (2, [.int y1, .int y2, .int 0, .null]))) t (.inr (2, [.int y1, .int y2, .int y3, .null]))) H := hw
  refine lv_aload_n hx hb d_S_init_19 rfl (lv_at hl 0 rfl) ?_
  refine lv_iconst (v := 4) hx hb d_S_init_20 (by decide) ?_
  refine xr_newa (atype := .long) (a0 := (4, .inr (.inl (fun _ => 0)))) (N' := 4) hx hb (htw _ u_40) (ty := .long) rfl hK hw hS hB t1 1 rfl (fun _ h => by cases h) (fun _ => rfl) (by decide) (by decide) (by decide) (by decide) (by decide) d_S_init_21 (fun H ad_2 q_1 eq_1 lq_1 hw hS => ?_)
  have hw : xw D vwCl B ad_2 (xu (xu (xu (xu w t (.inr (2, [.int y1, .int 0, .int 0, .null]))) t (.inr (2, [.int y1, .int y2, .int 0, .null]))) t (.inr (2, [.int y1, .int y2, .int y3, .null]))) t1 (.inl (K 1, 4, .inr (.inl (fun _ => 0))))) H := hw
  have aq_1 : ad_2 t1 = q_1 := by rw [eq_1]; exact xa_eq
  refine xr_putF (ci := 2) (v := .ref q_1) (ty := .array .long) (C := R_S) (T := T_S) (N := 4) hx hb htw in_S ty_S tk_S nm_S hown hK hw hS t ((xu_ne (by omega)).trans (xu_eq)) ((show ad_2 t = ad t by rw [eq_1]; exact xa_ne (by omega)).trans ha) rfl 3 (by decide) (htw _ u_157) (fun _ h9 => h9) rfl hin rfl (by decide +kernel) rfl rfl (Nat.le_of_ble_eq_true rfl) d_S_init_23 (fun H locs hw hS => ?_)
  have hw : xw D vwCl B ad_2 (xu (xu (xu (xu (xu w t (.inr (2, [.int y1, .int 0, .int 0, .null]))) t (.inr (2, [.int y1, .int y2, .int 0, .null]))) t (.inr (2, [.int y1, .int y2, .int y3, .null]))) t1 (.inl (K 1, 4, .inr (.inl (fun _ => 0))))) t (.inr (2, [.int y1, .int y2, .int y3, .ref q_1]))) H := hw
  have hz : ∀ u, u ∉ ([t, t1] : List Nat) → u ≠ t ∧ u ≠ t1 := fun u hu => by simp only [List.mem_cons, List.not_mem_nil, or_false, not_or] at hu; omega
  exact W.vret hx hb hr (fun t ht _ => ⟨_, rfl, ⟨rfl, ad_2, _, by rw [ht]; exact hw, by simp (disch := omega) only [xu_eq, xu_ne, xa_eq, xa_ne, eq_1], by simp (disch := omega) only [xu_eq, xu_ne, xa_eq, xa_ne, eq_1], by simp (disch := omega) only [xu_eq, xu_ne, xa_eq, xa_ne, eq_1], fun u hu => by have hq := hz u hu; exact ⟨by simp (disch := omega) only [xu_eq, xu_ne, xa_eq, xa_ne, eq_1], by simp (disch := omega) only [xu_eq, xu_ne, xa_eq, xa_ne, eq_1]⟩⟩, hS.F ht⟩) hS.2.2 d_S_init_26
set_option maxHeartbeats 4000000 in
set_option maxRecDepth 100000 in
theorem c_R_init {l : Launch} {D : va_G} {K : Nat → ClassId} {B : Nat} {ad : Nat → Nat} {w : Nat → Option va_E} {H : Heap} (hw : xw D vwCl B ad w H) (t : Nat) (y1 y2 y3 y4 : Int32) (h0 : w t = some (.inr (3, [.int 0, .int 0, .int 0, .int 0]))) (a : Nat) (ha : ad t = a) : xC l D K B y_R_init b_R_init 5 none rm_R_init [.ref a, .int y1, .int y2, .int y3, .int y4] H (fun v H1 => v = none ∧ ∃ (ad1 : Nat → Nat) (w1 : Nat → Option va_E), xw D vwCl B ad1 w1 H1 ∧ w1 t = some (.inr (3, [.int y1, .int y2, .int y3, .int y4])) ∧ ad1 t = ad t ∧ Fr ad ad1 w w1 [t]) := by
  refine Met.ofW (cc := b_R_init) (maxL := 5) (ret := none) (by decide) rfl ?_
  intro p e s m args below meth c s₁ B0 hml hv
  obtain ⟨rfl, hsz, hK, hN⟩ := hv
  have hx := B0.exec
  have hb := B0.bytes
  have hr := B0.returns
  have htw : ∀ w ∈ xW0, w.before [.ref a, .int y1, .int y2, .int y3, .int y4].toArray s = true := fun w h => atoms_spec (ws := Cond.code y_R_init b_R_init 5 none :: xW0) B0.pre w (List.mem_cons_of_mem _ h)
  have hown : s.vm.findClass R_R = some m.cls := findClass_of_methodNamed B0.named
  have hlocks := B0.notSynchronized
  have hin : meth.name = "<init>" := (name_of_methodNamed B0.named B0.method).1
  subst hsz
  have hS : va_S (fun q => B ≤ q) s.heap s.heap [] := va_S.rf
  have hl := lv_entry ([.ref a, .int y1, .int y2, .int y3, .int y4]) (n := 5) (Nat.le_of_ble_eq_true rfl)
  rw [lg_entry_eq]
  generalize (lg_sl ([.ref a, .int y1, .int y2, .int y3, .int y4]) ++ List.replicate (5 - (lg_sl ([.ref a, .int y1, .int y2, .int y3, .int y4])).length) Slot.unset).toArray = ls at hl ⊢
  have hl : lv_has ls 5 [(0, .ref a), (1, .int y1), (2, .int y2), (3, .int y3), (4, .int y4)] := hl
  have hH : s.heap = s.heap := rfl
  refine lv_aload_n hx hb d_R_init_0 rfl (lv_at hl 0 rfl) ?_
  refine W.objInit hx hb hown (htw _ u_286) (htw _ u_15) (htw _ u_16) rfl (by rw [hml]; exact hl.1) rfl d_R_init_1 (Nat.le_of_ble_eq_true rfl) (Nat.le_of_ble_eq_true rfl) ?_
  refine W.eq (g2 := F0 m 4 ls []) rfl ?_
  refine lv_aload_n hx hb d_R_init_4 rfl (lv_at hl 0 rfl) ?_
  refine lv_iload_n hx hb d_R_init_5 rfl (lv_at hl 1 rfl) ?_
  refine xr_putF (ci := 3) (v := .int y1) (ty := .int) (C := R_R) (T := T_R) (N := 4) hx hb htw in_R ty_R tk_R nm_R hown hK hw hS t h0 ha rfl 0 (by decide) (htw _ u_287) (fun _ h9 => h9) rfl hin rfl (by decide +kernel) rfl rfl (Nat.le_of_ble_eq_true rfl) d_R_init_6 (fun H locs hw hS => ?_)
  have hw : xw D vwCl B ad (xu w t (.inr (3, [.int y1, .int 0, .int 0, .int 0]))) H := hw
  refine lv_aload_n hx hb d_R_init_9 rfl (lv_at hl 0 rfl) ?_
  refine lv_iload_n hx hb d_R_init_10 rfl (lv_at hl 2 rfl) ?_
  refine xr_putF (ci := 3) (v := .int y2) (ty := .int) (C := R_R) (T := T_R) (N := 4) hx hb htw in_R ty_R tk_R nm_R hown hK hw hS t xu_eq ha rfl 1 (by decide) (htw _ u_289) (fun _ h9 => h9) rfl hin rfl (by decide +kernel) rfl rfl (Nat.le_of_ble_eq_true rfl) d_R_init_11 (fun H locs hw hS => ?_)
  have hw : xw D vwCl B ad (xu (xu w t (.inr (3, [.int y1, .int 0, .int 0, .int 0]))) t (.inr (3, [.int y1, .int y2, .int 0, .int 0]))) H := hw
  refine lv_aload_n hx hb d_R_init_14 rfl (lv_at hl 0 rfl) ?_
  refine lv_iload_n hx hb d_R_init_15 rfl (lv_at hl 3 rfl) ?_
  refine xr_putF (ci := 3) (v := .int y3) (ty := .int) (C := R_R) (T := T_R) (N := 4) hx hb htw in_R ty_R tk_R nm_R hown hK hw hS t xu_eq ha rfl 2 (by decide) (htw _ u_290) (fun _ h9 => h9) rfl hin rfl (by decide +kernel) rfl rfl (Nat.le_of_ble_eq_true rfl) d_R_init_16 (fun H locs hw hS => ?_)
  have hw : xw D vwCl B ad (xu (xu (xu w t (.inr (3, [.int y1, .int 0, .int 0, .int 0]))) t (.inr (3, [.int y1, .int y2, .int 0, .int 0]))) t (.inr (3, [.int y1, .int y2, .int y3, .int 0]))) H := hw
  refine lv_aload_n hx hb d_R_init_19 rfl (lv_at hl 0 rfl) ?_
  refine lv_iload hx hb d_R_init_20 (lv_at hl 4 rfl) ?_
  refine xr_putF (ci := 3) (v := .int y4) (ty := .int) (C := R_R) (T := T_R) (N := 4) hx hb htw in_R ty_R tk_R nm_R hown hK hw hS t xu_eq ha rfl 3 (by decide) (htw _ u_291) (fun _ h9 => h9) rfl hin rfl (by decide +kernel) rfl rfl (Nat.le_of_ble_eq_true rfl) d_R_init_22 (fun H locs hw hS => ?_)
  have hw : xw D vwCl B ad (xu (xu (xu (xu w t (.inr (3, [.int y1, .int 0, .int 0, .int 0]))) t (.inr (3, [.int y1, .int y2, .int 0, .int 0]))) t (.inr (3, [.int y1, .int y2, .int y3, .int 0]))) t (.inr (3, [.int y1, .int y2, .int y3, .int y4]))) H := hw
  have hz : ∀ u, u ∉ ([t] : List Nat) → u ≠ t := fun u hu => by simp only [List.mem_cons, List.not_mem_nil, or_false, not_or] at hu; omega
  exact W.vret hx hb hr (fun t ht _ => ⟨_, rfl, ⟨rfl, ad, _, by rw [ht]; exact hw, by simp (disch := omega) only [xu_eq, xu_ne, xa_eq, xa_ne], rfl, fun u hu => by have hq := hz u hu; exact ⟨by simp (disch := omega) only [xu_eq, xu_ne, xa_eq, xa_ne], rfl⟩⟩, hS.F ht⟩) hS.2.2 d_R_init_25
set_option maxHeartbeats 4000000 in
set_option maxRecDepth 100000 in
theorem c_P_init {l : Launch} {D : va_G} {K : Nat → ClassId} {B : Nat} {ad : Nat → Nat} {w : Nat → Option va_E} {H : Heap} (hw : xw D vwCl B ad w H) (t t1 t2 t3 : Nat) (hd : t ≠ t1 ∧ t ≠ t2 ∧ t ≠ t3 ∧ t1 ≠ t2 ∧ t1 ≠ t3 ∧ t2 ≠ t3) (h0 : w t = some (.inr (4, [.null, .null, .null]))) (hB : B ≤ H.size) (a : Nat) (ha : ad t = a) : xC l D K B y_P_init b_P_init 1 none rm_P_init [.ref a] H (fun v H1 => v = none ∧ ∃ (ad1 : Nat → Nat) (w1 : Nat → Option va_E), xw D vwCl B ad1 w1 H1 ∧ w1 t = some (.inr (4, [.ref (ad1 t1), .ref (ad1 t2), .ref (ad1 t3)])) ∧ w1 t1 = some (.inl (K 0, 4, .inl (fun _ => 0))) ∧ w1 t2 = some (.inl (K 0, 24, .inl (fun _ => 0))) ∧ w1 t3 = some (.inl (K 1, 24, .inr (.inl (fun _ => 0)))) ∧ ad1 t = ad t ∧ Fr ad ad1 w w1 [t, t1, t2, t3]) := by
  refine Met.ofW (cc := b_P_init) (maxL := 1) (ret := none) (by decide) rfl ?_
  intro p e s m args below meth c s₁ B0 hml hv
  obtain ⟨rfl, hsz, hK, hN⟩ := hv
  have hx := B0.exec
  have hb := B0.bytes
  have hr := B0.returns
  have htw : ∀ w ∈ xW0, w.before [.ref a].toArray s = true := fun w h => atoms_spec (ws := Cond.code y_P_init b_P_init 1 none :: xW0) B0.pre w (List.mem_cons_of_mem _ h)
  have hown : s.vm.findClass R_P = some m.cls := findClass_of_methodNamed B0.named
  have hlocks := B0.notSynchronized
  have hin : meth.name = "<init>" := (name_of_methodNamed B0.named B0.method).1
  subst hsz
  have hS : va_S (fun q => B ≤ q) s.heap s.heap [] := va_S.rf
  have hl := lv_entry ([.ref a]) (n := 1) (Nat.le_of_ble_eq_true rfl)
  rw [lg_entry_eq]
  generalize (lg_sl ([.ref a]) ++ List.replicate (1 - (lg_sl ([.ref a])).length) Slot.unset).toArray = ls at hl ⊢
  have hl : lv_has ls 1 [(0, .ref a)] := hl
  have hH : s.heap = s.heap := rfl
  refine lv_aload_n hx hb d_P_init_0 rfl (lv_at hl 0 rfl) ?_
  refine W.objInit hx hb hown (htw _ u_28) (htw _ u_15) (htw _ u_16) rfl (by rw [hml]; exact hl.1) rfl d_P_init_1 (Nat.le_of_ble_eq_true rfl) (Nat.le_of_ble_eq_true rfl) ?_
  refine W.eq (g2 := F0 m 4 ls []) rfl ?_
  refine lv_aload_n hx hb d_P_init_4 rfl (lv_at hl 0 rfl) ?_
  refine lv_iconst (v := 4) hx hb d_P_init_5 (by decide) ?_
  refine xr_newa (atype := .int) (a0 := (4, .inl (fun _ => 0))) (N' := 4) hx hb (htw _ u_39) (ty := .int) rfl hK hw hS hB t1 0 rfl (fun _ h => by cases h) (fun _ => rfl) (by decide) (by decide) (by decide) (by decide) (by decide) d_P_init_6 (fun H ad_2 q_1 eq_1 lq_1 hw hS => ?_)
  have hw : xw D vwCl B ad_2 (xu w t1 (.inl (K 0, 4, .inl (fun _ => 0)))) H := hw
  have aq_1 : ad_2 t1 = q_1 := by rw [eq_1]; exact xa_eq
  refine xr_putF (ci := 4) (v := .ref q_1) (ty := .array .int) (C := R_P) (T := T_P) (N := 3) hx hb htw in_P ty_P tk_P nm_P hown hK hw hS t ((xu_ne (by omega)).trans (h0)) ((show ad_2 t = ad t by rw [eq_1]; exact xa_ne (by omega)).trans ha) rfl 0 (by decide) (htw _ u_29) (fun _ h9 => h9) rfl hin rfl (by decide +kernel) rfl rfl (Nat.le_of_ble_eq_true rfl) d_P_init_8 (fun H locs hw hS => ?_)
  have hw : xw D vwCl B ad_2 (xu (xu w t1 (.inl (K 0, 4, .inl (fun _ => 0)))) t (.inr (4, [.ref q_1, .null, .null]))) H := hw
  refine lv_aload_n hx hb d_P_init_11 rfl (lv_at hl 0 rfl) ?_
  refine lv_bipush (v := 24) hx hb d_P_init_12 (by decide) ?_
  refine xr_newa (atype := .int) (a0 := (24, .inl (fun _ => 0))) (N' := 24) hx hb (htw _ u_39) (ty := .int) rfl hK hw hS hB t2 0 rfl (fun _ h => by cases h) (fun _ => rfl) (by decide) (by decide) (by decide) (by decide) (by decide) d_P_init_14 (fun H ad_4 q_3 eq_3 lq_3 hw hS => ?_)
  have hw : xw D vwCl B ad_4 (xu (xu (xu w t1 (.inl (K 0, 4, .inl (fun _ => 0)))) t (.inr (4, [.ref q_1, .null, .null]))) t2 (.inl (K 0, 24, .inl (fun _ => 0)))) H := hw
  have aq_3 : ad_4 t2 = q_3 := by rw [eq_3]; exact xa_eq
  refine xr_putF (ci := 4) (v := .ref q_3) (ty := .array .int) (C := R_P) (T := T_P) (N := 3) hx hb htw in_P ty_P tk_P nm_P hown hK hw hS t ((xu_ne (by omega)).trans (xu_eq)) ((show ad_4 t = ad_2 t by rw [eq_3]; exact xa_ne (by omega)).trans ((show ad_2 t = ad t by rw [eq_1]; exact xa_ne (by omega)).trans ha)) rfl 1 (by decide) (htw _ u_30) (fun _ h9 => h9) rfl hin rfl (by decide +kernel) rfl rfl (Nat.le_of_ble_eq_true rfl) d_P_init_16 (fun H locs hw hS => ?_)
  have hw : xw D vwCl B ad_4 (xu (xu (xu (xu w t1 (.inl (K 0, 4, .inl (fun _ => 0)))) t (.inr (4, [.ref q_1, .null, .null]))) t2 (.inl (K 0, 24, .inl (fun _ => 0)))) t (.inr (4, [.ref q_1, .ref q_3, .null]))) H := hw
  refine lv_aload_n hx hb d_P_init_19 rfl (lv_at hl 0 rfl) ?_
  refine lv_bipush (v := 24) hx hb d_P_init_20 (by decide) ?_
  refine xr_newa (atype := .long) (a0 := (24, .inr (.inl (fun _ => 0)))) (N' := 24) hx hb (htw _ u_40) (ty := .long) rfl hK hw hS hB t3 1 rfl (fun _ h => by cases h) (fun _ => rfl) (by decide) (by decide) (by decide) (by decide) (by decide) d_P_init_22 (fun H ad_6 q_5 eq_5 lq_5 hw hS => ?_)
  have hw : xw D vwCl B ad_6 (xu (xu (xu (xu (xu w t1 (.inl (K 0, 4, .inl (fun _ => 0)))) t (.inr (4, [.ref q_1, .null, .null]))) t2 (.inl (K 0, 24, .inl (fun _ => 0)))) t (.inr (4, [.ref q_1, .ref q_3, .null]))) t3 (.inl (K 1, 24, .inr (.inl (fun _ => 0))))) H := hw
  have aq_5 : ad_6 t3 = q_5 := by rw [eq_5]; exact xa_eq
  refine xr_putF (ci := 4) (v := .ref q_5) (ty := .array .long) (C := R_P) (T := T_P) (N := 3) hx hb htw in_P ty_P tk_P nm_P hown hK hw hS t ((xu_ne (by omega)).trans (xu_eq)) ((show ad_6 t = ad_4 t by rw [eq_5]; exact xa_ne (by omega)).trans ((show ad_4 t = ad_2 t by rw [eq_3]; exact xa_ne (by omega)).trans ((show ad_2 t = ad t by rw [eq_1]; exact xa_ne (by omega)).trans ha))) rfl 2 (by decide) (htw _ u_31) (fun _ h9 => h9) rfl hin rfl (by decide +kernel) rfl rfl (Nat.le_of_ble_eq_true rfl) d_P_init_24 (fun H locs hw hS => ?_)
  have hw : xw D vwCl B ad_6 (xu (xu (xu (xu (xu (xu w t1 (.inl (K 0, 4, .inl (fun _ => 0)))) t (.inr (4, [.ref q_1, .null, .null]))) t2 (.inl (K 0, 24, .inl (fun _ => 0)))) t (.inr (4, [.ref q_1, .ref q_3, .null]))) t3 (.inl (K 1, 24, .inr (.inl (fun _ => 0))))) t (.inr (4, [.ref q_1, .ref q_3, .ref q_5]))) H := hw
  have hz : ∀ u, u ∉ ([t, t1, t2, t3] : List Nat) → u ≠ t ∧ u ≠ t1 ∧ u ≠ t2 ∧ u ≠ t3 := fun u hu => by simp only [List.mem_cons, List.not_mem_nil, or_false, not_or] at hu; omega
  exact W.vret hx hb hr (fun t ht _ => ⟨_, rfl, ⟨rfl, ad_6, _, by rw [ht]; exact hw, by simp (disch := omega) only [xu_eq, xu_ne, xa_eq, xa_ne, eq_1, eq_3, eq_5], by simp (disch := omega) only [xu_eq, xu_ne, xa_eq, xa_ne, eq_1, eq_3, eq_5], by simp (disch := omega) only [xu_eq, xu_ne, xa_eq, xa_ne, eq_1, eq_3, eq_5], by simp (disch := omega) only [xu_eq, xu_ne, xa_eq, xa_ne, eq_1, eq_3, eq_5], by simp (disch := omega) only [xu_eq, xu_ne, xa_eq, xa_ne, eq_1, eq_3, eq_5], fun u hu => by have hq := hz u hu; exact ⟨by simp (disch := omega) only [xu_eq, xu_ne, xa_eq, xa_ne, eq_1, eq_3, eq_5], by simp (disch := omega) only [xu_eq, xu_ne, xa_eq, xa_ne, eq_1, eq_3, eq_5]⟩⟩, hS.F ht⟩) hS.2.2 d_P_init_27
set_option maxHeartbeats 4000000 in
set_option maxRecDepth 100000 in
theorem c_B_init {l : Launch} {D : va_G} {K : Nat → ClassId} {B : Nat} {ad : Nat → Nat} {w : Nat → Option va_E} {H : Heap} (hw : xw D vwCl B ad w H) (t t1 t2 t3 : Nat) (g : Int64) (d : Int32) (bb : Bool) (hd : t ≠ t1 ∧ t ≠ t2 ∧ t ≠ t3 ∧ t1 ≠ t2 ∧ t1 ≠ t3 ∧ t2 ≠ t3) (h0 : w t = some (.inr (1, [.int 0, .int 0, .null, .null, .null, .long 0, .int 0, .int 0, .int 0]))) (hB : B ≤ H.size) (a : Nat) (ha : ad t = a) : xC l D K B y_B_init b_B_init 5 none rm_B_init [.ref a, .long g, .int d, .int (bI bb)] H (fun v H1 => v = none ∧ ∃ (ad1 : Nat → Nat) (w1 : Nat → Option va_E), xw D vwCl B ad1 w1 H1 ∧ w1 t = some (.inr (1, [.int d, .int (bI bb), .ref (ad1 t1), .ref (ad1 t2), .ref (ad1 t3), .long g, .int 0, .int 0, .int 0])) ∧ w1 t1 = some (.inl (K 1, 4, .inr (.inl (fun _ => 0)))) ∧ w1 t2 = some (.inl (K 1, 24, .inr (.inl (fun _ => 0)))) ∧ w1 t3 = some (.inl (K 0, 12, .inl (fun _ => -1))) ∧ ad1 t = ad t ∧ Fr ad ad1 w w1 [t, t1, t2, t3]) := by
  refine Met.ofW (cc := b_B_init) (maxL := 5) (ret := none) (by decide) rfl ?_
  intro p e s m args below meth c s₁ B0 hml hv
  obtain ⟨rfl, hsz, hK, hN⟩ := hv
  have hx := B0.exec
  have hb := B0.bytes
  have hr := B0.returns
  have htw : ∀ w ∈ xW0, w.before [.ref a, .long g, .int d, .int (bI bb)].toArray s = true := fun w h => atoms_spec (ws := Cond.code y_B_init b_B_init 5 none :: xW0) B0.pre w (List.mem_cons_of_mem _ h)
  have hown : s.vm.findClass R_B = some m.cls := findClass_of_methodNamed B0.named
  have hlocks := B0.notSynchronized
  have hin : meth.name = "<init>" := (name_of_methodNamed B0.named B0.method).1
  subst hsz
  have hS : va_S (fun q => B ≤ q) s.heap s.heap [] := va_S.rf
  have hl := lv_entry ([.ref a, .long g, .int d, .int (bI bb)]) (n := 5) (Nat.le_of_ble_eq_true rfl)
  rw [lg_entry_eq]
  generalize (lg_sl ([.ref a, .long g, .int d, .int (bI bb)]) ++ List.replicate (5 - (lg_sl ([.ref a, .long g, .int d, .int (bI bb)])).length) Slot.unset).toArray = ls at hl ⊢
  have hl : lv_has ls 5 [(0, .ref a), (1, .long g), (3, .int d), (4, .int (bI bb))] := hl
  have hH : s.heap = s.heap := rfl
  refine lv_aload_n hx hb d_B_init_0 rfl (lv_at hl 0 rfl) ?_
  refine W.objInit hx hb hown (htw _ u_84) (htw _ u_15) (htw _ u_16) rfl (by rw [hml]; exact hl.1) rfl d_B_init_1 (Nat.le_of_ble_eq_true rfl) (Nat.le_of_ble_eq_true rfl) ?_
  refine W.eq (g2 := F0 m 4 ls []) rfl ?_
  refine lv_aload_n hx hb d_B_init_4 rfl (lv_at hl 0 rfl) ?_
  refine lv_lload_n hx hb d_B_init_5 rfl (lv_at hl 1 rfl) ?_
  refine xr_put (ci := 1) (v := .long g) (ty := .long) (C := R_B) (T := T_B) (N := 9) hx hb htw in_B ty_B tk_B nm_B hown hK hw hS t h0 ha rfl 5 (by decide) (htw _ u_99) (fun _ h9 => h9) rfl (by decide +kernel) rfl rfl (Nat.le_of_ble_eq_true rfl) d_B_init_6 (fun H locs hw hS => ?_)
  have hw : xw D vwCl B ad (xu w t (.inr (1, [.int 0, .int 0, .null, .null, .null, .long g, .int 0, .int 0, .int 0]))) H := hw
  refine lv_aload_n hx hb d_B_init_9 rfl (lv_at hl 0 rfl) ?_
  refine lv_iload_n hx hb d_B_init_10 rfl (lv_at hl 2 rfl) ?_
  refine xr_putF (ci := 1) (v := .int d) (ty := .int) (C := R_B) (T := T_B) (N := 9) hx hb htw in_B ty_B tk_B nm_B hown hK hw hS t xu_eq ha rfl 0 (by decide) (htw _ u_88) (fun _ h9 => h9) rfl hin rfl (by decide +kernel) rfl rfl (Nat.le_of_ble_eq_true rfl) d_B_init_11 (fun H locs hw hS => ?_)
  have hw : xw D vwCl B ad (xu (xu w t (.inr (1, [.int 0, .int 0, .null, .null, .null, .long g, .int 0, .int 0, .int 0]))) t (.inr (1, [.int d, .int 0, .null, .null, .null, .long g, .int 0, .int 0, .int 0]))) H := hw
  refine lv_aload_n hx hb d_B_init_14 rfl (lv_at hl 0 rfl) ?_
  refine lv_iload hx hb d_B_init_15 (lv_at hl 3 rfl) ?_
  refine xr_putF (ci := 1) (v := .int (bI bb)) (ty := .boolean) (C := R_B) (T := T_B) (N := 9) hx hb htw in_B ty_B tk_B nm_B hown hK hw hS t xu_eq ha rfl 1 (by decide) (htw _ u_91) (fun _ h9 => h9) rfl hin rfl (by decide +kernel) bI_nar bI_fit (Nat.le_of_ble_eq_true rfl) d_B_init_17 (fun H locs hw hS => ?_)
  have hw : xw D vwCl B ad (xu (xu (xu w t (.inr (1, [.int 0, .int 0, .null, .null, .null, .long g, .int 0, .int 0, .int 0]))) t (.inr (1, [.int d, .int 0, .null, .null, .null, .long g, .int 0, .int 0, .int 0]))) t (.inr (1, [.int d, .int (bI bb), .null, .null, .null, .long g, .int 0, .int 0, .int 0]))) H := hw
  refine lv_aload_n hx hb d_B_init_20 rfl (lv_at hl 0 rfl) ?_
  refine lv_iconst (v := 4) hx hb d_B_init_21 (by decide) ?_
  refine xr_newa (atype := .long) (a0 := (4, .inr (.inl (fun _ => 0)))) (N' := 4) hx hb (htw _ u_40) (ty := .long) rfl hK hw hS hB t1 1 rfl (fun _ h => by cases h) (fun _ => rfl) (by decide) (by decide) (by decide) (by decide) (by decide) d_B_init_22 (fun H ad_2 q_1 eq_1 lq_1 hw hS => ?_)
  have hw : xw D vwCl B ad_2 (xu (xu (xu (xu w t (.inr (1, [.int 0, .int 0, .null, .null, .null, .long g, .int 0, .int 0, .int 0]))) t (.inr (1, [.int d, .int 0, .null, .null, .null, .long g, .int 0, .int 0, .int 0]))) t (.inr (1, [.int d, .int (bI bb), .null, .null, .null, .long g, .int 0, .int 0, .int 0]))) t1 (.inl (K 1, 4, .inr (.inl (fun _ => 0))))) H := hw
  have aq_1 : ad_2 t1 = q_1 := by rw [eq_1]; exact xa_eq
  refine xr_putF (ci := 1) (v := .ref q_1) (ty := .array .long) (C := R_B) (T := T_B) (N := 9) hx hb htw in_B ty_B tk_B nm_B hown hK hw hS t ((xu_ne (by omega)).trans (xu_eq)) ((show ad_2 t = ad t by rw [eq_1]; exact xa_ne (by omega)).trans ha) rfl 2 (by decide) (htw _ u_93) (fun _ h9 => h9) rfl hin rfl (by decide +kernel) rfl rfl (Nat.le_of_ble_eq_true rfl) d_B_init_24 (fun H locs hw hS => ?_)
  have hw : xw D vwCl B ad_2 (xu (xu (xu (xu (xu w t (.inr (1, [.int 0, .int 0, .null, .null, .null, .long g, .int 0, .int 0, .int 0]))) t (.inr (1, [.int d, .int 0, .null, .null, .null, .long g, .int 0, .int 0, .int 0]))) t (.inr (1, [.int d, .int (bI bb), .null, .null, .null, .long g, .int 0, .int 0, .int 0]))) t1 (.inl (K 1, 4, .inr (.inl (fun _ => 0))))) t (.inr (1, [.int d, .int (bI bb), .ref q_1, .null, .null, .long g, .int 0, .int 0, .int 0]))) H := hw
  refine lv_aload_n hx hb d_B_init_27 rfl (lv_at hl 0 rfl) ?_
  refine lv_bipush (v := 24) hx hb d_B_init_28 (by decide) ?_
  refine xr_newa (atype := .long) (a0 := (24, .inr (.inl (fun _ => 0)))) (N' := 24) hx hb (htw _ u_40) (ty := .long) rfl hK hw hS hB t2 1 rfl (fun _ h => by cases h) (fun _ => rfl) (by decide) (by decide) (by decide) (by decide) (by decide) d_B_init_30 (fun H ad_4 q_3 eq_3 lq_3 hw hS => ?_)
  have hw : xw D vwCl B ad_4 (xu (xu (xu (xu (xu (xu w t (.inr (1, [.int 0, .int 0, .null, .null, .null, .long g, .int 0, .int 0, .int 0]))) t (.inr (1, [.int d, .int 0, .null, .null, .null, .long g, .int 0, .int 0, .int 0]))) t (.inr (1, [.int d, .int (bI bb), .null, .null, .null, .long g, .int 0, .int 0, .int 0]))) t1 (.inl (K 1, 4, .inr (.inl (fun _ => 0))))) t (.inr (1, [.int d, .int (bI bb), .ref q_1, .null, .null, .long g, .int 0, .int 0, .int 0]))) t2 (.inl (K 1, 24, .inr (.inl (fun _ => 0))))) H := hw
  have aq_3 : ad_4 t2 = q_3 := by rw [eq_3]; exact xa_eq
  refine xr_putF (ci := 1) (v := .ref q_3) (ty := .array .long) (C := R_B) (T := T_B) (N := 9) hx hb htw in_B ty_B tk_B nm_B hown hK hw hS t ((xu_ne (by omega)).trans (xu_eq)) ((show ad_4 t = ad_2 t by rw [eq_3]; exact xa_ne (by omega)).trans ((show ad_2 t = ad t by rw [eq_1]; exact xa_ne (by omega)).trans ha)) rfl 3 (by decide) (htw _ u_95) (fun _ h9 => h9) rfl hin rfl (by decide +kernel) rfl rfl (Nat.le_of_ble_eq_true rfl) d_B_init_32 (fun H locs hw hS => ?_)
  have hw : xw D vwCl B ad_4 (xu (xu (xu (xu (xu (xu (xu w t (.inr (1, [.int 0, .int 0, .null, .null, .null, .long g, .int 0, .int 0, .int 0]))) t (.inr (1, [.int d, .int 0, .null, .null, .null, .long g, .int 0, .int 0, .int 0]))) t (.inr (1, [.int d, .int (bI bb), .null, .null, .null, .long g, .int 0, .int 0, .int 0]))) t1 (.inl (K 1, 4, .inr (.inl (fun _ => 0))))) t (.inr (1, [.int d, .int (bI bb), .ref q_1, .null, .null, .long g, .int 0, .int 0, .int 0]))) t2 (.inl (K 1, 24, .inr (.inl (fun _ => 0))))) t (.inr (1, [.int d, .int (bI bb), .ref q_1, .ref q_3, .null, .long g, .int 0, .int 0, .int 0]))) H := hw
  refine lv_aload_n hx hb d_B_init_35 rfl (lv_at hl 0 rfl) ?_
  refine lv_bipush (v := 12) hx hb d_B_init_36 (by decide) ?_
  refine xr_newa (atype := .int) (a0 := (12, .inl (fun _ => 0))) (N' := 12) hx hb (htw _ u_39) (ty := .int) rfl hK hw hS hB t3 0 rfl (fun _ h => by cases h) (fun _ => rfl) (by decide) (by decide) (by decide) (by decide) (by decide) d_B_init_38 (fun H ad_6 q_5 eq_5 lq_5 hw hS => ?_)
  have hw : xw D vwCl B ad_6 (xu (xu (xu (xu (xu (xu (xu (xu w t (.inr (1, [.int 0, .int 0, .null, .null, .null, .long g, .int 0, .int 0, .int 0]))) t (.inr (1, [.int d, .int 0, .null, .null, .null, .long g, .int 0, .int 0, .int 0]))) t (.inr (1, [.int d, .int (bI bb), .null, .null, .null, .long g, .int 0, .int 0, .int 0]))) t1 (.inl (K 1, 4, .inr (.inl (fun _ => 0))))) t (.inr (1, [.int d, .int (bI bb), .ref q_1, .null, .null, .long g, .int 0, .int 0, .int 0]))) t2 (.inl (K 1, 24, .inr (.inl (fun _ => 0))))) t (.inr (1, [.int d, .int (bI bb), .ref q_1, .ref q_3, .null, .long g, .int 0, .int 0, .int 0]))) t3 (.inl (K 0, 12, .inl (fun _ => 0)))) H := hw
  have aq_5 : ad_6 t3 = q_5 := by rw [eq_5]; exact xa_eq
  refine xr_putF (ci := 1) (v := .ref q_5) (ty := .array .int) (C := R_B) (T := T_B) (N := 9) hx hb htw in_B ty_B tk_B nm_B hown hK hw hS t ((xu_ne (by omega)).trans (xu_eq)) ((show ad_6 t = ad_4 t by rw [eq_5]; exact xa_ne (by omega)).trans ((show ad_4 t = ad_2 t by rw [eq_3]; exact xa_ne (by omega)).trans ((show ad_2 t = ad t by rw [eq_1]; exact xa_ne (by omega)).trans ha))) rfl 4 (by decide) (htw _ u_97) (fun _ h9 => h9) rfl hin rfl (by decide +kernel) rfl rfl (Nat.le_of_ble_eq_true rfl) d_B_init_40 (fun H locs hw hS => ?_)
  have hw : xw D vwCl B ad_6 (xu (xu (xu (xu (xu (xu (xu (xu (xu w t (.inr (1, [.int 0, .int 0, .null, .null, .null, .long g, .int 0, .int 0, .int 0]))) t (.inr (1, [.int d, .int 0, .null, .null, .null, .long g, .int 0, .int 0, .int 0]))) t (.inr (1, [.int d, .int (bI bb), .null, .null, .null, .long g, .int 0, .int 0, .int 0]))) t1 (.inl (K 1, 4, .inr (.inl (fun _ => 0))))) t (.inr (1, [.int d, .int (bI bb), .ref q_1, .null, .null, .long g, .int 0, .int 0, .int 0]))) t2 (.inl (K 1, 24, .inr (.inl (fun _ => 0))))) t (.inr (1, [.int d, .int (bI bb), .ref q_1, .ref q_3, .null, .long g, .int 0, .int 0, .int 0]))) t3 (.inl (K 0, 12, .inl (fun _ => 0)))) t (.inr (1, [.int d, .int (bI bb), .ref q_1, .ref q_3, .ref q_5, .long g, .int 0, .int 0, .int 0]))) H := hw
  refine lv_aload_n hx hb d_B_init_43 rfl (lv_at hl 0 rfl) ?_
  refine xr_get (ci := 1) (v := .ref q_5) (C := R_B) (T := T_B) (N := 9) hx hb htw in_B hown hK hw t xu_eq ((show ad_6 t = ad_4 t by rw [eq_5]; exact xa_ne (by omega)).trans ((show ad_4 t = ad_2 t by rw [eq_3]; exact xa_ne (by omega)).trans ((show ad_2 t = ad t by rw [eq_1]; exact xa_ne (by omega)).trans ha))) rfl 4 (by decide) (htw _ u_97) (fun _ h9 => h9) rfl d_B_init_44 ?_
  refine lv_iconst (v := (-1)) hx hb d_B_init_47 (by decide) ?_
  refine xr_call (va_runS (As := [.ref q_5, .int (-1)]) (rest := []) ⟨hx, hb, hml, hown, htw⟩ (c_J_fillI (ad := ad_6) hw t3 12 (by decide) (fun _ => 0) (-1) ((xu_ne (by omega)).trans (xu_eq)) q_5 aq_5) (va_cwS 2 htw (gS u_85 u_86 u_5 u_87) rfl rfl rfl hd_J_fillI.2 ⟨Nat.le_of_ble_eq_true rfl, Nat.le_of_ble_eq_true rfl⟩) ⟨xP_blind, xP_of hK hN⟩ rfl rfl hl.1 rfl (lv_room (Nat.le_of_ble_eq_true rfl)) d_B_init_48 ⟨by decide, by decide⟩) hS (fun v H_ locs hp hS => ?_)
  obtain ⟨rfl, hw⟩ := hp
  generalize H_ = H at hw hS ⊢
  have hw : xw D vwCl B ad_6 (xu (xu (xu (xu (xu (xu (xu (xu (xu (xu w t (.inr (1, [.int 0, .int 0, .null, .null, .null, .long g, .int 0, .int 0, .int 0]))) t (.inr (1, [.int d, .int 0, .null, .null, .null, .long g, .int 0, .int 0, .int 0]))) t (.inr (1, [.int d, .int (bI bb), .null, .null, .null, .long g, .int 0, .int 0, .int 0]))) t1 (.inl (K 1, 4, .inr (.inl (fun _ => 0))))) t (.inr (1, [.int d, .int (bI bb), .ref q_1, .null, .null, .long g, .int 0, .int 0, .int 0]))) t2 (.inl (K 1, 24, .inr (.inl (fun _ => 0))))) t (.inr (1, [.int d, .int (bI bb), .ref q_1, .ref q_3, .null, .long g, .int 0, .int 0, .int 0]))) t3 (.inl (K 0, 12, .inl (fun _ => 0)))) t (.inr (1, [.int d, .int (bI bb), .ref q_1, .ref q_3, .ref q_5, .long g, .int 0, .int 0, .int 0]))) t3 (.inl (K 0, 12, .inl (fun _ => (-1))))) H := hw
  refine W.eq (g2 := F0 m 51 ls []) rfl ?_
  have hz : ∀ u, u ∉ ([t, t1, t2, t3] : List Nat) → u ≠ t ∧ u ≠ t1 ∧ u ≠ t2 ∧ u ≠ t3 := fun u hu => by simp only [List.mem_cons, List.not_mem_nil, or_false, not_or] at hu; omega
  exact W.vret hx hb hr (fun t ht _ => ⟨_, rfl, ⟨rfl, ad_6, _, by rw [ht]; exact hw, by simp (disch := omega) only [xu_eq, xu_ne, xa_eq, xa_ne, eq_1, eq_3, eq_5], by simp (disch := omega) only [xu_eq, xu_ne, xa_eq, xa_ne, eq_1, eq_3, eq_5], by simp (disch := omega) only [xu_eq, xu_ne, xa_eq, xa_ne, eq_1, eq_3, eq_5], by simp (disch := omega) only [xu_eq, xu_ne, xa_eq, xa_ne, eq_1, eq_3, eq_5], by simp (disch := omega) only [xu_eq, xu_ne, xa_eq, xa_ne, eq_1, eq_3, eq_5], fun u hu => by have hq := hz u hu; exact ⟨by simp (disch := omega) only [xu_eq, xu_ne, xa_eq, xa_ne, eq_1, eq_3, eq_5], by simp (disch := omega) only [xu_eq, xu_ne, xa_eq, xa_ne, eq_1, eq_3, eq_5]⟩⟩, hS.F ht⟩) hS.2.2 d_B_init_51
