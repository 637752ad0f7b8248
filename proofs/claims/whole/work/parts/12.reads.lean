/-! what the class answers -/
def f_money (σ : xS) : Int64 := σ.2.2.1 0 0
def f_grams (σ : xS) (x1 : Int32) : Int64 := opt (xi (σ.1 0) x1) (-1) fun i => σ.2.2.1 1 i
def f_left (σ : xS) (x1 x2 : Int32) : Int64 := opt (xi (σ.1 0) x1) (-1) fun i => opt (xi 4 x2) (-1) fun k => σ.2.2.1 (10 + i) k
def f_stock (σ : xS) (x1 x2 : Int32) : Int64 := opt (xi (σ.1 1) x1) (-1) fun i => opt (xi 4 x2) (-1) fun k => σ.2.2.1 (30 + i) k
def f_taken (σ : xS) (x1 x2 x3 : Int32) : Int64 := opt (xi (σ.1 0) x1) (-1) fun i => opt (xi 4 x3) (-1) fun k => opt (xi (σ.1 (10 + 2 * i)) x2) (-1) fun j => σ.2.2.1 (20 + i) (j * 4 + k)
set_option maxHeartbeats 4000000 in
set_option maxRecDepth 100000 in
theorem c_A_batchAt {l : Launch} {D : va_G} {K : Nat → ClassId} {B : Nat} {ad : Nat → Nat} {w : Nat → Option va_E} {H : Heap} {σ : xS} (hR : RepX K σ ad w) (hnb : σ.1 0 ≤ 8) (hns : σ.1 1 ≤ 6) (hw : xw D vwCl B ad w H) (x1 : Int32) : xC l D K B y_A_batchAt b_A_batchAt 2 (some (.object "AshMetals$Batch")) rm_A_batchAt [.ref (ad 0), .int x1] H (fun v H1 => H1 = H ∧ ((xi (σ.1 0) x1 = none ∧ v = some .null) ∨ ∃ i, i < σ.1 0 ∧ x1 = nI i ∧ v = some (.ref (ad (100 + i))))) := by
  refine Met.ofW (cc := b_A_batchAt) (maxL := 2) (ret := (some (.object "AshMetals$Batch"))) (by decide) rfl ?_
  intro p e s m args below meth c s₁ B0 hml hv
  obtain ⟨rfl, hsz, hK, hN⟩ := hv
  have hx := B0.exec
  have hb := B0.bytes
  have hr := B0.returns
  have htw : ∀ w ∈ xW0, w.before [.ref (ad 0), .int x1].toArray s = true := fun w h => atoms_spec (ws := Cond.code y_A_batchAt b_A_batchAt 2 (some (.object "AshMetals$Batch")) :: xW0) B0.pre w (List.mem_cons_of_mem _ h)
  have hown : s.vm.findClass R_A = some m.cls := findClass_of_methodNamed B0.named
  have hlocks := B0.notSynchronized
  subst hsz
  have hS : va_S (fun q => B ≤ q) s.heap s.heap [] := va_S.rf
  have hl := lv_entry ([.ref (ad 0), .int x1]) (n := 2) (Nat.le_of_ble_eq_true rfl)
  rw [lg_entry_eq]
  generalize (lg_sl ([.ref (ad 0), .int x1]) ++ List.replicate (2 - (lg_sl ([.ref (ad 0), .int x1])).length) Slot.unset).toArray = ls at hl ⊢
  have hl : lv_has ls 2 [(0, .ref (ad 0)), (1, .int x1)] := hl
  have hH : s.heap = s.heap := rfl
  obtain ⟨r0, r1, r2, r3, r4, r5, r6, r7, rb, rba, rbt, rbo, rs, rss, rr⟩ := id hR
  refine lv_iload_n hx hb d_A_batchAt_0 rfl (lv_at hl 1 rfl) ?_
  refine lv_if_lt (tgt := 21) hx hb d_A_batchAt_1 (by decide) (fun c_1 => ?_) (fun c_1 => ?_)
  · refine lv_null hx hb d_A_batchAt_21 ?_
    exact W.aret (v := .null) hx hb hr (Or.inl ⟨_, rfl⟩) (Or.inl rfl) (fun t ht _ => ⟨_, rfl, ⟨ht, Or.inl ⟨xi_0 c_1, rfl⟩⟩, hS.F ht⟩) hS.2.2 d_A_batchAt_22
  · refine lv_iload_n hx hb d_A_batchAt_4 rfl (lv_at hl 1 rfl) ?_
    refine lv_aload_n hx hb d_A_batchAt_5 rfl (lv_at hl 0 rfl) ?_
    refine xr_get (ci := 0) (v := .int (nI (σ.1 0))) (C := R_A) (T := T_A) (N := 10) hx hb htw in_A hown hK hw 0 r0 rfl rfl 1 (by decide) (htw _ u_42) (fun _ h9 => h9) rfl d_A_batchAt_6 ?_
    refine lv_icmp_ge (tgt := 21) hx hb d_A_batchAt_9 (by decide) (fun c_2 => ?_) (fun c_2 => ?_)
    · refine lv_null hx hb d_A_batchAt_21 ?_
      exact W.aret (v := .null) hx hb hr (Or.inl ⟨_, rfl⟩) (Or.inl rfl) (fun t ht _ => ⟨_, rfl, ⟨ht, Or.inl ⟨xi_n c_2 (by omega), rfl⟩⟩, hS.F ht⟩) hS.2.2 d_A_batchAt_22
    · obtain ⟨i, hi, rfl⟩ := xi_t c_1 c_2 (by omega)
      refine lv_aload_n hx hb d_A_batchAt_12 rfl (lv_at hl 0 rfl) ?_
      refine xr_get (ci := 0) (v := .ref (ad 1)) (C := R_A) (T := T_A) (N := 10) hx hb htw in_A hown hK hw 0 r0 rfl rfl 0 (by decide) (htw _ u_41) (fun _ h9 => h9) rfl d_A_batchAt_13 ?_
      refine lv_iload_n hx hb d_A_batchAt_16 rfl (lv_at hl 1 rfl) ?_
      refine xr_aldq (i := nI i) hx hb hK hw 1 2 r1 rfl rfl (xvin (a := i) rfl (by omega) (by omega)) d_A_batchAt_17 ?_
      refine W.eq (g2 := F0 m 18 ls (.ref (ad (100 + i)) :: [])) (congrArg (fun z => F0 m 18 ls (va_rf z :: [])) (show (if (nI i).toNatClampNeg < σ.1 0 then some (ad (100 + (nI i).toNatClampNeg)) else none) = some (ad (100 + i)) by rw [xcl (a := i) rfl (by omega)]; exact if_pos hi)) ?_
      refine lv_goto (tgt := 22) hx hb d_A_batchAt_18 (by decide) ?_
      exact W.aret (v := .ref (ad (100 + i))) hx hb hr (Or.inl ⟨_, rfl⟩) (Or.inr ⟨_, rfl⟩) (fun t ht _ => ⟨_, rfl, ⟨ht, Or.inr ⟨i, hi, rfl, rfl⟩⟩, hS.F ht⟩) hS.2.2 d_A_batchAt_22
set_option maxHeartbeats 4000000 in
set_option maxRecDepth 100000 in
theorem c_A_stageAt {l : Launch} {D : va_G} {K : Nat → ClassId} {B : Nat} {ad : Nat → Nat} {w : Nat → Option va_E} {H : Heap} {σ : xS} (hR : RepX K σ ad w) (hnb : σ.1 0 ≤ 8) (hns : σ.1 1 ≤ 6) (hw : xw D vwCl B ad w H) (x1 : Int32) : xC l D K B y_A_stageAt b_A_stageAt 2 (some (.object "AshMetals$Stage")) rm_A_stageAt [.ref (ad 0), .int x1] H (fun v H1 => H1 = H ∧ ((xi (σ.1 1) x1 = none ∧ v = some .null) ∨ ∃ i, i < σ.1 1 ∧ x1 = nI i ∧ v = some (.ref (ad (140 + i))))) := by
  refine Met.ofW (cc := b_A_stageAt) (maxL := 2) (ret := (some (.object "AshMetals$Stage"))) (by decide) rfl ?_
  intro p e s m args below meth c s₁ B0 hml hv
  obtain ⟨rfl, hsz, hK, hN⟩ := hv
  have hx := B0.exec
  have hb := B0.bytes
  have hr := B0.returns
  have htw : ∀ w ∈ xW0, w.before [.ref (ad 0), .int x1].toArray s = true := fun w h => atoms_spec (ws := Cond.code y_A_stageAt b_A_stageAt 2 (some (.object "AshMetals$Stage")) :: xW0) B0.pre w (List.mem_cons_of_mem _ h)
  have hown : s.vm.findClass R_A = some m.cls := findClass_of_methodNamed B0.named
  have hlocks := B0.notSynchronized
  subst hsz
  have hS : va_S (fun q => B ≤ q) s.heap s.heap [] := va_S.rf
  have hl := lv_entry ([.ref (ad 0), .int x1]) (n := 2) (Nat.le_of_ble_eq_true rfl)
  rw [lg_entry_eq]
  generalize (lg_sl ([.ref (ad 0), .int x1]) ++ List.replicate (2 - (lg_sl ([.ref (ad 0), .int x1])).length) Slot.unset).toArray = ls at hl ⊢
  have hl : lv_has ls 2 [(0, .ref (ad 0)), (1, .int x1)] := hl
  have hH : s.heap = s.heap := rfl
  obtain ⟨r0, r1, r2, r3, r4, r5, r6, r7, rb, rba, rbt, rbo, rs, rss, rr⟩ := id hR
  refine lv_iload_n hx hb d_A_stageAt_0 rfl (lv_at hl 1 rfl) ?_
  refine lv_if_lt (tgt := 21) hx hb d_A_stageAt_1 (by decide) (fun c_1 => ?_) (fun c_1 => ?_)
  · refine lv_null hx hb d_A_stageAt_21 ?_
    exact W.aret (v := .null) hx hb hr (Or.inl ⟨_, rfl⟩) (Or.inl rfl) (fun t ht _ => ⟨_, rfl, ⟨ht, Or.inl ⟨xi_0 c_1, rfl⟩⟩, hS.F ht⟩) hS.2.2 d_A_stageAt_22
  · refine lv_iload_n hx hb d_A_stageAt_4 rfl (lv_at hl 1 rfl) ?_
    refine lv_aload_n hx hb d_A_stageAt_5 rfl (lv_at hl 0 rfl) ?_
    refine xr_get (ci := 0) (v := .int (nI (σ.1 1))) (C := R_A) (T := T_A) (N := 10) hx hb htw in_A hown hK hw 0 r0 rfl rfl 3 (by decide) (htw _ u_44) (fun _ h9 => h9) rfl d_A_stageAt_6 ?_
    refine lv_icmp_ge (tgt := 21) hx hb d_A_stageAt_9 (by decide) (fun c_2 => ?_) (fun c_2 => ?_)
    · refine lv_null hx hb d_A_stageAt_21 ?_
      exact W.aret (v := .null) hx hb hr (Or.inl ⟨_, rfl⟩) (Or.inl rfl) (fun t ht _ => ⟨_, rfl, ⟨ht, Or.inl ⟨xi_n c_2 (by omega), rfl⟩⟩, hS.F ht⟩) hS.2.2 d_A_stageAt_22
    · obtain ⟨i, hi, rfl⟩ := xi_t c_1 c_2 (by omega)
      refine lv_aload_n hx hb d_A_stageAt_12 rfl (lv_at hl 0 rfl) ?_
      refine xr_get (ci := 0) (v := .ref (ad 2)) (C := R_A) (T := T_A) (N := 10) hx hb htw in_A hown hK hw 0 r0 rfl rfl 2 (by decide) (htw _ u_43) (fun _ h9 => h9) rfl d_A_stageAt_13 ?_
      refine lv_iload_n hx hb d_A_stageAt_16 rfl (lv_at hl 1 rfl) ?_
      refine xr_aldq (i := nI i) hx hb hK hw 2 3 r2 rfl rfl (xvin (a := i) rfl (by omega) (by omega)) d_A_stageAt_17 ?_
      refine W.eq (g2 := F0 m 18 ls (.ref (ad (140 + i)) :: [])) (congrArg (fun z => F0 m 18 ls (va_rf z :: [])) (show (if (nI i).toNatClampNeg < σ.1 1 then some (ad (140 + (nI i).toNatClampNeg)) else none) = some (ad (140 + i)) by rw [xcl (a := i) rfl (by omega)]; exact if_pos hi)) ?_
      refine lv_goto (tgt := 22) hx hb d_A_stageAt_18 (by decide) ?_
      exact W.aret (v := .ref (ad (140 + i))) hx hb hr (Or.inl ⟨_, rfl⟩) (Or.inr ⟨_, rfl⟩) (fun t ht _ => ⟨_, rfl, ⟨ht, Or.inr ⟨i, hi, rfl, rfl⟩⟩, hS.F ht⟩) hS.2.2 d_A_stageAt_22
set_option maxHeartbeats 4000000 in
set_option maxRecDepth 100000 in
theorem c_A_money {l : Launch} {D : va_G} {K : Nat → ClassId} {B : Nat} {ad : Nat → Nat} {w : Nat → Option va_E} {H : Heap} {σ : xS} (hR : RepX K σ ad w) (hI : Inv σ) (hw : xw D vwCl B ad w H) : xC l D K B y_A_money b_A_money 1 (some .long) rm_A_money [.ref (ad 0)] H (fun v H1 => v = some (.long (f_money σ)) ∧ H1 = H) := by
  refine Met.ofW (cc := b_A_money) (maxL := 1) (ret := (some .long)) (by decide) rfl ?_
  intro p e s m args below meth c s₁ B0 hml hv
  obtain ⟨rfl, hsz, hK, hN⟩ := hv
  have hx := B0.exec
  have hb := B0.bytes
  have hr := B0.returns
  have htw : ∀ w ∈ xW0, w.before [.ref (ad 0)].toArray s = true := fun w h => atoms_spec (ws := Cond.code y_A_money b_A_money 1 (some .long) :: xW0) B0.pre w (List.mem_cons_of_mem _ h)
  have hown : s.vm.findClass R_A = some m.cls := findClass_of_methodNamed B0.named
  have hlocks := B0.notSynchronized
  subst hsz
  have hS : va_S (fun q => B ≤ q) s.heap s.heap [] := va_S.rf
  have hl := lv_entry ([.ref (ad 0)]) (n := 1) (Nat.le_of_ble_eq_true rfl)
  rw [lg_entry_eq]
  generalize (lg_sl ([.ref (ad 0)]) ++ List.replicate (1 - (lg_sl ([.ref (ad 0)])).length) Slot.unset).toArray = ls at hl ⊢
  have hl : lv_has ls 1 [(0, .ref (ad 0))] := hl
  have hH : s.heap = s.heap := rfl
  obtain ⟨r0, r1, r2, r3, r4, r5, r6, r7, rb, rba, rbt, rbo, rs, rss, rr⟩ := id hR
  obtain ⟨hnb, hns, hnr, hpc, hst, hto, htl, hrm, hpa, hwt, hdf, hds⟩ := id hI
  refine lv_aload_n hx hb d_A_money_0 rfl (lv_at hl 0 rfl) ?_
  refine xr_get (ci := 0) (v := .long (σ.2.2.1 0 0)) (C := R_A) (T := T_A) (N := 10) hx hb htw in_A hown hK hw 0 r0 rfl rfl 9 (by decide) (htw _ u_50) (fun _ h9 => h9) rfl d_A_money_1 ?_
  exact W.lret (v := σ.2.2.1 0 0) hx hb hr (fun t ht _ => ⟨_, rfl, ⟨by simp [f_money, opt_n, opt_s], ht⟩, hS.F ht⟩) hS.2.2 d_A_money_4
set_option maxHeartbeats 4000000 in
set_option maxRecDepth 100000 in
theorem c_A_grams {l : Launch} {D : va_G} {K : Nat → ClassId} {B : Nat} {ad : Nat → Nat} {w : Nat → Option va_E} {H : Heap} {σ : xS} (hR : RepX K σ ad w) (hI : Inv σ) (hw : xw D vwCl B ad w H) (x1 : Int32) : xC l D K B y_A_grams b_A_grams 3 (some .long) rm_A_grams [.ref (ad 0), .int x1] H (fun v H1 => v = some (.long (f_grams σ x1)) ∧ H1 = H) := by
  refine Met.ofW (cc := b_A_grams) (maxL := 3) (ret := (some .long)) (by decide) rfl ?_
  intro p e s m args below meth c s₁ B0 hml hv
  obtain ⟨rfl, hsz, hK, hN⟩ := hv
  have hx := B0.exec
  have hb := B0.bytes
  have hr := B0.returns
  have htw : ∀ w ∈ xW0, w.before [.ref (ad 0), .int x1].toArray s = true := fun w h => atoms_spec (ws := Cond.code y_A_grams b_A_grams 3 (some .long) :: xW0) B0.pre w (List.mem_cons_of_mem _ h)
  have hown : s.vm.findClass R_A = some m.cls := findClass_of_methodNamed B0.named
  have hlocks := B0.notSynchronized
  subst hsz
  have hS : va_S (fun q => B ≤ q) s.heap s.heap [] := va_S.rf
  have hl := lv_entry ([.ref (ad 0), .int x1]) (n := 3) (Nat.le_of_ble_eq_true rfl)
  rw [lg_entry_eq]
  generalize (lg_sl ([.ref (ad 0), .int x1]) ++ List.replicate (3 - (lg_sl ([.ref (ad 0), .int x1])).length) Slot.unset).toArray = ls at hl ⊢
  have hl : lv_has ls 3 [(0, .ref (ad 0)), (1, .int x1)] := hl
  have hH : s.heap = s.heap := rfl
  obtain ⟨r0, r1, r2, r3, r4, r5, r6, r7, rb, rba, rbt, rbo, rs, rss, rr⟩ := id hR
  obtain ⟨hnb, hns, hnr, hpc, hst, hto, htl, hrm, hpa, hwt, hdf, hds⟩ := id hI
  refine lv_aload_n hx hb d_A_grams_0 rfl (lv_at hl 0 rfl) ?_
  refine lv_iload_n hx hb d_A_grams_1 rfl (lv_at hl 1 rfl) ?_
  refine xr_call (va_runV (As := [.int x1]) (rest := []) ⟨hx, hb, hml, hown, htw⟩ (c_A_batchAt (ad := ad) hR hnb hns hw x1) (cwV 1 htw (gV u_131 u_133 us_1 u_1 u_134) rfl rfl rfl hd_A_batchAt ⟨Nat.le_of_ble_eq_true rfl, Nat.le_of_ble_eq_true rfl⟩) ⟨xP_blind, hw.recv hK (ci := 0) (t := 0) rfl r0 rfl, xP_of hK hN⟩ rfl rfl hl.1 rfl (lv_room (Nat.le_of_ble_eq_true rfl)) d_A_grams_2 ⟨by decide, by decide⟩) hS (fun v H_ locs hp hS => ?_)
  obtain ⟨hHe, hp⟩ := hp
  rw [hHe] at hS ⊢
  rcases hp with ⟨f2, rfl⟩ | ⟨i1, hi1, rfl, rfl⟩
  · refine W.eq (g2 := F0 m 5 ls [.null]) rfl ?_
    refine lv_astore_nN (lv' := [(2, .null), (0, .ref (ad 0)), (1, .int x1)]) hx hb d_A_grams_5 rfl hl (by decide) rfl (fun ls hl => ?_)
    refine lv_aload_nN hx hb d_A_grams_6 rfl (lv_at hl 0 rfl) ?_
    refine lv_ifnonnullN hx hb d_A_grams_7 ?_
    refine lv_ldc2 (v := (-1)) hx hb hown (htw _ u_191) d_A_grams_10 ?_
    refine lv_goto (tgt := 20) hx hb d_A_grams_13 (by decide) ?_
    exact W.lret (v := (-1)) hx hb hr (fun t ht _ => ⟨_, rfl, ⟨by simp [f_grams, opt_n, opt_s, f2], ht⟩, hS.F ht⟩) hS.2.2 d_A_grams_20
  · have fi1 : xi (σ.1 0) (nI i1) = some i1 := xi_nI hi1 (by omega)
    refine W.eq (g2 := F0 m 5 ls [.ref (ad (100 + i1))]) rfl ?_
    refine lv_astore_n (lv' := [(2, .ref (ad (100 + i1))), (0, .ref (ad 0)), (1, .int (nI i1))]) hx hb d_A_grams_5 rfl hl (by decide) rfl (fun ls hl => ?_)
    refine lv_aload_n hx hb d_A_grams_6 rfl (lv_at hl 0 rfl) ?_
    refine lv_ifnonnull (tgt := 16) hx hb d_A_grams_7 (by decide) ?_
    refine lv_aload_n hx hb d_A_grams_16 rfl (lv_at hl 0 rfl) ?_
    refine xr_get (ci := 1) (v := .long (σ.2.2.1 1 i1)) (C := R_B) (T := T_B) (N := 9) hx hb htw in_B hown hK hw (100 + i1) (rb i1 hi1) rfl rfl 5 (by decide) (htw _ u_100) (fun _ h9 => h9) rfl d_A_grams_17 ?_
    exact W.lret (v := σ.2.2.1 1 i1) hx hb hr (fun t ht _ => ⟨_, rfl, ⟨by simp [f_grams, opt_n, opt_s, fi1], ht⟩, hS.F ht⟩) hS.2.2 d_A_grams_20
set_option maxHeartbeats 4000000 in
set_option maxRecDepth 100000 in
theorem c_A_left {l : Launch} {D : va_G} {K : Nat → ClassId} {B : Nat} {ad : Nat → Nat} {w : Nat → Option va_E} {H : Heap} {σ : xS} (hR : RepX K σ ad w) (hI : Inv σ) (hw : xw D vwCl B ad w H) (x1 x2 : Int32) : xC l D K B y_A_left b_A_left 4 (some .long) rm_A_left [.ref (ad 0), .int x1, .int x2] H (fun v H1 => v = some (.long (f_left σ x1 x2)) ∧ H1 = H) := by
  refine Met.ofW (cc := b_A_left) (maxL := 4) (ret := (some .long)) (by decide) rfl ?_
  intro p e s m args below meth c s₁ B0 hml hv
  obtain ⟨rfl, hsz, hK, hN⟩ := hv
  have hx := B0.exec
  have hb := B0.bytes
  have hr := B0.returns
  have htw : ∀ w ∈ xW0, w.before [.ref (ad 0), .int x1, .int x2].toArray s = true := fun w h => atoms_spec (ws := Cond.code y_A_left b_A_left 4 (some .long) :: xW0) B0.pre w (List.mem_cons_of_mem _ h)
  have hown : s.vm.findClass R_A = some m.cls := findClass_of_methodNamed B0.named
  have hlocks := B0.notSynchronized
  subst hsz
  have hS : va_S (fun q => B ≤ q) s.heap s.heap [] := va_S.rf
  have hl := lv_entry ([.ref (ad 0), .int x1, .int x2]) (n := 4) (Nat.le_of_ble_eq_true rfl)
  rw [lg_entry_eq]
  generalize (lg_sl ([.ref (ad 0), .int x1, .int x2]) ++ List.replicate (4 - (lg_sl ([.ref (ad 0), .int x1, .int x2])).length) Slot.unset).toArray = ls at hl ⊢
  have hl : lv_has ls 4 [(0, .ref (ad 0)), (1, .int x1), (2, .int x2)] := hl
  have hH : s.heap = s.heap := rfl
  obtain ⟨r0, r1, r2, r3, r4, r5, r6, r7, rb, rba, rbt, rbo, rs, rss, rr⟩ := id hR
  obtain ⟨hnb, hns, hnr, hpc, hst, hto, htl, hrm, hpa, hwt, hdf, hds⟩ := id hI
  refine lv_aload_n hx hb d_A_left_0 rfl (lv_at hl 0 rfl) ?_
  refine lv_iload_n hx hb d_A_left_1 rfl (lv_at hl 1 rfl) ?_
  refine xr_call (va_runV (As := [.int x1]) (rest := []) ⟨hx, hb, hml, hown, htw⟩ (c_A_batchAt (ad := ad) hR hnb hns hw x1) (cwV 1 htw (gV u_131 u_133 us_1 u_1 u_134) rfl rfl rfl hd_A_batchAt ⟨Nat.le_of_ble_eq_true rfl, Nat.le_of_ble_eq_true rfl⟩) ⟨xP_blind, hw.recv hK (ci := 0) (t := 0) rfl r0 rfl, xP_of hK hN⟩ rfl rfl hl.1 rfl (lv_room (Nat.le_of_ble_eq_true rfl)) d_A_left_2 ⟨by decide, by decide⟩) hS (fun v H_ locs hp hS => ?_)
  obtain ⟨hHe, hp⟩ := hp
  rw [hHe] at hS ⊢
  rcases hp with ⟨f2, rfl⟩ | ⟨i1, hi1, rfl, rfl⟩
  · refine W.eq (g2 := F0 m 5 ls [.null]) rfl ?_
    refine lv_astore_nN (lv' := [(3, .null), (0, .ref (ad 0)), (1, .int x1), (2, .int x2)]) hx hb d_A_left_5 rfl hl (by decide) rfl (fun ls hl => ?_)
    refine lv_aload_nN hx hb d_A_left_6 rfl (lv_at hl 0 rfl) ?_
    refine lv_ifnullN (tgt := 17) hx hb d_A_left_7 (by decide) ?_
    refine lv_ldc2 (v := (-1)) hx hb hown (htw _ u_191) d_A_left_17 ?_
    exact W.lret (v := (-1)) hx hb hr (fun t ht _ => ⟨_, rfl, ⟨by simp [f_left, opt_n, opt_s, f2], ht⟩, hS.F ht⟩) hS.2.2 d_A_left_20
  · have fi1 : xi (σ.1 0) (nI i1) = some i1 := xi_nI hi1 (by omega)
    refine W.eq (g2 := F0 m 5 ls [.ref (ad (100 + i1))]) rfl ?_
    refine lv_astore_n (lv' := [(3, .ref (ad (100 + i1))), (0, .ref (ad 0)), (1, .int (nI i1)), (2, .int x2)]) hx hb d_A_left_5 rfl hl (by decide) rfl (fun ls hl => ?_)
    refine lv_aload_n hx hb d_A_left_6 rfl (lv_at hl 0 rfl) ?_
    refine lv_ifnull hx hb d_A_left_7 ?_
    refine lv_iload_n hx hb d_A_left_10 rfl (lv_at hl 3 rfl) ?_
    refine xr_call (va_runS (As := [.int x2]) (rest := []) ⟨hx, hb, hml, hown, htw⟩ (c_A_isMetal x2) (va_cwS 1 htw (gS u_135 u_136 u_1 u_137) rfl rfl rfl hd_A_isMetal.2 ⟨Nat.le_of_ble_eq_true rfl, Nat.le_of_ble_eq_true rfl⟩) ⟨xP_blind, xP_of hK hN⟩ rfl rfl hl.1 rfl (lv_room (Nat.le_of_ble_eq_true rfl)) d_A_left_11 ⟨by decide, by decide⟩) hS (fun v H_ locs hp hS => ?_)
    obtain ⟨rfl, hHe⟩ := hp
    rw [hHe] at hS ⊢
    refine W.eq (g2 := F0 m 14 ls [.int (bI (xm x2))]) rfl ?_
    refine lv_if_ne (tgt := 21) hx hb d_A_left_14 (by decide) (fun c_3 => ?_) (fun c_3 => ?_)
    · have c_3 : (xm x2) = true := bI_t.mp c_3
      obtain ⟨k4, hk4, rfl⟩ := xm_of c_3
      have xk4 : xi 4 (nI k4) = some k4 := xi_nI hk4 (by decide)
      refine lv_aload_n hx hb d_A_left_21 rfl (lv_at hl 0 rfl) ?_
      refine xr_get (ci := 1) (v := .ref (ad (110 + i1))) (C := R_B) (T := T_B) (N := 9) hx hb htw in_B hown hK hw (100 + i1) (rb i1 hi1) rfl rfl 2 (by decide) (htw _ u_94) (fun _ h9 => h9) rfl d_A_left_22 ?_
      refine lv_iload_n hx hb d_A_left_25 rfl (lv_at hl 3 rfl) ?_
      refine xr_lald (i := nI k4) hx hb hK hw (110 + i1) 1 (rba i1 hi1) rfl rfl (xvin (a := k4) rfl (by omega) (by omega)) d_A_left_26 ?_
      refine lv_topl (fun x_5 ex_5 => ?_)
      obtain rfl : x_5 = (σ.2.2.1 (10 + i1)) k4 := ex_5.trans ((congrArg (σ.2.2.1 (10 + i1)) (xcl (a := k4) rfl (by omega))).trans rfl)
      exact W.lret (v := (σ.2.2.1 (10 + i1)) k4) hx hb hr (fun t ht _ => ⟨_, rfl, ⟨by simp [f_left, opt_n, opt_s, fi1, xk4, c_3], ht⟩, hS.F ht⟩) hS.2.2 d_A_left_27
    · have c_3 : (xm x2) = false := bI_f.mp c_3
      have f6 : xi 4 x2 = none := xm_xi c_3
      refine lv_ldc2 (v := (-1)) hx hb hown (htw _ u_191) d_A_left_17 ?_
      exact W.lret (v := (-1)) hx hb hr (fun t ht _ => ⟨_, rfl, ⟨by simp [f_left, opt_n, opt_s, fi1, f6, c_3], ht⟩, hS.F ht⟩) hS.2.2 d_A_left_20
set_option maxHeartbeats 4000000 in
set_option maxRecDepth 100000 in
theorem c_A_stock {l : Launch} {D : va_G} {K : Nat → ClassId} {B : Nat} {ad : Nat → Nat} {w : Nat → Option va_E} {H : Heap} {σ : xS} (hR : RepX K σ ad w) (hI : Inv σ) (hw : xw D vwCl B ad w H) (x1 x2 : Int32) : xC l D K B y_A_stock b_A_stock 4 (some .long) rm_A_stock [.ref (ad 0), .int x1, .int x2] H (fun v H1 => v = some (.long (f_stock σ x1 x2)) ∧ H1 = H) := by
  refine Met.ofW (cc := b_A_stock) (maxL := 4) (ret := (some .long)) (by decide) rfl ?_
  intro p e s m args below meth c s₁ B0 hml hv
  obtain ⟨rfl, hsz, hK, hN⟩ := hv
  have hx := B0.exec
  have hb := B0.bytes
  have hr := B0.returns
  have htw : ∀ w ∈ xW0, w.before [.ref (ad 0), .int x1, .int x2].toArray s = true := fun w h => atoms_spec (ws := Cond.code y_A_stock b_A_stock 4 (some .long) :: xW0) B0.pre w (List.mem_cons_of_mem _ h)
  have hown : s.vm.findClass R_A = some m.cls := findClass_of_methodNamed B0.named
  have hlocks := B0.notSynchronized
  subst hsz
  have hS : va_S (fun q => B ≤ q) s.heap s.heap [] := va_S.rf
  have hl := lv_entry ([.ref (ad 0), .int x1, .int x2]) (n := 4) (Nat.le_of_ble_eq_true rfl)
  rw [lg_entry_eq]
  generalize (lg_sl ([.ref (ad 0), .int x1, .int x2]) ++ List.replicate (4 - (lg_sl ([.ref (ad 0), .int x1, .int x2])).length) Slot.unset).toArray = ls at hl ⊢
  have hl : lv_has ls 4 [(0, .ref (ad 0)), (1, .int x1), (2, .int x2)] := hl
  have hH : s.heap = s.heap := rfl
  obtain ⟨r0, r1, r2, r3, r4, r5, r6, r7, rb, rba, rbt, rbo, rs, rss, rr⟩ := id hR
  obtain ⟨hnb, hns, hnr, hpc, hst, hto, htl, hrm, hpa, hwt, hdf, hds⟩ := id hI
  refine lv_aload_n hx hb d_A_stock_0 rfl (lv_at hl 0 rfl) ?_
  refine lv_iload_n hx hb d_A_stock_1 rfl (lv_at hl 1 rfl) ?_
  refine xr_call (va_runV (As := [.int x1]) (rest := []) ⟨hx, hb, hml, hown, htw⟩ (c_A_stageAt (ad := ad) hR hnb hns hw x1) (cwV 1 htw (gV u_176 u_178 us_3 u_1 u_179) rfl rfl rfl hd_A_stageAt ⟨Nat.le_of_ble_eq_true rfl, Nat.le_of_ble_eq_true rfl⟩) ⟨xP_blind, hw.recv hK (ci := 0) (t := 0) rfl r0 rfl, xP_of hK hN⟩ rfl rfl hl.1 rfl (lv_room (Nat.le_of_ble_eq_true rfl)) d_A_stock_2 ⟨by decide, by decide⟩) hS (fun v H_ locs hp hS => ?_)
  obtain ⟨hHe, hp⟩ := hp
  rw [hHe] at hS ⊢
  rcases hp with ⟨f2, rfl⟩ | ⟨i1, hi1, rfl, rfl⟩
  · refine W.eq (g2 := F0 m 5 ls [.null]) rfl ?_
    refine lv_astore_nN (lv' := [(3, .null), (0, .ref (ad 0)), (1, .int x1), (2, .int x2)]) hx hb d_A_stock_5 rfl hl (by decide) rfl (fun ls hl => ?_)
    refine lv_aload_nN hx hb d_A_stock_6 rfl (lv_at hl 0 rfl) ?_
    refine lv_ifnullN (tgt := 17) hx hb d_A_stock_7 (by decide) ?_
    refine lv_ldc2 (v := (-1)) hx hb hown (htw _ u_191) d_A_stock_17 ?_
    exact W.lret (v := (-1)) hx hb hr (fun t ht _ => ⟨_, rfl, ⟨by simp [f_stock, opt_n, opt_s, f2], ht⟩, hS.F ht⟩) hS.2.2 d_A_stock_20
  · have fi1 : xi (σ.1 1) (nI i1) = some i1 := xi_nI hi1 (by omega)
    refine W.eq (g2 := F0 m 5 ls [.ref (ad (140 + i1))]) rfl ?_
    refine lv_astore_n (lv' := [(3, .ref (ad (140 + i1))), (0, .ref (ad 0)), (1, .int (nI i1)), (2, .int x2)]) hx hb d_A_stock_5 rfl hl (by decide) rfl (fun ls hl => ?_)
    refine lv_aload_n hx hb d_A_stock_6 rfl (lv_at hl 0 rfl) ?_
    refine lv_ifnull hx hb d_A_stock_7 ?_
    refine lv_iload_n hx hb d_A_stock_10 rfl (lv_at hl 3 rfl) ?_
    refine xr_call (va_runS (As := [.int x2]) (rest := []) ⟨hx, hb, hml, hown, htw⟩ (c_A_isMetal x2) (va_cwS 1 htw (gS u_135 u_136 u_1 u_137) rfl rfl rfl hd_A_isMetal.2 ⟨Nat.le_of_ble_eq_true rfl, Nat.le_of_ble_eq_true rfl⟩) ⟨xP_blind, xP_of hK hN⟩ rfl rfl hl.1 rfl (lv_room (Nat.le_of_ble_eq_true rfl)) d_A_stock_11 ⟨by decide, by decide⟩) hS (fun v H_ locs hp hS => ?_)
    obtain ⟨rfl, hHe⟩ := hp
    rw [hHe] at hS ⊢
    refine W.eq (g2 := F0 m 14 ls [.int (bI (xm x2))]) rfl ?_
    refine lv_if_ne (tgt := 21) hx hb d_A_stock_14 (by decide) (fun c_3 => ?_) (fun c_3 => ?_)
    · have c_3 : (xm x2) = true := bI_t.mp c_3
      obtain ⟨k4, hk4, rfl⟩ := xm_of c_3
      have xk4 : xi 4 (nI k4) = some k4 := xi_nI hk4 (by decide)
      refine lv_aload_n hx hb d_A_stock_21 rfl (lv_at hl 0 rfl) ?_
      refine xr_get (ci := 2) (v := .ref (ad (150 + i1))) (C := R_S) (T := T_S) (N := 4) hx hb htw in_S hown hK hw (140 + i1) (rs i1 hi1) rfl rfl 3 (by decide) (htw _ u_158) (fun _ h9 => h9) rfl d_A_stock_22 ?_
      refine lv_iload_n hx hb d_A_stock_25 rfl (lv_at hl 3 rfl) ?_
      refine xr_lald (i := nI k4) hx hb hK hw (150 + i1) 1 (rss i1 hi1) rfl rfl (xvin (a := k4) rfl (by omega) (by omega)) d_A_stock_26 ?_
      refine lv_topl (fun x_5 ex_5 => ?_)
      obtain rfl : x_5 = (σ.2.2.1 (30 + i1)) k4 := ex_5.trans ((congrArg (σ.2.2.1 (30 + i1)) (xcl (a := k4) rfl (by omega))).trans rfl)
      exact W.lret (v := (σ.2.2.1 (30 + i1)) k4) hx hb hr (fun t ht _ => ⟨_, rfl, ⟨by simp [f_stock, opt_n, opt_s, fi1, xk4, c_3], ht⟩, hS.F ht⟩) hS.2.2 d_A_stock_27
    · have c_3 : (xm x2) = false := bI_f.mp c_3
      have f6 : xi 4 x2 = none := xm_xi c_3
      refine lv_ldc2 (v := (-1)) hx hb hown (htw _ u_191) d_A_stock_17 ?_
      exact W.lret (v := (-1)) hx hb hr (fun t ht _ => ⟨_, rfl, ⟨by simp [f_stock, opt_n, opt_s, fi1, f6, c_3], ht⟩, hS.F ht⟩) hS.2.2 d_A_stock_20
set_option maxHeartbeats 4000000 in
set_option maxRecDepth 100000 in
theorem c_A_taken {l : Launch} {D : va_G} {K : Nat → ClassId} {B : Nat} {ad : Nat → Nat} {w : Nat → Option va_E} {H : Heap} {σ : xS} (hR : RepX K σ ad w) (hI : Inv σ) (hw : xw D vwCl B ad w H) (x1 x2 x3 : Int32) : xC l D K B y_A_taken b_A_taken 5 (some .long) rm_A_taken [.ref (ad 0), .int x1, .int x2, .int x3] H (fun v H1 => v = some (.long (f_taken σ x1 x2 x3)) ∧ H1 = H) := by
  refine Met.ofW (cc := b_A_taken) (maxL := 5) (ret := (some .long)) (by decide) rfl ?_
  intro p e s m args below meth c s₁ B0 hml hv
  obtain ⟨rfl, hsz, hK, hN⟩ := hv
  have hx := B0.exec
  have hb := B0.bytes
  have hr := B0.returns
  have htw : ∀ w ∈ xW0, w.before [.ref (ad 0), .int x1, .int x2, .int x3].toArray s = true := fun w h => atoms_spec (ws := Cond.code y_A_taken b_A_taken 5 (some .long) :: xW0) B0.pre w (List.mem_cons_of_mem _ h)
  have hown : s.vm.findClass R_A = some m.cls := findClass_of_methodNamed B0.named
  have hlocks := B0.notSynchronized
  subst hsz
  have hS : va_S (fun q => B ≤ q) s.heap s.heap [] := va_S.rf
  have hl := lv_entry ([.ref (ad 0), .int x1, .int x2, .int x3]) (n := 5) (Nat.le_of_ble_eq_true rfl)
  rw [lg_entry_eq]
  generalize (lg_sl ([.ref (ad 0), .int x1, .int x2, .int x3]) ++ List.replicate (5 - (lg_sl ([.ref (ad 0), .int x1, .int x2, .int x3])).length) Slot.unset).toArray = ls at hl ⊢
  have hl : lv_has ls 5 [(0, .ref (ad 0)), (1, .int x1), (2, .int x2), (3, .int x3)] := hl
  have hH : s.heap = s.heap := rfl
  obtain ⟨r0, r1, r2, r3, r4, r5, r6, r7, rb, rba, rbt, rbo, rs, rss, rr⟩ := id hR
  obtain ⟨hnb, hns, hnr, hpc, hst, hto, htl, hrm, hpa, hwt, hdf, hds⟩ := id hI
  refine lv_aload_n hx hb d_A_taken_0 rfl (lv_at hl 0 rfl) ?_
  refine lv_iload_n hx hb d_A_taken_1 rfl (lv_at hl 1 rfl) ?_
  refine xr_call (va_runV (As := [.int x1]) (rest := []) ⟨hx, hb, hml, hown, htw⟩ (c_A_batchAt (ad := ad) hR hnb hns hw x1) (cwV 1 htw (gV u_131 u_133 us_1 u_1 u_134) rfl rfl rfl hd_A_batchAt ⟨Nat.le_of_ble_eq_true rfl, Nat.le_of_ble_eq_true rfl⟩) ⟨xP_blind, hw.recv hK (ci := 0) (t := 0) rfl r0 rfl, xP_of hK hN⟩ rfl rfl hl.1 rfl (lv_room (Nat.le_of_ble_eq_true rfl)) d_A_taken_2 ⟨by decide, by decide⟩) hS (fun v H_ locs hp hS => ?_)
  obtain ⟨hHe, hp⟩ := hp
  rw [hHe] at hS ⊢
  rcases hp with ⟨f2, rfl⟩ | ⟨i1, hi1, rfl, rfl⟩
  · refine W.eq (g2 := F0 m 5 ls [.null]) rfl ?_
    refine lv_astoreN (lv' := [(4, .null), (0, .ref (ad 0)), (1, .int x1), (2, .int x2), (3, .int x3)]) hx hb d_A_taken_5 hl (by decide) rfl (fun ls hl => ?_)
    refine lv_aloadN hx hb d_A_taken_7 (lv_at hl 0 rfl) ?_
    refine lv_ifnullN (tgt := 19) hx hb d_A_taken_9 (by decide) ?_
    refine lv_ldc2 (v := (-1)) hx hb hown (htw _ u_191) d_A_taken_19 ?_
    exact W.lret (v := (-1)) hx hb hr (fun t ht _ => ⟨_, rfl, ⟨by simp [f_taken, opt_n, opt_s, f2], ht⟩, hS.F ht⟩) hS.2.2 d_A_taken_22
  · have fi1 : xi (σ.1 0) (nI i1) = some i1 := xi_nI hi1 (by omega)
    refine W.eq (g2 := F0 m 5 ls [.ref (ad (100 + i1))]) rfl ?_
    refine lv_astore (lv' := [(4, .ref (ad (100 + i1))), (0, .ref (ad 0)), (1, .int (nI i1)), (2, .int x2), (3, .int x3)]) hx hb d_A_taken_5 hl (by decide) rfl (fun ls hl => ?_)
    refine lv_aload hx hb d_A_taken_7 (lv_at hl 0 rfl) ?_
    refine lv_ifnull hx hb d_A_taken_9 ?_
    refine lv_iload_n hx hb d_A_taken_12 rfl (lv_at hl 4 rfl) ?_
    refine xr_call (va_runS (As := [.int x3]) (rest := []) ⟨hx, hb, hml, hown, htw⟩ (c_A_isMetal x3) (va_cwS 1 htw (gS u_135 u_136 u_1 u_137) rfl rfl rfl hd_A_isMetal.2 ⟨Nat.le_of_ble_eq_true rfl, Nat.le_of_ble_eq_true rfl⟩) ⟨xP_blind, xP_of hK hN⟩ rfl rfl hl.1 rfl (lv_room (Nat.le_of_ble_eq_true rfl)) d_A_taken_13 ⟨by decide, by decide⟩) hS (fun v H_ locs hp hS => ?_)
    obtain ⟨rfl, hHe⟩ := hp
    rw [hHe] at hS ⊢
    refine W.eq (g2 := F0 m 16 ls [.int (bI (xm x3))]) rfl ?_
    refine lv_if_ne (tgt := 23) hx hb d_A_taken_16 (by decide) (fun c_3 => ?_) (fun c_3 => ?_)
    · have c_3 : (xm x3) = true := bI_t.mp c_3
      obtain ⟨k4, hk4, rfl⟩ := xm_of c_3
      have xk4 : xi 4 (nI k4) = some k4 := xi_nI hk4 (by decide)
      refine lv_iload_n hx hb d_A_taken_23 rfl (lv_at hl 3 rfl) ?_
      refine lv_if_lt (tgt := 42) hx hb d_A_taken_24 (by decide) (fun c_5 => ?_) (fun c_5 => ?_)
      · refine lv_ldc2 (v := (-1)) hx hb hown (htw _ u_191) d_A_taken_42 ?_
        exact W.lret (v := (-1)) hx hb hr (fun t ht _ => ⟨_, rfl, ⟨by simp [f_taken, opt_n, opt_s, fi1, xk4, c_3, xi_0 c_5], ht⟩, hS.F ht⟩) hS.2.2 d_A_taken_45
      · refine lv_iload_n hx hb d_A_taken_27 rfl (lv_at hl 3 rfl) ?_
        refine lv_aload hx hb d_A_taken_28 (lv_at hl 0 rfl) ?_
        refine xr_get (ci := 1) (v := .int (nI (σ.1 (10 + 2 * i1)))) (C := R_B) (T := T_B) (N := 9) hx hb htw in_B hown hK hw (100 + i1) (rb i1 hi1) rfl rfl 8 (by decide) (htw _ u_103) (fun _ h9 => h9) rfl d_A_taken_30 ?_
        refine lv_icmp_ge (tgt := 42) hx hb d_A_taken_33 (by decide) (fun c_6 => ?_) (fun c_6 => ?_)
        · refine lv_ldc2 (v := (-1)) hx hb hown (htw _ u_191) d_A_taken_42 ?_
          exact W.lret (v := (-1)) hx hb hr (fun t ht _ => ⟨_, rfl, ⟨by simp [f_taken, opt_n, opt_s, fi1, xk4, c_3, xi_n c_6 (by have := hst i1; omega)], ht⟩, hS.F ht⟩) hS.2.2 d_A_taken_45
        · refine lv_iload_n hx hb d_A_taken_36 rfl (lv_at hl 3 rfl) ?_
          refine lv_bipush (v := 6) hx hb d_A_taken_37 (by decide) ?_
          refine lv_icmp_lt (tgt := 46) hx hb d_A_taken_39 (by decide) (fun c_7 => ?_) (fun c_7 => ?_)
          · obtain ⟨j, hj, rfl⟩ := xi_t c_5 c_6 (by have := hst i1; omega)
            have := hst i1
            have xj : xi (σ.1 (10 + 2 * i1)) (nI j) = some j := xi_nI hj (by omega)
            refine lv_aload hx hb d_A_taken_46 (lv_at hl 0 rfl) ?_
            refine xr_get (ci := 1) (v := .ref (ad (120 + i1))) (C := R_B) (T := T_B) (N := 9) hx hb htw in_B hown hK hw (100 + i1) (rb i1 hi1) rfl rfl 3 (by decide) (htw _ u_96) (fun _ h9 => h9) rfl d_A_taken_48 ?_
            refine lv_iload_n hx hb d_A_taken_51 rfl (lv_at hl 3 rfl) ?_
            refine lv_iconst (v := 4) hx hb d_A_taken_52 (by decide) ?_
            refine lv_imul hx hb d_A_taken_53 ?_
            refine lv_iload_n hx hb d_A_taken_54 rfl (lv_at hl 4 rfl) ?_
            refine lv_iadd hx hb d_A_taken_55 ?_
            refine xr_lald (i := ((nI j) * 4) + (nI k4)) hx hb hK hw (120 + i1) 1 (rbt i1 hi1) rfl rfl (xvin (a := (j * 4) + k4) (xadd (a := j * 4) (b := k4) (xmul (a := j) (b := 4) rfl rfl) rfl) (by omega) (by omega)) d_A_taken_56 ?_
            refine lv_topl (fun x_8 ex_8 => ?_)
            obtain rfl : x_8 = (σ.2.2.1 (20 + i1)) ((j * 4) + k4) := ex_8.trans ((congrArg (σ.2.2.1 (20 + i1)) (xcl (a := (j * 4) + k4) (xadd (a := j * 4) (b := k4) (xmul (a := j) (b := 4) rfl rfl) rfl) (by omega))).trans rfl)
            exact W.lret (v := (σ.2.2.1 (20 + i1)) ((j * 4) + k4)) hx hb hr (fun t ht _ => ⟨_, rfl, ⟨by simp [f_taken, opt_n, opt_s, fi1, xk4, xj, c_3], ht⟩, hS.F ht⟩) hS.2.2 d_A_taken_57
          · refine lv_ldc2 (v := (-1)) hx hb hown (htw _ u_191) d_A_taken_42 ?_
            exact absurd (show x2 < 6 from by have h6 := hst i1; obtain ⟨j, hj, rfl⟩ := xi_t c_5 c_6 (by omega); exact (nLT (b := 6) (by omega) (by decide)).mpr (by omega)) c_7
    · have c_3 : (xm x3) = false := bI_f.mp c_3
      have f9 : xi 4 x3 = none := xm_xi c_3
      refine lv_ldc2 (v := (-1)) hx hb hown (htw _ u_191) d_A_taken_19 ?_
      exact W.lret (v := (-1)) hx hb hr (fun t ht _ => ⟨_, rfl, ⟨by simp [f_taken, opt_n, opt_s, fi1, f9, c_3], ht⟩, hS.F ht⟩) hS.2.2 d_A_taken_22
