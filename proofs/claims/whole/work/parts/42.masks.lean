set_option maxHeartbeats 4000000 in
set_option maxRecDepth 100000 in
theorem c_M_isBatch {l : Launch} {D : va_G} {K : Nat → ClassId} {B : Nat} {ad : Nat → Nat} {w : Nat → Option va_E} {H : Heap} {σ : xS} (hR : RepM K σ ad w) (hI : Inv σ) (hw : xw D vwCl B ad w H) (x1 : Int32) : xC l D K B y_M_isBatch b_M_isBatch 2 (some .boolean) rm_M_isBatch [.ref (ad 200), .int x1] H (fun v H1 => H1 = H ∧ ((xi (σ.1 0) x1 = none ∧ v = some (.int 0)) ∨ ∃ i, i < σ.1 0 ∧ x1 = nI i ∧ v = some (.int 1))) := by
  refine Met.ofW (cc := b_M_isBatch) (maxL := 2) (ret := (some .boolean)) (by decide) rfl ?_
  intro p e s m args below meth c s₁ B0 hml hv
  obtain ⟨rfl, hsz, hK, hN⟩ := hv
  have hx := B0.exec
  have hb := B0.bytes
  have hr := B0.returns
  have htw : ∀ w ∈ xW0, w.before [.ref (ad 200), .int x1].toArray s = true := fun w h => atoms_spec (ws := Cond.code y_M_isBatch b_M_isBatch 2 (some .boolean) :: xW0) B0.pre w (List.mem_cons_of_mem _ h)
  have hown : s.vm.findClass R_M = some m.cls := findClass_of_methodNamed B0.named
  have hlocks := B0.notSynchronized
  subst hsz
  have hS : va_S (fun q => B ≤ q) s.heap s.heap [] := va_S.rf
  have hl := lv_entry ([.ref (ad 200), .int x1]) (n := 2) (Nat.le_of_ble_eq_true rfl)
  rw [lg_entry_eq]
  generalize (lg_sl ([.ref (ad 200), .int x1]) ++ List.replicate (2 - (lg_sl ([.ref (ad 200), .int x1])).length) Slot.unset).toArray = ls at hl ⊢
  have hl : lv_has ls 2 [(0, .ref (ad 200)), (1, .int x1)] := hl
  have hH : s.heap = s.heap := rfl
  obtain ⟨FA, FT, FS, FO, m200, m203, m204, m205, m206, m207, m208, m209, m210, m212, m213, m214, m215, m216, m217, m218, m220, m223, m224, m225, m226, hFA, hFT, hFS, hFO⟩ := id hR
  obtain ⟨hnb, hns, hnr, hpc, hst, hto, htl, hrm, hpa, hwt, hdf, hds⟩ := id hI
  refine lv_iload_n hx hb d_M_isBatch_0 rfl (lv_at hl 1 rfl) ?_
  refine lv_if_lt (tgt := 16) hx hb d_M_isBatch_1 (by decide) (fun c_1 => ?_) (fun c_1 => ?_)
  · refine lv_iconst (v := 0) hx hb d_M_isBatch_16 (by decide) ?_
    exact W.zret (v := 0) hx hb hr (by decide) (fun t ht _ => ⟨_, rfl, ⟨ht, Or.inl ⟨xi_0 c_1, rfl⟩⟩, hS.F ht⟩) hS.2.2 d_M_isBatch_17
  · refine lv_iload_n hx hb d_M_isBatch_4 rfl (lv_at hl 1 rfl) ?_
    refine lv_aload_n hx hb d_M_isBatch_5 rfl (lv_at hl 0 rfl) ?_
    refine xr_get (ci := 5) (v := .int (nI (σ.1 0))) (C := R_M) (T := T_M) (N := 26) hx hb htw in_M hown hK hw 200 m200 rfl rfl 1 (by decide) (htw _ u_335) (fun _ h9 => h9) rfl d_M_isBatch_6 ?_
    refine lv_icmp_ge (tgt := 16) hx hb d_M_isBatch_9 (by decide) (fun c_2 => ?_) (fun c_2 => ?_)
    · refine lv_iconst (v := 0) hx hb d_M_isBatch_16 (by decide) ?_
      exact W.zret (v := 0) hx hb hr (by decide) (fun t ht _ => ⟨_, rfl, ⟨ht, Or.inl ⟨xi_n c_2 (by omega), rfl⟩⟩, hS.F ht⟩) hS.2.2 d_M_isBatch_17
    · refine lv_iconst (v := 1) hx hb d_M_isBatch_12 (by decide) ?_
      refine lv_goto (tgt := 17) hx hb d_M_isBatch_13 (by decide) ?_
      obtain ⟨i, hi, ei⟩ := xi_t c_1 c_2 (by omega)
      exact W.zret (v := 1) hx hb hr (by decide) (fun t ht _ => ⟨_, rfl, ⟨ht, Or.inr ⟨i, hi, ei, rfl⟩⟩, hS.F ht⟩) hS.2.2 d_M_isBatch_17
set_option maxHeartbeats 4000000 in
set_option maxRecDepth 100000 in
theorem c_M_isStage {l : Launch} {D : va_G} {K : Nat → ClassId} {B : Nat} {ad : Nat → Nat} {w : Nat → Option va_E} {H : Heap} {σ : xS} (hR : RepM K σ ad w) (hI : Inv σ) (hw : xw D vwCl B ad w H) (x1 : Int32) : xC l D K B y_M_isStage b_M_isStage 2 (some .boolean) rm_M_isStage [.ref (ad 200), .int x1] H (fun v H1 => H1 = H ∧ ((xi (σ.1 1) x1 = none ∧ v = some (.int 0)) ∨ ∃ i, i < σ.1 1 ∧ x1 = nI i ∧ v = some (.int 1))) := by
  refine Met.ofW (cc := b_M_isStage) (maxL := 2) (ret := (some .boolean)) (by decide) rfl ?_
  intro p e s m args below meth c s₁ B0 hml hv
  obtain ⟨rfl, hsz, hK, hN⟩ := hv
  have hx := B0.exec
  have hb := B0.bytes
  have hr := B0.returns
  have htw : ∀ w ∈ xW0, w.before [.ref (ad 200), .int x1].toArray s = true := fun w h => atoms_spec (ws := Cond.code y_M_isStage b_M_isStage 2 (some .boolean) :: xW0) B0.pre w (List.mem_cons_of_mem _ h)
  have hown : s.vm.findClass R_M = some m.cls := findClass_of_methodNamed B0.named
  have hlocks := B0.notSynchronized
  subst hsz
  have hS : va_S (fun q => B ≤ q) s.heap s.heap [] := va_S.rf
  have hl := lv_entry ([.ref (ad 200), .int x1]) (n := 2) (Nat.le_of_ble_eq_true rfl)
  rw [lg_entry_eq]
  generalize (lg_sl ([.ref (ad 200), .int x1]) ++ List.replicate (2 - (lg_sl ([.ref (ad 200), .int x1])).length) Slot.unset).toArray = ls at hl ⊢
  have hl : lv_has ls 2 [(0, .ref (ad 200)), (1, .int x1)] := hl
  have hH : s.heap = s.heap := rfl
  obtain ⟨FA, FT, FS, FO, m200, m203, m204, m205, m206, m207, m208, m209, m210, m212, m213, m214, m215, m216, m217, m218, m220, m223, m224, m225, m226, hFA, hFT, hFS, hFO⟩ := id hR
  obtain ⟨hnb, hns, hnr, hpc, hst, hto, htl, hrm, hpa, hwt, hdf, hds⟩ := id hI
  refine lv_iload_n hx hb d_M_isStage_0 rfl (lv_at hl 1 rfl) ?_
  refine lv_if_lt (tgt := 16) hx hb d_M_isStage_1 (by decide) (fun c_1 => ?_) (fun c_1 => ?_)
  · refine lv_iconst (v := 0) hx hb d_M_isStage_16 (by decide) ?_
    exact W.zret (v := 0) hx hb hr (by decide) (fun t ht _ => ⟨_, rfl, ⟨ht, Or.inl ⟨xi_0 c_1, rfl⟩⟩, hS.F ht⟩) hS.2.2 d_M_isStage_17
  · refine lv_iload_n hx hb d_M_isStage_4 rfl (lv_at hl 1 rfl) ?_
    refine lv_aload_n hx hb d_M_isStage_5 rfl (lv_at hl 0 rfl) ?_
    refine xr_get (ci := 5) (v := .int (nI (σ.1 1))) (C := R_M) (T := T_M) (N := 26) hx hb htw in_M hown hK hw 200 m200 rfl rfl 10 (by decide) (htw _ u_344) (fun _ h9 => h9) rfl d_M_isStage_6 ?_
    refine lv_icmp_ge (tgt := 16) hx hb d_M_isStage_9 (by decide) (fun c_2 => ?_) (fun c_2 => ?_)
    · refine lv_iconst (v := 0) hx hb d_M_isStage_16 (by decide) ?_
      exact W.zret (v := 0) hx hb hr (by decide) (fun t ht _ => ⟨_, rfl, ⟨ht, Or.inl ⟨xi_n c_2 (by omega), rfl⟩⟩, hS.F ht⟩) hS.2.2 d_M_isStage_17
    · refine lv_iconst (v := 1) hx hb d_M_isStage_12 (by decide) ?_
      refine lv_goto (tgt := 17) hx hb d_M_isStage_13 (by decide) ?_
      obtain ⟨i, hi, ei⟩ := xi_t c_1 c_2 (by omega)
      exact W.zret (v := 1) hx hb hr (by decide) (fun t ht _ => ⟨_, rfl, ⟨ht, Or.inr ⟨i, hi, ei, rfl⟩⟩, hS.F ht⟩) hS.2.2 d_M_isStage_17
set_option maxHeartbeats 4000000 in
set_option maxRecDepth 100000 in
theorem c_M_money {l : Launch} {D : va_G} {K : Nat → ClassId} {B : Nat} {ad : Nat → Nat} {w : Nat → Option va_E} {H : Heap} {σ : xS} (hR : RepM K σ ad w) (hI : Inv σ) (hw : xw D vwCl B ad w H) : xC l D K B y_M_money b_M_money 1 (some .long) rm_M_money [.ref (ad 200)] H (fun v H1 => v = some (.long (f_money σ)) ∧ H1 = H) := by
  refine Met.ofW (cc := b_M_money) (maxL := 1) (ret := (some .long)) (by decide) rfl ?_
  intro p e s m args below meth c s₁ B0 hml hv
  obtain ⟨rfl, hsz, hK, hN⟩ := hv
  have hx := B0.exec
  have hb := B0.bytes
  have hr := B0.returns
  have htw : ∀ w ∈ xW0, w.before [.ref (ad 200)].toArray s = true := fun w h => atoms_spec (ws := Cond.code y_M_money b_M_money 1 (some .long) :: xW0) B0.pre w (List.mem_cons_of_mem _ h)
  have hown : s.vm.findClass R_M = some m.cls := findClass_of_methodNamed B0.named
  have hlocks := B0.notSynchronized
  subst hsz
  have hS : va_S (fun q => B ≤ q) s.heap s.heap [] := va_S.rf
  have hl := lv_entry ([.ref (ad 200)]) (n := 1) (Nat.le_of_ble_eq_true rfl)
  rw [lg_entry_eq]
  generalize (lg_sl ([.ref (ad 200)]) ++ List.replicate (1 - (lg_sl ([.ref (ad 200)])).length) Slot.unset).toArray = ls at hl ⊢
  have hl : lv_has ls 1 [(0, .ref (ad 200))] := hl
  have hH : s.heap = s.heap := rfl
  obtain ⟨FA, FT, FS, FO, m200, m203, m204, m205, m206, m207, m208, m209, m210, m212, m213, m214, m215, m216, m217, m218, m220, m223, m224, m225, m226, hFA, hFT, hFS, hFO⟩ := id hR
  obtain ⟨hnb, hns, hnr, hpc, hst, hto, htl, hrm, hpa, hwt, hdf, hds⟩ := id hI
  refine lv_aload_n hx hb d_M_money_0 rfl (lv_at hl 0 rfl) ?_
  refine xr_get (ci := 5) (v := .long (σ.2.2.1 0 0)) (C := R_M) (T := T_M) (N := 26) hx hb htw in_M hown hK hw 200 m200 rfl rfl 18 (by decide) (htw _ u_352) (fun _ h9 => h9) rfl d_M_money_1 ?_
  exact W.lret (v := σ.2.2.1 0 0) hx hb hr (fun t ht _ => ⟨_, rfl, ⟨by simp [f_money, opt_n, opt_s], ht⟩, hS.F ht⟩) hS.2.2 d_M_money_4
set_option maxHeartbeats 4000000 in
set_option maxRecDepth 100000 in
theorem c_M_grams {l : Launch} {D : va_G} {K : Nat → ClassId} {B : Nat} {ad : Nat → Nat} {w : Nat → Option va_E} {H : Heap} {σ : xS} (hR : RepM K σ ad w) (hI : Inv σ) (hw : xw D vwCl B ad w H) (x1 : Int32) : xC l D K B y_M_grams b_M_grams 2 (some .long) rm_M_grams [.ref (ad 200), .int x1] H (fun v H1 => v = some (.long (f_grams σ x1)) ∧ H1 = H) := by
  refine Met.ofW (cc := b_M_grams) (maxL := 2) (ret := (some .long)) (by decide) rfl ?_
  intro p e s m args below meth c s₁ B0 hml hv
  obtain ⟨rfl, hsz, hK, hN⟩ := hv
  have hx := B0.exec
  have hb := B0.bytes
  have hr := B0.returns
  have htw : ∀ w ∈ xW0, w.before [.ref (ad 200), .int x1].toArray s = true := fun w h => atoms_spec (ws := Cond.code y_M_grams b_M_grams 2 (some .long) :: xW0) B0.pre w (List.mem_cons_of_mem _ h)
  have hown : s.vm.findClass R_M = some m.cls := findClass_of_methodNamed B0.named
  have hlocks := B0.notSynchronized
  subst hsz
  have hS : va_S (fun q => B ≤ q) s.heap s.heap [] := va_S.rf
  have hl := lv_entry ([.ref (ad 200), .int x1]) (n := 2) (Nat.le_of_ble_eq_true rfl)
  rw [lg_entry_eq]
  generalize (lg_sl ([.ref (ad 200), .int x1]) ++ List.replicate (2 - (lg_sl ([.ref (ad 200), .int x1])).length) Slot.unset).toArray = ls at hl ⊢
  have hl : lv_has ls 2 [(0, .ref (ad 200)), (1, .int x1)] := hl
  have hH : s.heap = s.heap := rfl
  obtain ⟨FA, FT, FS, FO, m200, m203, m204, m205, m206, m207, m208, m209, m210, m212, m213, m214, m215, m216, m217, m218, m220, m223, m224, m225, m226, hFA, hFT, hFS, hFO⟩ := id hR
  obtain ⟨hnb, hns, hnr, hpc, hst, hto, htl, hrm, hpa, hwt, hdf, hds⟩ := id hI
  refine lv_aload_n hx hb d_M_grams_0 rfl (lv_at hl 0 rfl) ?_
  refine lv_iload_n hx hb d_M_grams_1 rfl (lv_at hl 1 rfl) ?_
  refine xr_call (va_runV (As := [.int x1]) (rest := []) ⟨hx, hb, hml, hown, htw⟩ (c_M_isBatch (ad := ad) hR hI hw x1) (cwV 1 htw (gV u_430 u_432 us_8 u_3 u_433) rfl rfl rfl hd_M_isBatch ⟨Nat.le_of_ble_eq_true rfl, Nat.le_of_ble_eq_true rfl⟩) ⟨xP_blind, hw.recv hK (ci := 5) (t := 200) rfl m200 rfl, xP_of hK hN⟩ rfl rfl hl.1 rfl (lv_room (Nat.le_of_ble_eq_true rfl)) d_M_grams_2 ⟨by decide, by decide⟩) hS (fun v H_ locs hp hS => ?_)
  obtain ⟨hHe, hp⟩ := hp
  rw [hHe] at hS ⊢
  rcases hp with ⟨f2, rfl⟩ | ⟨i1, hi1, rfl, rfl⟩
  · refine W.eq (g2 := F0 m 5 ls [.int 0]) rfl ?_
    refine lv_if_eq (tgt := 17) hx hb d_M_grams_5 (by decide) (fun c_3 => ?_) (fun c_3 => absurd (by decide) c_3)
    refine lv_ldc2 (v := (-1)) hx hb hown (htw _ u_447) d_M_grams_17 ?_
    exact W.lret (v := (-1)) hx hb hr (fun t ht _ => ⟨_, rfl, ⟨by simp [f_grams, opt_n, opt_s, f2], ht⟩, hS.F ht⟩) hS.2.2 d_M_grams_20
  · have fi1 : xi (σ.1 0) (nI i1) = some i1 := xi_nI hi1 (by omega)
    refine W.eq (g2 := F0 m 5 ls [.int 1]) rfl ?_
    refine lv_if_eq (tgt := 17) hx hb d_M_grams_5 (by decide) (fun c_4 => absurd c_4 (by decide)) (fun c_4 => ?_)
    refine lv_aload_n hx hb d_M_grams_8 rfl (lv_at hl 0 rfl) ?_
    refine xr_get (ci := 5) (v := .ref (ad 203)) (C := R_M) (T := T_M) (N := 26) hx hb htw in_M hown hK hw 200 m200 rfl rfl 2 (by decide) (htw _ u_336) (fun _ h9 => h9) rfl d_M_grams_9 ?_
    refine lv_iload_n hx hb d_M_grams_12 rfl (lv_at hl 1 rfl) ?_
    refine xr_lald (i := nI i1) hx hb hK hw 203 1 m203 rfl rfl (xvin (a := i1) rfl (by omega) (by omega)) d_M_grams_13 ?_
    refine lv_topl (fun x_5 ex_5 => ?_)
    obtain rfl : x_5 = (σ.2.2.1 1) i1 := ex_5.trans ((congrArg (σ.2.2.1 1) (xcl (a := i1) rfl (by omega))).trans rfl)
    refine lv_goto (tgt := 20) hx hb d_M_grams_14 (by decide) ?_
    exact W.lret (v := (σ.2.2.1 1) i1) hx hb hr (fun t ht _ => ⟨_, rfl, ⟨by simp [f_grams, opt_n, opt_s, fi1], ht⟩, hS.F ht⟩) hS.2.2 d_M_grams_20
set_option maxHeartbeats 4000000 in
set_option maxRecDepth 100000 in
theorem c_M_left {l : Launch} {D : va_G} {K : Nat → ClassId} {B : Nat} {ad : Nat → Nat} {w : Nat → Option va_E} {H : Heap} {σ : xS} (hR : RepM K σ ad w) (hI : Inv σ) (hw : xw D vwCl B ad w H) (x1 x2 : Int32) : xC l D K B y_M_left b_M_left 3 (some .long) rm_M_left [.ref (ad 200), .int x1, .int x2] H (fun v H1 => v = some (.long (f_left σ x1 x2)) ∧ H1 = H) := by
  refine Met.ofW (cc := b_M_left) (maxL := 3) (ret := (some .long)) (by decide) rfl ?_
  intro p e s m args below meth c s₁ B0 hml hv
  obtain ⟨rfl, hsz, hK, hN⟩ := hv
  have hx := B0.exec
  have hb := B0.bytes
  have hr := B0.returns
  have htw : ∀ w ∈ xW0, w.before [.ref (ad 200), .int x1, .int x2].toArray s = true := fun w h => atoms_spec (ws := Cond.code y_M_left b_M_left 3 (some .long) :: xW0) B0.pre w (List.mem_cons_of_mem _ h)
  have hown : s.vm.findClass R_M = some m.cls := findClass_of_methodNamed B0.named
  have hlocks := B0.notSynchronized
  subst hsz
  have hS : va_S (fun q => B ≤ q) s.heap s.heap [] := va_S.rf
  have hl := lv_entry ([.ref (ad 200), .int x1, .int x2]) (n := 3) (Nat.le_of_ble_eq_true rfl)
  rw [lg_entry_eq]
  generalize (lg_sl ([.ref (ad 200), .int x1, .int x2]) ++ List.replicate (3 - (lg_sl ([.ref (ad 200), .int x1, .int x2])).length) Slot.unset).toArray = ls at hl ⊢
  have hl : lv_has ls 3 [(0, .ref (ad 200)), (1, .int x1), (2, .int x2)] := hl
  have hH : s.heap = s.heap := rfl
  obtain ⟨FA, FT, FS, FO, m200, m203, m204, m205, m206, m207, m208, m209, m210, m212, m213, m214, m215, m216, m217, m218, m220, m223, m224, m225, m226, hFA, hFT, hFS, hFO⟩ := id hR
  obtain ⟨hnb, hns, hnr, hpc, hst, hto, htl, hrm, hpa, hwt, hdf, hds⟩ := id hI
  refine lv_aload_n hx hb d_M_left_0 rfl (lv_at hl 0 rfl) ?_
  refine lv_iload_n hx hb d_M_left_1 rfl (lv_at hl 1 rfl) ?_
  refine xr_call (va_runV (As := [.int x1]) (rest := []) ⟨hx, hb, hml, hown, htw⟩ (c_M_isBatch (ad := ad) hR hI hw x1) (cwV 1 htw (gV u_430 u_432 us_8 u_3 u_433) rfl rfl rfl hd_M_isBatch ⟨Nat.le_of_ble_eq_true rfl, Nat.le_of_ble_eq_true rfl⟩) ⟨xP_blind, hw.recv hK (ci := 5) (t := 200) rfl m200 rfl, xP_of hK hN⟩ rfl rfl hl.1 rfl (lv_room (Nat.le_of_ble_eq_true rfl)) d_M_left_2 ⟨by decide, by decide⟩) hS (fun v H_ locs hp hS => ?_)
  obtain ⟨hHe, hp⟩ := hp
  rw [hHe] at hS ⊢
  rcases hp with ⟨f2, rfl⟩ | ⟨i1, hi1, rfl, rfl⟩
  · refine W.eq (g2 := F0 m 5 ls [.int 0]) rfl ?_
    refine lv_if_eq (tgt := 28) hx hb d_M_left_5 (by decide) (fun c_3 => ?_) (fun c_3 => absurd (by decide) c_3)
    refine lv_ldc2 (v := (-1)) hx hb hown (htw _ u_447) d_M_left_28 ?_
    exact W.lret (v := (-1)) hx hb hr (fun t ht _ => ⟨_, rfl, ⟨by simp [f_left, opt_n, opt_s, f2], ht⟩, hS.F ht⟩) hS.2.2 d_M_left_31
  · have fi1 : xi (σ.1 0) (nI i1) = some i1 := xi_nI hi1 (by omega)
    refine W.eq (g2 := F0 m 5 ls [.int 1]) rfl ?_
    refine lv_if_eq (tgt := 28) hx hb d_M_left_5 (by decide) (fun c_4 => absurd c_4 (by decide)) (fun c_4 => ?_)
    refine lv_iload_n hx hb d_M_left_8 rfl (lv_at hl 2 rfl) ?_
    refine xr_call (va_runS (As := [.int x2]) (rest := []) ⟨hx, hb, hml, hown, htw⟩ (c_M_isMetal x2) (va_cwS 1 htw (gS u_434 u_435 u_3 u_436) rfl rfl rfl hd_M_isMetal.2 ⟨Nat.le_of_ble_eq_true rfl, Nat.le_of_ble_eq_true rfl⟩) ⟨xP_blind, xP_of hK hN⟩ rfl rfl hl.1 rfl (lv_room (Nat.le_of_ble_eq_true rfl)) d_M_left_9 ⟨by decide, by decide⟩) hS (fun v H_ locs hp hS => ?_)
    obtain ⟨rfl, hHe⟩ := hp
    rw [hHe] at hS ⊢
    refine W.eq (g2 := F0 m 12 ls [.int (bI (xm x2))]) rfl ?_
    refine lv_if_eq (tgt := 28) hx hb d_M_left_12 (by decide) (fun c_5 => ?_) (fun c_5 => ?_)
    · have c_5 : (xm x2) = false := bI_f.mp c_5
      have f6 : xi 4 x2 = none := xm_xi c_5
      refine lv_ldc2 (v := (-1)) hx hb hown (htw _ u_447) d_M_left_28 ?_
      exact W.lret (v := (-1)) hx hb hr (fun t ht _ => ⟨_, rfl, ⟨by simp [f_left, opt_n, opt_s, fi1, f6, c_5], ht⟩, hS.F ht⟩) hS.2.2 d_M_left_31
    · have c_5 : (xm x2) = true := bI_t.mp c_5
      obtain ⟨k7, hk7, rfl⟩ := xm_of c_5
      have xk7 : xi 4 (nI k7) = some k7 := xi_nI hk7 (by decide)
      refine lv_aload_n hx hb d_M_left_15 rfl (lv_at hl 0 rfl) ?_
      refine xr_get (ci := 5) (v := .ref (ad 209)) (C := R_M) (T := T_M) (N := 26) hx hb htw in_M hown hK hw 200 m200 rfl rfl 8 (by decide) (htw _ u_342) (fun _ h9 => h9) rfl d_M_left_16 ?_
      refine lv_iconst (v := 4) hx hb d_M_left_19 (by decide) ?_
      refine lv_iload_n hx hb d_M_left_20 rfl (lv_at hl 1 rfl) ?_
      refine lv_imul hx hb d_M_left_21 ?_
      refine lv_iload_n hx hb d_M_left_22 rfl (lv_at hl 2 rfl) ?_
      refine lv_iadd hx hb d_M_left_23 ?_
      refine xr_lald (i := (4 * (nI i1)) + (nI k7)) hx hb hK hw 209 1 m209 rfl rfl (xvin (a := (4 * i1) + k7) (xadd (a := 4 * i1) (b := k7) (xmul (a := 4) (b := i1) rfl rfl) rfl) (by omega) (by omega)) d_M_left_24 ?_
      refine lv_topl (fun x_8 ex_8 => ?_)
      obtain rfl : x_8 = σ.2.2.1 (10 + i1) k7 := ex_8.trans ((congrArg FA (xcl (a := (4 * i1) + k7) (xadd (a := 4 * i1) (b := k7) (xmul (a := 4) (b := i1) rfl rfl) rfl) (by omega))).trans (hFA i1 k7 (by omega) (by omega)))
      refine lv_goto (tgt := 31) hx hb d_M_left_25 (by decide) ?_
      exact W.lret (v := σ.2.2.1 (10 + i1) k7) hx hb hr (fun t ht _ => ⟨_, rfl, ⟨by simp [f_left, opt_n, opt_s, fi1, xk7, c_5], ht⟩, hS.F ht⟩) hS.2.2 d_M_left_31
set_option maxHeartbeats 4000000 in
set_option maxRecDepth 100000 in
theorem c_M_stock {l : Launch} {D : va_G} {K : Nat → ClassId} {B : Nat} {ad : Nat → Nat} {w : Nat → Option va_E} {H : Heap} {σ : xS} (hR : RepM K σ ad w) (hI : Inv σ) (hw : xw D vwCl B ad w H) (x1 x2 : Int32) : xC l D K B y_M_stock b_M_stock 3 (some .long) rm_M_stock [.ref (ad 200), .int x1, .int x2] H (fun v H1 => v = some (.long (f_stock σ x1 x2)) ∧ H1 = H) := by
  refine Met.ofW (cc := b_M_stock) (maxL := 3) (ret := (some .long)) (by decide) rfl ?_
  intro p e s m args below meth c s₁ B0 hml hv
  obtain ⟨rfl, hsz, hK, hN⟩ := hv
  have hx := B0.exec
  have hb := B0.bytes
  have hr := B0.returns
  have htw : ∀ w ∈ xW0, w.before [.ref (ad 200), .int x1, .int x2].toArray s = true := fun w h => atoms_spec (ws := Cond.code y_M_stock b_M_stock 3 (some .long) :: xW0) B0.pre w (List.mem_cons_of_mem _ h)
  have hown : s.vm.findClass R_M = some m.cls := findClass_of_methodNamed B0.named
  have hlocks := B0.notSynchronized
  subst hsz
  have hS : va_S (fun q => B ≤ q) s.heap s.heap [] := va_S.rf
  have hl := lv_entry ([.ref (ad 200), .int x1, .int x2]) (n := 3) (Nat.le_of_ble_eq_true rfl)
  rw [lg_entry_eq]
  generalize (lg_sl ([.ref (ad 200), .int x1, .int x2]) ++ List.replicate (3 - (lg_sl ([.ref (ad 200), .int x1, .int x2])).length) Slot.unset).toArray = ls at hl ⊢
  have hl : lv_has ls 3 [(0, .ref (ad 200)), (1, .int x1), (2, .int x2)] := hl
  have hH : s.heap = s.heap := rfl
  obtain ⟨FA, FT, FS, FO, m200, m203, m204, m205, m206, m207, m208, m209, m210, m212, m213, m214, m215, m216, m217, m218, m220, m223, m224, m225, m226, hFA, hFT, hFS, hFO⟩ := id hR
  obtain ⟨hnb, hns, hnr, hpc, hst, hto, htl, hrm, hpa, hwt, hdf, hds⟩ := id hI
  refine lv_aload_n hx hb d_M_stock_0 rfl (lv_at hl 0 rfl) ?_
  refine lv_iload_n hx hb d_M_stock_1 rfl (lv_at hl 1 rfl) ?_
  refine xr_call (va_runV (As := [.int x1]) (rest := []) ⟨hx, hb, hml, hown, htw⟩ (c_M_isStage (ad := ad) hR hI hw x1) (cwV 1 htw (gV u_469 u_471 us_9 u_3 u_472) rfl rfl rfl hd_M_isStage ⟨Nat.le_of_ble_eq_true rfl, Nat.le_of_ble_eq_true rfl⟩) ⟨xP_blind, hw.recv hK (ci := 5) (t := 200) rfl m200 rfl, xP_of hK hN⟩ rfl rfl hl.1 rfl (lv_room (Nat.le_of_ble_eq_true rfl)) d_M_stock_2 ⟨by decide, by decide⟩) hS (fun v H_ locs hp hS => ?_)
  obtain ⟨hHe, hp⟩ := hp
  rw [hHe] at hS ⊢
  rcases hp with ⟨f2, rfl⟩ | ⟨i1, hi1, rfl, rfl⟩
  · refine W.eq (g2 := F0 m 5 ls [.int 0]) rfl ?_
    refine lv_if_eq (tgt := 28) hx hb d_M_stock_5 (by decide) (fun c_3 => ?_) (fun c_3 => absurd (by decide) c_3)
    refine lv_ldc2 (v := (-1)) hx hb hown (htw _ u_447) d_M_stock_28 ?_
    exact W.lret (v := (-1)) hx hb hr (fun t ht _ => ⟨_, rfl, ⟨by simp [f_stock, opt_n, opt_s, f2], ht⟩, hS.F ht⟩) hS.2.2 d_M_stock_31
  · have fi1 : xi (σ.1 1) (nI i1) = some i1 := xi_nI hi1 (by omega)
    refine W.eq (g2 := F0 m 5 ls [.int 1]) rfl ?_
    refine lv_if_eq (tgt := 28) hx hb d_M_stock_5 (by decide) (fun c_4 => absurd c_4 (by decide)) (fun c_4 => ?_)
    refine lv_iload_n hx hb d_M_stock_8 rfl (lv_at hl 2 rfl) ?_
    refine xr_call (va_runS (As := [.int x2]) (rest := []) ⟨hx, hb, hml, hown, htw⟩ (c_M_isMetal x2) (va_cwS 1 htw (gS u_434 u_435 u_3 u_436) rfl rfl rfl hd_M_isMetal.2 ⟨Nat.le_of_ble_eq_true rfl, Nat.le_of_ble_eq_true rfl⟩) ⟨xP_blind, xP_of hK hN⟩ rfl rfl hl.1 rfl (lv_room (Nat.le_of_ble_eq_true rfl)) d_M_stock_9 ⟨by decide, by decide⟩) hS (fun v H_ locs hp hS => ?_)
    obtain ⟨rfl, hHe⟩ := hp
    rw [hHe] at hS ⊢
    refine W.eq (g2 := F0 m 12 ls [.int (bI (xm x2))]) rfl ?_
    refine lv_if_eq (tgt := 28) hx hb d_M_stock_12 (by decide) (fun c_5 => ?_) (fun c_5 => ?_)
    · have c_5 : (xm x2) = false := bI_f.mp c_5
      have f6 : xi 4 x2 = none := xm_xi c_5
      refine lv_ldc2 (v := (-1)) hx hb hown (htw _ u_447) d_M_stock_28 ?_
      exact W.lret (v := (-1)) hx hb hr (fun t ht _ => ⟨_, rfl, ⟨by simp [f_stock, opt_n, opt_s, fi1, f6, c_5], ht⟩, hS.F ht⟩) hS.2.2 d_M_stock_31
    · have c_5 : (xm x2) = true := bI_t.mp c_5
      obtain ⟨k7, hk7, rfl⟩ := xm_of c_5
      have xk7 : xi 4 (nI k7) = some k7 := xi_nI hk7 (by decide)
      refine lv_aload_n hx hb d_M_stock_15 rfl (lv_at hl 0 rfl) ?_
      refine xr_get (ci := 5) (v := .ref (ad 215)) (C := R_M) (T := T_M) (N := 26) hx hb htw in_M hown hK hw 200 m200 rfl rfl 14 (by decide) (htw _ u_348) (fun _ h9 => h9) rfl d_M_stock_16 ?_
      refine lv_iconst (v := 4) hx hb d_M_stock_19 (by decide) ?_
      refine lv_iload_n hx hb d_M_stock_20 rfl (lv_at hl 1 rfl) ?_
      refine lv_imul hx hb d_M_stock_21 ?_
      refine lv_iload_n hx hb d_M_stock_22 rfl (lv_at hl 2 rfl) ?_
      refine lv_iadd hx hb d_M_stock_23 ?_
      refine xr_lald (i := (4 * (nI i1)) + (nI k7)) hx hb hK hw 215 1 m215 rfl rfl (xvin (a := (4 * i1) + k7) (xadd (a := 4 * i1) (b := k7) (xmul (a := 4) (b := i1) rfl rfl) rfl) (by omega) (by omega)) d_M_stock_24 ?_
      refine lv_topl (fun x_8 ex_8 => ?_)
      obtain rfl : x_8 = σ.2.2.1 (30 + i1) k7 := ex_8.trans ((congrArg FS (xcl (a := (4 * i1) + k7) (xadd (a := 4 * i1) (b := k7) (xmul (a := 4) (b := i1) rfl rfl) rfl) (by omega))).trans (hFS i1 k7 (by omega) (by omega)))
      refine lv_goto (tgt := 31) hx hb d_M_stock_25 (by decide) ?_
      exact W.lret (v := σ.2.2.1 (30 + i1) k7) hx hb hr (fun t ht _ => ⟨_, rfl, ⟨by simp [f_stock, opt_n, opt_s, fi1, xk7, c_5], ht⟩, hS.F ht⟩) hS.2.2 d_M_stock_31
set_option maxHeartbeats 4000000 in
set_option maxRecDepth 100000 in
theorem c_M_today {l : Launch} {D : va_G} {K : Nat → ClassId} {B : Nat} {ad : Nat → Nat} {w : Nat → Option va_E} {H : Heap} {σ : xS} (hR : RepM K σ ad w) (hI : Inv σ) (hw : xw D vwCl B ad w H) (x1 : Int32) : xC l D K B y_M_today b_M_today 2 (some .boolean) rm_M_today [.ref (ad 200), .int x1] H (fun v H1 => v = some (.int (f_today σ x1).2) ∧ PM D K B ad w (f_today σ x1).1 H1) := by
  refine Met.ofW (cc := b_M_today) (maxL := 2) (ret := (some .boolean)) (by decide) rfl ?_
  intro p e s m args below meth c s₁ B0 hml hv
  obtain ⟨rfl, hsz, hK, hN⟩ := hv
  have hx := B0.exec
  have hb := B0.bytes
  have hr := B0.returns
  have htw : ∀ w ∈ xW0, w.before [.ref (ad 200), .int x1].toArray s = true := fun w h => atoms_spec (ws := Cond.code y_M_today b_M_today 2 (some .boolean) :: xW0) B0.pre w (List.mem_cons_of_mem _ h)
  have hown : s.vm.findClass R_M = some m.cls := findClass_of_methodNamed B0.named
  have hlocks := B0.notSynchronized
  subst hsz
  have hS : va_S (fun q => B ≤ q) s.heap s.heap [] := va_S.rf
  have hl := lv_entry ([.ref (ad 200), .int x1]) (n := 2) (Nat.le_of_ble_eq_true rfl)
  rw [lg_entry_eq]
  generalize (lg_sl ([.ref (ad 200), .int x1]) ++ List.replicate (2 - (lg_sl ([.ref (ad 200), .int x1])).length) Slot.unset).toArray = ls at hl ⊢
  have hl : lv_has ls 2 [(0, .ref (ad 200)), (1, .int x1)] := hl
  have hH : s.heap = s.heap := rfl
  obtain ⟨FA, FT, FS, FO, m200, m203, m204, m205, m206, m207, m208, m209, m210, m212, m213, m214, m215, m216, m217, m218, m220, m223, m224, m225, m226, hFA, hFT, hFS, hFO⟩ := id hR
  obtain ⟨hnb, hns, hnr, hpc, hst, hto, htl, hrm, hpa, hwt, hdf, hds⟩ := id hI
  refine lv_iload_n hx hb d_M_today_0 rfl (lv_at hl 1 rfl) ?_
  refine lv_i2l hx hb d_M_today_1 rfl ?_
  refine lv_aload_n hx hb d_M_today_2 rfl (lv_at hl 0 rfl) ?_
  refine xr_get (ci := 5) (v := .int (σ.2.1 0 0)) (C := R_M) (T := T_M) (N := 26) hx hb htw in_M hown hK hw 200 m200 rfl rfl 0 (by decide) (htw _ u_334) (fun _ h9 => h9) rfl d_M_today_3 ?_
  refine lv_i2l hx hb d_M_today_6 rfl ?_
  refine lv_ldc2 (v := 100000) hx hb hown (htw _ u_442) d_M_today_7 ?_
  refine xr_call (va_runS (As := [.long x1.toInt64, .long ((σ.2.1 0 0).toInt64), .long 100000]) (rest := []) ⟨hx, hb, hml, hown, htw⟩ (c_M_isIn x1.toInt64 ((σ.2.1 0 0).toInt64) 100000) (va_cwS 3 htw (gS u_419 u_420 u_3 u_421) rfl rfl rfl hd_M_isIn.2 ⟨Nat.le_of_ble_eq_true rfl, Nat.le_of_ble_eq_true rfl⟩) ⟨xP_blind, xP_of hK hN⟩ rfl rfl hl.1 rfl (lv_room (Nat.le_of_ble_eq_true rfl)) d_M_today_10 ⟨by decide, by decide⟩) hS (fun v H_ locs hp hS => ?_)
  obtain ⟨rfl, hHe⟩ := hp
  rw [hHe] at hS ⊢
  refine W.eq (g2 := F0 m 13 ls [.int (bI (xin x1.toInt64 ((σ.2.1 0 0).toInt64) 100000))]) rfl ?_
  refine lv_if_ne (tgt := 18) hx hb d_M_today_13 (by decide) (fun c_1 => ?_) (fun c_1 => ?_)
  · have c_1 : (xin x1.toInt64 ((σ.2.1 0 0).toInt64) 100000) = true := bI_t.mp c_1
    refine lv_aload_n hx hb d_M_today_18 rfl (lv_at hl 0 rfl) ?_
    refine lv_iload_n hx hb d_M_today_19 rfl (lv_at hl 1 rfl) ?_
    refine xr_put (ci := 5) (v := .int x1) (ty := .int) (C := R_M) (T := T_M) (N := 26) hx hb htw in_M ty_M tk_M nm_M hown hK hw hS 200 m200 rfl rfl 0 (by decide) (htw _ u_334) (fun _ h9 => h9) rfl (by decide +kernel) rfl rfl (Nat.le_of_ble_eq_true rfl) d_M_today_20 (fun H locs hw hS => ?_)
    have hw : xw D vwCl B ad (xu w 200 (.inr (5, [.int x1, .int (nI (σ.1 0)), .ref (ad 203), .ref (ad 204), .ref (ad 205), .ref (ad 206), .ref (ad 207), .ref (ad 208), .ref (ad 209), .ref (ad 210), .int (nI (σ.1 1)), .ref (ad 212), .ref (ad 213), .ref (ad 214), .ref (ad 215), .ref (ad 216), .ref (ad 217), .ref (ad 218), .long (σ.2.2.1 0 0), .ref (ad 220), .int (σ.2.1 0 1), .int (nI (σ.1 2)), .ref (ad 223), .ref (ad 224), .ref (ad 225), .ref (ad 226)]))) H := hw
    refine lv_iconst (v := 1) hx hb d_M_today_23 (by decide) ?_
    have hRep : RepM K (pI σ 0 (upd (σ.2.1 0) 0 x1)) ad (xu w 200 (.inr (5, [.int x1, .int (nI (σ.1 0)), .ref (ad 203), .ref (ad 204), .ref (ad 205), .ref (ad 206), .ref (ad 207), .ref (ad 208), .ref (ad 209), .ref (ad 210), .int (nI (σ.1 1)), .ref (ad 212), .ref (ad 213), .ref (ad 214), .ref (ad 215), .ref (ad 216), .ref (ad 217), .ref (ad 218), .long (σ.2.2.1 0 0), .ref (ad 220), .int (σ.2.1 0 1), .int (nI (σ.1 2)), .ref (ad 223), .ref (ad 224), .ref (ad 225), .ref (ad 226)]))) := by
      refine ⟨FA, FT, FS, FO, ?_, ?_, ?_, ?_, ?_, ?_, ?_, ?_, ?_, ?_, ?_, ?_, ?_, ?_, ?_, ?_, ?_, ?_, ?_, ?_, ?_, ?_, ?_, ?_, ?_⟩
      · simp (disch := omega) only [pN, pI, pL, pZ, row_eq, row_ne, xu_eq, xu_ne, xa_eq, xa_ne, pk_us, pk_un, pk_uLs, pk_uLn, m200]
      · simp (disch := omega) only [pN, pI, pL, pZ, row_eq, row_ne, xu_eq, xu_ne, xa_eq, xa_ne, pk_us, pk_un, pk_uLs, pk_uLn, m203]
      · simp (disch := omega) only [pN, pI, pL, pZ, row_eq, row_ne, xu_eq, xu_ne, xa_eq, xa_ne, pk_us, pk_un, pk_uLs, pk_uLn, m204]
      · simp (disch := omega) only [pN, pI, pL, pZ, row_eq, row_ne, xu_eq, xu_ne, xa_eq, xa_ne, pk_us, pk_un, pk_uLs, pk_uLn, m205]
      · simp (disch := omega) only [pN, pI, pL, pZ, row_eq, row_ne, xu_eq, xu_ne, xa_eq, xa_ne, pk_us, pk_un, pk_uLs, pk_uLn, m206]
      · simp (disch := omega) only [pN, pI, pL, pZ, row_eq, row_ne, xu_eq, xu_ne, xa_eq, xa_ne, pk_us, pk_un, pk_uLs, pk_uLn, m207]
      · simp (disch := omega) only [pN, pI, pL, pZ, row_eq, row_ne, xu_eq, xu_ne, xa_eq, xa_ne, pk_us, pk_un, pk_uLs, pk_uLn, m208]
      · simp (disch := omega) only [pN, pI, pL, pZ, row_eq, row_ne, xu_eq, xu_ne, xa_eq, xa_ne, pk_us, pk_un, pk_uLs, pk_uLn, m209]
      · simp (disch := omega) only [pN, pI, pL, pZ, row_eq, row_ne, xu_eq, xu_ne, xa_eq, xa_ne, pk_us, pk_un, pk_uLs, pk_uLn, m210]
      · simp (disch := omega) only [pN, pI, pL, pZ, row_eq, row_ne, xu_eq, xu_ne, xa_eq, xa_ne, pk_us, pk_un, pk_uLs, pk_uLn, m212]
      · simp (disch := omega) only [pN, pI, pL, pZ, row_eq, row_ne, xu_eq, xu_ne, xa_eq, xa_ne, pk_us, pk_un, pk_uLs, pk_uLn, m213]
      · simp (disch := omega) only [pN, pI, pL, pZ, row_eq, row_ne, xu_eq, xu_ne, xa_eq, xa_ne, pk_us, pk_un, pk_uLs, pk_uLn, m214]
      · simp (disch := omega) only [pN, pI, pL, pZ, row_eq, row_ne, xu_eq, xu_ne, xa_eq, xa_ne, pk_us, pk_un, pk_uLs, pk_uLn, m215]
      · simp (disch := omega) only [pN, pI, pL, pZ, row_eq, row_ne, xu_eq, xu_ne, xa_eq, xa_ne, pk_us, pk_un, pk_uLs, pk_uLn, m216]
      · simp (disch := omega) only [pN, pI, pL, pZ, row_eq, row_ne, xu_eq, xu_ne, xa_eq, xa_ne, pk_us, pk_un, pk_uLs, pk_uLn, m217]
      · simp (disch := omega) only [pN, pI, pL, pZ, row_eq, row_ne, xu_eq, xu_ne, xa_eq, xa_ne, pk_us, pk_un, pk_uLs, pk_uLn, m218]
      · simp (disch := omega) only [pN, pI, pL, pZ, row_eq, row_ne, xu_eq, xu_ne, xa_eq, xa_ne, pk_us, pk_un, pk_uLs, pk_uLn, m220]
      · simp (disch := omega) only [pN, pI, pL, pZ, row_eq, row_ne, xu_eq, xu_ne, xa_eq, xa_ne, pk_us, pk_un, pk_uLs, pk_uLn, m223]
      · simp (disch := omega) only [pN, pI, pL, pZ, row_eq, row_ne, xu_eq, xu_ne, xa_eq, xa_ne, pk_us, pk_un, pk_uLs, pk_uLn, m224]
      · simp (disch := omega) only [pN, pI, pL, pZ, row_eq, row_ne, xu_eq, xu_ne, xa_eq, xa_ne, pk_us, pk_un, pk_uLs, pk_uLn, m225]
      · simp (disch := omega) only [pN, pI, pL, pZ, row_eq, row_ne, xu_eq, xu_ne, xa_eq, xa_ne, pk_us, pk_un, pk_uLs, pk_uLn, m226]
      · intro b q hb hq; simp (disch := omega) only [pN, pI, pL, pZ, row_eq, row_ne, xu_eq, xu_ne, xa_eq, xa_ne, pk_us, pk_un, pk_uLs, pk_uLn]; exact hFA b q hb hq
      · intro b q hb hq; simp (disch := omega) only [pN, pI, pL, pZ, row_eq, row_ne, xu_eq, xu_ne, xa_eq, xa_ne, pk_us, pk_un, pk_uLs, pk_uLn]; exact hFT b q hb hq
      · intro b q hb hq; simp (disch := omega) only [pN, pI, pL, pZ, row_eq, row_ne, xu_eq, xu_ne, xa_eq, xa_ne, pk_us, pk_un, pk_uLs, pk_uLn]; exact hFS b q hb hq
      · intro b q hb hq; simp (disch := omega) only [pN, pI, pL, pZ, row_eq, row_ne, xu_eq, xu_ne, xa_eq, xa_ne, pk_us, pk_un, pk_uLs, pk_uLn]; exact hFO b q hb hq
    have hf : f_today σ x1 = (pI σ 0 (upd (σ.2.1 0) 0 x1), 1) := by simp [f_today, opt_n, opt_s, c_1]
    exact W.zret (v := 1) hx hb hr (by decide) (fun t ht _ => ⟨_, rfl, by rw [hf, ht]; exact ⟨rfl, _, hw, hRep, fun t h2 => by simp (disch := omega) only [xu_ne]⟩, hS.F ht⟩) hS.2.2 d_M_today_24
  · have c_1 : (xin x1.toInt64 ((σ.2.1 0 0).toInt64) 100000) = false := bI_f.mp c_1
    refine lv_iconst (v := 0) hx hb d_M_today_16 (by decide) ?_
    have hf : f_today σ x1 = (σ, 0) := by simp [f_today, opt_n, opt_s, c_1, opt_c]
    exact W.zret (v := 0) hx hb hr (by decide) (fun t ht _ => ⟨_, rfl, by rw [hf, ht]; exact ⟨rfl, PM_same hw hR⟩, hS.F ht⟩) hS.2.2 d_M_today_17
set_option maxHeartbeats 4000000 in
set_option maxRecDepth 100000 in
theorem c_M_tolerance {l : Launch} {D : va_G} {K : Nat → ClassId} {B : Nat} {ad : Nat → Nat} {w : Nat → Option va_E} {H : Heap} {σ : xS} (hR : RepM K σ ad w) (hI : Inv σ) (hw : xw D vwCl B ad w H) (x1 : Int32) : xC l D K B y_M_tolerance b_M_tolerance 2 (some .boolean) rm_M_tolerance [.ref (ad 200), .int x1] H (fun v H1 => v = some (.int (f_tolerance σ x1).2) ∧ PM D K B ad w (f_tolerance σ x1).1 H1) := by
  refine Met.ofW (cc := b_M_tolerance) (maxL := 2) (ret := (some .boolean)) (by decide) rfl ?_
  intro p e s m args below meth c s₁ B0 hml hv
  obtain ⟨rfl, hsz, hK, hN⟩ := hv
  have hx := B0.exec
  have hb := B0.bytes
  have hr := B0.returns
  have htw : ∀ w ∈ xW0, w.before [.ref (ad 200), .int x1].toArray s = true := fun w h => atoms_spec (ws := Cond.code y_M_tolerance b_M_tolerance 2 (some .boolean) :: xW0) B0.pre w (List.mem_cons_of_mem _ h)
  have hown : s.vm.findClass R_M = some m.cls := findClass_of_methodNamed B0.named
  have hlocks := B0.notSynchronized
  subst hsz
  have hS : va_S (fun q => B ≤ q) s.heap s.heap [] := va_S.rf
  have hl := lv_entry ([.ref (ad 200), .int x1]) (n := 2) (Nat.le_of_ble_eq_true rfl)
  rw [lg_entry_eq]
  generalize (lg_sl ([.ref (ad 200), .int x1]) ++ List.replicate (2 - (lg_sl ([.ref (ad 200), .int x1])).length) Slot.unset).toArray = ls at hl ⊢
  have hl : lv_has ls 2 [(0, .ref (ad 200)), (1, .int x1)] := hl
  have hH : s.heap = s.heap := rfl
  obtain ⟨FA, FT, FS, FO, m200, m203, m204, m205, m206, m207, m208, m209, m210, m212, m213, m214, m215, m216, m217, m218, m220, m223, m224, m225, m226, hFA, hFT, hFS, hFO⟩ := id hR
  obtain ⟨hnb, hns, hnr, hpc, hst, hto, htl, hrm, hpa, hwt, hdf, hds⟩ := id hI
  refine lv_iload_n hx hb d_M_tolerance_0 rfl (lv_at hl 1 rfl) ?_
  refine lv_i2l hx hb d_M_tolerance_1 rfl ?_
  refine lv_lconst (v := 0) hx hb d_M_tolerance_2 (by decide) ?_
  refine lv_ldc2 (v := 1000000) hx hb hown (htw _ u_437) d_M_tolerance_3 ?_
  refine xr_call (va_runS (As := [.long x1.toInt64, .long 0, .long 1000000]) (rest := []) ⟨hx, hb, hml, hown, htw⟩ (c_M_isIn x1.toInt64 0 1000000) (va_cwS 3 htw (gS u_419 u_420 u_3 u_421) rfl rfl rfl hd_M_isIn.2 ⟨Nat.le_of_ble_eq_true rfl, Nat.le_of_ble_eq_true rfl⟩) ⟨xP_blind, xP_of hK hN⟩ rfl rfl hl.1 rfl (lv_room (Nat.le_of_ble_eq_true rfl)) d_M_tolerance_6 ⟨by decide, by decide⟩) hS (fun v H_ locs hp hS => ?_)
  obtain ⟨rfl, hHe⟩ := hp
  rw [hHe] at hS ⊢
  refine W.eq (g2 := F0 m 9 ls [.int (bI (xin x1.toInt64 0 1000000))]) rfl ?_
  refine lv_if_ne (tgt := 14) hx hb d_M_tolerance_9 (by decide) (fun c_1 => ?_) (fun c_1 => ?_)
  · have c_1 : (xin x1.toInt64 0 1000000) = true := bI_t.mp c_1
    refine lv_aload_n hx hb d_M_tolerance_14 rfl (lv_at hl 0 rfl) ?_
    refine lv_iload_n hx hb d_M_tolerance_15 rfl (lv_at hl 1 rfl) ?_
    refine xr_put (ci := 5) (v := .int x1) (ty := .int) (C := R_M) (T := T_M) (N := 26) hx hb htw in_M ty_M tk_M nm_M hown hK hw hS 200 m200 rfl rfl 20 (by decide) (htw _ u_354) (fun _ h9 => h9) rfl (by decide +kernel) rfl rfl (Nat.le_of_ble_eq_true rfl) d_M_tolerance_16 (fun H locs hw hS => ?_)
    have hw : xw D vwCl B ad (xu w 200 (.inr (5, [.int (σ.2.1 0 0), .int (nI (σ.1 0)), .ref (ad 203), .ref (ad 204), .ref (ad 205), .ref (ad 206), .ref (ad 207), .ref (ad 208), .ref (ad 209), .ref (ad 210), .int (nI (σ.1 1)), .ref (ad 212), .ref (ad 213), .ref (ad 214), .ref (ad 215), .ref (ad 216), .ref (ad 217), .ref (ad 218), .long (σ.2.2.1 0 0), .ref (ad 220), .int x1, .int (nI (σ.1 2)), .ref (ad 223), .ref (ad 224), .ref (ad 225), .ref (ad 226)]))) H := hw
    refine lv_iconst (v := 1) hx hb d_M_tolerance_19 (by decide) ?_
    have hRep : RepM K (pI σ 0 (upd (σ.2.1 0) 1 x1)) ad (xu w 200 (.inr (5, [.int (σ.2.1 0 0), .int (nI (σ.1 0)), .ref (ad 203), .ref (ad 204), .ref (ad 205), .ref (ad 206), .ref (ad 207), .ref (ad 208), .ref (ad 209), .ref (ad 210), .int (nI (σ.1 1)), .ref (ad 212), .ref (ad 213), .ref (ad 214), .ref (ad 215), .ref (ad 216), .ref (ad 217), .ref (ad 218), .long (σ.2.2.1 0 0), .ref (ad 220), .int x1, .int (nI (σ.1 2)), .ref (ad 223), .ref (ad 224), .ref (ad 225), .ref (ad 226)]))) := by
      refine ⟨FA, FT, FS, FO, ?_, ?_, ?_, ?_, ?_, ?_, ?_, ?_, ?_, ?_, ?_, ?_, ?_, ?_, ?_, ?_, ?_, ?_, ?_, ?_, ?_, ?_, ?_, ?_, ?_⟩
      · simp (disch := omega) only [pN, pI, pL, pZ, row_eq, row_ne, xu_eq, xu_ne, xa_eq, xa_ne, pk_us, pk_un, pk_uLs, pk_uLn, m200]
      · simp (disch := omega) only [pN, pI, pL, pZ, row_eq, row_ne, xu_eq, xu_ne, xa_eq, xa_ne, pk_us, pk_un, pk_uLs, pk_uLn, m203]
      · simp (disch := omega) only [pN, pI, pL, pZ, row_eq, row_ne, xu_eq, xu_ne, xa_eq, xa_ne, pk_us, pk_un, pk_uLs, pk_uLn, m204]
      · simp (disch := omega) only [pN, pI, pL, pZ, row_eq, row_ne, xu_eq, xu_ne, xa_eq, xa_ne, pk_us, pk_un, pk_uLs, pk_uLn, m205]
      · simp (disch := omega) only [pN, pI, pL, pZ, row_eq, row_ne, xu_eq, xu_ne, xa_eq, xa_ne, pk_us, pk_un, pk_uLs, pk_uLn, m206]
      · simp (disch := omega) only [pN, pI, pL, pZ, row_eq, row_ne, xu_eq, xu_ne, xa_eq, xa_ne, pk_us, pk_un, pk_uLs, pk_uLn, m207]
      · simp (disch := omega) only [pN, pI, pL, pZ, row_eq, row_ne, xu_eq, xu_ne, xa_eq, xa_ne, pk_us, pk_un, pk_uLs, pk_uLn, m208]
      · simp (disch := omega) only [pN, pI, pL, pZ, row_eq, row_ne, xu_eq, xu_ne, xa_eq, xa_ne, pk_us, pk_un, pk_uLs, pk_uLn, m209]
      · simp (disch := omega) only [pN, pI, pL, pZ, row_eq, row_ne, xu_eq, xu_ne, xa_eq, xa_ne, pk_us, pk_un, pk_uLs, pk_uLn, m210]
      · simp (disch := omega) only [pN, pI, pL, pZ, row_eq, row_ne, xu_eq, xu_ne, xa_eq, xa_ne, pk_us, pk_un, pk_uLs, pk_uLn, m212]
      · simp (disch := omega) only [pN, pI, pL, pZ, row_eq, row_ne, xu_eq, xu_ne, xa_eq, xa_ne, pk_us, pk_un, pk_uLs, pk_uLn, m213]
      · simp (disch := omega) only [pN, pI, pL, pZ, row_eq, row_ne, xu_eq, xu_ne, xa_eq, xa_ne, pk_us, pk_un, pk_uLs, pk_uLn, m214]
      · simp (disch := omega) only [pN, pI, pL, pZ, row_eq, row_ne, xu_eq, xu_ne, xa_eq, xa_ne, pk_us, pk_un, pk_uLs, pk_uLn, m215]
      · simp (disch := omega) only [pN, pI, pL, pZ, row_eq, row_ne, xu_eq, xu_ne, xa_eq, xa_ne, pk_us, pk_un, pk_uLs, pk_uLn, m216]
      · simp (disch := omega) only [pN, pI, pL, pZ, row_eq, row_ne, xu_eq, xu_ne, xa_eq, xa_ne, pk_us, pk_un, pk_uLs, pk_uLn, m217]
      · simp (disch := omega) only [pN, pI, pL, pZ, row_eq, row_ne, xu_eq, xu_ne, xa_eq, xa_ne, pk_us, pk_un, pk_uLs, pk_uLn, m218]
      · simp (disch := omega) only [pN, pI, pL, pZ, row_eq, row_ne, xu_eq, xu_ne, xa_eq, xa_ne, pk_us, pk_un, pk_uLs, pk_uLn, m220]
      · simp (disch := omega) only [pN, pI, pL, pZ, row_eq, row_ne, xu_eq, xu_ne, xa_eq, xa_ne, pk_us, pk_un, pk_uLs, pk_uLn, m223]
      · simp (disch := omega) only [pN, pI, pL, pZ, row_eq, row_ne, xu_eq, xu_ne, xa_eq, xa_ne, pk_us, pk_un, pk_uLs, pk_uLn, m224]
      · simp (disch := omega) only [pN, pI, pL, pZ, row_eq, row_ne, xu_eq, xu_ne, xa_eq, xa_ne, pk_us, pk_un, pk_uLs, pk_uLn, m225]
      · simp (disch := omega) only [pN, pI, pL, pZ, row_eq, row_ne, xu_eq, xu_ne, xa_eq, xa_ne, pk_us, pk_un, pk_uLs, pk_uLn, m226]
      · intro b q hb hq; simp (disch := omega) only [pN, pI, pL, pZ, row_eq, row_ne, xu_eq, xu_ne, xa_eq, xa_ne, pk_us, pk_un, pk_uLs, pk_uLn]; exact hFA b q hb hq
      · intro b q hb hq; simp (disch := omega) only [pN, pI, pL, pZ, row_eq, row_ne, xu_eq, xu_ne, xa_eq, xa_ne, pk_us, pk_un, pk_uLs, pk_uLn]; exact hFT b q hb hq
      · intro b q hb hq; simp (disch := omega) only [pN, pI, pL, pZ, row_eq, row_ne, xu_eq, xu_ne, xa_eq, xa_ne, pk_us, pk_un, pk_uLs, pk_uLn]; exact hFS b q hb hq
      · intro b q hb hq; simp (disch := omega) only [pN, pI, pL, pZ, row_eq, row_ne, xu_eq, xu_ne, xa_eq, xa_ne, pk_us, pk_un, pk_uLs, pk_uLn]; exact hFO b q hb hq
    have hf : f_tolerance σ x1 = (pI σ 0 (upd (σ.2.1 0) 1 x1), 1) := by simp [f_tolerance, opt_n, opt_s, c_1]
    exact W.zret (v := 1) hx hb hr (by decide) (fun t ht _ => ⟨_, rfl, by rw [hf, ht]; exact ⟨rfl, _, hw, hRep, fun t h2 => by simp (disch := omega) only [xu_ne]⟩, hS.F ht⟩) hS.2.2 d_M_tolerance_20
  · have c_1 : (xin x1.toInt64 0 1000000) = false := bI_f.mp c_1
    refine lv_iconst (v := 0) hx hb d_M_tolerance_12 (by decide) ?_
    have hf : f_tolerance σ x1 = (σ, 0) := by simp [f_tolerance, opt_n, opt_s, c_1, opt_c]
    exact W.zret (v := 0) hx hb hr (by decide) (fun t ht _ => ⟨_, rfl, by rw [hf, ht]; exact ⟨rfl, PM_same hw hR⟩, hS.F ht⟩) hS.2.2 d_M_tolerance_13
set_option maxHeartbeats 4000000 in
set_option maxRecDepth 100000 in
theorem c_M_parts {l : Launch} {D : va_G} {K : Nat → ClassId} {B : Nat} {ad : Nat → Nat} {w : Nat → Option va_E} {H : Heap} {σ : xS} (hR : RepM K σ ad w) (hI : Inv σ) (hw : xw D vwCl B ad w H) (x1 x2 x3 : Int32) : xC l D K B y_M_parts b_M_parts 4 (some .boolean) rm_M_parts [.ref (ad 200), .int x1, .int x2, .int x3] H (fun v H1 => v = some (.int (f_parts σ x1 x2 x3).2) ∧ PM D K B ad w (f_parts σ x1 x2 x3).1 H1) := by
  refine Met.ofW (cc := b_M_parts) (maxL := 4) (ret := (some .boolean)) (by decide) rfl ?_
  intro p e s m args below meth c s₁ B0 hml hv
  obtain ⟨rfl, hsz, hK, hN⟩ := hv
  have hx := B0.exec
  have hb := B0.bytes
  have hr := B0.returns
  have htw : ∀ w ∈ xW0, w.before [.ref (ad 200), .int x1, .int x2, .int x3].toArray s = true := fun w h => atoms_spec (ws := Cond.code y_M_parts b_M_parts 4 (some .boolean) :: xW0) B0.pre w (List.mem_cons_of_mem _ h)
  have hown : s.vm.findClass R_M = some m.cls := findClass_of_methodNamed B0.named
  have hlocks := B0.notSynchronized
  subst hsz
  have hS : va_S (fun q => B ≤ q) s.heap s.heap [] := va_S.rf
  have hl := lv_entry ([.ref (ad 200), .int x1, .int x2, .int x3]) (n := 4) (Nat.le_of_ble_eq_true rfl)
  rw [lg_entry_eq]
  generalize (lg_sl ([.ref (ad 200), .int x1, .int x2, .int x3]) ++ List.replicate (4 - (lg_sl ([.ref (ad 200), .int x1, .int x2, .int x3])).length) Slot.unset).toArray = ls at hl ⊢
  have hl : lv_has ls 4 [(0, .ref (ad 200)), (1, .int x1), (2, .int x2), (3, .int x3)] := hl
  have hH : s.heap = s.heap := rfl
  obtain ⟨FA, FT, FS, FO, m200, m203, m204, m205, m206, m207, m208, m209, m210, m212, m213, m214, m215, m216, m217, m218, m220, m223, m224, m225, m226, hFA, hFT, hFS, hFO⟩ := id hR
  obtain ⟨hnb, hns, hnr, hpc, hst, hto, htl, hrm, hpa, hwt, hdf, hds⟩ := id hI
  refine lv_aload_n hx hb d_M_parts_0 rfl (lv_at hl 0 rfl) ?_
  refine lv_iload_n hx hb d_M_parts_1 rfl (lv_at hl 1 rfl) ?_
  refine xr_call (va_runV (As := [.int x1]) (rest := []) ⟨hx, hb, hml, hown, htw⟩ (c_M_isBatch (ad := ad) hR hI hw x1) (cwV 1 htw (gV u_430 u_432 us_8 u_3 u_433) rfl rfl rfl hd_M_isBatch ⟨Nat.le_of_ble_eq_true rfl, Nat.le_of_ble_eq_true rfl⟩) ⟨xP_blind, hw.recv hK (ci := 5) (t := 200) rfl m200 rfl, xP_of hK hN⟩ rfl rfl hl.1 rfl (lv_room (Nat.le_of_ble_eq_true rfl)) d_M_parts_2 ⟨by decide, by decide⟩) hS (fun v H_ locs hp hS => ?_)
  obtain ⟨hHe, hp⟩ := hp
  rw [hHe] at hS ⊢
  rcases hp with ⟨f2, rfl⟩ | ⟨i1, hi1, rfl, rfl⟩
  · refine W.eq (g2 := F0 m 5 ls [.int 0]) rfl ?_
    refine lv_if_eq (tgt := 54) hx hb d_M_parts_5 (by decide) (fun c_3 => ?_) (fun c_3 => absurd (by decide) c_3)
    refine lv_iconst (v := 0) hx hb d_M_parts_54 (by decide) ?_
    have hf : f_parts σ x1 x2 x3 = (σ, 0) := by simp [f_parts, opt_n, opt_s, f2, opt_c]
    exact W.zret (v := 0) hx hb hr (by decide) (fun t ht _ => ⟨_, rfl, by rw [hf, ht]; exact ⟨rfl, PM_same hw hR⟩, hS.F ht⟩) hS.2.2 d_M_parts_55
  · have fi1 : xi (σ.1 0) (nI i1) = some i1 := xi_nI hi1 (by omega)
    refine W.eq (g2 := F0 m 5 ls [.int 1]) rfl ?_
    refine lv_if_eq (tgt := 54) hx hb d_M_parts_5 (by decide) (fun c_4 => absurd c_4 (by decide)) (fun c_4 => ?_)
    refine lv_iload_n hx hb d_M_parts_8 rfl (lv_at hl 2 rfl) ?_
    refine xr_call (va_runS (As := [.int x2]) (rest := []) ⟨hx, hb, hml, hown, htw⟩ (c_M_isMetal x2) (va_cwS 1 htw (gS u_434 u_435 u_3 u_436) rfl rfl rfl hd_M_isMetal.2 ⟨Nat.le_of_ble_eq_true rfl, Nat.le_of_ble_eq_true rfl⟩) ⟨xP_blind, xP_of hK hN⟩ rfl rfl hl.1 rfl (lv_room (Nat.le_of_ble_eq_true rfl)) d_M_parts_9 ⟨by decide, by decide⟩) hS (fun v H_ locs hp hS => ?_)
    obtain ⟨rfl, hHe⟩ := hp
    rw [hHe] at hS ⊢
    refine W.eq (g2 := F0 m 12 ls [.int (bI (xm x2))]) rfl ?_
    refine lv_if_eq (tgt := 54) hx hb d_M_parts_12 (by decide) (fun c_5 => ?_) (fun c_5 => ?_)
    · have c_5 : (xm x2) = false := bI_f.mp c_5
      have f6 : xi 4 x2 = none := xm_xi c_5
      refine lv_iconst (v := 0) hx hb d_M_parts_54 (by decide) ?_
      have hf : f_parts σ (nI i1) x2 x3 = (σ, 0) := by simp [f_parts, opt_n, opt_s, fi1, f6, c_5, opt_c]
      exact W.zret (v := 0) hx hb hr (by decide) (fun t ht _ => ⟨_, rfl, by rw [hf, ht]; exact ⟨rfl, PM_same hw hR⟩, hS.F ht⟩) hS.2.2 d_M_parts_55
    · have c_5 : (xm x2) = true := bI_t.mp c_5
      obtain ⟨k7, hk7, rfl⟩ := xm_of c_5
      have xk7 : xi 4 (nI k7) = some k7 := xi_nI hk7 (by decide)
      refine lv_iload_n hx hb d_M_parts_15 rfl (lv_at hl 3 rfl) ?_
      refine lv_i2l hx hb d_M_parts_16 rfl ?_
      refine lv_lconst (v := 0) hx hb d_M_parts_17 (by decide) ?_
      refine lv_ldc2 (v := 1000000) hx hb hown (htw _ u_437) d_M_parts_18 ?_
      refine xr_call (va_runS (As := [.long x3.toInt64, .long 0, .long 1000000]) (rest := []) ⟨hx, hb, hml, hown, htw⟩ (c_M_isIn x3.toInt64 0 1000000) (va_cwS 3 htw (gS u_419 u_420 u_3 u_421) rfl rfl rfl hd_M_isIn.2 ⟨Nat.le_of_ble_eq_true rfl, Nat.le_of_ble_eq_true rfl⟩) ⟨xP_blind, xP_of hK hN⟩ rfl rfl hl.1 rfl (lv_room (Nat.le_of_ble_eq_true rfl)) d_M_parts_21 ⟨by decide, by decide⟩) hS (fun v H_ locs hp hS => ?_)
      obtain ⟨rfl, hHe⟩ := hp
      rw [hHe] at hS ⊢
      refine W.eq (g2 := F0 m 24 ls [.int (bI (xin x3.toInt64 0 1000000))]) rfl ?_
      refine lv_if_eq (tgt := 54) hx hb d_M_parts_24 (by decide) (fun c_8 => ?_) (fun c_8 => ?_)
      · have c_8 : (xin x3.toInt64 0 1000000) = false := bI_f.mp c_8
        refine lv_iconst (v := 0) hx hb d_M_parts_54 (by decide) ?_
        have hf : f_parts σ (nI i1) (nI k7) x3 = (σ, 0) := by simp [f_parts, opt_n, opt_s, fi1, xk7, c_5, c_8, opt_c]
        exact W.zret (v := 0) hx hb hr (by decide) (fun t ht _ => ⟨_, rfl, by rw [hf, ht]; exact ⟨rfl, PM_same hw hR⟩, hS.F ht⟩) hS.2.2 d_M_parts_55
      · have c_8 : (xin x3.toInt64 0 1000000) = true := bI_t.mp c_8
        refine lv_aload_n hx hb d_M_parts_27 rfl (lv_at hl 0 rfl) ?_
        refine xr_get (ci := 5) (v := .ref (ad 205)) (C := R_M) (T := T_M) (N := 26) hx hb htw in_M hown hK hw 200 m200 rfl rfl 4 (by decide) (htw _ u_338) (fun _ h9 => h9) rfl d_M_parts_28 ?_
        refine lv_iload_n hx hb d_M_parts_31 rfl (lv_at hl 1 rfl) ?_
        refine xr_zald (i := nI i1) hx hb hK hw 205 5 m205 rfl rfl (xvin (a := i1) rfl (by omega) (by omega)) d_M_parts_32 ?_
        refine lv_topi (fun x_9 ex_9 => ?_)
        obtain rfl : x_9 = bI (σ.2.2.2 2 i1) := ex_9.trans ((congrArg (fun b => bI (σ.2.2.2 2 b)) (xcl (a := i1) rfl (by omega))).trans rfl)
        refine lv_if_ne (tgt := 54) hx hb d_M_parts_33 (by decide) (fun c_10 => ?_) (fun c_10 => ?_)
        · have c_10 : (σ.2.2.2 2 i1) = true := bI_t.mp c_10
          refine lv_iconst (v := 0) hx hb d_M_parts_54 (by decide) ?_
          have hf : f_parts σ (nI i1) (nI k7) x3 = (σ, 0) := by simp [f_parts, opt_n, opt_s, fi1, xk7, c_5, c_8, c_10, opt_c]
          exact W.zret (v := 0) hx hb hr (by decide) (fun t ht _ => ⟨_, rfl, by rw [hf, ht]; exact ⟨rfl, PM_same hw hR⟩, hS.F ht⟩) hS.2.2 d_M_parts_55
        · have c_10 : (σ.2.2.2 2 i1) = false := bI_f.mp c_10
          refine lv_aload_n hx hb d_M_parts_36 rfl (lv_at hl 0 rfl) ?_
          refine xr_get (ci := 5) (v := .ref (ad 207)) (C := R_M) (T := T_M) (N := 26) hx hb htw in_M hown hK hw 200 m200 rfl rfl 6 (by decide) (htw _ u_340) (fun _ h9 => h9) rfl d_M_parts_37 ?_
          refine lv_iload_n hx hb d_M_parts_40 rfl (lv_at hl 1 rfl) ?_
          refine xr_zald (i := nI i1) hx hb hK hw 207 5 m207 rfl rfl (xvin (a := i1) rfl (by omega) (by omega)) d_M_parts_41 ?_
          refine lv_topi (fun x_11 ex_11 => ?_)
          obtain rfl : x_11 = bI (σ.2.2.2 1 i1) := ex_11.trans ((congrArg (fun b => bI (σ.2.2.2 1 b)) (xcl (a := i1) rfl (by omega))).trans rfl)
          refine lv_if_ne (tgt := 54) hx hb d_M_parts_42 (by decide) (fun c_12 => ?_) (fun c_12 => ?_)
          · have c_12 : (σ.2.2.2 1 i1) = true := bI_t.mp c_12
            refine lv_iconst (v := 0) hx hb d_M_parts_54 (by decide) ?_
            have hf : f_parts σ (nI i1) (nI k7) x3 = (σ, 0) := by simp [f_parts, opt_n, opt_s, fi1, xk7, c_5, c_8, c_10, c_12, opt_c]
            exact W.zret (v := 0) hx hb hr (by decide) (fun t ht _ => ⟨_, rfl, by rw [hf, ht]; exact ⟨rfl, PM_same hw hR⟩, hS.F ht⟩) hS.2.2 d_M_parts_55
          · have c_12 : (σ.2.2.2 1 i1) = false := bI_f.mp c_12
            refine lv_aload_n hx hb d_M_parts_45 rfl (lv_at hl 0 rfl) ?_
            refine xr_get (ci := 5) (v := .ref (ad 206)) (C := R_M) (T := T_M) (N := 26) hx hb htw in_M hown hK hw 200 m200 rfl rfl 5 (by decide) (htw _ u_339) (fun _ h9 => h9) rfl d_M_parts_46 ?_
            refine lv_iload_n hx hb d_M_parts_49 rfl (lv_at hl 1 rfl) ?_
            refine xr_zald (i := nI i1) hx hb hK hw 206 5 m206 rfl rfl (xvin (a := i1) rfl (by omega) (by omega)) d_M_parts_50 ?_
            refine lv_topi (fun x_13 ex_13 => ?_)
            obtain rfl : x_13 = bI (σ.2.2.2 0 i1) := ex_13.trans ((congrArg (fun b => bI (σ.2.2.2 0 b)) (xcl (a := i1) rfl (by omega))).trans rfl)
            refine lv_if_eq (tgt := 56) hx hb d_M_parts_51 (by decide) (fun c_14 => ?_) (fun c_14 => ?_)
            · have c_14 : (σ.2.2.2 0 i1) = false := bI_f.mp c_14
              refine lv_aload_n hx hb d_M_parts_56 rfl (lv_at hl 0 rfl) ?_
              refine xr_get (ci := 5) (v := .ref (ad 209)) (C := R_M) (T := T_M) (N := 26) hx hb htw in_M hown hK hw 200 m200 rfl rfl 8 (by decide) (htw _ u_342) (fun _ h9 => h9) rfl d_M_parts_57 ?_
              refine lv_iconst (v := 4) hx hb d_M_parts_60 (by decide) ?_
              refine lv_iload_n hx hb d_M_parts_61 rfl (lv_at hl 1 rfl) ?_
              refine lv_imul hx hb d_M_parts_62 ?_
              refine lv_iload_n hx hb d_M_parts_63 rfl (lv_at hl 2 rfl) ?_
              refine lv_iadd hx hb d_M_parts_64 ?_
              refine lv_aload_n hx hb d_M_parts_65 rfl (lv_at hl 0 rfl) ?_
              refine xr_get (ci := 5) (v := .ref (ad 203)) (C := R_M) (T := T_M) (N := 26) hx hb htw in_M hown hK hw 200 m200 rfl rfl 2 (by decide) (htw _ u_336) (fun _ h9 => h9) rfl d_M_parts_66 ?_
              refine lv_iload_n hx hb d_M_parts_69 rfl (lv_at hl 1 rfl) ?_
              refine xr_lald (i := nI i1) hx hb hK hw 203 1 m203 rfl rfl (xvin (a := i1) rfl (by omega) (by omega)) d_M_parts_70 ?_
              refine lv_topl (fun x_15 ex_15 => ?_)
              obtain rfl : x_15 = (σ.2.2.1 1) i1 := ex_15.trans ((congrArg (σ.2.2.1 1) (xcl (a := i1) rfl (by omega))).trans rfl)
              refine lv_iload_n hx hb d_M_parts_71 rfl (lv_at hl 3 rfl) ?_
              refine lv_i2l hx hb d_M_parts_72 rfl ?_
              refine lv_lmul hx hb d_M_parts_73 ?_
              refine xr_last (i := (4 * (nI i1)) + (nI k7)) hx hb hK hw hS 209 1 m209 rfl rfl (xvin (a := (4 * i1) + k7) (xadd (a := 4 * i1) (b := k7) (xmul (a := 4) (b := i1) rfl rfl) rfl) (by omega) (by omega)) d_M_parts_74 (fun H locs hw hS => ?_)
              rw [show ((4 * (nI i1)) + (nI k7)).toNatClampNeg = (4 * i1) + k7 from xcl (a := (4 * i1) + k7) (xadd (a := 4 * i1) (b := k7) (xmul (a := 4) (b := i1) rfl rfl) rfl) (by omega)] at hw
              have hw : xw D vwCl B ad (xu w 209 (.inl (K 1, 32, .inr (.inl (vp_updL FA ((4 * i1) + k7) (((σ.2.2.1 1) i1) * x3.toInt64)))))) H := hw
              refine lv_iconst (v := 1) hx hb d_M_parts_75 (by decide) ?_
              have hRep : RepM K (pL σ (10 + i1) (vp_updL (σ.2.2.1 (10 + i1)) k7 (σ.2.2.1 1 i1 * x3.toInt64))) ad (xu w 209 (.inl (K 1, 32, .inr (.inl (vp_updL FA ((4 * i1) + k7) (((σ.2.2.1 1) i1) * x3.toInt64)))))) := by
                refine ⟨(vp_updL FA (4 * i1 + k7) (σ.2.2.1 1 i1 * x3.toInt64)), FT, FS, FO, ?_, ?_, ?_, ?_, ?_, ?_, ?_, ?_, ?_, ?_, ?_, ?_, ?_, ?_, ?_, ?_, ?_, ?_, ?_, ?_, ?_, ?_, ?_, ?_, ?_⟩
                · simp (disch := omega) only [pN, pI, pL, pZ, row_eq, row_ne, xu_eq, xu_ne, xa_eq, xa_ne, pk_us, pk_un, pk_uLs, pk_uLn, m200]
                · simp (disch := omega) only [pN, pI, pL, pZ, row_eq, row_ne, xu_eq, xu_ne, xa_eq, xa_ne, pk_us, pk_un, pk_uLs, pk_uLn, m203]
                · simp (disch := omega) only [pN, pI, pL, pZ, row_eq, row_ne, xu_eq, xu_ne, xa_eq, xa_ne, pk_us, pk_un, pk_uLs, pk_uLn, m204]
                · simp (disch := omega) only [pN, pI, pL, pZ, row_eq, row_ne, xu_eq, xu_ne, xa_eq, xa_ne, pk_us, pk_un, pk_uLs, pk_uLn, m205]
                · simp (disch := omega) only [pN, pI, pL, pZ, row_eq, row_ne, xu_eq, xu_ne, xa_eq, xa_ne, pk_us, pk_un, pk_uLs, pk_uLn, m206]
                · simp (disch := omega) only [pN, pI, pL, pZ, row_eq, row_ne, xu_eq, xu_ne, xa_eq, xa_ne, pk_us, pk_un, pk_uLs, pk_uLn, m207]
                · simp (disch := omega) only [pN, pI, pL, pZ, row_eq, row_ne, xu_eq, xu_ne, xa_eq, xa_ne, pk_us, pk_un, pk_uLs, pk_uLn, m208]
                · simp (disch := omega) only [pN, pI, pL, pZ, row_eq, row_ne, xu_eq, xu_ne, xa_eq, xa_ne, pk_us, pk_un, pk_uLs, pk_uLn, m209]
                · simp (disch := omega) only [pN, pI, pL, pZ, row_eq, row_ne, xu_eq, xu_ne, xa_eq, xa_ne, pk_us, pk_un, pk_uLs, pk_uLn, m210]
                · simp (disch := omega) only [pN, pI, pL, pZ, row_eq, row_ne, xu_eq, xu_ne, xa_eq, xa_ne, pk_us, pk_un, pk_uLs, pk_uLn, m212]
                · simp (disch := omega) only [pN, pI, pL, pZ, row_eq, row_ne, xu_eq, xu_ne, xa_eq, xa_ne, pk_us, pk_un, pk_uLs, pk_uLn, m213]
                · simp (disch := omega) only [pN, pI, pL, pZ, row_eq, row_ne, xu_eq, xu_ne, xa_eq, xa_ne, pk_us, pk_un, pk_uLs, pk_uLn, m214]
                · simp (disch := omega) only [pN, pI, pL, pZ, row_eq, row_ne, xu_eq, xu_ne, xa_eq, xa_ne, pk_us, pk_un, pk_uLs, pk_uLn, m215]
                · simp (disch := omega) only [pN, pI, pL, pZ, row_eq, row_ne, xu_eq, xu_ne, xa_eq, xa_ne, pk_us, pk_un, pk_uLs, pk_uLn, m216]
                · simp (disch := omega) only [pN, pI, pL, pZ, row_eq, row_ne, xu_eq, xu_ne, xa_eq, xa_ne, pk_us, pk_un, pk_uLs, pk_uLn, m217]
                · simp (disch := omega) only [pN, pI, pL, pZ, row_eq, row_ne, xu_eq, xu_ne, xa_eq, xa_ne, pk_us, pk_un, pk_uLs, pk_uLn, m218]
                · simp (disch := omega) only [pN, pI, pL, pZ, row_eq, row_ne, xu_eq, xu_ne, xa_eq, xa_ne, pk_us, pk_un, pk_uLs, pk_uLn, m220]
                · simp (disch := omega) only [pN, pI, pL, pZ, row_eq, row_ne, xu_eq, xu_ne, xa_eq, xa_ne, pk_us, pk_un, pk_uLs, pk_uLn, m223]
                · simp (disch := omega) only [pN, pI, pL, pZ, row_eq, row_ne, xu_eq, xu_ne, xa_eq, xa_ne, pk_us, pk_un, pk_uLs, pk_uLn, m224]
                · simp (disch := omega) only [pN, pI, pL, pZ, row_eq, row_ne, xu_eq, xu_ne, xa_eq, xa_ne, pk_us, pk_un, pk_uLs, pk_uLn, m225]
                · simp (disch := omega) only [pN, pI, pL, pZ, row_eq, row_ne, xu_eq, xu_ne, xa_eq, xa_ne, pk_us, pk_un, pk_uLs, pk_uLn, m226]
                · exact relA hFA (by omega)
                · intro b q hb hq; simp (disch := omega) only [pN, pI, pL, pZ, row_eq, row_ne, xu_eq, xu_ne, xa_eq, xa_ne, pk_us, pk_un, pk_uLs, pk_uLn]; exact hFT b q hb hq
                · intro b q hb hq; simp (disch := omega) only [pN, pI, pL, pZ, row_eq, row_ne, xu_eq, xu_ne, xa_eq, xa_ne, pk_us, pk_un, pk_uLs, pk_uLn]; exact hFS b q hb hq
                · intro b q hb hq; simp (disch := omega) only [pN, pI, pL, pZ, row_eq, row_ne, xu_eq, xu_ne, xa_eq, xa_ne, pk_us, pk_un, pk_uLs, pk_uLn]; exact hFO b q hb hq
              have hf : f_parts σ (nI i1) (nI k7) x3 = (pL σ (10 + i1) (vp_updL (σ.2.2.1 (10 + i1)) k7 (σ.2.2.1 1 i1 * x3.toInt64)), 1) := by simp [f_parts, opt_n, opt_s, fi1, xk7, c_5, c_8, c_10, c_12, c_14]
              exact W.zret (v := 1) hx hb hr (by decide) (fun t ht _ => ⟨_, rfl, by rw [hf, ht]; exact ⟨rfl, _, hw, hRep, fun t h2 => by simp (disch := omega) only [xu_ne]⟩, hS.F ht⟩) hS.2.2 d_M_parts_76
            · have c_14 : (σ.2.2.2 0 i1) = true := bI_t.mp c_14
              refine lv_iconst (v := 0) hx hb d_M_parts_54 (by decide) ?_
              have hf : f_parts σ (nI i1) (nI k7) x3 = (σ, 0) := by simp [f_parts, opt_n, opt_s, fi1, xk7, c_5, c_8, c_10, c_12, c_14, opt_c]
              exact W.zret (v := 0) hx hb hr (by decide) (fun t ht _ => ⟨_, rfl, by rw [hf, ht]; exact ⟨rfl, PM_same hw hR⟩, hS.F ht⟩) hS.2.2 d_M_parts_55
set_option maxHeartbeats 4000000 in
set_option maxRecDepth 100000 in
theorem c_M_assay {l : Launch} {D : va_G} {K : Nat → ClassId} {B : Nat} {ad : Nat → Nat} {w : Nat → Option va_E} {H : Heap} {σ : xS} (hR : RepM K σ ad w) (hI : Inv σ) (hw : xw D vwCl B ad w H) (x1 x2 x3 x4 : Int32) : xC l D K B y_M_assay b_M_assay 5 (some .boolean) rm_M_assay [.ref (ad 200), .int x1, .int x2, .int x3, .int x4] H (fun v H1 => v = some (.int (f_assay σ x1 x2 x3 x4).2) ∧ PM D K B ad w (f_assay σ x1 x2 x3 x4).1 H1) := by
  refine Met.ofW (cc := b_M_assay) (maxL := 5) (ret := (some .boolean)) (by decide) rfl ?_
  intro p e s m args below meth c s₁ B0 hml hv
  obtain ⟨rfl, hsz, hK, hN⟩ := hv
  have hx := B0.exec
  have hb := B0.bytes
  have hr := B0.returns
  have htw : ∀ w ∈ xW0, w.before [.ref (ad 200), .int x1, .int x2, .int x3, .int x4].toArray s = true := fun w h => atoms_spec (ws := Cond.code y_M_assay b_M_assay 5 (some .boolean) :: xW0) B0.pre w (List.mem_cons_of_mem _ h)
  have hown : s.vm.findClass R_M = some m.cls := findClass_of_methodNamed B0.named
  have hlocks := B0.notSynchronized
  subst hsz
  have hS : va_S (fun q => B ≤ q) s.heap s.heap [] := va_S.rf
  have hl := lv_entry ([.ref (ad 200), .int x1, .int x2, .int x3, .int x4]) (n := 5) (Nat.le_of_ble_eq_true rfl)
  rw [lg_entry_eq]
  generalize (lg_sl ([.ref (ad 200), .int x1, .int x2, .int x3, .int x4]) ++ List.replicate (5 - (lg_sl ([.ref (ad 200), .int x1, .int x2, .int x3, .int x4])).length) Slot.unset).toArray = ls at hl ⊢
  have hl : lv_has ls 5 [(0, .ref (ad 200)), (1, .int x1), (2, .int x2), (3, .int x3), (4, .int x4)] := hl
  have hH : s.heap = s.heap := rfl
  obtain ⟨FA, FT, FS, FO, m200, m203, m204, m205, m206, m207, m208, m209, m210, m212, m213, m214, m215, m216, m217, m218, m220, m223, m224, m225, m226, hFA, hFT, hFS, hFO⟩ := id hR
  obtain ⟨hnb, hns, hnr, hpc, hst, hto, htl, hrm, hpa, hwt, hdf, hds⟩ := id hI
  refine lv_aload_n hx hb d_M_assay_0 rfl (lv_at hl 0 rfl) ?_
  refine lv_iload_n hx hb d_M_assay_1 rfl (lv_at hl 1 rfl) ?_
  refine xr_call (va_runV (As := [.int x1]) (rest := []) ⟨hx, hb, hml, hown, htw⟩ (c_M_isBatch (ad := ad) hR hI hw x1) (cwV 1 htw (gV u_430 u_432 us_8 u_3 u_433) rfl rfl rfl hd_M_isBatch ⟨Nat.le_of_ble_eq_true rfl, Nat.le_of_ble_eq_true rfl⟩) ⟨xP_blind, hw.recv hK (ci := 5) (t := 200) rfl m200 rfl, xP_of hK hN⟩ rfl rfl hl.1 rfl (lv_room (Nat.le_of_ble_eq_true rfl)) d_M_assay_2 ⟨by decide, by decide⟩) hS (fun v H_ locs hp hS => ?_)
  obtain ⟨hHe, hp⟩ := hp
  rw [hHe] at hS ⊢
  rcases hp with ⟨f2, rfl⟩ | ⟨i1, hi1, rfl, rfl⟩
  · refine W.eq (g2 := F0 m 5 ls [.int 0]) rfl ?_
    refine lv_if_eq (tgt := 49) hx hb d_M_assay_5 (by decide) (fun c_3 => ?_) (fun c_3 => absurd (by decide) c_3)
    refine lv_iconst (v := 0) hx hb d_M_assay_49 (by decide) ?_
    have hf : f_assay σ x1 x2 x3 x4 = (σ, 0) := by simp [f_assay, opt_n, opt_s, f2, opt_c]
    exact W.zret (v := 0) hx hb hr (by decide) (fun t ht _ => ⟨_, rfl, by rw [hf, ht]; exact ⟨rfl, PM_same hw hR⟩, hS.F ht⟩) hS.2.2 d_M_assay_50
  · have fi1 : xi (σ.1 0) (nI i1) = some i1 := xi_nI hi1 (by omega)
    refine W.eq (g2 := F0 m 5 ls [.int 1]) rfl ?_
    refine lv_if_eq (tgt := 49) hx hb d_M_assay_5 (by decide) (fun c_4 => absurd c_4 (by decide)) (fun c_4 => ?_)
    refine lv_iload_n hx hb d_M_assay_8 rfl (lv_at hl 2 rfl) ?_
    refine lv_i2l hx hb d_M_assay_9 rfl ?_
    refine lv_lconst (v := 0) hx hb d_M_assay_10 (by decide) ?_
    refine lv_ldc2 (v := 2) hx hb hown (htw _ u_501) d_M_assay_11 ?_
    refine xr_call (va_runS (As := [.long x2.toInt64, .long 0, .long 2]) (rest := []) ⟨hx, hb, hml, hown, htw⟩ (c_M_isIn x2.toInt64 0 2) (va_cwS 3 htw (gS u_419 u_420 u_3 u_421) rfl rfl rfl hd_M_isIn.2 ⟨Nat.le_of_ble_eq_true rfl, Nat.le_of_ble_eq_true rfl⟩) ⟨xP_blind, xP_of hK hN⟩ rfl rfl hl.1 rfl (lv_room (Nat.le_of_ble_eq_true rfl)) d_M_assay_14 ⟨by decide, by decide⟩) hS (fun v H_ locs hp hS => ?_)
    obtain ⟨rfl, hHe⟩ := hp
    rw [hHe] at hS ⊢
    refine W.eq (g2 := F0 m 17 ls [.int (bI (xin x2.toInt64 0 2))]) rfl ?_
    refine lv_if_eq (tgt := 49) hx hb d_M_assay_17 (by decide) (fun c_5 => ?_) (fun c_5 => ?_)
    · have c_5 : (xin x2.toInt64 0 2) = false := bI_f.mp c_5
      have f6 : xi 3 x2 = none := xin_xi c_5
      refine lv_iconst (v := 0) hx hb d_M_assay_49 (by decide) ?_
      have hf : f_assay σ (nI i1) x2 x3 x4 = (σ, 0) := by simp [f_assay, opt_n, opt_s, fi1, f6, c_5, opt_c]
      exact W.zret (v := 0) hx hb hr (by decide) (fun t ht _ => ⟨_, rfl, by rw [hf, ht]; exact ⟨rfl, PM_same hw hR⟩, hS.F ht⟩) hS.2.2 d_M_assay_50
    · have c_5 : (xin x2.toInt64 0 2) = true := bI_t.mp c_5
      obtain ⟨j7, hj7, rfl⟩ := xin_of c_5
      have xj7 : xi 3 (nI j7) = some j7 := xi_nI hj7 (by decide)
      refine lv_iload_n hx hb d_M_assay_20 rfl (lv_at hl 3 rfl) ?_
      refine xr_call (va_runS (As := [.int x3]) (rest := []) ⟨hx, hb, hml, hown, htw⟩ (c_M_isMetal x3) (va_cwS 1 htw (gS u_434 u_435 u_3 u_436) rfl rfl rfl hd_M_isMetal.2 ⟨Nat.le_of_ble_eq_true rfl, Nat.le_of_ble_eq_true rfl⟩) ⟨xP_blind, xP_of hK hN⟩ rfl rfl hl.1 rfl (lv_room (Nat.le_of_ble_eq_true rfl)) d_M_assay_21 ⟨by decide, by decide⟩) hS (fun v H_ locs hp hS => ?_)
      obtain ⟨rfl, hHe⟩ := hp
      rw [hHe] at hS ⊢
      refine W.eq (g2 := F0 m 24 ls [.int (bI (xm x3))]) rfl ?_
      refine lv_if_eq (tgt := 49) hx hb d_M_assay_24 (by decide) (fun c_8 => ?_) (fun c_8 => ?_)
      · have c_8 : (xm x3) = false := bI_f.mp c_8
        have f9 : xi 4 x3 = none := xm_xi c_8
        refine lv_iconst (v := 0) hx hb d_M_assay_49 (by decide) ?_
        have hf : f_assay σ (nI i1) (nI j7) x3 x4 = (σ, 0) := by simp [f_assay, opt_n, opt_s, fi1, xj7, f9, c_5, c_8, opt_c]
        exact W.zret (v := 0) hx hb hr (by decide) (fun t ht _ => ⟨_, rfl, by rw [hf, ht]; exact ⟨rfl, PM_same hw hR⟩, hS.F ht⟩) hS.2.2 d_M_assay_50
      · have c_8 : (xm x3) = true := bI_t.mp c_8
        obtain ⟨k10, hk10, rfl⟩ := xm_of c_8
        have xk10 : xi 4 (nI k10) = some k10 := xi_nI hk10 (by decide)
        refine lv_iload hx hb d_M_assay_27 (lv_at hl 4 rfl) ?_
        refine lv_i2l hx hb d_M_assay_29 rfl ?_
        refine lv_lconst (v := 0) hx hb d_M_assay_30 (by decide) ?_
        refine lv_ldc2 (v := 1000000) hx hb hown (htw _ u_437) d_M_assay_31 ?_
        refine xr_call (va_runS (As := [.long x4.toInt64, .long 0, .long 1000000]) (rest := []) ⟨hx, hb, hml, hown, htw⟩ (c_M_isIn x4.toInt64 0 1000000) (va_cwS 3 htw (gS u_419 u_420 u_3 u_421) rfl rfl rfl hd_M_isIn.2 ⟨Nat.le_of_ble_eq_true rfl, Nat.le_of_ble_eq_true rfl⟩) ⟨xP_blind, xP_of hK hN⟩ rfl rfl hl.1 rfl (lv_room (Nat.le_of_ble_eq_true rfl)) d_M_assay_34 ⟨by decide, by decide⟩) hS (fun v H_ locs hp hS => ?_)
        obtain ⟨rfl, hHe⟩ := hp
        rw [hHe] at hS ⊢
        refine W.eq (g2 := F0 m 37 ls [.int (bI (xin x4.toInt64 0 1000000))]) rfl ?_
        refine lv_if_eq (tgt := 49) hx hb d_M_assay_37 (by decide) (fun c_11 => ?_) (fun c_11 => ?_)
        · have c_11 : (xin x4.toInt64 0 1000000) = false := bI_f.mp c_11
          refine lv_iconst (v := 0) hx hb d_M_assay_49 (by decide) ?_
          have hf : f_assay σ (nI i1) (nI j7) (nI k10) x4 = (σ, 0) := by simp [f_assay, opt_n, opt_s, fi1, xj7, xk10, c_5, c_8, c_11, opt_c]
          exact W.zret (v := 0) hx hb hr (by decide) (fun t ht _ => ⟨_, rfl, by rw [hf, ht]; exact ⟨rfl, PM_same hw hR⟩, hS.F ht⟩) hS.2.2 d_M_assay_50
        · have c_11 : (xin x4.toInt64 0 1000000) = true := bI_t.mp c_11
          refine lv_aload_n hx hb d_M_assay_40 rfl (lv_at hl 0 rfl) ?_
          refine xr_get (ci := 5) (v := .ref (ad 205)) (C := R_M) (T := T_M) (N := 26) hx hb htw in_M hown hK hw 200 m200 rfl rfl 4 (by decide) (htw _ u_338) (fun _ h9 => h9) rfl d_M_assay_41 ?_
          refine lv_iload_n hx hb d_M_assay_44 rfl (lv_at hl 1 rfl) ?_
          refine xr_zald (i := nI i1) hx hb hK hw 205 5 m205 rfl rfl (xvin (a := i1) rfl (by omega) (by omega)) d_M_assay_45 ?_
          refine lv_topi (fun x_12 ex_12 => ?_)
          obtain rfl : x_12 = bI (σ.2.2.2 2 i1) := ex_12.trans ((congrArg (fun b => bI (σ.2.2.2 2 b)) (xcl (a := i1) rfl (by omega))).trans rfl)
          refine lv_if_eq (tgt := 51) hx hb d_M_assay_46 (by decide) (fun c_13 => ?_) (fun c_13 => ?_)
          · have c_13 : (σ.2.2.2 2 i1) = false := bI_f.mp c_13
            refine lv_aload_n hx hb d_M_assay_51 rfl (lv_at hl 0 rfl) ?_
            refine xr_get (ci := 5) (v := .ref (ad 220)) (C := R_M) (T := T_M) (N := 26) hx hb htw in_M hown hK hw 200 m200 rfl rfl 19 (by decide) (htw _ u_353) (fun _ h9 => h9) rfl d_M_assay_52 ?_
            refine lv_bipush (v := 12) hx hb d_M_assay_55 (by decide) ?_
            refine lv_iload_n hx hb d_M_assay_57 rfl (lv_at hl 1 rfl) ?_
            refine lv_imul hx hb d_M_assay_58 ?_
            refine lv_iconst (v := 3) hx hb d_M_assay_59 (by decide) ?_
            refine lv_iload_n hx hb d_M_assay_60 rfl (lv_at hl 3 rfl) ?_
            refine lv_imul hx hb d_M_assay_61 ?_
            refine lv_iadd hx hb d_M_assay_62 ?_
            refine lv_iload_n hx hb d_M_assay_63 rfl (lv_at hl 2 rfl) ?_
            refine lv_iadd hx hb d_M_assay_64 ?_
            refine lv_iload hx hb d_M_assay_65 (lv_at hl 4 rfl) ?_
            refine xr_iast (i := ((12 * (nI i1)) + (3 * (nI k10))) + (nI j7)) hx hb hK hw hS 220 0 m220 rfl rfl (xvin (a := ((12 * i1) + (3 * k10)) + j7) (xadd (a := (12 * i1) + (3 * k10)) (b := j7) (xadd (a := 12 * i1) (b := 3 * k10) (xmul (a := 12) (b := i1) rfl rfl) (xmul (a := 3) (b := k10) rfl rfl)) rfl) (by omega) (by omega)) d_M_assay_67 (fun H locs hw hS => ?_)
            rw [show (((12 * (nI i1)) + (3 * (nI k10))) + (nI j7)).toNatClampNeg = ((12 * i1) + (3 * k10)) + j7 from xcl (a := ((12 * i1) + (3 * k10)) + j7) (xadd (a := (12 * i1) + (3 * k10)) (b := j7) (xadd (a := 12 * i1) (b := 3 * k10) (xmul (a := 12) (b := i1) rfl rfl) (xmul (a := 3) (b := k10) rfl rfl)) rfl) (by omega)] at hw
            have hw : xw D vwCl B ad (xu w 220 (.inl (K 0, 96, .inl (upd FO (((12 * i1) + (3 * k10)) + j7) x4)))) H := hw
            refine lv_iconst (v := 1) hx hb d_M_assay_68 (by decide) ?_
            have ei : ((12 * i1) + (3 * k10)) + j7 = 12 * i1 + (k10 * 3 + j7) := by omega
            rw [ei] at hw
            have hRep : RepM K (pI σ (20 + i1) (upd (σ.2.1 (20 + i1)) (k10 * 3 + j7) x4)) ad (xu w 220 (.inl (K 0, 96, .inl (upd FO (12 * i1 + (k10 * 3 + j7)) x4)))) := by
              refine ⟨FA, FT, FS, (upd FO (12 * i1 + (k10 * 3 + j7)) x4), ?_, ?_, ?_, ?_, ?_, ?_, ?_, ?_, ?_, ?_, ?_, ?_, ?_, ?_, ?_, ?_, ?_, ?_, ?_, ?_, ?_, ?_, ?_, ?_, ?_⟩
              · simp (disch := omega) only [pN, pI, pL, pZ, row_eq, row_ne, xu_eq, xu_ne, xa_eq, xa_ne, pk_us, pk_un, pk_uLs, pk_uLn, m200]
              · simp (disch := omega) only [pN, pI, pL, pZ, row_eq, row_ne, xu_eq, xu_ne, xa_eq, xa_ne, pk_us, pk_un, pk_uLs, pk_uLn, m203]
              · simp (disch := omega) only [pN, pI, pL, pZ, row_eq, row_ne, xu_eq, xu_ne, xa_eq, xa_ne, pk_us, pk_un, pk_uLs, pk_uLn, m204]
              · simp (disch := omega) only [pN, pI, pL, pZ, row_eq, row_ne, xu_eq, xu_ne, xa_eq, xa_ne, pk_us, pk_un, pk_uLs, pk_uLn, m205]
              · simp (disch := omega) only [pN, pI, pL, pZ, row_eq, row_ne, xu_eq, xu_ne, xa_eq, xa_ne, pk_us, pk_un, pk_uLs, pk_uLn, m206]
              · simp (disch := omega) only [pN, pI, pL, pZ, row_eq, row_ne, xu_eq, xu_ne, xa_eq, xa_ne, pk_us, pk_un, pk_uLs, pk_uLn, m207]
              · simp (disch := omega) only [pN, pI, pL, pZ, row_eq, row_ne, xu_eq, xu_ne, xa_eq, xa_ne, pk_us, pk_un, pk_uLs, pk_uLn, m208]
              · simp (disch := omega) only [pN, pI, pL, pZ, row_eq, row_ne, xu_eq, xu_ne, xa_eq, xa_ne, pk_us, pk_un, pk_uLs, pk_uLn, m209]
              · simp (disch := omega) only [pN, pI, pL, pZ, row_eq, row_ne, xu_eq, xu_ne, xa_eq, xa_ne, pk_us, pk_un, pk_uLs, pk_uLn, m210]
              · simp (disch := omega) only [pN, pI, pL, pZ, row_eq, row_ne, xu_eq, xu_ne, xa_eq, xa_ne, pk_us, pk_un, pk_uLs, pk_uLn, m212]
              · simp (disch := omega) only [pN, pI, pL, pZ, row_eq, row_ne, xu_eq, xu_ne, xa_eq, xa_ne, pk_us, pk_un, pk_uLs, pk_uLn, m213]
              · simp (disch := omega) only [pN, pI, pL, pZ, row_eq, row_ne, xu_eq, xu_ne, xa_eq, xa_ne, pk_us, pk_un, pk_uLs, pk_uLn, m214]
              · simp (disch := omega) only [pN, pI, pL, pZ, row_eq, row_ne, xu_eq, xu_ne, xa_eq, xa_ne, pk_us, pk_un, pk_uLs, pk_uLn, m215]
              · simp (disch := omega) only [pN, pI, pL, pZ, row_eq, row_ne, xu_eq, xu_ne, xa_eq, xa_ne, pk_us, pk_un, pk_uLs, pk_uLn, m216]
              · simp (disch := omega) only [pN, pI, pL, pZ, row_eq, row_ne, xu_eq, xu_ne, xa_eq, xa_ne, pk_us, pk_un, pk_uLs, pk_uLn, m217]
              · simp (disch := omega) only [pN, pI, pL, pZ, row_eq, row_ne, xu_eq, xu_ne, xa_eq, xa_ne, pk_us, pk_un, pk_uLs, pk_uLn, m218]
              · simp (disch := omega) only [pN, pI, pL, pZ, row_eq, row_ne, xu_eq, xu_ne, xa_eq, xa_ne, pk_us, pk_un, pk_uLs, pk_uLn, m220]
              · simp (disch := omega) only [pN, pI, pL, pZ, row_eq, row_ne, xu_eq, xu_ne, xa_eq, xa_ne, pk_us, pk_un, pk_uLs, pk_uLn, m223]
              · simp (disch := omega) only [pN, pI, pL, pZ, row_eq, row_ne, xu_eq, xu_ne, xa_eq, xa_ne, pk_us, pk_un, pk_uLs, pk_uLn, m224]
              · simp (disch := omega) only [pN, pI, pL, pZ, row_eq, row_ne, xu_eq, xu_ne, xa_eq, xa_ne, pk_us, pk_un, pk_uLs, pk_uLn, m225]
              · simp (disch := omega) only [pN, pI, pL, pZ, row_eq, row_ne, xu_eq, xu_ne, xa_eq, xa_ne, pk_us, pk_un, pk_uLs, pk_uLn, m226]
              · intro b q hb hq; simp (disch := omega) only [pN, pI, pL, pZ, row_eq, row_ne, xu_eq, xu_ne, xa_eq, xa_ne, pk_us, pk_un, pk_uLs, pk_uLn]; exact hFA b q hb hq
              · intro b q hb hq; simp (disch := omega) only [pN, pI, pL, pZ, row_eq, row_ne, xu_eq, xu_ne, xa_eq, xa_ne, pk_us, pk_un, pk_uLs, pk_uLn]; exact hFT b q hb hq
              · intro b q hb hq; simp (disch := omega) only [pN, pI, pL, pZ, row_eq, row_ne, xu_eq, xu_ne, xa_eq, xa_ne, pk_us, pk_un, pk_uLs, pk_uLn]; exact hFS b q hb hq
              · exact relO hFO (by omega)
            have hf : f_assay σ (nI i1) (nI j7) (nI k10) x4 = (pI σ (20 + i1) (upd (σ.2.1 (20 + i1)) (k10 * 3 + j7) x4), 1) := by simp [f_assay, opt_n, opt_s, fi1, xj7, xk10, c_5, c_8, c_11, c_13]
            exact W.zret (v := 1) hx hb hr (by decide) (fun t ht _ => ⟨_, rfl, by rw [hf, ht]; exact ⟨rfl, _, hw, hRep, fun t h2 => by simp (disch := omega) only [xu_ne]⟩, hS.F ht⟩) hS.2.2 d_M_assay_69
          · have c_13 : (σ.2.2.2 2 i1) = true := bI_t.mp c_13
            refine lv_iconst (v := 0) hx hb d_M_assay_49 (by decide) ?_
            have hf : f_assay σ (nI i1) (nI j7) (nI k10) x4 = (σ, 0) := by simp [f_assay, opt_n, opt_s, fi1, xj7, xk10, c_5, c_8, c_11, c_13, opt_c]
            exact W.zret (v := 0) hx hb hr (by decide) (fun t ht _ => ⟨_, rfl, by rw [hf, ht]; exact ⟨rfl, PM_same hw hR⟩, hS.F ht⟩) hS.2.2 d_M_assay_50
