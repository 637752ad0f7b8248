set_option maxHeartbeats 4000000 in
set_option maxRecDepth 100000 in
theorem c_A_settled {l : Launch} {D : va_G} {K : Nat → ClassId} {B : Nat} {ad : Nat → Nat} {w : Nat → Option va_E} {H : Heap} {σ : xS} (hR : RepX K σ ad w) (hI : Inv σ) (hw : xw D vwCl B ad w H) (x1 x2 : Int32) : xC l D K B y_A_settled b_A_settled 4 (some .int) rm_A_settled [.ref (ad 0), .int x1, .int x2] H (fun v H1 => v = some (.int (f_settled σ x1 x2)) ∧ H1 = H) := by
  refine Met.ofW (cc := b_A_settled) (maxL := 4) (ret := (some .int)) (by decide) rfl ?_
  intro p e s m args below meth c s₁ B0 hml hv
  obtain ⟨rfl, hsz, hK, hN⟩ := hv
  have hx := B0.exec
  have hb := B0.bytes
  have hr := B0.returns
  have htw : ∀ w ∈ xW0, w.before [.ref (ad 0), .int x1, .int x2].toArray s = true := fun w h => atoms_spec (ws := Cond.code y_A_settled b_A_settled 4 (some .int) :: xW0) B0.pre w (List.mem_cons_of_mem _ h)
  have hown : s.vm.findClass R_A = some m.cls := findClass_of_methodNamed B0.named
  have hlocks := B0.notSynchronized
  subst hsz
  have hS : va_S (fun q => B ≤ q) s.heap s.heap [] := va_S.rf
  have hl := lv_entry ([.ref (ad 0), .int x1, .int x2]) (n := 4) (Nat.le_of_ble_eq_true rfl)
  rw [lg_entry_eq]
  generalize (lg_sl ([.ref (ad 0), .int x1, .int x2]) ++ List.replicate (4 - (lg_sl ([.ref (ad 0), .int x1, .int x2])).length) Slot.unset).toArray = ls at hl ⊢
  have hl : lv_has ls 4 [(0, .ref (ad 0)), (1, .int x1), (2, .int x2)] := hl
  have hH : s.heap = s.heap := rfl
  obtain ⟨r0, r1, r2, r3, r4, r5, r6, r7, rb, rba, rbt, rbo, rs, rss, rr⟩ := id hR
  obtain ⟨hnb, hns, hnr, hpc, hst, hto, htl, hrm, hpa, hwt, hdf, hds⟩ := id hI
  refine lv_aload_n hx hb d_A_settled_0 rfl (lv_at hl 0 rfl) ?_
  refine lv_iload_n hx hb d_A_settled_1 rfl (lv_at hl 1 rfl) ?_
  refine xr_call (va_runV (As := [.int x1]) (rest := []) ⟨hx, hb, hml, hown, htw⟩ (c_A_batchAt (ad := ad) hR hnb hns hw x1) (cwV 1 htw (gV u_131 u_133 us_1 u_1 u_134) rfl rfl rfl hd_A_batchAt ⟨Nat.le_of_ble_eq_true rfl, Nat.le_of_ble_eq_true rfl⟩) ⟨xP_blind, hw.recv hK (ci := 0) (t := 0) rfl r0 rfl, xP_of hK hN⟩ rfl rfl hl.1 rfl (lv_room (Nat.le_of_ble_eq_true rfl)) d_A_settled_2 ⟨by decide, by decide⟩) hS (fun v H_ locs hp hS => ?_)
  obtain ⟨hHe, hp⟩ := hp
  rw [hHe] at hS ⊢
  rcases hp with ⟨f2, rfl⟩ | ⟨i1, hi1, rfl, rfl⟩
  · refine W.eq (g2 := F0 m 5 ls [.null]) rfl ?_
    refine lv_astore_nN (lv' := [(3, .null), (0, .ref (ad 0)), (1, .int x1), (2, .int x2)]) hx hb d_A_settled_5 rfl hl (by decide) rfl (fun ls hl => ?_)
    refine lv_aload_nN hx hb d_A_settled_6 rfl (lv_at hl 0 rfl) ?_
    refine lv_ifnullN (tgt := 17) hx hb d_A_settled_7 (by decide) ?_
    refine lv_iconst (v := (-1)) hx hb d_A_settled_17 (by decide) ?_
    exact W.iret (v := (-1)) hx hb hr (fun t ht _ => ⟨_, rfl, ⟨by simp [f_settled, opt_n, opt_s, f2], ht⟩, hS.F ht⟩) hS.2.2 d_A_settled_18
  · have fi1 : xi (σ.1 0) (nI i1) = some i1 := xi_nI hi1 (by omega)
    refine W.eq (g2 := F0 m 5 ls [.ref (ad (100 + i1))]) rfl ?_
    refine lv_astore_n (lv' := [(3, .ref (ad (100 + i1))), (0, .ref (ad 0)), (1, .int (nI i1)), (2, .int x2)]) hx hb d_A_settled_5 rfl hl (by decide) rfl (fun ls hl => ?_)
    refine lv_aload_n hx hb d_A_settled_6 rfl (lv_at hl 0 rfl) ?_
    refine lv_ifnull hx hb d_A_settled_7 ?_
    refine lv_iload_n hx hb d_A_settled_10 rfl (lv_at hl 3 rfl) ?_
    refine xr_call (va_runS (As := [.int x2]) (rest := []) ⟨hx, hb, hml, hown, htw⟩ (c_A_isMetal x2) (va_cwS 1 htw (gS u_135 u_136 u_1 u_137) rfl rfl rfl hd_A_isMetal.2 ⟨Nat.le_of_ble_eq_true rfl, Nat.le_of_ble_eq_true rfl⟩) ⟨xP_blind, xP_of hK hN⟩ rfl rfl hl.1 rfl (lv_room (Nat.le_of_ble_eq_true rfl)) d_A_settled_11 ⟨by decide, by decide⟩) hS (fun v H_ locs hp hS => ?_)
    obtain ⟨rfl, hHe⟩ := hp
    rw [hHe] at hS ⊢
    refine W.eq (g2 := F0 m 14 ls [.int (bI (xm x2))]) rfl ?_
    refine lv_if_ne (tgt := 19) hx hb d_A_settled_14 (by decide) (fun c_3 => ?_) (fun c_3 => ?_)
    · have c_3 : (xm x2) = true := bI_t.mp c_3
      obtain ⟨k4, hk4, rfl⟩ := xm_of c_3
      have xk4 : xi 4 (nI k4) = some k4 := xi_nI hk4 (by decide)
      refine lv_aload_n hx hb d_A_settled_19 rfl (lv_at hl 0 rfl) ?_
      refine lv_iload_n hx hb d_A_settled_20 rfl (lv_at hl 3 rfl) ?_
      refine xr_call (va_runV (As := [.int (nI k4)]) (rest := []) ⟨hx, hb, hml, hown, htw⟩ (c_B_middleOf (ad := ad) hR hI hw i1 hi1 k4 (by omega)) (cwV 1 htw (gV u_250 u_251 u_252 u_4 u_253) rfl rfl rfl hd_B_middleOf ⟨Nat.le_of_ble_eq_true rfl, Nat.le_of_ble_eq_true rfl⟩) ⟨xP_blind, hw.recv hK (ci := 1) (t := 100 + i1) rfl (rb i1 hi1) rfl, xP_of hK hN⟩ rfl rfl hl.1 rfl (lv_room (Nat.le_of_ble_eq_true rfl)) d_A_settled_21 ⟨by decide, by decide⟩) hS (fun v H_ locs hp hS => ?_)
      obtain ⟨rfl, hHe⟩ := hp
      rw [hHe] at hS ⊢
      refine W.eq (g2 := F0 m 24 ls [.int (mid (σ.2.1 (20 + i1)) k4)]) rfl ?_
      exact W.iret (v := mid (σ.2.1 (20 + i1)) k4) hx hb hr (fun t ht _ => ⟨_, rfl, ⟨by simp [f_settled, opt_n, opt_s, fi1, xk4, c_3], ht⟩, hS.F ht⟩) hS.2.2 d_A_settled_24
    · have c_3 : (xm x2) = false := bI_f.mp c_3
      have f5 : xi 4 x2 = none := xm_xi c_3
      refine lv_iconst (v := (-1)) hx hb d_A_settled_17 (by decide) ?_
      exact W.iret (v := (-1)) hx hb hr (fun t ht _ => ⟨_, rfl, ⟨by simp [f_settled, opt_n, opt_s, fi1, f5, c_3], ht⟩, hS.F ht⟩) hS.2.2 d_A_settled_18
set_option maxHeartbeats 4000000 in
set_option maxRecDepth 100000 in
theorem c_A_disputed {l : Launch} {D : va_G} {K : Nat → ClassId} {B : Nat} {ad : Nat → Nat} {w : Nat → Option va_E} {H : Heap} {σ : xS} (hR : RepX K σ ad w) (hI : Inv σ) (hw : xw D vwCl B ad w H) (x1 x2 : Int32) : xC l D K B y_A_disputed b_A_disputed 4 (some .boolean) rm_A_disputed [.ref (ad 0), .int x1, .int x2] H (fun v H1 => v = some (.int (bI (f_disputed σ x1 x2))) ∧ H1 = H) := by
  refine Met.ofW (cc := b_A_disputed) (maxL := 4) (ret := (some .boolean)) (by decide) rfl ?_
  intro p e s m args below meth c s₁ B0 hml hv
  obtain ⟨rfl, hsz, hK, hN⟩ := hv
  have hx := B0.exec
  have hb := B0.bytes
  have hr := B0.returns
  have htw : ∀ w ∈ xW0, w.before [.ref (ad 0), .int x1, .int x2].toArray s = true := fun w h => atoms_spec (ws := Cond.code y_A_disputed b_A_disputed 4 (some .boolean) :: xW0) B0.pre w (List.mem_cons_of_mem _ h)
  have hown : s.vm.findClass R_A = some m.cls := findClass_of_methodNamed B0.named
  have hlocks := B0.notSynchronized
  subst hsz
  have hS : va_S (fun q => B ≤ q) s.heap s.heap [] := va_S.rf
  have hl := lv_entry ([.ref (ad 0), .int x1, .int x2]) (n := 4) (Nat.le_of_ble_eq_true rfl)
  rw [lg_entry_eq]
  generalize (lg_sl ([.ref (ad 0), .int x1, .int x2]) ++ List.replicate (4 - (lg_sl ([.ref (ad 0), .int x1, .int x2])).length) Slot.unset).toArray = ls at hl ⊢
  have hl : lv_has ls 4 [(0, .ref (ad 0)), (1, .int x1), (2, .int x2)] := hl
  have hH : s.heap = s.heap := rfl
  obtain ⟨r0, r1, r2, r3, r4, r5, r6, r7, rb, rba, rbt, rbo, rs, rss, rr⟩ := id hR
  obtain ⟨hnb, hns, hnr, hpc, hst, hto, htl, hrm, hpa, hwt, hdf, hds⟩ := id hI
  refine lv_aload_n hx hb d_A_disputed_0 rfl (lv_at hl 0 rfl) ?_
  refine lv_iload_n hx hb d_A_disputed_1 rfl (lv_at hl 1 rfl) ?_
  refine xr_call (va_runV (As := [.int x1]) (rest := []) ⟨hx, hb, hml, hown, htw⟩ (c_A_batchAt (ad := ad) hR hnb hns hw x1) (cwV 1 htw (gV u_131 u_133 us_1 u_1 u_134) rfl rfl rfl hd_A_batchAt ⟨Nat.le_of_ble_eq_true rfl, Nat.le_of_ble_eq_true rfl⟩) ⟨xP_blind, hw.recv hK (ci := 0) (t := 0) rfl r0 rfl, xP_of hK hN⟩ rfl rfl hl.1 rfl (lv_room (Nat.le_of_ble_eq_true rfl)) d_A_disputed_2 ⟨by decide, by decide⟩) hS (fun v H_ locs hp hS => ?_)
  obtain ⟨hHe, hp⟩ := hp
  rw [hHe] at hS ⊢
  rcases hp with ⟨f2, rfl⟩ | ⟨i1, hi1, rfl, rfl⟩
  · refine W.eq (g2 := F0 m 5 ls [.null]) rfl ?_
    refine lv_astore_nN (lv' := [(3, .null), (0, .ref (ad 0)), (1, .int x1), (2, .int x2)]) hx hb d_A_disputed_5 rfl hl (by decide) rfl (fun ls hl => ?_)
    refine lv_aload_nN hx hb d_A_disputed_6 rfl (lv_at hl 0 rfl) ?_
    refine lv_ifnullN (tgt := 33) hx hb d_A_disputed_7 (by decide) ?_
    refine lv_iconst (v := 0) hx hb d_A_disputed_33 (by decide) ?_
    exact W.zret (v := 0) hx hb hr (by decide) (fun t ht _ => ⟨_, rfl, ⟨bI_0 (by simp [f_disputed, opt_n, opt_s, f2]), ht⟩, hS.F ht⟩) hS.2.2 d_A_disputed_34
  · have fi1 : xi (σ.1 0) (nI i1) = some i1 := xi_nI hi1 (by omega)
    refine W.eq (g2 := F0 m 5 ls [.ref (ad (100 + i1))]) rfl ?_
    refine lv_astore_n (lv' := [(3, .ref (ad (100 + i1))), (0, .ref (ad 0)), (1, .int (nI i1)), (2, .int x2)]) hx hb d_A_disputed_5 rfl hl (by decide) rfl (fun ls hl => ?_)
    refine lv_aload_n hx hb d_A_disputed_6 rfl (lv_at hl 0 rfl) ?_
    refine lv_ifnull hx hb d_A_disputed_7 ?_
    refine lv_iload_n hx hb d_A_disputed_10 rfl (lv_at hl 3 rfl) ?_
    refine xr_call (va_runS (As := [.int x2]) (rest := []) ⟨hx, hb, hml, hown, htw⟩ (c_A_isMetal x2) (va_cwS 1 htw (gS u_135 u_136 u_1 u_137) rfl rfl rfl hd_A_isMetal.2 ⟨Nat.le_of_ble_eq_true rfl, Nat.le_of_ble_eq_true rfl⟩) ⟨xP_blind, xP_of hK hN⟩ rfl rfl hl.1 rfl (lv_room (Nat.le_of_ble_eq_true rfl)) d_A_disputed_11 ⟨by decide, by decide⟩) hS (fun v H_ locs hp hS => ?_)
    obtain ⟨rfl, hHe⟩ := hp
    rw [hHe] at hS ⊢
    refine W.eq (g2 := F0 m 14 ls [.int (bI (xm x2))]) rfl ?_
    refine lv_if_eq (tgt := 33) hx hb d_A_disputed_14 (by decide) (fun c_3 => ?_) (fun c_3 => ?_)
    · have c_3 : (xm x2) = false := bI_f.mp c_3
      have f4 : xi 4 x2 = none := xm_xi c_3
      refine lv_iconst (v := 0) hx hb d_A_disputed_33 (by decide) ?_
      exact W.zret (v := 0) hx hb hr (by decide) (fun t ht _ => ⟨_, rfl, ⟨bI_0 (by simp [f_disputed, opt_n, opt_s, fi1, f4, c_3]), ht⟩, hS.F ht⟩) hS.2.2 d_A_disputed_34
    · have c_3 : (xm x2) = true := bI_t.mp c_3
      obtain ⟨k5, hk5, rfl⟩ := xm_of c_3
      have xk5 : xi 4 (nI k5) = some k5 := xi_nI hk5 (by decide)
      refine lv_aload_n hx hb d_A_disputed_17 rfl (lv_at hl 0 rfl) ?_
      refine lv_iload_n hx hb d_A_disputed_18 rfl (lv_at hl 3 rfl) ?_
      refine xr_call (va_runV (As := [.int (nI k5)]) (rest := []) ⟨hx, hb, hml, hown, htw⟩ (c_B_spreadOf (ad := ad) hR hI hw i1 hi1 k5 (by omega)) (cwV 1 htw (gV u_269 u_270 u_271 u_4 u_272) rfl rfl rfl hd_B_spreadOf ⟨Nat.le_of_ble_eq_true rfl, Nat.le_of_ble_eq_true rfl⟩) ⟨xP_blind, hw.recv hK (ci := 1) (t := 100 + i1) rfl (rb i1 hi1) rfl, xP_of hK hN⟩ rfl rfl hl.1 rfl (lv_room (Nat.le_of_ble_eq_true rfl)) d_A_disputed_19 ⟨by decide, by decide⟩) hS (fun v H_ locs hp hS => ?_)
      obtain ⟨rfl, hHe⟩ := hp
      rw [hHe] at hS ⊢
      refine W.eq (g2 := F0 m 22 ls [.int (spr (σ.2.1 (20 + i1)) k5)]) rfl ?_
      refine lv_aload_n hx hb d_A_disputed_22 rfl (lv_at hl 1 rfl) ?_
      refine xr_get (ci := 0) (v := .int (σ.2.1 0 1)) (C := R_A) (T := T_A) (N := 10) hx hb htw in_A hown hK hw 0 r0 rfl rfl 8 (by decide) (htw _ u_49) (fun _ h9 => h9) rfl d_A_disputed_23 ?_
      refine lv_icmp_le (tgt := 33) hx hb d_A_disputed_26 (by decide) (fun c_6 => ?_) (fun c_6 => ?_)
      · refine lv_iconst (v := 0) hx hb d_A_disputed_33 (by decide) ?_
        exact W.zret (v := 0) hx hb hr (by decide) (fun t ht _ => ⟨_, rfl, ⟨bI_0 (by simp [f_disputed, opt_n, opt_s, fi1, xk5, c_3, c_6]), ht⟩, hS.F ht⟩) hS.2.2 d_A_disputed_34
      · refine lv_iconst (v := 1) hx hb d_A_disputed_29 (by decide) ?_
        refine lv_goto (tgt := 34) hx hb d_A_disputed_30 (by decide) ?_
        exact W.zret (v := 1) hx hb hr (by decide) (fun t ht _ => ⟨_, rfl, ⟨bI_1 (by simp [f_disputed, opt_n, opt_s, fi1, xk5, c_3, c_6]), ht⟩, hS.F ht⟩) hS.2.2 d_A_disputed_34
set_option maxHeartbeats 4000000 in
set_option maxRecDepth 100000 in
theorem c_A_worth {l : Launch} {D : va_G} {K : Nat → ClassId} {B : Nat} {ad : Nat → Nat} {w : Nat → Option va_E} {H : Heap} {σ : xS} (hR : RepX K σ ad w) (hI : Inv σ) (hw : xw D vwCl B ad w H) (x1 x2 : Int32) : xC l D K B y_A_worth b_A_worth 4 (some .long) rm_A_worth [.ref (ad 0), .int x1, .int x2] H (fun v H1 => v = some (.long (f_worth σ x1 x2)) ∧ H1 = H) := by
  refine Met.ofW (cc := b_A_worth) (maxL := 4) (ret := (some .long)) (by decide) rfl ?_
  intro p e s m args below meth c s₁ B0 hml hv
  obtain ⟨rfl, hsz, hK, hN⟩ := hv
  have hx := B0.exec
  have hb := B0.bytes
  have hr := B0.returns
  have htw : ∀ w ∈ xW0, w.before [.ref (ad 0), .int x1, .int x2].toArray s = true := fun w h => atoms_spec (ws := Cond.code y_A_worth b_A_worth 4 (some .long) :: xW0) B0.pre w (List.mem_cons_of_mem _ h)
  have hown : s.vm.findClass R_A = some m.cls := findClass_of_methodNamed B0.named
  have hlocks := B0.notSynchronized
  subst hsz
  have hS : va_S (fun q => B ≤ q) s.heap s.heap [] := va_S.rf
  have hl := lv_entry ([.ref (ad 0), .int x1, .int x2]) (n := 4) (Nat.le_of_ble_eq_true rfl)
  rw [lg_entry_eq]
  generalize (lg_sl ([.ref (ad 0), .int x1, .int x2]) ++ List.replicate (4 - (lg_sl ([.ref (ad 0), .int x1, .int x2])).length) Slot.unset).toArray = ls at hl ⊢
  have hl : lv_has ls 4 [(0, .ref (ad 0)), (1, .int x1), (2, .int x2)] := hl
  have hH : s.heap = s.heap := rfl
  obtain ⟨r0, r1, r2, r3, r4, r5, r6, r7, rb, rba, rbt, rbo, rs, rss, rr⟩ := id hR
  obtain ⟨hnb, hns, hnr, hpc, hst, hto, htl, hrm, hpa, hwt, hdf, hds⟩ := id hI
  refine lv_aload_n hx hb d_A_worth_0 rfl (lv_at hl 0 rfl) ?_
  refine lv_iload_n hx hb d_A_worth_1 rfl (lv_at hl 1 rfl) ?_
  refine xr_call (va_runV (As := [.int x1]) (rest := []) ⟨hx, hb, hml, hown, htw⟩ (c_A_batchAt (ad := ad) hR hnb hns hw x1) (cwV 1 htw (gV u_131 u_133 us_1 u_1 u_134) rfl rfl rfl hd_A_batchAt ⟨Nat.le_of_ble_eq_true rfl, Nat.le_of_ble_eq_true rfl⟩) ⟨xP_blind, hw.recv hK (ci := 0) (t := 0) rfl r0 rfl, xP_of hK hN⟩ rfl rfl hl.1 rfl (lv_room (Nat.le_of_ble_eq_true rfl)) d_A_worth_2 ⟨by decide, by decide⟩) hS (fun v H_ locs hp hS => ?_)
  obtain ⟨hHe, hp⟩ := hp
  rw [hHe] at hS ⊢
  rcases hp with ⟨f2, rfl⟩ | ⟨i1, hi1, rfl, rfl⟩
  · refine W.eq (g2 := F0 m 5 ls [.null]) rfl ?_
    refine lv_astore_nN (lv' := [(3, .null), (0, .ref (ad 0)), (1, .int x1), (2, .int x2)]) hx hb d_A_worth_5 rfl hl (by decide) rfl (fun ls hl => ?_)
    refine lv_aload_nN hx hb d_A_worth_6 rfl (lv_at hl 0 rfl) ?_
    refine lv_ifnullN (tgt := 14) hx hb d_A_worth_7 (by decide) ?_
    refine lv_ldc2 (v := (-1)) hx hb hown (htw _ u_191) d_A_worth_14 ?_
    exact W.lret (v := (-1)) hx hb hr (fun t ht _ => ⟨_, rfl, ⟨by simp [f_worth, opt_n, opt_s, f2], ht⟩, hS.F ht⟩) hS.2.2 d_A_worth_17
  · have fi1 : xi (σ.1 0) (nI i1) = some i1 := xi_nI hi1 (by omega)
    refine W.eq (g2 := F0 m 5 ls [.ref (ad (100 + i1))]) rfl ?_
    refine lv_astore_n (lv' := [(3, .ref (ad (100 + i1))), (0, .ref (ad 0)), (1, .int (nI i1)), (2, .int x2)]) hx hb d_A_worth_5 rfl hl (by decide) rfl (fun ls hl => ?_)
    refine lv_aload_n hx hb d_A_worth_6 rfl (lv_at hl 0 rfl) ?_
    refine lv_ifnull hx hb d_A_worth_7 ?_
    refine lv_iload_n hx hb d_A_worth_10 rfl (lv_at hl 3 rfl) ?_
    refine lv_if_ge (tgt := 18) hx hb d_A_worth_11 (by decide) (fun c_3 => ?_) (fun c_3 => ?_)
    · refine lv_aload_n hx hb d_A_worth_18 rfl (lv_at hl 1 rfl) ?_
      refine xr_get (ci := 0) (v := .ref (ad 4)) (C := R_A) (T := T_A) (N := 10) hx hb htw in_A hown hK hw 0 r0 rfl rfl 6 (by decide) (htw _ u_47) (fun _ h9 => h9) rfl d_A_worth_19 ?_
      refine lv_aload_n hx hb d_A_worth_22 rfl (lv_at hl 0 rfl) ?_
      refine xr_get (ci := 1) (v := .ref (ad (110 + i1))) (C := R_B) (T := T_B) (N := 9) hx hb htw in_B hown hK hw (100 + i1) (rb i1 hi1) rfl rfl 2 (by decide) (htw _ u_94) (fun _ h9 => h9) rfl d_A_worth_23 ?_
      refine lv_iload_n hx hb d_A_worth_26 rfl (lv_at hl 3 rfl) ?_
      refine xr_call (va_runV (As := [.ref (ad (110 + i1)), .int x2]) (rest := []) ⟨hx, hb, hml, hown, htw⟩ (c_P_centsFor (ad := ad) hR hI hw (110 + i1) (σ.2.2.1 (10 + i1)) (rba i1 hi1) x2) (cwV 2 htw (gV u_221 u_222 u_223 u_2 u_224) rfl rfl rfl hd_P_centsFor ⟨Nat.le_of_ble_eq_true rfl, Nat.le_of_ble_eq_true rfl⟩) ⟨xP_blind, hw.recv hK (ci := 4) (t := 4) rfl r4 rfl, xP_of hK hN⟩ rfl rfl hl.1 rfl (lv_room (Nat.le_of_ble_eq_true rfl)) d_A_worth_27 ⟨by decide, by decide⟩) hS (fun v H_ locs hp hS => ?_)
      obtain ⟨rfl, hHe⟩ := hp
      rw [hHe] at hS ⊢
      refine W.eq (g2 := F0 m 30 ls [.long (wor σ (σ.2.2.1 (10 + i1)) x2)]) rfl ?_
      exact W.lret (v := wor σ (σ.2.2.1 (10 + i1)) x2) hx hb hr (fun t ht _ => ⟨_, rfl, ⟨by simp [f_worth, opt_n, opt_s, fi1, c_3], ht⟩, hS.F ht⟩) hS.2.2 d_A_worth_30
    · refine lv_ldc2 (v := (-1)) hx hb hown (htw _ u_191) d_A_worth_14 ?_
      exact W.lret (v := (-1)) hx hb hr (fun t ht _ => ⟨_, rfl, ⟨by simp [f_worth, opt_n, opt_s, fi1, c_3], ht⟩, hS.F ht⟩) hS.2.2 d_A_worth_17
set_option maxHeartbeats 4000000 in
set_option maxRecDepth 100000 in
theorem c_A_cls {l : Launch} {D : va_G} {K : Nat → ClassId} {B : Nat} {ad : Nat → Nat} {w : Nat → Option va_E} {H : Heap} {σ : xS} (hR : RepX K σ ad w) (hI : Inv σ) (hw : xw D vwCl B ad w H) (x1 : Int32) : xC l D K B y_A_cls b_A_cls 5 (some .int) rm_A_cls [.ref (ad 0), .int x1] H (fun v H1 => v = some (.int (f_cls σ x1)) ∧ H1 = H) := by
  refine Met.ofW (cc := b_A_cls) (maxL := 5) (ret := (some .int)) (by decide) rfl ?_
  intro p e s m args below meth c s₁ B0 hml hv
  obtain ⟨rfl, hsz, hK, hN⟩ := hv
  have hx := B0.exec
  have hb := B0.bytes
  have hr := B0.returns
  have htw : ∀ w ∈ xW0, w.before [.ref (ad 0), .int x1].toArray s = true := fun w h => atoms_spec (ws := Cond.code y_A_cls b_A_cls 5 (some .int) :: xW0) B0.pre w (List.mem_cons_of_mem _ h)
  have hown : s.vm.findClass R_A = some m.cls := findClass_of_methodNamed B0.named
  have hlocks := B0.notSynchronized
  subst hsz
  have hS : va_S (fun q => B ≤ q) s.heap s.heap [] := va_S.rf
  have hl := lv_entry ([.ref (ad 0), .int x1]) (n := 5) (Nat.le_of_ble_eq_true rfl)
  rw [lg_entry_eq]
  generalize (lg_sl ([.ref (ad 0), .int x1]) ++ List.replicate (5 - (lg_sl ([.ref (ad 0), .int x1])).length) Slot.unset).toArray = ls at hl ⊢
  have hl : lv_has ls 5 [(0, .ref (ad 0)), (1, .int x1)] := hl
  have hH : s.heap = s.heap := rfl
  obtain ⟨r0, r1, r2, r3, r4, r5, r6, r7, rb, rba, rbt, rbo, rs, rss, rr⟩ := id hR
  obtain ⟨hnb, hns, hnr, hpc, hst, hto, htl, hrm, hpa, hwt, hdf, hds⟩ := id hI
  refine lv_aload_n hx hb d_A_cls_0 rfl (lv_at hl 0 rfl) ?_
  refine lv_iload_n hx hb d_A_cls_1 rfl (lv_at hl 1 rfl) ?_
  refine xr_call (va_runV (As := [.int x1]) (rest := []) ⟨hx, hb, hml, hown, htw⟩ (c_A_batchAt (ad := ad) hR hnb hns hw x1) (cwV 1 htw (gV u_131 u_133 us_1 u_1 u_134) rfl rfl rfl hd_A_batchAt ⟨Nat.le_of_ble_eq_true rfl, Nat.le_of_ble_eq_true rfl⟩) ⟨xP_blind, hw.recv hK (ci := 0) (t := 0) rfl r0 rfl, xP_of hK hN⟩ rfl rfl hl.1 rfl (lv_room (Nat.le_of_ble_eq_true rfl)) d_A_cls_2 ⟨by decide, by decide⟩) hS (fun v H_ locs hp hS => ?_)
  obtain ⟨hHe, hp⟩ := hp
  rw [hHe] at hS ⊢
  rcases hp with ⟨f2, rfl⟩ | ⟨i1, hi1, rfl, rfl⟩
  · refine W.eq (g2 := F0 m 5 ls [.null]) rfl ?_
    refine lv_astore_nN (lv' := [(2, .null), (0, .ref (ad 0)), (1, .int x1)]) hx hb d_A_cls_5 rfl hl (by decide) rfl (fun ls hl => ?_)
    refine lv_aload_nN hx hb d_A_cls_6 rfl (lv_at hl 0 rfl) ?_
    refine lv_ifnullN (tgt := 17) hx hb d_A_cls_7 (by decide) ?_
    refine lv_iconst (v := (-1)) hx hb d_A_cls_17 (by decide) ?_
    exact W.iret (v := (-1)) hx hb hr (fun t ht _ => ⟨_, rfl, ⟨by simp [f_cls, opt_n, opt_s, f2], ht⟩, hS.F ht⟩) hS.2.2 d_A_cls_18
  · have fi1 : xi (σ.1 0) (nI i1) = some i1 := xi_nI hi1 (by omega)
    refine W.eq (g2 := F0 m 5 ls [.ref (ad (100 + i1))]) rfl ?_
    refine lv_astore_n (lv' := [(2, .ref (ad (100 + i1))), (0, .ref (ad 0)), (1, .int (nI i1))]) hx hb d_A_cls_5 rfl hl (by decide) rfl (fun ls hl => ?_)
    refine lv_aload_n hx hb d_A_cls_6 rfl (lv_at hl 0 rfl) ?_
    refine lv_ifnull hx hb d_A_cls_7 ?_
    refine lv_aload_n hx hb d_A_cls_10 rfl (lv_at hl 0 rfl) ?_
    refine xr_get (ci := 1) (v := .int (bI (σ.2.2.2 2 i1))) (C := R_B) (T := T_B) (N := 9) hx hb htw in_B hown hK hw (100 + i1) (rb i1 hi1) rfl rfl 7 (by decide) (htw _ u_102) (fun _ h9 => h9) rfl d_A_cls_11 ?_
    refine lv_if_eq (tgt := 19) hx hb d_A_cls_14 (by decide) (fun c_3 => ?_) (fun c_3 => ?_)
    · have c_3 : (σ.2.2.2 2 i1) = false := bI_f.mp c_3
      refine lv_iconst (v := 0) hx hb d_A_cls_19 (by decide) ?_
      refine lv_istore_n (lv' := [(3, .int 0), (2, .ref (ad (100 + i1))), (0, .ref (ad 0)), (1, .int (nI i1))]) hx hb d_A_cls_20 rfl hl (by decide) rfl (fun ls hl => ?_)
      refine xloop (σ.1 2) (fun n H locs ls => H = s.heap ∧ va_S (fun q => B ≤ q) s.heap H locs ∧ (fst_ (fun r => fits_ σ r i1) (σ.1 2) 0 = fst_ (fun r => fits_ σ r i1) (σ.1 2 - n) n) ∧ lv_has ls 5 [(3, .int (nI n)), (2, .ref (ad (100 + i1))), (0, .ref (ad 0)), (1, .int (nI i1))]) 0 (Nat.zero_le _) ⟨rfl, hS, rfl, lv_sub hl [0, 1, 2, 3] rfl⟩ (fun n H locs ls hn hJ ih => ?_)
      obtain ⟨rfl, hS, hex, hl⟩ := hJ
      refine lv_iload_n hx hb d_A_cls_21 rfl (lv_at hl 0 rfl) ?_
      refine lv_aload_n hx hb d_A_cls_22 rfl (lv_at hl 2 rfl) ?_
      refine xr_get (ci := 0) (v := .int (nI (σ.1 2))) (C := R_A) (T := T_A) (N := 10) hx hb htw in_A hown hK hw 0 r0 rfl rfl 5 (by decide) (htw _ u_46) (fun _ h9 => h9) rfl d_A_cls_23 ?_
      refine lv_icmp_ge (tgt := 71) hx hb d_A_cls_26 (by decide) (fun c_4 => ?_) (fun c_4 => ?_)
      · have c_4 : (σ.1 2) ≤ n := (nLE (a := σ.1 2) (b := n) (by omega) (by omega)).mp c_4
        refine lv_bipush (v := 99) hx hb d_A_cls_71 (by decide) ?_
        exact W.iret (v := 99) hx hb hr (fun t ht _ => ⟨_, rfl, ⟨by simp [f_cls, opt_n, opt_s, fi1, c_3, hex, show σ.1 2 - n = 0 by omega, fst_], ht⟩, hS.F ht⟩) hS.2.2 d_A_cls_73
      · have c_4 : ¬ (σ.1 2) ≤ n := fun z => c_4 ((nLE (a := σ.1 2) (b := n) (by omega) (by omega)).mpr z)
        refine lv_aload_n hx hb d_A_cls_29 rfl (lv_at hl 2 rfl) ?_
        refine xr_get (ci := 0) (v := .ref (ad 3)) (C := R_A) (T := T_A) (N := 10) hx hb htw in_A hown hK hw 0 r0 rfl rfl 4 (by decide) (htw _ u_45) (fun _ h9 => h9) rfl d_A_cls_30 ?_
        refine lv_iload_n hx hb d_A_cls_33 rfl (lv_at hl 0 rfl) ?_
        refine xr_aldq (i := nI n) hx hb hK hw 3 4 r3 rfl rfl (xvin (a := n) rfl (by omega) (by omega)) d_A_cls_34 ?_
        refine W.eq (g2 := F0 m 35 ls (.ref (ad (160 + n)) :: [])) (congrArg (fun z => F0 m 35 ls (va_rf z :: [])) (show (if (nI n).toNatClampNeg < σ.1 2 then some (ad (160 + (nI n).toNatClampNeg)) else none) = some (ad (160 + n)) by rw [xcl (a := n) rfl (by omega)]; exact if_pos (by omega))) ?_
        refine lv_astore (lv' := [(4, .ref (ad (160 + n))), (3, .int (nI n)), (2, .ref (ad (100 + i1))), (0, .ref (ad 0)), (1, .int (nI i1))]) hx hb d_A_cls_35 hl (by decide) rfl (fun ls hl => ?_)
        refine lv_aload hx hb d_A_cls_37 (lv_at hl 0 rfl) ?_
        refine lv_ifnull hx hb d_A_cls_39 ?_
        refine lv_aload hx hb d_A_cls_42 (lv_at hl 0 rfl) ?_
        refine lv_aload_n hx hb d_A_cls_44 rfl (lv_at hl 2 rfl) ?_
        refine lv_aload_n hx hb d_A_cls_45 rfl (lv_at hl 3 rfl) ?_
        refine xr_get (ci := 0) (v := .int (σ.2.1 0 0)) (C := R_A) (T := T_A) (N := 10) hx hb htw in_A hown hK hw 0 r0 rfl rfl 7 (by decide) (htw _ u_48) (fun _ h9 => h9) rfl d_A_cls_46 ?_
        refine lv_aload_n hx hb d_A_cls_49 rfl (lv_at hl 3 rfl) ?_
        refine xr_get (ci := 0) (v := .int (σ.2.1 0 1)) (C := R_A) (T := T_A) (N := 10) hx hb htw in_A hown hK hw 0 r0 rfl rfl 8 (by decide) (htw _ u_49) (fun _ h9 => h9) rfl d_A_cls_50 ?_
        refine xr_call (va_runV (As := [.ref (ad (100 + i1)), .int (σ.2.1 0 0), .int (σ.2.1 0 1)]) (rest := []) ⟨hx, hb, hml, hown, htw⟩ (c_R_fits (ad := ad) hR hI hw n (by omega) i1 hi1) (cwV 3 htw (gV u_305 u_306 u_307 u_8 u_308) rfl rfl rfl hd_R_fits ⟨Nat.le_of_ble_eq_true rfl, Nat.le_of_ble_eq_true rfl⟩) ⟨xP_blind, hw.recv hK (ci := 3) (t := 160 + n) rfl (rr n (by omega)) rfl, xP_of hK hN⟩ rfl rfl hl.1 rfl (lv_room (Nat.le_of_ble_eq_true rfl)) d_A_cls_53 ⟨by decide, by decide⟩) hS (fun v H_ locs hp hS => ?_)
        obtain ⟨rfl, hHe⟩ := hp
        rw [hHe] at hS ⊢
        refine W.eq (g2 := F0 m 56 ls [.int (bI (fits_ σ n i1))]) rfl ?_
        refine lv_if_eq (tgt := 65) hx hb d_A_cls_56 (by decide) (fun c_5 => ?_) (fun c_5 => ?_)
        · have c_5 : (fits_ σ n i1) = false := bI_f.mp c_5
          refine lv_iinc (v := nI n + 1) (lv' := [(3, .int (nI n + 1)), (4, .ref (ad (160 + n))), (2, .ref (ad (100 + i1))), (0, .ref (ad 0)), (1, .int (nI i1))]) hx hb d_A_cls_65 hl (k := 1) rfl rfl (by decide) rfl (fun ls hl => ?_)
          refine lv_goto (tgt := 21) hx hb d_A_cls_68 (by decide) ?_
          refine ih (by omega) _ _ _ ⟨rfl, hS, ?_, ?_⟩
          · rw [hex, fst_s (by omega), c_5]; rfl
          · rw [show nI (n + 1) = nI n + 1 from nI_succ n]; exact lv_sub hl [0, 2, 3, 4] rfl
        · have c_5 : (fits_ σ n i1) = true := bI_t.mp c_5
          refine lv_aload hx hb d_A_cls_59 (lv_at hl 0 rfl) ?_
          refine xr_get (ci := 3) (v := .int (σ.2.1 6 n)) (C := R_R) (T := T_R) (N := 4) hx hb htw in_R hown hK hw (160 + n) (rr n (by omega)) rfl rfl 0 (by decide) (htw _ u_288) (fun _ h9 => h9) rfl d_A_cls_61 ?_
          exact W.iret (v := σ.2.1 6 n) hx hb hr (fun t ht _ => ⟨_, rfl, ⟨by simp [f_cls, opt_n, opt_s, fi1, c_3, c_5, hex, fst_s (p := fun r => fits_ σ r i1) (show n < σ.1 2 by omega)], ht⟩, hS.F ht⟩) hS.2.2 d_A_cls_64
    · have c_3 : (σ.2.2.2 2 i1) = true := bI_t.mp c_3
      refine lv_iconst (v := (-1)) hx hb d_A_cls_17 (by decide) ?_
      exact W.iret (v := (-1)) hx hb hr (fun t ht _ => ⟨_, rfl, ⟨by simp [f_cls, opt_n, opt_s, fi1, c_3], ht⟩, hS.F ht⟩) hS.2.2 d_A_cls_18
set_option maxHeartbeats 4000000 in
set_option maxRecDepth 100000 in
theorem c_A_dispute {l : Launch} {D : va_G} {K : Nat → ClassId} {B : Nat} {ad : Nat → Nat} {w : Nat → Option va_E} {H : Heap} {σ : xS} (hR : RepX K σ ad w) (hI : Inv σ) (hw : xw D vwCl B ad w H) (x1 : Int32) : xC l D K B y_A_dispute b_A_dispute 5 (some .int) rm_A_dispute [.ref (ad 0), .int x1] H (fun v H1 => v = some (.int (f_dispute σ x1)) ∧ H1 = H) := by
  refine Met.ofW (cc := b_A_dispute) (maxL := 5) (ret := (some .int)) (by decide) rfl ?_
  intro p e s m args below meth c s₁ B0 hml hv
  obtain ⟨rfl, hsz, hK, hN⟩ := hv
  have hx := B0.exec
  have hb := B0.bytes
  have hr := B0.returns
  have htw : ∀ w ∈ xW0, w.before [.ref (ad 0), .int x1].toArray s = true := fun w h => atoms_spec (ws := Cond.code y_A_dispute b_A_dispute 5 (some .int) :: xW0) B0.pre w (List.mem_cons_of_mem _ h)
  have hown : s.vm.findClass R_A = some m.cls := findClass_of_methodNamed B0.named
  have hlocks := B0.notSynchronized
  subst hsz
  have hS : va_S (fun q => B ≤ q) s.heap s.heap [] := va_S.rf
  have hl := lv_entry ([.ref (ad 0), .int x1]) (n := 5) (Nat.le_of_ble_eq_true rfl)
  rw [lg_entry_eq]
  generalize (lg_sl ([.ref (ad 0), .int x1]) ++ List.replicate (5 - (lg_sl ([.ref (ad 0), .int x1])).length) Slot.unset).toArray = ls at hl ⊢
  have hl : lv_has ls 5 [(0, .ref (ad 0)), (1, .int x1)] := hl
  have hH : s.heap = s.heap := rfl
  obtain ⟨r0, r1, r2, r3, r4, r5, r6, r7, rb, rba, rbt, rbo, rs, rss, rr⟩ := id hR
  obtain ⟨hnb, hns, hnr, hpc, hst, hto, htl, hrm, hpa, hwt, hdf, hds⟩ := id hI
  refine lv_iconst (v := 0) hx hb d_A_dispute_0 (by decide) ?_
  refine lv_istore_n (lv' := [(2, .int 0), (0, .ref (ad 0)), (1, .int x1)]) hx hb d_A_dispute_1 rfl hl (by decide) rfl (fun ls hl => ?_)
  refine lv_iconst (v := 0) hx hb d_A_dispute_2 (by decide) ?_
  refine lv_istore_n (lv' := [(3, .int 0), (2, .int 0), (0, .ref (ad 0)), (1, .int x1)]) hx hb d_A_dispute_3 rfl hl (by decide) rfl (fun ls hl => ?_)
  refine xloop (σ.1 0) (fun n H locs ls => H = s.heap ∧ va_S (fun q => B ≤ q) s.heap H locs ∧ ∃ cv : Int32, (dsp (disp σ) x1 (σ.1 0) 0 0 = dsp (disp σ) x1 (σ.1 0 - n) n cv) ∧ lv_has ls 5 [(3, .int (nI n)), (2, .int cv), (0, .ref (ad 0)), (1, .int x1)]) 0 (Nat.zero_le _) ⟨rfl, hS, 0, rfl, lv_sub hl [0, 1, 2, 3] rfl⟩ (fun n H locs ls hn hJ ih => ?_)
  obtain ⟨rfl, hS, cv, hex, hl⟩ := hJ
  refine lv_iload_n hx hb d_A_dispute_4 rfl (lv_at hl 0 rfl) ?_
  refine lv_aload_n hx hb d_A_dispute_5 rfl (lv_at hl 2 rfl) ?_
  refine xr_get (ci := 0) (v := .int (nI (σ.1 0))) (C := R_A) (T := T_A) (N := 10) hx hb htw in_A hown hK hw 0 r0 rfl rfl 1 (by decide) (htw _ u_42) (fun _ h9 => h9) rfl d_A_dispute_6 ?_
  refine lv_icmp_ge (tgt := 61) hx hb d_A_dispute_9 (by decide) (fun c_1 => ?_) (fun c_1 => ?_)
  · have c_1 : (σ.1 0) ≤ n := (nLE (a := σ.1 0) (b := n) (by omega) (by omega)).mp c_1
    refine lv_iconst (v := (-1)) hx hb d_A_dispute_61 (by decide) ?_
    exact W.iret (v := (-1)) hx hb hr (fun t ht _ => ⟨_, rfl, ⟨by rw [f_dispute, hex, show σ.1 0 - n = 0 by omega]; rfl, ht⟩, hS.F ht⟩) hS.2.2 d_A_dispute_62
  · have c_1 : ¬ (σ.1 0) ≤ n := fun z => c_1 ((nLE (a := σ.1 0) (b := n) (by omega) (by omega)).mpr z)
    refine lv_aload_n hx hb d_A_dispute_12 rfl (lv_at hl 2 rfl) ?_
    refine xr_get (ci := 0) (v := .ref (ad 1)) (C := R_A) (T := T_A) (N := 10) hx hb htw in_A hown hK hw 0 r0 rfl rfl 0 (by decide) (htw _ u_41) (fun _ h9 => h9) rfl d_A_dispute_13 ?_
    refine lv_iload_n hx hb d_A_dispute_16 rfl (lv_at hl 0 rfl) ?_
    refine xr_aldq (i := nI n) hx hb hK hw 1 2 r1 rfl rfl (xvin (a := n) rfl (by omega) (by omega)) d_A_dispute_17 ?_
    refine W.eq (g2 := F0 m 18 ls (.ref (ad (100 + n)) :: [])) (congrArg (fun z => F0 m 18 ls (va_rf z :: [])) (show (if (nI n).toNatClampNeg < σ.1 0 then some (ad (100 + (nI n).toNatClampNeg)) else none) = some (ad (100 + n)) by rw [xcl (a := n) rfl (by omega)]; exact if_pos (by omega))) ?_
    refine lv_astore (lv' := [(4, .ref (ad (100 + n))), (3, .int (nI n)), (2, .int cv), (0, .ref (ad 0)), (1, .int x1)]) hx hb d_A_dispute_18 hl (by decide) rfl (fun ls hl => ?_)
    refine lv_aload hx hb d_A_dispute_20 (lv_at hl 0 rfl) ?_
    refine lv_ifnull hx hb d_A_dispute_22 ?_
    refine lv_aload hx hb d_A_dispute_25 (lv_at hl 0 rfl) ?_
    refine xr_get (ci := 1) (v := .int (bI (σ.2.2.2 2 n))) (C := R_B) (T := T_B) (N := 9) hx hb htw in_B hown hK hw (100 + n) (rb n (by omega)) rfl rfl 7 (by decide) (htw _ u_102) (fun _ h9 => h9) rfl d_A_dispute_27 ?_
    refine lv_if_ne (tgt := 55) hx hb d_A_dispute_30 (by decide) (fun c_2 => ?_) (fun c_2 => ?_)
    · have c_2 : (σ.2.2.2 2 n) = true := bI_t.mp c_2
      refine lv_iinc (v := nI n + 1) (lv' := [(3, .int (nI n + 1)), (4, .ref (ad (100 + n))), (2, .int cv), (0, .ref (ad 0)), (1, .int x1)]) hx hb d_A_dispute_55 hl (k := 1) rfl rfl (by decide) rfl (fun ls hl => ?_)
      refine lv_goto (tgt := 4) hx hb d_A_dispute_58 (by decide) ?_
      refine ih (by omega) _ _ _ ⟨rfl, hS, cv, ?_, ?_⟩
      · rw [hex, dsp_s (by omega)]; simp [disp, c_2]
      · rw [show nI (n + 1) = nI n + 1 from nI_succ n]; exact lv_sub hl [0, 2, 3, 4] rfl
    · have c_2 : (σ.2.2.2 2 n) = false := bI_f.mp c_2
      refine lv_aload hx hb d_A_dispute_33 (lv_at hl 0 rfl) ?_
      refine lv_aload_n hx hb d_A_dispute_35 rfl (lv_at hl 3 rfl) ?_
      refine xr_get (ci := 0) (v := .int (σ.2.1 0 1)) (C := R_A) (T := T_A) (N := 10) hx hb htw in_A hown hK hw 0 r0 rfl rfl 8 (by decide) (htw _ u_49) (fun _ h9 => h9) rfl d_A_dispute_36 ?_
      refine xr_call (va_runV (As := [.int (σ.2.1 0 1)]) (rest := []) ⟨hx, hb, hml, hown, htw⟩ (c_B_hasSpreadAbove (ad := ad) hR hI hw n (by omega) (σ.2.1 0 1)) (cwV 1 htw (gV u_323 u_324 u_325 u_4 u_326) rfl rfl rfl hd_B_hasSpreadAbove ⟨Nat.le_of_ble_eq_true rfl, Nat.le_of_ble_eq_true rfl⟩) ⟨xP_blind, hw.recv hK (ci := 1) (t := 100 + n) rfl (rb n (by omega)) rfl, xP_of hK hN⟩ rfl rfl hl.1 rfl (lv_room (Nat.le_of_ble_eq_true rfl)) d_A_dispute_39 ⟨by decide, by decide⟩) hS (fun v H_ locs hp hS => ?_)
      obtain ⟨rfl, hHe⟩ := hp
      rw [hHe] at hS ⊢
      refine W.eq (g2 := F0 m 42 ls [.int (bI (hasS (σ.2.1 (20 + n)) (σ.2.1 0 1)))]) rfl ?_
      refine lv_if_eq (tgt := 55) hx hb d_A_dispute_42 (by decide) (fun c_3 => ?_) (fun c_3 => ?_)
      · have c_3 : (hasS (σ.2.1 (20 + n)) (σ.2.1 0 1)) = false := bI_f.mp c_3
        refine lv_iinc (v := nI n + 1) (lv' := [(3, .int (nI n + 1)), (4, .ref (ad (100 + n))), (2, .int cv), (0, .ref (ad 0)), (1, .int x1)]) hx hb d_A_dispute_55 hl (k := 1) rfl rfl (by decide) rfl (fun ls hl => ?_)
        refine lv_goto (tgt := 4) hx hb d_A_dispute_58 (by decide) ?_
        refine ih (by omega) _ _ _ ⟨rfl, hS, cv, ?_, ?_⟩
        · rw [hex, dsp_s (by omega)]; simp [disp, c_2, c_3]
        · rw [show nI (n + 1) = nI n + 1 from nI_succ n]; exact lv_sub hl [0, 2, 3, 4] rfl
      · have c_3 : (hasS (σ.2.1 (20 + n)) (σ.2.1 0 1)) = true := bI_t.mp c_3
        refine lv_iload_n hx hb d_A_dispute_45 rfl (lv_at hl 2 rfl) ?_
        refine lv_iload_n hx hb d_A_dispute_46 rfl (lv_at hl 4 rfl) ?_
        refine lv_icmp_ne (tgt := 52) hx hb d_A_dispute_47 (by decide) (fun c_4 => ?_) (fun c_4 => ?_)
        · refine lv_iinc (v := cv + 1) (lv' := [(2, .int (cv + 1)), (4, .ref (ad (100 + n))), (3, .int (nI n)), (0, .ref (ad 0)), (1, .int x1)]) hx hb d_A_dispute_52 hl (k := 2) rfl rfl (by decide) rfl (fun ls hl => ?_)
          refine lv_iinc (v := nI n + 1) (lv' := [(3, .int (nI n + 1)), (2, .int (cv + 1)), (4, .ref (ad (100 + n))), (0, .ref (ad 0)), (1, .int x1)]) hx hb d_A_dispute_55 hl (k := 2) rfl rfl (by decide) rfl (fun ls hl => ?_)
          refine lv_goto (tgt := 4) hx hb d_A_dispute_58 (by decide) ?_
          refine ih (by omega) _ _ _ ⟨rfl, hS, cv + 1, ?_, ?_⟩
          · rw [hex, dsp_s (by omega)]; simp [disp, c_2, c_3, c_4]
          · rw [show nI (n + 1) = nI n + 1 from nI_succ n]; exact lv_sub hl [0, 1, 3, 4] rfl
        · refine lv_iload_n hx hb d_A_dispute_50 rfl (lv_at hl 1 rfl) ?_
          exact W.iret (v := nI n) hx hb hr (fun t ht _ => ⟨_, rfl, ⟨by rw [f_dispute, hex, dsp_s (by omega)]; simp [disp, c_2, c_3, c_4], ht⟩, hS.F ht⟩) hS.2.2 d_A_dispute_51
