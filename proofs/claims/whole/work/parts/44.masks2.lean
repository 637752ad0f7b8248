set_option maxHeartbeats 4000000 in
set_option maxRecDepth 100000 in
theorem c_M_least {l : Launch} {D : va_G} {K : Nat → ClassId} {B : Nat} {H : Heap} (y1 y2 : Int32) : xC l D K B y_M_least b_M_least 2 (some .int) rm_M_least [.int y1, .int y2] H (fun v H1 => v = some (.int (lst y1 y2)) ∧ H1 = H) := by
  refine Met.ofW (cc := b_M_least) (maxL := 2) (ret := (some .int)) (by decide) rfl ?_
  intro p e s m args below meth c s₁ B0 hml hv
  obtain ⟨rfl, hsz, hK, hN⟩ := hv
  have hx := B0.exec
  have hb := B0.bytes
  have hr := B0.returns
  have htw : ∀ w ∈ xW0, w.before [.int y1, .int y2].toArray s = true := fun w h => atoms_spec (ws := Cond.code y_M_least b_M_least 2 (some .int) :: xW0) B0.pre w (List.mem_cons_of_mem _ h)
  have hown : s.vm.findClass R_M = some m.cls := findClass_of_methodNamed B0.named
  have hlocks := B0.notSynchronized
  subst hsz
  have hS : va_S (fun q => B ≤ q) s.heap s.heap [] := va_S.rf
  have hl := lv_entry ([.int y1, .int y2]) (n := 2) (Nat.le_of_ble_eq_true rfl)
  rw [lg_entry_eq]
  generalize (lg_sl ([.int y1, .int y2]) ++ List.replicate (2 - (lg_sl ([.int y1, .int y2])).length) Slot.unset).toArray = ls at hl ⊢
  have hl : lv_has ls 2 [(0, .int y1), (1, .int y2)] := hl
  have hH : s.heap = s.heap := rfl
  refine lv_iload_n hx hb d_M_least_0 rfl (lv_at hl 0 rfl) ?_
  refine lv_iload_n hx hb d_M_least_1 rfl (lv_at hl 1 rfl) ?_
  refine lv_icmp_ge (tgt := 9) hx hb d_M_least_2 (by decide) (fun c_1 => ?_) (fun c_1 => ?_)
  · refine lv_iload_n hx hb d_M_least_9 rfl (lv_at hl 1 rfl) ?_
    exact W.iret (v := y2) hx hb hr (fun t ht _ => ⟨_, rfl, ⟨by simp [lst, c_1, Int32.not_lt.mpr c_1], ht⟩, hS.F ht⟩) hS.2.2 d_M_least_10
  · refine lv_iload_n hx hb d_M_least_5 rfl (lv_at hl 0 rfl) ?_
    refine lv_goto (tgt := 10) hx hb d_M_least_6 (by decide) ?_
    exact W.iret (v := y1) hx hb hr (fun t ht _ => ⟨_, rfl, ⟨by simp [lst, c_1, Int32.not_le.mp c_1], ht⟩, hS.F ht⟩) hS.2.2 d_M_least_10
set_option maxHeartbeats 4000000 in
set_option maxRecDepth 100000 in
theorem c_M_greatest {l : Launch} {D : va_G} {K : Nat → ClassId} {B : Nat} {H : Heap} (y1 y2 : Int32) : xC l D K B y_M_greatest b_M_greatest 2 (some .int) rm_M_greatest [.int y1, .int y2] H (fun v H1 => v = some (.int (grt y1 y2)) ∧ H1 = H) := by
  refine Met.ofW (cc := b_M_greatest) (maxL := 2) (ret := (some .int)) (by decide) rfl ?_
  intro p e s m args below meth c s₁ B0 hml hv
  obtain ⟨rfl, hsz, hK, hN⟩ := hv
  have hx := B0.exec
  have hb := B0.bytes
  have hr := B0.returns
  have htw : ∀ w ∈ xW0, w.before [.int y1, .int y2].toArray s = true := fun w h => atoms_spec (ws := Cond.code y_M_greatest b_M_greatest 2 (some .int) :: xW0) B0.pre w (List.mem_cons_of_mem _ h)
  have hown : s.vm.findClass R_M = some m.cls := findClass_of_methodNamed B0.named
  have hlocks := B0.notSynchronized
  subst hsz
  have hS : va_S (fun q => B ≤ q) s.heap s.heap [] := va_S.rf
  have hl := lv_entry ([.int y1, .int y2]) (n := 2) (Nat.le_of_ble_eq_true rfl)
  rw [lg_entry_eq]
  generalize (lg_sl ([.int y1, .int y2]) ++ List.replicate (2 - (lg_sl ([.int y1, .int y2])).length) Slot.unset).toArray = ls at hl ⊢
  have hl : lv_has ls 2 [(0, .int y1), (1, .int y2)] := hl
  have hH : s.heap = s.heap := rfl
  refine lv_iload_n hx hb d_M_greatest_0 rfl (lv_at hl 0 rfl) ?_
  refine lv_iload_n hx hb d_M_greatest_1 rfl (lv_at hl 1 rfl) ?_
  refine lv_icmp_le (tgt := 9) hx hb d_M_greatest_2 (by decide) (fun c_1 => ?_) (fun c_1 => ?_)
  · refine lv_iload_n hx hb d_M_greatest_9 rfl (lv_at hl 1 rfl) ?_
    exact W.iret (v := y2) hx hb hr (fun t ht _ => ⟨_, rfl, ⟨by simp [grt, c_1, Int32.not_lt.mpr c_1], ht⟩, hS.F ht⟩) hS.2.2 d_M_greatest_10
  · refine lv_iload_n hx hb d_M_greatest_5 rfl (lv_at hl 0 rfl) ?_
    refine lv_goto (tgt := 10) hx hb d_M_greatest_6 (by decide) ?_
    exact W.iret (v := y1) hx hb hr (fun t ht _ => ⟨_, rfl, ⟨by simp [grt, c_1, Int32.not_le.mp c_1], ht⟩, hS.F ht⟩) hS.2.2 d_M_greatest_10
set_option maxHeartbeats 4000000 in
set_option maxRecDepth 100000 in
theorem c_M_told {l : Launch} {D : va_G} {K : Nat → ClassId} {B : Nat} {ad : Nat → Nat} {w : Nat → Option va_E} {H : Heap} {σ : xS} (hR : RepM K σ ad w) (hI : Inv σ) (hw : xw D vwCl B ad w H) (i : Nat) (hi : i < σ.1 0) (k : Nat) (hk : k < 4) (x3 : Int32) : xC l D K B y_M_told b_M_told 10 (some .int) rm_M_told [.ref (ad 200), .int (nI i), .int (nI k), .int x3] H (fun v H1 => v = some (.int (tld (σ.2.1 (20 + i)) k x3)) ∧ H1 = H) := by
  refine Met.ofW (cc := b_M_told) (maxL := 10) (ret := (some .int)) (by decide) rfl ?_
  intro p e s m args below meth c s₁ B0 hml hv
  obtain ⟨rfl, hsz, hK, hN⟩ := hv
  have hx := B0.exec
  have hb := B0.bytes
  have hr := B0.returns
  have htw : ∀ w ∈ xW0, w.before [.ref (ad 200), .int (nI i), .int (nI k), .int x3].toArray s = true := fun w h => atoms_spec (ws := Cond.code y_M_told b_M_told 10 (some .int) :: xW0) B0.pre w (List.mem_cons_of_mem _ h)
  have hown : s.vm.findClass R_M = some m.cls := findClass_of_methodNamed B0.named
  have hlocks := B0.notSynchronized
  subst hsz
  have hS : va_S (fun q => B ≤ q) s.heap s.heap [] := va_S.rf
  have hl := lv_entry ([.ref (ad 200), .int (nI i), .int (nI k), .int x3]) (n := 10) (Nat.le_of_ble_eq_true rfl)
  rw [lg_entry_eq]
  generalize (lg_sl ([.ref (ad 200), .int (nI i), .int (nI k), .int x3]) ++ List.replicate (10 - (lg_sl ([.ref (ad 200), .int (nI i), .int (nI k), .int x3])).length) Slot.unset).toArray = ls at hl ⊢
  have hl : lv_has ls 10 [(0, .ref (ad 200)), (1, .int (nI i)), (2, .int (nI k)), (3, .int x3)] := hl
  have hH : s.heap = s.heap := rfl
  obtain ⟨FA, FT, FS, FO, m200, m203, m204, m205, m206, m207, m208, m209, m210, m212, m213, m214, m215, m216, m217, m218, m220, m223, m224, m225, m226, hFA, hFT, hFS, hFO⟩ := id hR
  obtain ⟨hnb, hns, hnr, hpc, hst, hto, htl, hrm, hpa, hwt, hdf, hds⟩ := id hI
  have t0 := hto i (k * 3) hi (by omega)
  have t1 := hto i (k * 3 + 1) hi (by omega)
  have t2 := hto i (k * 3 + 2) hi (by omega)
  refine lv_bipush (v := 12) hx hb d_M_told_0 (by decide) ?_
  refine lv_iload_n hx hb d_M_told_2 rfl (lv_at hl 1 rfl) ?_
  refine lv_imul hx hb d_M_told_3 ?_
  refine lv_iconst (v := 3) hx hb d_M_told_4 (by decide) ?_
  refine lv_iload_n hx hb d_M_told_5 rfl (lv_at hl 2 rfl) ?_
  refine lv_imul hx hb d_M_told_6 ?_
  refine lv_iadd hx hb d_M_told_7 ?_
  refine lv_istore (lv' := [(4, .int ((12 * (nI i)) + (3 * (nI k)))), (0, .ref (ad 200)), (1, .int (nI i)), (2, .int (nI k)), (3, .int x3)]) hx hb d_M_told_8 hl (by decide) rfl (fun ls hl => ?_)
  refine lv_aload_n hx hb d_M_told_10 rfl (lv_at hl 1 rfl) ?_
  refine xr_get (ci := 5) (v := .ref (ad 220)) (C := R_M) (T := T_M) (N := 26) hx hb htw in_M hown hK hw 200 m200 rfl rfl 19 (by decide) (htw _ u_353) (fun _ h9 => h9) rfl d_M_told_11 ?_
  refine lv_iload hx hb d_M_told_14 (lv_at hl 0 rfl) ?_
  refine xr_iald (i := (12 * (nI i)) + (3 * (nI k))) hx hb hK hw 220 0 m220 rfl rfl (xvin (a := (12 * i) + (3 * k)) (xadd (a := 12 * i) (b := 3 * k) (xmul (a := 12) (b := i) rfl rfl) (xmul (a := 3) (b := k) rfl rfl)) (by omega) (by omega)) d_M_told_16 ?_
  refine lv_topi (fun x_1 ex_1 => ?_)
  obtain rfl : x_1 = σ.2.1 (20 + i) (k * 3) := ex_1.trans ((congrArg FO (xcl (a := (12 * i) + (3 * k)) (xadd (a := 12 * i) (b := 3 * k) (xmul (a := 12) (b := i) rfl rfl) (xmul (a := 3) (b := k) rfl rfl)) (by omega))).trans ((congrArg FO (show (12 * i) + (3 * k) = 12 * i + (k * 3) by omega)).trans (hFO i (k * 3) (by omega) (by omega))))
  refine lv_istore (lv' := [(5, .int (σ.2.1 (20 + i) (k * 3))), (4, .int ((12 * (nI i)) + (3 * (nI k)))), (0, .ref (ad 200)), (1, .int (nI i)), (2, .int (nI k)), (3, .int x3)]) hx hb d_M_told_17 hl (by decide) rfl (fun ls hl => ?_)
  refine lv_aload_n hx hb d_M_told_19 rfl (lv_at hl 2 rfl) ?_
  refine xr_get (ci := 5) (v := .ref (ad 220)) (C := R_M) (T := T_M) (N := 26) hx hb htw in_M hown hK hw 200 m200 rfl rfl 19 (by decide) (htw _ u_353) (fun _ h9 => h9) rfl d_M_told_20 ?_
  refine lv_iload hx hb d_M_told_23 (lv_at hl 1 rfl) ?_
  refine lv_iconst (v := 1) hx hb d_M_told_25 (by decide) ?_
  refine lv_iadd hx hb d_M_told_26 ?_
  refine xr_iald (i := ((12 * (nI i)) + (3 * (nI k))) + 1) hx hb hK hw 220 0 m220 rfl rfl (xvin (a := ((12 * i) + (3 * k)) + 1) (xadd (a := (12 * i) + (3 * k)) (b := 1) (xadd (a := 12 * i) (b := 3 * k) (xmul (a := 12) (b := i) rfl rfl) (xmul (a := 3) (b := k) rfl rfl)) rfl) (by omega) (by omega)) d_M_told_27 ?_
  refine lv_topi (fun x_2 ex_2 => ?_)
  obtain rfl : x_2 = σ.2.1 (20 + i) (k * 3 + 1) := ex_2.trans ((congrArg FO (xcl (a := ((12 * i) + (3 * k)) + 1) (xadd (a := (12 * i) + (3 * k)) (b := 1) (xadd (a := 12 * i) (b := 3 * k) (xmul (a := 12) (b := i) rfl rfl) (xmul (a := 3) (b := k) rfl rfl)) rfl) (by omega))).trans ((congrArg FO (show ((12 * i) + (3 * k)) + 1 = 12 * i + (k * 3 + 1) by omega)).trans (hFO i (k * 3 + 1) (by omega) (by omega))))
  refine lv_istore (lv' := [(6, .int (σ.2.1 (20 + i) (k * 3 + 1))), (5, .int (σ.2.1 (20 + i) (k * 3))), (4, .int ((12 * (nI i)) + (3 * (nI k)))), (0, .ref (ad 200)), (1, .int (nI i)), (2, .int (nI k)), (3, .int x3)]) hx hb d_M_told_28 hl (by decide) rfl (fun ls hl => ?_)
  refine lv_aload_n hx hb d_M_told_30 rfl (lv_at hl 3 rfl) ?_
  refine xr_get (ci := 5) (v := .ref (ad 220)) (C := R_M) (T := T_M) (N := 26) hx hb htw in_M hown hK hw 200 m200 rfl rfl 19 (by decide) (htw _ u_353) (fun _ h9 => h9) rfl d_M_told_31 ?_
  refine lv_iload hx hb d_M_told_34 (lv_at hl 2 rfl) ?_
  refine lv_iconst (v := 2) hx hb d_M_told_36 (by decide) ?_
  refine lv_iadd hx hb d_M_told_37 ?_
  refine xr_iald (i := ((12 * (nI i)) + (3 * (nI k))) + 2) hx hb hK hw 220 0 m220 rfl rfl (xvin (a := ((12 * i) + (3 * k)) + 2) (xadd (a := (12 * i) + (3 * k)) (b := 2) (xadd (a := 12 * i) (b := 3 * k) (xmul (a := 12) (b := i) rfl rfl) (xmul (a := 3) (b := k) rfl rfl)) rfl) (by omega) (by omega)) d_M_told_38 ?_
  refine lv_topi (fun x_3 ex_3 => ?_)
  obtain rfl : x_3 = σ.2.1 (20 + i) (k * 3 + 2) := ex_3.trans ((congrArg FO (xcl (a := ((12 * i) + (3 * k)) + 2) (xadd (a := (12 * i) + (3 * k)) (b := 2) (xadd (a := 12 * i) (b := 3 * k) (xmul (a := 12) (b := i) rfl rfl) (xmul (a := 3) (b := k) rfl rfl)) rfl) (by omega))).trans ((congrArg FO (show ((12 * i) + (3 * k)) + 2 = 12 * i + (k * 3 + 2) by omega)).trans (hFO i (k * 3 + 2) (by omega) (by omega))))
  refine lv_istore (lv' := [(7, .int (σ.2.1 (20 + i) (k * 3 + 2))), (6, .int (σ.2.1 (20 + i) (k * 3 + 1))), (5, .int (σ.2.1 (20 + i) (k * 3))), (4, .int ((12 * (nI i)) + (3 * (nI k)))), (0, .ref (ad 200)), (1, .int (nI i)), (2, .int (nI k)), (3, .int x3)]) hx hb d_M_told_39 hl (by decide) rfl (fun ls hl => ?_)
  refine lv_iload hx hb d_M_told_41 (lv_at hl 2 rfl) ?_
  refine lv_if_lt (tgt := 56) hx hb d_M_told_43 (by decide) (fun c_4 => ?_) (fun c_4 => ?_)
  · refine lv_iconst (v := (-1)) hx hb d_M_told_56 (by decide) ?_
    exact W.iret (v := (-1)) hx hb hr (fun t ht _ => ⟨_, rfl, ⟨by simp [tld, allT, tlo, thi, (ok_neg t0).mp c_4], ht⟩, hS.F ht⟩) hS.2.2 d_M_told_57
  · refine lv_iload hx hb d_M_told_46 (lv_at hl 1 rfl) ?_
    refine lv_if_lt (tgt := 56) hx hb d_M_told_48 (by decide) (fun c_5 => ?_) (fun c_5 => ?_)
    · refine lv_iconst (v := (-1)) hx hb d_M_told_56 (by decide) ?_
      exact W.iret (v := (-1)) hx hb hr (fun t ht _ => ⟨_, rfl, ⟨by simp [tld, allT, tlo, thi, ok_n1 t0 c_4, (ok_neg t1).mp c_5], ht⟩, hS.F ht⟩) hS.2.2 d_M_told_57
    · refine lv_iload hx hb d_M_told_51 (lv_at hl 0 rfl) ?_
      refine lv_if_ge (tgt := 58) hx hb d_M_told_53 (by decide) (fun c_6 => ?_) (fun c_6 => ?_)
      · refine lv_iload hx hb d_M_told_58 (lv_at hl 2 rfl) ?_
        refine lv_iload hx hb d_M_told_60 (lv_at hl 1 rfl) ?_
        refine lv_iload hx hb d_M_told_62 (lv_at hl 0 rfl) ?_
        refine xr_call (va_runS (As := [.int (σ.2.1 (20 + i) (k * 3 + 1)), .int (σ.2.1 (20 + i) (k * 3 + 2))]) (rest := [.int (σ.2.1 (20 + i) (k * 3))]) ⟨hx, hb, hml, hown, htw⟩ (c_M_least (σ.2.1 (20 + i) (k * 3 + 1)) (σ.2.1 (20 + i) (k * 3 + 2))) (va_cwS 2 htw (gS u_510 u_511 u_3 u_512) rfl rfl rfl hd_M_least.2 ⟨Nat.le_of_ble_eq_true rfl, Nat.le_of_ble_eq_true rfl⟩) ⟨xP_blind, xP_of hK hN⟩ rfl rfl hl.1 rfl (lv_room (Nat.le_of_ble_eq_true rfl)) d_M_told_64 ⟨by decide, by decide⟩) hS (fun v H_ locs hp hS => ?_)
        obtain ⟨rfl, hHe⟩ := hp
        rw [hHe] at hS ⊢
        refine W.eq (g2 := F0 m 67 ls [.int (lst (σ.2.1 (20 + i) (k * 3 + 1)) (σ.2.1 (20 + i) (k * 3 + 2))), .int (σ.2.1 (20 + i) (k * 3))]) rfl ?_
        refine xr_call (va_runS (As := [.int (σ.2.1 (20 + i) (k * 3)), .int (lst (σ.2.1 (20 + i) (k * 3 + 1)) (σ.2.1 (20 + i) (k * 3 + 2)))]) (rest := []) ⟨hx, hb, hml, hown, htw⟩ (c_M_least (σ.2.1 (20 + i) (k * 3)) (lst (σ.2.1 (20 + i) (k * 3 + 1)) (σ.2.1 (20 + i) (k * 3 + 2)))) (va_cwS 2 htw (gS u_510 u_511 u_3 u_512) rfl rfl rfl hd_M_least.2 ⟨Nat.le_of_ble_eq_true rfl, Nat.le_of_ble_eq_true rfl⟩) ⟨xP_blind, xP_of hK hN⟩ rfl rfl hl.1 rfl (lv_room (Nat.le_of_ble_eq_true rfl)) d_M_told_67 ⟨by decide, by decide⟩) hS (fun v H_ locs hp hS => ?_)
        obtain ⟨rfl, hHe⟩ := hp
        rw [hHe] at hS ⊢
        refine W.eq (g2 := F0 m 70 ls [.int (lst (σ.2.1 (20 + i) (k * 3)) (lst (σ.2.1 (20 + i) (k * 3 + 1)) (σ.2.1 (20 + i) (k * 3 + 2))))]) rfl ?_
        refine lv_istore (lv' := [(8, .int (lst (σ.2.1 (20 + i) (k * 3)) (lst (σ.2.1 (20 + i) (k * 3 + 1)) (σ.2.1 (20 + i) (k * 3 + 2))))), (7, .int (σ.2.1 (20 + i) (k * 3 + 2))), (6, .int (σ.2.1 (20 + i) (k * 3 + 1))), (5, .int (σ.2.1 (20 + i) (k * 3))), (4, .int ((12 * (nI i)) + (3 * (nI k)))), (0, .ref (ad 200)), (1, .int (nI i)), (2, .int (nI k)), (3, .int x3)]) hx hb d_M_told_70 hl (by decide) rfl (fun ls hl => ?_)
        refine lv_iload hx hb d_M_told_72 (lv_at hl 3 rfl) ?_
        refine lv_iload hx hb d_M_told_74 (lv_at hl 2 rfl) ?_
        refine lv_iload hx hb d_M_told_76 (lv_at hl 1 rfl) ?_
        refine xr_call (va_runS (As := [.int (σ.2.1 (20 + i) (k * 3 + 1)), .int (σ.2.1 (20 + i) (k * 3 + 2))]) (rest := [.int (σ.2.1 (20 + i) (k * 3))]) ⟨hx, hb, hml, hown, htw⟩ (c_M_greatest (σ.2.1 (20 + i) (k * 3 + 1)) (σ.2.1 (20 + i) (k * 3 + 2))) (va_cwS 2 htw (gS u_513 u_514 u_3 u_515) rfl rfl rfl hd_M_greatest.2 ⟨Nat.le_of_ble_eq_true rfl, Nat.le_of_ble_eq_true rfl⟩) ⟨xP_blind, xP_of hK hN⟩ rfl rfl hl.1 rfl (lv_room (Nat.le_of_ble_eq_true rfl)) d_M_told_78 ⟨by decide, by decide⟩) hS (fun v H_ locs hp hS => ?_)
        obtain ⟨rfl, hHe⟩ := hp
        rw [hHe] at hS ⊢
        refine W.eq (g2 := F0 m 81 ls [.int (grt (σ.2.1 (20 + i) (k * 3 + 1)) (σ.2.1 (20 + i) (k * 3 + 2))), .int (σ.2.1 (20 + i) (k * 3))]) rfl ?_
        refine xr_call (va_runS (As := [.int (σ.2.1 (20 + i) (k * 3)), .int (grt (σ.2.1 (20 + i) (k * 3 + 1)) (σ.2.1 (20 + i) (k * 3 + 2)))]) (rest := []) ⟨hx, hb, hml, hown, htw⟩ (c_M_greatest (σ.2.1 (20 + i) (k * 3)) (grt (σ.2.1 (20 + i) (k * 3 + 1)) (σ.2.1 (20 + i) (k * 3 + 2)))) (va_cwS 2 htw (gS u_513 u_514 u_3 u_515) rfl rfl rfl hd_M_greatest.2 ⟨Nat.le_of_ble_eq_true rfl, Nat.le_of_ble_eq_true rfl⟩) ⟨xP_blind, xP_of hK hN⟩ rfl rfl hl.1 rfl (lv_room (Nat.le_of_ble_eq_true rfl)) d_M_told_81 ⟨by decide, by decide⟩) hS (fun v H_ locs hp hS => ?_)
        obtain ⟨rfl, hHe⟩ := hp
        rw [hHe] at hS ⊢
        refine W.eq (g2 := F0 m 84 ls [.int (grt (σ.2.1 (20 + i) (k * 3)) (grt (σ.2.1 (20 + i) (k * 3 + 1)) (σ.2.1 (20 + i) (k * 3 + 2))))]) rfl ?_
        refine lv_istore (lv' := [(9, .int (grt (σ.2.1 (20 + i) (k * 3)) (grt (σ.2.1 (20 + i) (k * 3 + 1)) (σ.2.1 (20 + i) (k * 3 + 2))))), (8, .int (lst (σ.2.1 (20 + i) (k * 3)) (lst (σ.2.1 (20 + i) (k * 3 + 1)) (σ.2.1 (20 + i) (k * 3 + 2))))), (7, .int (σ.2.1 (20 + i) (k * 3 + 2))), (6, .int (σ.2.1 (20 + i) (k * 3 + 1))), (5, .int (σ.2.1 (20 + i) (k * 3))), (4, .int ((12 * (nI i)) + (3 * (nI k)))), (0, .ref (ad 200)), (1, .int (nI i)), (2, .int (nI k)), (3, .int x3)]) hx hb d_M_told_84 hl (by decide) rfl (fun ls hl => ?_)
        refine lv_iload_n hx hb d_M_told_86 rfl (lv_at hl 9 rfl) ?_
        refine lv_if_ne (tgt := 95) hx hb d_M_told_87 (by decide) (fun c_7 => ?_) (fun c_7 => ?_)
        · refine lv_iload_n hx hb d_M_told_95 rfl (lv_at hl 9 rfl) ?_
          refine lv_iconst (v := 2) hx hb d_M_told_96 (by decide) ?_
          refine lv_icmp_ne (tgt := 105) hx hb d_M_told_97 (by decide) (fun c_8 => ?_) (fun c_8 => ?_)
          · refine lv_iload hx hb d_M_told_105 (lv_at hl 4 rfl) ?_
            refine lv_iload hx hb d_M_told_107 (lv_at hl 3 rfl) ?_
            refine lv_iadd hx hb d_M_told_109 ?_
            refine lv_iload hx hb d_M_told_110 (lv_at hl 2 rfl) ?_
            refine lv_iadd hx hb d_M_told_112 ?_
            refine lv_iload hx hb d_M_told_113 (lv_at hl 1 rfl) ?_
            refine lv_isub hx hb d_M_told_115 ?_
            refine lv_iload hx hb d_M_told_116 (lv_at hl 0 rfl) ?_
            refine lv_isub hx hb d_M_told_118 ?_
            exact W.iret (v := ((((σ.2.1 (20 + i) (k * 3)) + (σ.2.1 (20 + i) (k * 3 + 1))) + (σ.2.1 (20 + i) (k * 3 + 2))) - (lst (σ.2.1 (20 + i) (k * 3)) (lst (σ.2.1 (20 + i) (k * 3 + 1)) (σ.2.1 (20 + i) (k * 3 + 2))))) - (grt (σ.2.1 (20 + i) (k * 3)) (grt (σ.2.1 (20 + i) (k * 3 + 1)) (σ.2.1 (20 + i) (k * 3 + 2))))) hx hb hr (fun t ht _ => ⟨_, rfl, ⟨by simp [tld, allT, tlo, thi, ok_n1 t0 c_4, ok_n1 t1 c_5, ok_n1 t2 (Int32.not_lt.mpr c_6), c_7, c_8], ht⟩, hS.F ht⟩) hS.2.2 d_M_told_119
          · refine lv_iload hx hb d_M_told_100 (lv_at hl 0 rfl) ?_
            refine lv_goto (tgt := 119) hx hb d_M_told_102 (by decide) ?_
            exact W.iret (v := grt (σ.2.1 (20 + i) (k * 3)) (grt (σ.2.1 (20 + i) (k * 3 + 1)) (σ.2.1 (20 + i) (k * 3 + 2)))) hx hb hr (fun t ht _ => ⟨_, rfl, ⟨by simp [tld, allT, tlo, thi, ok_n1 t0 c_4, ok_n1 t1 c_5, ok_n1 t2 (Int32.not_lt.mpr c_6), c_7, c_8], ht⟩, hS.F ht⟩) hS.2.2 d_M_told_119
        · refine lv_iload hx hb d_M_told_90 (lv_at hl 1 rfl) ?_
          refine lv_goto (tgt := 119) hx hb d_M_told_92 (by decide) ?_
          exact W.iret (v := lst (σ.2.1 (20 + i) (k * 3)) (lst (σ.2.1 (20 + i) (k * 3 + 1)) (σ.2.1 (20 + i) (k * 3 + 2)))) hx hb hr (fun t ht _ => ⟨_, rfl, ⟨by simp [tld, allT, tlo, thi, ok_n1 t0 c_4, ok_n1 t1 c_5, ok_n1 t2 (Int32.not_lt.mpr c_6), c_7], ht⟩, hS.F ht⟩) hS.2.2 d_M_told_119
      · refine lv_iconst (v := (-1)) hx hb d_M_told_56 (by decide) ?_
        exact W.iret (v := (-1)) hx hb hr (fun t ht _ => ⟨_, rfl, ⟨by simp [tld, allT, tlo, thi, ok_n1 t0 c_4, ok_n1 t1 c_5, (ok_neg t2).mp (Int32.not_le.mp c_6)], ht⟩, hS.F ht⟩) hS.2.2 d_M_told_57
set_option maxHeartbeats 4000000 in
set_option maxRecDepth 100000 in
theorem c_M_settled {l : Launch} {D : va_G} {K : Nat → ClassId} {B : Nat} {ad : Nat → Nat} {w : Nat → Option va_E} {H : Heap} {σ : xS} (hR : RepM K σ ad w) (hI : Inv σ) (hw : xw D vwCl B ad w H) (x1 x2 : Int32) : xC l D K B y_M_settled b_M_settled 3 (some .int) rm_M_settled [.ref (ad 200), .int x1, .int x2] H (fun v H1 => v = some (.int (f_settled σ x1 x2)) ∧ H1 = H) := by
  refine Met.ofW (cc := b_M_settled) (maxL := 3) (ret := (some .int)) (by decide) rfl ?_
  intro p e s m args below meth c s₁ B0 hml hv
  obtain ⟨rfl, hsz, hK, hN⟩ := hv
  have hx := B0.exec
  have hb := B0.bytes
  have hr := B0.returns
  have htw : ∀ w ∈ xW0, w.before [.ref (ad 200), .int x1, .int x2].toArray s = true := fun w h => atoms_spec (ws := Cond.code y_M_settled b_M_settled 3 (some .int) :: xW0) B0.pre w (List.mem_cons_of_mem _ h)
  have hown : s.vm.findClass R_M = some m.cls := findClass_of_methodNamed B0.named
  have hlocks := B0.notSynchronized
  subst hsz
  have hS : va_S (fun q => B ≤ q) s.heap s.heap [] := va_S.rf
  have hl := lv_entry ([.ref (ad 200), .int x1, .int x2]) (n := 3) (Nat.le_of_ble_eq_true rfl)
  rw [lg_entry_eq]
  generalize (lg_sl ([.ref (ad 200), .int x1, .int x2]) ++ List.replicate (3 - (lg_sl ([.ref (ad 200), .int x1, .int x2])).length) Slot.unset).toArray = ls at hl ⊢
  have hl : lv_has ls 3 [(0, .ref (ad 200)), (1, .int x1), (2, .int x2)] := hl
  have hH : s.heap = s.heap := rfl
  obtain ⟨FA, FT, FS, FO, m200, m203, m204, m205, m206, m207, m208, m209, m210, m212, m213, m214, m215, m216, m217, m218, m220, m223, m224, m225, m226, hFA, hFT, hFS, hFO⟩ := id hR
  obtain ⟨hnb, hns, hnr, hpc, hst, hto, htl, hrm, hpa, hwt, hdf, hds⟩ := id hI
  refine lv_aload_n hx hb d_M_settled_0 rfl (lv_at hl 0 rfl) ?_
  refine lv_iload_n hx hb d_M_settled_1 rfl (lv_at hl 1 rfl) ?_
  refine xr_call (va_runV (As := [.int x1]) (rest := []) ⟨hx, hb, hml, hown, htw⟩ (c_M_isBatch (ad := ad) hR hI hw x1) (cwV 1 htw (gV u_430 u_432 us_8 u_3 u_433) rfl rfl rfl hd_M_isBatch ⟨Nat.le_of_ble_eq_true rfl, Nat.le_of_ble_eq_true rfl⟩) ⟨xP_blind, hw.recv hK (ci := 5) (t := 200) rfl m200 rfl, xP_of hK hN⟩ rfl rfl hl.1 rfl (lv_room (Nat.le_of_ble_eq_true rfl)) d_M_settled_2 ⟨by decide, by decide⟩) hS (fun v H_ locs hp hS => ?_)
  obtain ⟨hHe, hp⟩ := hp
  rw [hHe] at hS ⊢
  rcases hp with ⟨f2, rfl⟩ | ⟨i1, hi1, rfl, rfl⟩
  · refine W.eq (g2 := F0 m 5 ls [.int 0]) rfl ?_
    refine lv_if_eq (tgt := 25) hx hb d_M_settled_5 (by decide) (fun c_3 => ?_) (fun c_3 => absurd (by decide) c_3)
    refine lv_iconst (v := (-1)) hx hb d_M_settled_25 (by decide) ?_
    exact W.iret (v := (-1)) hx hb hr (fun t ht _ => ⟨_, rfl, ⟨by simp [f_settled, opt_n, opt_s, opt_c, tld_mid, f2], ht⟩, hS.F ht⟩) hS.2.2 d_M_settled_26
  · have fi1 : xi (σ.1 0) (nI i1) = some i1 := xi_nI hi1 (by omega)
    refine W.eq (g2 := F0 m 5 ls [.int 1]) rfl ?_
    refine lv_if_eq (tgt := 25) hx hb d_M_settled_5 (by decide) (fun c_4 => absurd c_4 (by decide)) (fun c_4 => ?_)
    refine lv_iload_n hx hb d_M_settled_8 rfl (lv_at hl 2 rfl) ?_
    refine xr_call (va_runS (As := [.int x2]) (rest := []) ⟨hx, hb, hml, hown, htw⟩ (c_M_isMetal x2) (va_cwS 1 htw (gS u_434 u_435 u_3 u_436) rfl rfl rfl hd_M_isMetal.2 ⟨Nat.le_of_ble_eq_true rfl, Nat.le_of_ble_eq_true rfl⟩) ⟨xP_blind, xP_of hK hN⟩ rfl rfl hl.1 rfl (lv_room (Nat.le_of_ble_eq_true rfl)) d_M_settled_9 ⟨by decide, by decide⟩) hS (fun v H_ locs hp hS => ?_)
    obtain ⟨rfl, hHe⟩ := hp
    rw [hHe] at hS ⊢
    refine W.eq (g2 := F0 m 12 ls [.int (bI (xm x2))]) rfl ?_
    refine lv_if_eq (tgt := 25) hx hb d_M_settled_12 (by decide) (fun c_5 => ?_) (fun c_5 => ?_)
    · have c_5 : (xm x2) = false := bI_f.mp c_5
      have f6 : xi 4 x2 = none := xm_xi c_5
      refine lv_iconst (v := (-1)) hx hb d_M_settled_25 (by decide) ?_
      exact W.iret (v := (-1)) hx hb hr (fun t ht _ => ⟨_, rfl, ⟨by simp [f_settled, opt_n, opt_s, opt_c, tld_mid, fi1, f6, c_5], ht⟩, hS.F ht⟩) hS.2.2 d_M_settled_26
    · have c_5 : (xm x2) = true := bI_t.mp c_5
      obtain ⟨k7, hk7, rfl⟩ := xm_of c_5
      have xk7 : xi 4 (nI k7) = some k7 := xi_nI hk7 (by decide)
      refine lv_aload_n hx hb d_M_settled_15 rfl (lv_at hl 0 rfl) ?_
      refine lv_iload_n hx hb d_M_settled_16 rfl (lv_at hl 1 rfl) ?_
      refine lv_iload_n hx hb d_M_settled_17 rfl (lv_at hl 2 rfl) ?_
      refine lv_iconst (v := 1) hx hb d_M_settled_18 (by decide) ?_
      refine xr_call (va_runV (As := [.int (nI i1), .int (nI k7), .int 1]) (rest := []) ⟨hx, hb, hml, hown, htw⟩ (c_M_told (ad := ad) hR hI hw i1 (by omega) k7 (by omega) 1) (cwV 3 htw (gV u_506 u_508 us_12 u_3 u_509) rfl rfl rfl hd_M_told ⟨Nat.le_of_ble_eq_true rfl, Nat.le_of_ble_eq_true rfl⟩) ⟨xP_blind, hw.recv hK (ci := 5) (t := 200) rfl m200 rfl, xP_of hK hN⟩ rfl rfl hl.1 rfl (lv_room (Nat.le_of_ble_eq_true rfl)) d_M_settled_19 ⟨by decide, by decide⟩) hS (fun v H_ locs hp hS => ?_)
      obtain ⟨rfl, hHe⟩ := hp
      rw [hHe] at hS ⊢
      refine W.eq (g2 := F0 m 22 ls [.int (tld (σ.2.1 (20 + i1)) k7 1)]) rfl ?_
      refine lv_goto (tgt := 26) hx hb d_M_settled_22 (by decide) ?_
      exact W.iret (v := tld (σ.2.1 (20 + i1)) k7 1) hx hb hr (fun t ht _ => ⟨_, rfl, ⟨by simp [f_settled, opt_n, opt_s, opt_c, tld_mid, fi1, xk7, c_5], ht⟩, hS.F ht⟩) hS.2.2 d_M_settled_26
set_option maxHeartbeats 4000000 in
set_option maxRecDepth 100000 in
theorem c_M_disputed {l : Launch} {D : va_G} {K : Nat → ClassId} {B : Nat} {ad : Nat → Nat} {w : Nat → Option va_E} {H : Heap} {σ : xS} (hR : RepM K σ ad w) (hI : Inv σ) (hw : xw D vwCl B ad w H) (x1 x2 : Int32) : xC l D K B y_M_disputed b_M_disputed 3 (some .boolean) rm_M_disputed [.ref (ad 200), .int x1, .int x2] H (fun v H1 => v = some (.int (bI (f_disputed σ x1 x2))) ∧ H1 = H) := by
  refine Met.ofW (cc := b_M_disputed) (maxL := 3) (ret := (some .boolean)) (by decide) rfl ?_
  intro p e s m args below meth c s₁ B0 hml hv
  obtain ⟨rfl, hsz, hK, hN⟩ := hv
  have hx := B0.exec
  have hb := B0.bytes
  have hr := B0.returns
  have htw : ∀ w ∈ xW0, w.before [.ref (ad 200), .int x1, .int x2].toArray s = true := fun w h => atoms_spec (ws := Cond.code y_M_disputed b_M_disputed 3 (some .boolean) :: xW0) B0.pre w (List.mem_cons_of_mem _ h)
  have hown : s.vm.findClass R_M = some m.cls := findClass_of_methodNamed B0.named
  have hlocks := B0.notSynchronized
  subst hsz
  have hS : va_S (fun q => B ≤ q) s.heap s.heap [] := va_S.rf
  have hl := lv_entry ([.ref (ad 200), .int x1, .int x2]) (n := 3) (Nat.le_of_ble_eq_true rfl)
  rw [lg_entry_eq]
  generalize (lg_sl ([.ref (ad 200), .int x1, .int x2]) ++ List.replicate (3 - (lg_sl ([.ref (ad 200), .int x1, .int x2])).length) Slot.unset).toArray = ls at hl ⊢
  have hl : lv_has ls 3 [(0, .ref (ad 200)), (1, .int x1), (2, .int x2)] := hl
  have hH : s.heap = s.heap := rfl
  obtain ⟨FA, FT, FS, FO, m200, m203, m204, m205, m206, m207, m208, m209, m210, m212, m213, m214, m215, m216, m217, m218, m220, m223, m224, m225, m226, hFA, hFT, hFS, hFO⟩ := id hR
  obtain ⟨hnb, hns, hnr, hpc, hst, hto, htl, hrm, hpa, hwt, hdf, hds⟩ := id hI
  refine lv_aload_n hx hb d_M_disputed_0 rfl (lv_at hl 0 rfl) ?_
  refine lv_iload_n hx hb d_M_disputed_1 rfl (lv_at hl 1 rfl) ?_
  refine xr_call (va_runV (As := [.int x1]) (rest := []) ⟨hx, hb, hml, hown, htw⟩ (c_M_isBatch (ad := ad) hR hI hw x1) (cwV 1 htw (gV u_430 u_432 us_8 u_3 u_433) rfl rfl rfl hd_M_isBatch ⟨Nat.le_of_ble_eq_true rfl, Nat.le_of_ble_eq_true rfl⟩) ⟨xP_blind, hw.recv hK (ci := 5) (t := 200) rfl m200 rfl, xP_of hK hN⟩ rfl rfl hl.1 rfl (lv_room (Nat.le_of_ble_eq_true rfl)) d_M_disputed_2 ⟨by decide, by decide⟩) hS (fun v H_ locs hp hS => ?_)
  obtain ⟨hHe, hp⟩ := hp
  rw [hHe] at hS ⊢
  rcases hp with ⟨f2, rfl⟩ | ⟨i1, hi1, rfl, rfl⟩
  · refine W.eq (g2 := F0 m 5 ls [.int 0]) rfl ?_
    refine lv_if_eq (tgt := 41) hx hb d_M_disputed_5 (by decide) (fun c_3 => ?_) (fun c_3 => absurd (by decide) c_3)
    refine lv_iconst (v := 0) hx hb d_M_disputed_41 (by decide) ?_
    exact W.zret (v := 0) hx hb hr (by decide) (fun t ht _ => ⟨_, rfl, ⟨bI_0 (by simp [f_disputed, opt_n, opt_s, opt_c, f2]), ht⟩, hS.F ht⟩) hS.2.2 d_M_disputed_42
  · have fi1 : xi (σ.1 0) (nI i1) = some i1 := xi_nI hi1 (by omega)
    refine W.eq (g2 := F0 m 5 ls [.int 1]) rfl ?_
    refine lv_if_eq (tgt := 41) hx hb d_M_disputed_5 (by decide) (fun c_4 => absurd c_4 (by decide)) (fun c_4 => ?_)
    refine lv_iload_n hx hb d_M_disputed_8 rfl (lv_at hl 2 rfl) ?_
    refine xr_call (va_runS (As := [.int x2]) (rest := []) ⟨hx, hb, hml, hown, htw⟩ (c_M_isMetal x2) (va_cwS 1 htw (gS u_434 u_435 u_3 u_436) rfl rfl rfl hd_M_isMetal.2 ⟨Nat.le_of_ble_eq_true rfl, Nat.le_of_ble_eq_true rfl⟩) ⟨xP_blind, xP_of hK hN⟩ rfl rfl hl.1 rfl (lv_room (Nat.le_of_ble_eq_true rfl)) d_M_disputed_9 ⟨by decide, by decide⟩) hS (fun v H_ locs hp hS => ?_)
    obtain ⟨rfl, hHe⟩ := hp
    rw [hHe] at hS ⊢
    refine W.eq (g2 := F0 m 12 ls [.int (bI (xm x2))]) rfl ?_
    refine lv_if_eq (tgt := 41) hx hb d_M_disputed_12 (by decide) (fun c_5 => ?_) (fun c_5 => ?_)
    · have c_5 : (xm x2) = false := bI_f.mp c_5
      have f6 : xi 4 x2 = none := xm_xi c_5
      refine lv_iconst (v := 0) hx hb d_M_disputed_41 (by decide) ?_
      exact W.zret (v := 0) hx hb hr (by decide) (fun t ht _ => ⟨_, rfl, ⟨bI_0 (by simp [f_disputed, opt_n, opt_s, opt_c, fi1, f6, c_5]), ht⟩, hS.F ht⟩) hS.2.2 d_M_disputed_42
    · have c_5 : (xm x2) = true := bI_t.mp c_5
      obtain ⟨k7, hk7, rfl⟩ := xm_of c_5
      have xk7 : xi 4 (nI k7) = some k7 := xi_nI hk7 (by decide)
      refine lv_aload_n hx hb d_M_disputed_15 rfl (lv_at hl 0 rfl) ?_
      refine lv_iload_n hx hb d_M_disputed_16 rfl (lv_at hl 1 rfl) ?_
      refine lv_iload_n hx hb d_M_disputed_17 rfl (lv_at hl 2 rfl) ?_
      refine lv_iconst (v := 2) hx hb d_M_disputed_18 (by decide) ?_
      refine xr_call (va_runV (As := [.int (nI i1), .int (nI k7), .int 2]) (rest := []) ⟨hx, hb, hml, hown, htw⟩ (c_M_told (ad := ad) hR hI hw i1 (by omega) k7 (by omega) 2) (cwV 3 htw (gV u_506 u_508 us_12 u_3 u_509) rfl rfl rfl hd_M_told ⟨Nat.le_of_ble_eq_true rfl, Nat.le_of_ble_eq_true rfl⟩) ⟨xP_blind, hw.recv hK (ci := 5) (t := 200) rfl m200 rfl, xP_of hK hN⟩ rfl rfl hl.1 rfl (lv_room (Nat.le_of_ble_eq_true rfl)) d_M_disputed_19 ⟨by decide, by decide⟩) hS (fun v H_ locs hp hS => ?_)
      obtain ⟨rfl, hHe⟩ := hp
      rw [hHe] at hS ⊢
      refine W.eq (g2 := F0 m 22 ls [.int (tld (σ.2.1 (20 + i1)) k7 2)]) rfl ?_
      refine lv_aload_n hx hb d_M_disputed_22 rfl (lv_at hl 0 rfl) ?_
      refine lv_iload_n hx hb d_M_disputed_23 rfl (lv_at hl 1 rfl) ?_
      refine lv_iload_n hx hb d_M_disputed_24 rfl (lv_at hl 2 rfl) ?_
      refine lv_iconst (v := 0) hx hb d_M_disputed_25 (by decide) ?_
      refine xr_call (va_runV (As := [.int (nI i1), .int (nI k7), .int 0]) (rest := [.int (tld (σ.2.1 (20 + i1)) k7 2)]) ⟨hx, hb, hml, hown, htw⟩ (c_M_told (ad := ad) hR hI hw i1 (by omega) k7 (by omega) 0) (cwV 3 htw (gV u_506 u_508 us_12 u_3 u_509) rfl rfl rfl hd_M_told ⟨Nat.le_of_ble_eq_true rfl, Nat.le_of_ble_eq_true rfl⟩) ⟨xP_blind, hw.recv hK (ci := 5) (t := 200) rfl m200 rfl, xP_of hK hN⟩ rfl rfl hl.1 rfl (lv_room (Nat.le_of_ble_eq_true rfl)) d_M_disputed_26 ⟨by decide, by decide⟩) hS (fun v H_ locs hp hS => ?_)
      obtain ⟨rfl, hHe⟩ := hp
      rw [hHe] at hS ⊢
      refine W.eq (g2 := F0 m 29 ls [.int (tld (σ.2.1 (20 + i1)) k7 0), .int (tld (σ.2.1 (20 + i1)) k7 2)]) rfl ?_
      refine lv_isub hx hb d_M_disputed_29 ?_
      refine lv_aload_n hx hb d_M_disputed_30 rfl (lv_at hl 0 rfl) ?_
      refine xr_get (ci := 5) (v := .int (σ.2.1 0 1)) (C := R_M) (T := T_M) (N := 26) hx hb htw in_M hown hK hw 200 m200 rfl rfl 20 (by decide) (htw _ u_354) (fun _ h9 => h9) rfl d_M_disputed_31 ?_
      refine lv_icmp_le (tgt := 41) hx hb d_M_disputed_34 (by decide) (fun c_8 => ?_) (fun c_8 => ?_)
      · refine lv_iconst (v := 0) hx hb d_M_disputed_41 (by decide) ?_
        exact W.zret (v := 0) hx hb hr (by decide) (fun t ht _ => ⟨_, rfl, ⟨bI_0 (by simp [f_disputed, opt_n, opt_s, opt_c, fi1, xk7, c_5, (tld_spr _ _ htl).mp c_8]), ht⟩, hS.F ht⟩) hS.2.2 d_M_disputed_42
      · refine lv_iconst (v := 1) hx hb d_M_disputed_37 (by decide) ?_
        refine lv_goto (tgt := 42) hx hb d_M_disputed_38 (by decide) ?_
        exact W.zret (v := 1) hx hb hr (by decide) (fun t ht _ => ⟨_, rfl, ⟨bI_1 (by simp [f_disputed, opt_n, opt_s, opt_c, fi1, xk7, c_5, Int32.not_le.mp (fun z => c_8 ((tld_spr _ _ htl).mpr z) : ¬ spr (σ.2.1 (20 + i1)) k7 ≤ σ.2.1 0 1)]), ht⟩, hS.F ht⟩) hS.2.2 d_M_disputed_42
set_option maxHeartbeats 4000000 in
set_option maxRecDepth 100000 in
theorem c_M_taken {l : Launch} {D : va_G} {K : Nat → ClassId} {B : Nat} {ad : Nat → Nat} {w : Nat → Option va_E} {H : Heap} {σ : xS} (hR : RepM K σ ad w) (hI : Inv σ) (hw : xw D vwCl B ad w H) (x1 x2 x3 : Int32) : xC l D K B y_M_taken b_M_taken 4 (some .long) rm_M_taken [.ref (ad 200), .int x1, .int x2, .int x3] H (fun v H1 => v = some (.long (f_taken σ x1 x2 x3)) ∧ H1 = H) := by
  refine Met.ofW (cc := b_M_taken) (maxL := 4) (ret := (some .long)) (by decide) rfl ?_
  intro p e s m args below meth c s₁ B0 hml hv
  obtain ⟨rfl, hsz, hK, hN⟩ := hv
  have hx := B0.exec
  have hb := B0.bytes
  have hr := B0.returns
  have htw : ∀ w ∈ xW0, w.before [.ref (ad 200), .int x1, .int x2, .int x3].toArray s = true := fun w h => atoms_spec (ws := Cond.code y_M_taken b_M_taken 4 (some .long) :: xW0) B0.pre w (List.mem_cons_of_mem _ h)
  have hown : s.vm.findClass R_M = some m.cls := findClass_of_methodNamed B0.named
  have hlocks := B0.notSynchronized
  subst hsz
  have hS : va_S (fun q => B ≤ q) s.heap s.heap [] := va_S.rf
  have hl := lv_entry ([.ref (ad 200), .int x1, .int x2, .int x3]) (n := 4) (Nat.le_of_ble_eq_true rfl)
  rw [lg_entry_eq]
  generalize (lg_sl ([.ref (ad 200), .int x1, .int x2, .int x3]) ++ List.replicate (4 - (lg_sl ([.ref (ad 200), .int x1, .int x2, .int x3])).length) Slot.unset).toArray = ls at hl ⊢
  have hl : lv_has ls 4 [(0, .ref (ad 200)), (1, .int x1), (2, .int x2), (3, .int x3)] := hl
  have hH : s.heap = s.heap := rfl
  obtain ⟨FA, FT, FS, FO, m200, m203, m204, m205, m206, m207, m208, m209, m210, m212, m213, m214, m215, m216, m217, m218, m220, m223, m224, m225, m226, hFA, hFT, hFS, hFO⟩ := id hR
  obtain ⟨hnb, hns, hnr, hpc, hst, hto, htl, hrm, hpa, hwt, hdf, hds⟩ := id hI
  refine lv_aload_n hx hb d_M_taken_0 rfl (lv_at hl 0 rfl) ?_
  refine lv_iload_n hx hb d_M_taken_1 rfl (lv_at hl 1 rfl) ?_
  refine xr_call (va_runV (As := [.int x1]) (rest := []) ⟨hx, hb, hml, hown, htw⟩ (c_M_isBatch (ad := ad) hR hI hw x1) (cwV 1 htw (gV u_430 u_432 us_8 u_3 u_433) rfl rfl rfl hd_M_isBatch ⟨Nat.le_of_ble_eq_true rfl, Nat.le_of_ble_eq_true rfl⟩) ⟨xP_blind, hw.recv hK (ci := 5) (t := 200) rfl m200 rfl, xP_of hK hN⟩ rfl rfl hl.1 rfl (lv_room (Nat.le_of_ble_eq_true rfl)) d_M_taken_2 ⟨by decide, by decide⟩) hS (fun v H_ locs hp hS => ?_)
  obtain ⟨hHe, hp⟩ := hp
  rw [hHe] at hS ⊢
  rcases hp with ⟨f2, rfl⟩ | ⟨i1, hi1, rfl, rfl⟩
  · refine W.eq (g2 := F0 m 5 ls [.int 0]) rfl ?_
    refine lv_if_eq (tgt := 47) hx hb d_M_taken_5 (by decide) (fun c_3 => ?_) (fun c_3 => absurd (by decide) c_3)
    refine lv_ldc2 (v := (-1)) hx hb hown (htw _ u_447) d_M_taken_47 ?_
    exact W.lret (v := (-1)) hx hb hr (fun t ht _ => ⟨_, rfl, ⟨by simp [f_taken, opt_n, opt_s, opt_c, f2], ht⟩, hS.F ht⟩) hS.2.2 d_M_taken_50
  · have fi1 : xi (σ.1 0) (nI i1) = some i1 := xi_nI hi1 (by omega)
    refine W.eq (g2 := F0 m 5 ls [.int 1]) rfl ?_
    refine lv_if_eq (tgt := 47) hx hb d_M_taken_5 (by decide) (fun c_4 => absurd c_4 (by decide)) (fun c_4 => ?_)
    refine lv_iload_n hx hb d_M_taken_8 rfl (lv_at hl 3 rfl) ?_
    refine xr_call (va_runS (As := [.int x3]) (rest := []) ⟨hx, hb, hml, hown, htw⟩ (c_M_isMetal x3) (va_cwS 1 htw (gS u_434 u_435 u_3 u_436) rfl rfl rfl hd_M_isMetal.2 ⟨Nat.le_of_ble_eq_true rfl, Nat.le_of_ble_eq_true rfl⟩) ⟨xP_blind, xP_of hK hN⟩ rfl rfl hl.1 rfl (lv_room (Nat.le_of_ble_eq_true rfl)) d_M_taken_9 ⟨by decide, by decide⟩) hS (fun v H_ locs hp hS => ?_)
    obtain ⟨rfl, hHe⟩ := hp
    rw [hHe] at hS ⊢
    refine W.eq (g2 := F0 m 12 ls [.int (bI (xm x3))]) rfl ?_
    refine lv_if_eq (tgt := 47) hx hb d_M_taken_12 (by decide) (fun c_5 => ?_) (fun c_5 => ?_)
    · have c_5 : (xm x3) = false := bI_f.mp c_5
      have f6 : xi 4 x3 = none := xm_xi c_5
      refine lv_ldc2 (v := (-1)) hx hb hown (htw _ u_447) d_M_taken_47 ?_
      exact W.lret (v := (-1)) hx hb hr (fun t ht _ => ⟨_, rfl, ⟨by simp [f_taken, opt_n, opt_s, opt_c, fi1, f6, c_5], ht⟩, hS.F ht⟩) hS.2.2 d_M_taken_50
    · have c_5 : (xm x3) = true := bI_t.mp c_5
      obtain ⟨k7, hk7, rfl⟩ := xm_of c_5
      have xk7 : xi 4 (nI k7) = some k7 := xi_nI hk7 (by decide)
      refine lv_iload_n hx hb d_M_taken_15 rfl (lv_at hl 2 rfl) ?_
      refine lv_if_lt (tgt := 47) hx hb d_M_taken_16 (by decide) (fun c_8 => ?_) (fun c_8 => ?_)
      · refine lv_ldc2 (v := (-1)) hx hb hown (htw _ u_447) d_M_taken_47 ?_
        exact W.lret (v := (-1)) hx hb hr (fun t ht _ => ⟨_, rfl, ⟨by simp [f_taken, opt_n, opt_s, opt_c, fi1, xk7, c_5, xi_0 c_8], ht⟩, hS.F ht⟩) hS.2.2 d_M_taken_50
      · refine lv_iload_n hx hb d_M_taken_19 rfl (lv_at hl 2 rfl) ?_
        refine lv_aload_n hx hb d_M_taken_20 rfl (lv_at hl 0 rfl) ?_
        refine xr_get (ci := 5) (v := .ref (ad 208)) (C := R_M) (T := T_M) (N := 26) hx hb htw in_M hown hK hw 200 m200 rfl rfl 7 (by decide) (htw _ u_341) (fun _ h9 => h9) rfl d_M_taken_21 ?_
        refine lv_iload_n hx hb d_M_taken_24 rfl (lv_at hl 1 rfl) ?_
        refine xr_iald (i := nI i1) hx hb hK hw 208 0 m208 rfl rfl (xvin (a := i1) rfl (by omega) (by omega)) d_M_taken_25 ?_
        refine lv_topi (fun x_9 ex_9 => ?_)
        obtain rfl : x_9 = (σ.2.1 10) i1 := ex_9.trans ((congrArg (σ.2.1 10) (xcl (a := i1) rfl (by omega))).trans rfl)
        have hs6 := hst i1
        rcases hpa i1 hi1 with ⟨er, ep⟩ | er
        · rw [er]
          refine lv_icmp_ge (tgt := 47) hx hb d_M_taken_26 (by decide) (fun c_10 => ?_) (fun c_10 => absurd (m1_le c_8) c_10)
          refine lv_ldc2 (v := (-1)) hx hb hown (htw _ u_447) d_M_taken_47 ?_
          exact W.lret (v := (-1)) hx hb hr (fun t ht _ => ⟨_, rfl, ⟨by simp [f_taken, opt_n, opt_s, opt_c, fi1, xk7, ep, xi_z, c_5], ht⟩, hS.F ht⟩) hS.2.2 d_M_taken_50
        · rw [er]
          refine lv_icmp_ge (tgt := 47) hx hb d_M_taken_26 (by decide) (fun c_11 => ?_) (fun c_11 => ?_)
          · refine lv_ldc2 (v := (-1)) hx hb hown (htw _ u_447) d_M_taken_47 ?_
            exact W.lret (v := (-1)) hx hb hr (fun t ht _ => ⟨_, rfl, ⟨by simp [f_taken, opt_n, opt_s, opt_c, fi1, xk7, c_5, xi_n c_11 (by omega)], ht⟩, hS.F ht⟩) hS.2.2 d_M_taken_50
          · obtain ⟨j, hj, rfl⟩ := xi_t c_8 c_11 (by omega)
            have xj : xi (σ.1 (10 + 2 * i1)) (nI j) = some j := xi_nI hj (by omega)
            refine lv_aload_n hx hb d_M_taken_29 rfl (lv_at hl 0 rfl) ?_
            refine xr_get (ci := 5) (v := .ref (ad 210)) (C := R_M) (T := T_M) (N := 26) hx hb htw in_M hown hK hw 200 m200 rfl rfl 9 (by decide) (htw _ u_343) (fun _ h9 => h9) rfl d_M_taken_30 ?_
            refine lv_bipush (v := 24) hx hb d_M_taken_33 (by decide) ?_
            refine lv_iload_n hx hb d_M_taken_35 rfl (lv_at hl 1 rfl) ?_
            refine lv_imul hx hb d_M_taken_36 ?_
            refine lv_iconst (v := 4) hx hb d_M_taken_37 (by decide) ?_
            refine lv_iload_n hx hb d_M_taken_38 rfl (lv_at hl 2 rfl) ?_
            refine lv_imul hx hb d_M_taken_39 ?_
            refine lv_iadd hx hb d_M_taken_40 ?_
            refine lv_iload_n hx hb d_M_taken_41 rfl (lv_at hl 3 rfl) ?_
            refine lv_iadd hx hb d_M_taken_42 ?_
            refine xr_lald (i := ((24 * (nI i1)) + (4 * (nI j))) + (nI k7)) hx hb hK hw 210 1 m210 rfl rfl (xvin (a := ((24 * i1) + (4 * j)) + k7) (xadd (a := (24 * i1) + (4 * j)) (b := k7) (xadd (a := 24 * i1) (b := 4 * j) (xmul (a := 24) (b := i1) rfl rfl) (xmul (a := 4) (b := j) rfl rfl)) rfl) (by omega) (by omega)) d_M_taken_43 ?_
            refine lv_topl (fun x_12 ex_12 => ?_)
            obtain rfl : x_12 = σ.2.2.1 (20 + i1) (j * 4 + k7) := ex_12.trans ((congrArg FT (xcl (a := ((24 * i1) + (4 * j)) + k7) (xadd (a := (24 * i1) + (4 * j)) (b := k7) (xadd (a := 24 * i1) (b := 4 * j) (xmul (a := 24) (b := i1) rfl rfl) (xmul (a := 4) (b := j) rfl rfl)) rfl) (by omega))).trans ((congrArg FT (show ((24 * i1) + (4 * j)) + k7 = 24 * i1 + (j * 4 + k7) by omega)).trans (hFT i1 (j * 4 + k7) (by omega) (by omega))))
            refine lv_goto (tgt := 50) hx hb d_M_taken_44 (by decide) ?_
            exact W.lret (v := σ.2.2.1 (20 + i1) (j * 4 + k7)) hx hb hr (fun t ht _ => ⟨_, rfl, ⟨by simp [f_taken, opt_n, opt_s, opt_c, fi1, xk7, xj, c_5], ht⟩, hS.F ht⟩) hS.2.2 d_M_taken_50
set_option maxHeartbeats 4000000 in
set_option maxRecDepth 100000 in
theorem c_M_priceOn {l : Launch} {D : va_G} {K : Nat → ClassId} {B : Nat} {ad : Nat → Nat} {w : Nat → Option va_E} {H : Heap} {σ : xS} (hR : RepM K σ ad w) (hI : Inv σ) (hw : xw D vwCl B ad w H) (k : Nat) (hk : k < 4) (d : Int32) : xC l D K B y_M_priceOn b_M_priceOn 6 (some .long) rm_M_priceOn [.ref (ad 200), .int (nI k), .int d] H (fun v H1 => v = some (.long (pr σ d k)) ∧ H1 = H) := by
  refine Met.ofW (cc := b_M_priceOn) (maxL := 6) (ret := (some .long)) (by decide) rfl ?_
  intro p e s m args below meth c s₁ B0 hml hv
  obtain ⟨rfl, hsz, hK, hN⟩ := hv
  have hx := B0.exec
  have hb := B0.bytes
  have hr := B0.returns
  have htw : ∀ w ∈ xW0, w.before [.ref (ad 200), .int (nI k), .int d].toArray s = true := fun w h => atoms_spec (ws := Cond.code y_M_priceOn b_M_priceOn 6 (some .long) :: xW0) B0.pre w (List.mem_cons_of_mem _ h)
  have hown : s.vm.findClass R_M = some m.cls := findClass_of_methodNamed B0.named
  have hlocks := B0.notSynchronized
  subst hsz
  have hS : va_S (fun q => B ≤ q) s.heap s.heap [] := va_S.rf
  have hl := lv_entry ([.ref (ad 200), .int (nI k), .int d]) (n := 6) (Nat.le_of_ble_eq_true rfl)
  rw [lg_entry_eq]
  generalize (lg_sl ([.ref (ad 200), .int (nI k), .int d]) ++ List.replicate (6 - (lg_sl ([.ref (ad 200), .int (nI k), .int d])).length) Slot.unset).toArray = ls at hl ⊢
  have hl : lv_has ls 6 [(0, .ref (ad 200)), (1, .int (nI k)), (2, .int d)] := hl
  have hH : s.heap = s.heap := rfl
  obtain ⟨FA, FT, FS, FO, m200, m203, m204, m205, m206, m207, m208, m209, m210, m212, m213, m214, m215, m216, m217, m218, m220, m223, m224, m225, m226, hFA, hFT, hFS, hFO⟩ := id hR
  obtain ⟨hnb, hns, hnr, hpc, hst, hto, htl, hrm, hpa, hwt, hdf, hds⟩ := id hI
  have hck := hpc k hk
  refine lv_lconst (v := 0) hx hb d_M_priceOn_0 (by decide) ?_
  refine lv_lstore_n (lv' := [(3, .long 0), (0, .ref (ad 200)), (1, .int (nI k)), (2, .int d)]) hx hb d_M_priceOn_1 rfl hl (by decide) rfl (fun ls hl => ?_)
  refine lv_iconst (v := 0) hx hb d_M_priceOn_2 (by decide) ?_
  refine lv_istore (lv' := [(5, .int 0), (3, .long 0), (0, .ref (ad 200)), (1, .int (nI k)), (2, .int d)]) hx hb d_M_priceOn_3 hl (by decide) rfl (fun ls hl => ?_)
  refine xloop (σ.1 (11 + 2 * k)) (fun n H locs ls => H = s.heap ∧ va_S (fun q => B ≤ q) s.heap H locs ∧ (True) ∧ lv_has ls 6 [(5, .int (nI n)), (3, .long (prN σ k d n)), (0, .ref (ad 200)), (1, .int (nI k)), (2, .int d)]) 0 (Nat.zero_le _) ⟨rfl, hS, trivial, lv_sub hl [0, 1, 2, 3, 4] rfl⟩ (fun n H locs ls hn hJ ih => ?_)
  obtain ⟨rfl, hS, hex, hl⟩ := hJ
  refine lv_iload hx hb d_M_priceOn_5 (lv_at hl 0 rfl) ?_
  refine lv_aload_n hx hb d_M_priceOn_7 rfl (lv_at hl 2 rfl) ?_
  refine xr_get (ci := 5) (v := .ref (ad 216)) (C := R_M) (T := T_M) (N := 26) hx hb htw in_M hown hK hw 200 m200 rfl rfl 15 (by decide) (htw _ u_349) (fun _ h9 => h9) rfl d_M_priceOn_8 ?_
  refine lv_iload_n hx hb d_M_priceOn_11 rfl (lv_at hl 3 rfl) ?_
  refine xr_iald (i := nI k) hx hb hK hw 216 0 m216 rfl rfl (xvin (a := k) rfl (by omega) (by omega)) d_M_priceOn_12 ?_
  refine lv_topi (fun x_1 ex_1 => ?_)
  obtain rfl : x_1 = nI (σ.1 (11 + 2 * k)) := ex_1.trans ((congrArg (fun k => nI (σ.1 (11 + 2 * k))) (xcl (a := k) rfl (by omega))).trans rfl)
  refine lv_icmp_ge (tgt := 55) hx hb d_M_priceOn_13 (by decide) (fun c_2 => ?_) (fun c_2 => ?_)
  · have c_2 : (σ.1 (11 + 2 * k)) ≤ n := (nLE (a := σ.1 (11 + 2 * k)) (b := n) (by omega) (by omega)).mp c_2
    refine lv_lload_n hx hb d_M_priceOn_55 rfl (lv_at hl 1 rfl) ?_
    exact W.lret (v := prN σ k d n) hx hb hr (fun t ht _ => ⟨_, rfl, ⟨by rw [pr, show n = σ.1 (11 + 2 * k) by omega], ht⟩, hS.F ht⟩) hS.2.2 d_M_priceOn_56
  · have c_2 : ¬ (σ.1 (11 + 2 * k)) ≤ n := fun z => c_2 ((nLE (a := σ.1 (11 + 2 * k)) (b := n) (by omega) (by omega)).mpr z)
    refine lv_aload_n hx hb d_M_priceOn_16 rfl (lv_at hl 2 rfl) ?_
    refine xr_get (ci := 5) (v := .ref (ad 217)) (C := R_M) (T := T_M) (N := 26) hx hb htw in_M hown hK hw 200 m200 rfl rfl 16 (by decide) (htw _ u_350) (fun _ h9 => h9) rfl d_M_priceOn_17 ?_
    refine lv_bipush (v := 6) hx hb d_M_priceOn_20 (by decide) ?_
    refine lv_iload_n hx hb d_M_priceOn_22 rfl (lv_at hl 3 rfl) ?_
    refine lv_imul hx hb d_M_priceOn_23 ?_
    refine lv_iload hx hb d_M_priceOn_24 (lv_at hl 0 rfl) ?_
    refine lv_iadd hx hb d_M_priceOn_26 ?_
    refine xr_iald (i := (6 * (nI k)) + (nI n)) hx hb hK hw 217 0 m217 rfl rfl (xvin (a := (6 * k) + n) (xadd (a := 6 * k) (b := n) (xmul (a := 6) (b := k) rfl rfl) rfl) (by omega) (by omega)) d_M_priceOn_27 ?_
    refine lv_topi (fun x_3 ex_3 => ?_)
    obtain rfl : x_3 = σ.2.1 40 (k * 6 + n) := ex_3.trans ((congrArg (σ.2.1 40) (xcl (a := (6 * k) + n) (xadd (a := 6 * k) (b := n) (xmul (a := 6) (b := k) rfl rfl) rfl) (by omega))).trans (congrArg (σ.2.1 40) (show (6 * k) + n = k * 6 + n by omega)))
    refine lv_iload_n hx hb d_M_priceOn_28 rfl (lv_at hl 4 rfl) ?_
    refine lv_icmp_gt (tgt := 47) hx hb d_M_priceOn_29 (by decide) (fun c_4 => ?_) (fun c_4 => ?_)
    · refine lv_lload_n hx hb d_M_priceOn_47 rfl (lv_at hl 1 rfl) ?_
      refine lv_lstore_n (lv' := [(3, .long (prN σ k d n)), (5, .int (nI n)), (0, .ref (ad 200)), (1, .int (nI k)), (2, .int d)]) hx hb d_M_priceOn_48 rfl hl (by decide) rfl (fun ls hl => ?_)
      refine lv_iinc (v := nI n + 1) (lv' := [(5, .int (nI n + 1)), (3, .long (prN σ k d n)), (0, .ref (ad 200)), (1, .int (nI k)), (2, .int d)]) hx hb d_M_priceOn_49 hl (k := 1) rfl rfl (by decide) rfl (fun ls hl => ?_)
      refine lv_goto (tgt := 5) hx hb d_M_priceOn_52 (by decide) ?_
      refine ih (by omega) _ _ _ ⟨rfl, hS, trivial, ?_⟩
      have hn1 : prN σ k d (n + 1) = prN σ k d n := by simp [prN, c_4, Int32.not_le.mpr c_4]
      rw [show nI (n + 1) = nI n + 1 from nI_succ n, hn1]; exact lv_sub hl [0, 1, 2, 3, 4] rfl
    · refine lv_aload_n hx hb d_M_priceOn_32 rfl (lv_at hl 2 rfl) ?_
      refine xr_get (ci := 5) (v := .ref (ad 218)) (C := R_M) (T := T_M) (N := 26) hx hb htw in_M hown hK hw 200 m200 rfl rfl 17 (by decide) (htw _ u_351) (fun _ h9 => h9) rfl d_M_priceOn_33 ?_
      refine lv_bipush (v := 6) hx hb d_M_priceOn_36 (by decide) ?_
      refine lv_iload_n hx hb d_M_priceOn_38 rfl (lv_at hl 3 rfl) ?_
      refine lv_imul hx hb d_M_priceOn_39 ?_
      refine lv_iload hx hb d_M_priceOn_40 (lv_at hl 0 rfl) ?_
      refine lv_iadd hx hb d_M_priceOn_42 ?_
      refine xr_lald (i := (6 * (nI k)) + (nI n)) hx hb hK hw 218 1 m218 rfl rfl (xvin (a := (6 * k) + n) (xadd (a := 6 * k) (b := n) (xmul (a := 6) (b := k) rfl rfl) rfl) (by omega) (by omega)) d_M_priceOn_43 ?_
      refine lv_topl (fun x_5 ex_5 => ?_)
      obtain rfl : x_5 = σ.2.2.1 40 (k * 6 + n) := ex_5.trans ((congrArg (σ.2.2.1 40) (xcl (a := (6 * k) + n) (xadd (a := 6 * k) (b := n) (xmul (a := 6) (b := k) rfl rfl) rfl) (by omega))).trans (congrArg (σ.2.2.1 40) (show (6 * k) + n = k * 6 + n by omega)))
      refine lv_goto (tgt := 48) hx hb d_M_priceOn_44 (by decide) ?_
      refine lv_lstore_n (lv' := [(3, .long (σ.2.2.1 40 (k * 6 + n))), (5, .int (nI n)), (0, .ref (ad 200)), (1, .int (nI k)), (2, .int d)]) hx hb d_M_priceOn_48 rfl hl (by decide) rfl (fun ls hl => ?_)
      refine lv_iinc (v := nI n + 1) (lv' := [(5, .int (nI n + 1)), (3, .long (σ.2.2.1 40 (k * 6 + n))), (0, .ref (ad 200)), (1, .int (nI k)), (2, .int d)]) hx hb d_M_priceOn_49 hl (k := 1) rfl rfl (by decide) rfl (fun ls hl => ?_)
      refine lv_goto (tgt := 5) hx hb d_M_priceOn_52 (by decide) ?_
      refine ih (by omega) _ _ _ ⟨rfl, hS, trivial, ?_⟩
      have hn1 : prN σ k d (n + 1) = σ.2.2.1 40 (k * 6 + n) := by simp [prN, c_4, Int32.not_lt.mp c_4]
      rw [show nI (n + 1) = nI n + 1 from nI_succ n, hn1]; exact lv_sub hl [0, 1, 2, 3, 4] rfl
set_option maxHeartbeats 4000000 in
set_option maxRecDepth 100000 in
theorem c_M_worthOf {l : Launch} {D : va_G} {K : Nat → ClassId} {B : Nat} {ad : Nat → Nat} {w : Nat → Option va_E} {H : Heap} {σ : xS} (hR : RepM K σ ad w) (hI : Inv σ) (hw : xw D vwCl B ad w H) (t n : Nat) (hn : n < 1000) (F A : Nat → Int64) (hF : w t = some (.inl (K 1, n, .inr (.inl F)))) (i : Nat) (hin : 4 * i + 4 ≤ n) (hA : ∀ k, k < 4 → F (4 * i + k) = A k) (d : Int32) (a : Nat) (ha : ad t = a) : xC l D K B y_M_worthOf b_M_worthOf 9 (some .long) rm_M_worthOf [.ref (ad 200), .ref a, .int (nI (4 * i)), .int d] H (fun v H1 => v = some (.long (wor σ A d)) ∧ H1 = H) := by
  refine Met.ofW (cc := b_M_worthOf) (maxL := 9) (ret := (some .long)) (by decide) rfl ?_
  intro p e s m args below meth c s₁ B0 hml hv
  obtain ⟨rfl, hsz, hK, hN⟩ := hv
  have hx := B0.exec
  have hb := B0.bytes
  have hr := B0.returns
  have htw : ∀ w ∈ xW0, w.before [.ref (ad 200), .ref a, .int (nI (4 * i)), .int d].toArray s = true := fun w h => atoms_spec (ws := Cond.code y_M_worthOf b_M_worthOf 9 (some .long) :: xW0) B0.pre w (List.mem_cons_of_mem _ h)
  have hown : s.vm.findClass R_M = some m.cls := findClass_of_methodNamed B0.named
  have hlocks := B0.notSynchronized
  subst hsz
  have hS : va_S (fun q => B ≤ q) s.heap s.heap [] := va_S.rf
  have hl := lv_entry ([.ref (ad 200), .ref a, .int (nI (4 * i)), .int d]) (n := 9) (Nat.le_of_ble_eq_true rfl)
  rw [lg_entry_eq]
  generalize (lg_sl ([.ref (ad 200), .ref a, .int (nI (4 * i)), .int d]) ++ List.replicate (9 - (lg_sl ([.ref (ad 200), .ref a, .int (nI (4 * i)), .int d])).length) Slot.unset).toArray = ls at hl ⊢
  have hl : lv_has ls 9 [(0, .ref (ad 200)), (1, .ref a), (2, .int (nI (4 * i))), (3, .int d)] := hl
  have hH : s.heap = s.heap := rfl
  obtain ⟨FA, FT, FS, FO, m200, m203, m204, m205, m206, m207, m208, m209, m210, m212, m213, m214, m215, m216, m217, m218, m220, m223, m224, m225, m226, hFA, hFT, hFS, hFO⟩ := id hR
  obtain ⟨hnb, hns, hnr, hpc, hst, hto, htl, hrm, hpa, hwt, hdf, hds⟩ := id hI
  refine lv_lconst (v := 0) hx hb d_M_worthOf_0 (by decide) ?_
  refine lv_lstore (lv' := [(4, .long 0), (0, .ref (ad 200)), (1, .ref a), (2, .int (nI (4 * i))), (3, .int d)]) hx hb d_M_worthOf_1 hl (by decide) rfl (fun ls hl => ?_)
  refine lv_lconst (v := 0) hx hb d_M_worthOf_3 (by decide) ?_
  refine lv_lstore (lv' := [(6, .long 0), (4, .long 0), (0, .ref (ad 200)), (1, .ref a), (2, .int (nI (4 * i))), (3, .int d)]) hx hb d_M_worthOf_4 hl (by decide) rfl (fun ls hl => ?_)
  refine lv_iconst (v := 0) hx hb d_M_worthOf_6 (by decide) ?_
  refine lv_istore (lv' := [(8, .int 0), (6, .long 0), (4, .long 0), (0, .ref (ad 200)), (1, .ref a), (2, .int (nI (4 * i))), (3, .int d)]) hx hb d_M_worthOf_7 hl (by decide) rfl (fun ls hl => ?_)
  refine lv_iload hx hb d_M_worthOf_9 (lv_at hl 0 rfl) ?_
  refine lv_iconst (v := 4) hx hb d_M_worthOf_11 (by decide) ?_
  refine lv_icmp_ge (tgt := 67) hx hb d_M_worthOf_12 (by decide) (fun c_1 => absurd c_1 (by decide)) (fun c_1 => ?_)
  refine lv_lload hx hb d_M_worthOf_15 (lv_at hl 2 rfl) ?_
  refine lv_aload_n hx hb d_M_worthOf_17 rfl (lv_at hl 4 rfl) ?_
  refine lv_iload_n hx hb d_M_worthOf_18 rfl (lv_at hl 5 rfl) ?_
  refine lv_iload hx hb d_M_worthOf_19 (lv_at hl 0 rfl) ?_
  refine lv_iadd hx hb d_M_worthOf_21 ?_
  refine xr_lald (i := (nI (4 * i)) + 0) hx hb hK hw t 1 hF ha rfl (xvin (a := 4 * i) (xadd (a := 4 * i) (b := 0) rfl rfl) (by omega) (by omega)) d_M_worthOf_22 ?_
  refine lv_topl (fun x_2 ex_2 => ?_)
  obtain rfl : x_2 = A 0 := ex_2.trans ((congrArg F (xcl (a := 4 * i) (xadd (a := 4 * i) (b := 0) rfl rfl) (by omega))).trans (hA 0 (by omega)))
  refine lv_ldc2 (v := 1000000) hx hb hown (htw _ u_437) d_M_worthOf_23 ?_
  refine lv_ldiv hx hb d_M_worthOf_26 (by decide) ?_
  refine lv_aload_n hx hb d_M_worthOf_27 rfl (lv_at hl 3 rfl) ?_
  refine lv_iload hx hb d_M_worthOf_28 (lv_at hl 0 rfl) ?_
  refine lv_iload_n hx hb d_M_worthOf_30 rfl (lv_at hl 6 rfl) ?_
  refine xr_call (va_runV (As := [.int 0, .int d]) (rest := [.long ((A 0) / 1000000), .long 0]) ⟨hx, hb, hml, hown, htw⟩ (c_M_priceOn (ad := ad) hR hI hw 0 (by omega) d) (cwV 2 htw (gV u_485 u_487 us_11 u_3 u_488) rfl rfl rfl hd_M_priceOn ⟨Nat.le_of_ble_eq_true rfl, Nat.le_of_ble_eq_true rfl⟩) ⟨xP_blind, hw.recv hK (ci := 5) (t := 200) rfl m200 rfl, xP_of hK hN⟩ rfl rfl hl.1 rfl (lv_room (Nat.le_of_ble_eq_true rfl)) d_M_worthOf_31 ⟨by decide, by decide⟩) hS (fun v H_ locs hp hS => ?_)
  obtain ⟨rfl, hHe⟩ := hp
  rw [hHe] at hS ⊢
  refine W.eq (g2 := F0 m 34 ls [.long (pr σ d 0), .long ((A 0) / 1000000), .long 0]) rfl ?_
  refine lv_lmul hx hb d_M_worthOf_34 ?_
  refine lv_ladd hx hb d_M_worthOf_35 ?_
  refine lv_lstore (lv' := [(4, .long (0 + (((A 0) / 1000000) * (pr σ d 0)))), (8, .int 0), (6, .long 0), (0, .ref (ad 200)), (1, .ref a), (2, .int (nI (4 * i))), (3, .int d)]) hx hb d_M_worthOf_36 hl (by decide) rfl (fun ls hl => ?_)
  refine lv_lload hx hb d_M_worthOf_38 (lv_at hl 2 rfl) ?_
  refine lv_aload_n hx hb d_M_worthOf_40 rfl (lv_at hl 4 rfl) ?_
  refine lv_iload_n hx hb d_M_worthOf_41 rfl (lv_at hl 5 rfl) ?_
  refine lv_iload hx hb d_M_worthOf_42 (lv_at hl 1 rfl) ?_
  refine lv_iadd hx hb d_M_worthOf_44 ?_
  refine xr_lald (i := (nI (4 * i)) + 0) hx hb hK hw t 1 hF ha rfl (xvin (a := 4 * i) (xadd (a := 4 * i) (b := 0) rfl rfl) (by omega) (by omega)) d_M_worthOf_45 ?_
  refine lv_topl (fun x_3 ex_3 => ?_)
  obtain rfl : x_3 = A 0 := ex_3.trans ((congrArg F (xcl (a := 4 * i) (xadd (a := 4 * i) (b := 0) rfl rfl) (by omega))).trans (hA 0 (by omega)))
  refine lv_ldc2 (v := 1000000) hx hb hown (htw _ u_437) d_M_worthOf_46 ?_
  refine lv_lrem hx hb d_M_worthOf_49 (by decide) ?_
  refine lv_aload_n hx hb d_M_worthOf_50 rfl (lv_at hl 3 rfl) ?_
  refine lv_iload hx hb d_M_worthOf_51 (lv_at hl 1 rfl) ?_
  refine lv_iload_n hx hb d_M_worthOf_53 rfl (lv_at hl 6 rfl) ?_
  refine xr_call (va_runV (As := [.int 0, .int d]) (rest := [.long ((A 0) - (A 0) / 1000000 * 1000000), .long 0]) ⟨hx, hb, hml, hown, htw⟩ (c_M_priceOn (ad := ad) hR hI hw 0 (by omega) d) (cwV 2 htw (gV u_485 u_487 us_11 u_3 u_488) rfl rfl rfl hd_M_priceOn ⟨Nat.le_of_ble_eq_true rfl, Nat.le_of_ble_eq_true rfl⟩) ⟨xP_blind, hw.recv hK (ci := 5) (t := 200) rfl m200 rfl, xP_of hK hN⟩ rfl rfl hl.1 rfl (lv_room (Nat.le_of_ble_eq_true rfl)) d_M_worthOf_54 ⟨by decide, by decide⟩) hS (fun v H_ locs hp hS => ?_)
  obtain ⟨rfl, hHe⟩ := hp
  rw [hHe] at hS ⊢
  refine W.eq (g2 := F0 m 57 ls [.long (pr σ d 0), .long ((A 0) - (A 0) / 1000000 * 1000000), .long 0]) rfl ?_
  refine lv_lmul hx hb d_M_worthOf_57 ?_
  refine lv_ladd hx hb d_M_worthOf_58 ?_
  refine lv_lstore (lv' := [(6, .long (0 + (((A 0) - (A 0) / 1000000 * 1000000) * (pr σ d 0)))), (4, .long (0 + (((A 0) / 1000000) * (pr σ d 0)))), (8, .int 0), (0, .ref (ad 200)), (1, .ref a), (2, .int (nI (4 * i))), (3, .int d)]) hx hb d_M_worthOf_59 hl (by decide) rfl (fun ls hl => ?_)
  refine lv_iinc (v := 1) (lv' := [(8, .int 1), (6, .long (0 + (((A 0) - (A 0) / 1000000 * 1000000) * (pr σ d 0)))), (4, .long (0 + (((A 0) / 1000000) * (pr σ d 0)))), (0, .ref (ad 200)), (1, .ref a), (2, .int (nI (4 * i))), (3, .int d)]) hx hb d_M_worthOf_61 hl (k := 2) rfl (by decide) (by decide) rfl (fun ls hl => ?_)
  refine lv_goto (tgt := 9) hx hb d_M_worthOf_64 (by decide) ?_
  refine lv_iload hx hb d_M_worthOf_9 (lv_at hl 0 rfl) ?_
  refine lv_iconst (v := 4) hx hb d_M_worthOf_11 (by decide) ?_
  refine lv_icmp_ge (tgt := 67) hx hb d_M_worthOf_12 (by decide) (fun c_4 => absurd c_4 (by decide)) (fun c_4 => ?_)
  refine lv_lload hx hb d_M_worthOf_15 (lv_at hl 2 rfl) ?_
  refine lv_aload_n hx hb d_M_worthOf_17 rfl (lv_at hl 4 rfl) ?_
  refine lv_iload_n hx hb d_M_worthOf_18 rfl (lv_at hl 5 rfl) ?_
  refine lv_iload hx hb d_M_worthOf_19 (lv_at hl 0 rfl) ?_
  refine lv_iadd hx hb d_M_worthOf_21 ?_
  refine xr_lald (i := (nI (4 * i)) + 1) hx hb hK hw t 1 hF ha rfl (xvin (a := (4 * i) + 1) (xadd (a := 4 * i) (b := 1) rfl rfl) (by omega) (by omega)) d_M_worthOf_22 ?_
  refine lv_topl (fun x_5 ex_5 => ?_)
  obtain rfl : x_5 = A 1 := ex_5.trans ((congrArg F (xcl (a := (4 * i) + 1) (xadd (a := 4 * i) (b := 1) rfl rfl) (by omega))).trans (hA 1 (by omega)))
  refine lv_ldc2 (v := 1000000) hx hb hown (htw _ u_437) d_M_worthOf_23 ?_
  refine lv_ldiv hx hb d_M_worthOf_26 (by decide) ?_
  refine lv_aload_n hx hb d_M_worthOf_27 rfl (lv_at hl 3 rfl) ?_
  refine lv_iload hx hb d_M_worthOf_28 (lv_at hl 0 rfl) ?_
  refine lv_iload_n hx hb d_M_worthOf_30 rfl (lv_at hl 6 rfl) ?_
  refine xr_call (va_runV (As := [.int 1, .int d]) (rest := [.long ((A 1) / 1000000), .long (0 + (((A 0) / 1000000) * (pr σ d 0)))]) ⟨hx, hb, hml, hown, htw⟩ (c_M_priceOn (ad := ad) hR hI hw 1 (by omega) d) (cwV 2 htw (gV u_485 u_487 us_11 u_3 u_488) rfl rfl rfl hd_M_priceOn ⟨Nat.le_of_ble_eq_true rfl, Nat.le_of_ble_eq_true rfl⟩) ⟨xP_blind, hw.recv hK (ci := 5) (t := 200) rfl m200 rfl, xP_of hK hN⟩ rfl rfl hl.1 rfl (lv_room (Nat.le_of_ble_eq_true rfl)) d_M_worthOf_31 ⟨by decide, by decide⟩) hS (fun v H_ locs hp hS => ?_)
  obtain ⟨rfl, hHe⟩ := hp
  rw [hHe] at hS ⊢
  refine W.eq (g2 := F0 m 34 ls [.long (pr σ d 1), .long ((A 1) / 1000000), .long (0 + (((A 0) / 1000000) * (pr σ d 0)))]) rfl ?_
  refine lv_lmul hx hb d_M_worthOf_34 ?_
  refine lv_ladd hx hb d_M_worthOf_35 ?_
  refine lv_lstore (lv' := [(4, .long ((0 + (((A 0) / 1000000) * (pr σ d 0))) + (((A 1) / 1000000) * (pr σ d 1)))), (8, .int 1), (6, .long (0 + (((A 0) - (A 0) / 1000000 * 1000000) * (pr σ d 0)))), (0, .ref (ad 200)), (1, .ref a), (2, .int (nI (4 * i))), (3, .int d)]) hx hb d_M_worthOf_36 hl (by decide) rfl (fun ls hl => ?_)
  refine lv_lload hx hb d_M_worthOf_38 (lv_at hl 2 rfl) ?_
  refine lv_aload_n hx hb d_M_worthOf_40 rfl (lv_at hl 4 rfl) ?_
  refine lv_iload_n hx hb d_M_worthOf_41 rfl (lv_at hl 5 rfl) ?_
  refine lv_iload hx hb d_M_worthOf_42 (lv_at hl 1 rfl) ?_
  refine lv_iadd hx hb d_M_worthOf_44 ?_
  refine xr_lald (i := (nI (4 * i)) + 1) hx hb hK hw t 1 hF ha rfl (xvin (a := (4 * i) + 1) (xadd (a := 4 * i) (b := 1) rfl rfl) (by omega) (by omega)) d_M_worthOf_45 ?_
  refine lv_topl (fun x_6 ex_6 => ?_)
  obtain rfl : x_6 = A 1 := ex_6.trans ((congrArg F (xcl (a := (4 * i) + 1) (xadd (a := 4 * i) (b := 1) rfl rfl) (by omega))).trans (hA 1 (by omega)))
  refine lv_ldc2 (v := 1000000) hx hb hown (htw _ u_437) d_M_worthOf_46 ?_
  refine lv_lrem hx hb d_M_worthOf_49 (by decide) ?_
  refine lv_aload_n hx hb d_M_worthOf_50 rfl (lv_at hl 3 rfl) ?_
  refine lv_iload hx hb d_M_worthOf_51 (lv_at hl 1 rfl) ?_
  refine lv_iload_n hx hb d_M_worthOf_53 rfl (lv_at hl 6 rfl) ?_
  refine xr_call (va_runV (As := [.int 1, .int d]) (rest := [.long ((A 1) - (A 1) / 1000000 * 1000000), .long (0 + (((A 0) - (A 0) / 1000000 * 1000000) * (pr σ d 0)))]) ⟨hx, hb, hml, hown, htw⟩ (c_M_priceOn (ad := ad) hR hI hw 1 (by omega) d) (cwV 2 htw (gV u_485 u_487 us_11 u_3 u_488) rfl rfl rfl hd_M_priceOn ⟨Nat.le_of_ble_eq_true rfl, Nat.le_of_ble_eq_true rfl⟩) ⟨xP_blind, hw.recv hK (ci := 5) (t := 200) rfl m200 rfl, xP_of hK hN⟩ rfl rfl hl.1 rfl (lv_room (Nat.le_of_ble_eq_true rfl)) d_M_worthOf_54 ⟨by decide, by decide⟩) hS (fun v H_ locs hp hS => ?_)
  obtain ⟨rfl, hHe⟩ := hp
  rw [hHe] at hS ⊢
  refine W.eq (g2 := F0 m 57 ls [.long (pr σ d 1), .long ((A 1) - (A 1) / 1000000 * 1000000), .long (0 + (((A 0) - (A 0) / 1000000 * 1000000) * (pr σ d 0)))]) rfl ?_
  refine lv_lmul hx hb d_M_worthOf_57 ?_
  refine lv_ladd hx hb d_M_worthOf_58 ?_
  refine lv_lstore (lv' := [(6, .long ((0 + (((A 0) - (A 0) / 1000000 * 1000000) * (pr σ d 0))) + (((A 1) - (A 1) / 1000000 * 1000000) * (pr σ d 1)))), (4, .long ((0 + (((A 0) / 1000000) * (pr σ d 0))) + (((A 1) / 1000000) * (pr σ d 1)))), (8, .int 1), (0, .ref (ad 200)), (1, .ref a), (2, .int (nI (4 * i))), (3, .int d)]) hx hb d_M_worthOf_59 hl (by decide) rfl (fun ls hl => ?_)
  refine lv_iinc (v := 2) (lv' := [(8, .int 2), (6, .long ((0 + (((A 0) - (A 0) / 1000000 * 1000000) * (pr σ d 0))) + (((A 1) - (A 1) / 1000000 * 1000000) * (pr σ d 1)))), (4, .long ((0 + (((A 0) / 1000000) * (pr σ d 0))) + (((A 1) / 1000000) * (pr σ d 1)))), (0, .ref (ad 200)), (1, .ref a), (2, .int (nI (4 * i))), (3, .int d)]) hx hb d_M_worthOf_61 hl (k := 2) rfl (by decide) (by decide) rfl (fun ls hl => ?_)
  refine lv_goto (tgt := 9) hx hb d_M_worthOf_64 (by decide) ?_
  refine lv_iload hx hb d_M_worthOf_9 (lv_at hl 0 rfl) ?_
  refine lv_iconst (v := 4) hx hb d_M_worthOf_11 (by decide) ?_
  refine lv_icmp_ge (tgt := 67) hx hb d_M_worthOf_12 (by decide) (fun c_7 => absurd c_7 (by decide)) (fun c_7 => ?_)
  refine lv_lload hx hb d_M_worthOf_15 (lv_at hl 2 rfl) ?_
  refine lv_aload_n hx hb d_M_worthOf_17 rfl (lv_at hl 4 rfl) ?_
  refine lv_iload_n hx hb d_M_worthOf_18 rfl (lv_at hl 5 rfl) ?_
  refine lv_iload hx hb d_M_worthOf_19 (lv_at hl 0 rfl) ?_
  refine lv_iadd hx hb d_M_worthOf_21 ?_
  refine xr_lald (i := (nI (4 * i)) + 2) hx hb hK hw t 1 hF ha rfl (xvin (a := (4 * i) + 2) (xadd (a := 4 * i) (b := 2) rfl rfl) (by omega) (by omega)) d_M_worthOf_22 ?_
  refine lv_topl (fun x_8 ex_8 => ?_)
  obtain rfl : x_8 = A 2 := ex_8.trans ((congrArg F (xcl (a := (4 * i) + 2) (xadd (a := 4 * i) (b := 2) rfl rfl) (by omega))).trans (hA 2 (by omega)))
  refine lv_ldc2 (v := 1000000) hx hb hown (htw _ u_437) d_M_worthOf_23 ?_
  refine lv_ldiv hx hb d_M_worthOf_26 (by decide) ?_
  refine lv_aload_n hx hb d_M_worthOf_27 rfl (lv_at hl 3 rfl) ?_
  refine lv_iload hx hb d_M_worthOf_28 (lv_at hl 0 rfl) ?_
  refine lv_iload_n hx hb d_M_worthOf_30 rfl (lv_at hl 6 rfl) ?_
  refine xr_call (va_runV (As := [.int 2, .int d]) (rest := [.long ((A 2) / 1000000), .long ((0 + (((A 0) / 1000000) * (pr σ d 0))) + (((A 1) / 1000000) * (pr σ d 1)))]) ⟨hx, hb, hml, hown, htw⟩ (c_M_priceOn (ad := ad) hR hI hw 2 (by omega) d) (cwV 2 htw (gV u_485 u_487 us_11 u_3 u_488) rfl rfl rfl hd_M_priceOn ⟨Nat.le_of_ble_eq_true rfl, Nat.le_of_ble_eq_true rfl⟩) ⟨xP_blind, hw.recv hK (ci := 5) (t := 200) rfl m200 rfl, xP_of hK hN⟩ rfl rfl hl.1 rfl (lv_room (Nat.le_of_ble_eq_true rfl)) d_M_worthOf_31 ⟨by decide, by decide⟩) hS (fun v H_ locs hp hS => ?_)
  obtain ⟨rfl, hHe⟩ := hp
  rw [hHe] at hS ⊢
  refine W.eq (g2 := F0 m 34 ls [.long (pr σ d 2), .long ((A 2) / 1000000), .long ((0 + (((A 0) / 1000000) * (pr σ d 0))) + (((A 1) / 1000000) * (pr σ d 1)))]) rfl ?_
  refine lv_lmul hx hb d_M_worthOf_34 ?_
  refine lv_ladd hx hb d_M_worthOf_35 ?_
  refine lv_lstore (lv' := [(4, .long (((0 + (((A 0) / 1000000) * (pr σ d 0))) + (((A 1) / 1000000) * (pr σ d 1))) + (((A 2) / 1000000) * (pr σ d 2)))), (8, .int 2), (6, .long ((0 + (((A 0) - (A 0) / 1000000 * 1000000) * (pr σ d 0))) + (((A 1) - (A 1) / 1000000 * 1000000) * (pr σ d 1)))), (0, .ref (ad 200)), (1, .ref a), (2, .int (nI (4 * i))), (3, .int d)]) hx hb d_M_worthOf_36 hl (by decide) rfl (fun ls hl => ?_)
  refine lv_lload hx hb d_M_worthOf_38 (lv_at hl 2 rfl) ?_
  refine lv_aload_n hx hb d_M_worthOf_40 rfl (lv_at hl 4 rfl) ?_
  refine lv_iload_n hx hb d_M_worthOf_41 rfl (lv_at hl 5 rfl) ?_
  refine lv_iload hx hb d_M_worthOf_42 (lv_at hl 1 rfl) ?_
  refine lv_iadd hx hb d_M_worthOf_44 ?_
  refine xr_lald (i := (nI (4 * i)) + 2) hx hb hK hw t 1 hF ha rfl (xvin (a := (4 * i) + 2) (xadd (a := 4 * i) (b := 2) rfl rfl) (by omega) (by omega)) d_M_worthOf_45 ?_
  refine lv_topl (fun x_9 ex_9 => ?_)
  obtain rfl : x_9 = A 2 := ex_9.trans ((congrArg F (xcl (a := (4 * i) + 2) (xadd (a := 4 * i) (b := 2) rfl rfl) (by omega))).trans (hA 2 (by omega)))
  refine lv_ldc2 (v := 1000000) hx hb hown (htw _ u_437) d_M_worthOf_46 ?_
  refine lv_lrem hx hb d_M_worthOf_49 (by decide) ?_
  refine lv_aload_n hx hb d_M_worthOf_50 rfl (lv_at hl 3 rfl) ?_
  refine lv_iload hx hb d_M_worthOf_51 (lv_at hl 1 rfl) ?_
  refine lv_iload_n hx hb d_M_worthOf_53 rfl (lv_at hl 6 rfl) ?_
  refine xr_call (va_runV (As := [.int 2, .int d]) (rest := [.long ((A 2) - (A 2) / 1000000 * 1000000), .long ((0 + (((A 0) - (A 0) / 1000000 * 1000000) * (pr σ d 0))) + (((A 1) - (A 1) / 1000000 * 1000000) * (pr σ d 1)))]) ⟨hx, hb, hml, hown, htw⟩ (c_M_priceOn (ad := ad) hR hI hw 2 (by omega) d) (cwV 2 htw (gV u_485 u_487 us_11 u_3 u_488) rfl rfl rfl hd_M_priceOn ⟨Nat.le_of_ble_eq_true rfl, Nat.le_of_ble_eq_true rfl⟩) ⟨xP_blind, hw.recv hK (ci := 5) (t := 200) rfl m200 rfl, xP_of hK hN⟩ rfl rfl hl.1 rfl (lv_room (Nat.le_of_ble_eq_true rfl)) d_M_worthOf_54 ⟨by decide, by decide⟩) hS (fun v H_ locs hp hS => ?_)
  obtain ⟨rfl, hHe⟩ := hp
  rw [hHe] at hS ⊢
  refine W.eq (g2 := F0 m 57 ls [.long (pr σ d 2), .long ((A 2) - (A 2) / 1000000 * 1000000), .long ((0 + (((A 0) - (A 0) / 1000000 * 1000000) * (pr σ d 0))) + (((A 1) - (A 1) / 1000000 * 1000000) * (pr σ d 1)))]) rfl ?_
  refine lv_lmul hx hb d_M_worthOf_57 ?_
  refine lv_ladd hx hb d_M_worthOf_58 ?_
  refine lv_lstore (lv' := [(6, .long (((0 + (((A 0) - (A 0) / 1000000 * 1000000) * (pr σ d 0))) + (((A 1) - (A 1) / 1000000 * 1000000) * (pr σ d 1))) + (((A 2) - (A 2) / 1000000 * 1000000) * (pr σ d 2)))), (4, .long (((0 + (((A 0) / 1000000) * (pr σ d 0))) + (((A 1) / 1000000) * (pr σ d 1))) + (((A 2) / 1000000) * (pr σ d 2)))), (8, .int 2), (0, .ref (ad 200)), (1, .ref a), (2, .int (nI (4 * i))), (3, .int d)]) hx hb d_M_worthOf_59 hl (by decide) rfl (fun ls hl => ?_)
  refine lv_iinc (v := 3) (lv' := [(8, .int 3), (6, .long (((0 + (((A 0) - (A 0) / 1000000 * 1000000) * (pr σ d 0))) + (((A 1) - (A 1) / 1000000 * 1000000) * (pr σ d 1))) + (((A 2) - (A 2) / 1000000 * 1000000) * (pr σ d 2)))), (4, .long (((0 + (((A 0) / 1000000) * (pr σ d 0))) + (((A 1) / 1000000) * (pr σ d 1))) + (((A 2) / 1000000) * (pr σ d 2)))), (0, .ref (ad 200)), (1, .ref a), (2, .int (nI (4 * i))), (3, .int d)]) hx hb d_M_worthOf_61 hl (k := 2) rfl (by decide) (by decide) rfl (fun ls hl => ?_)
  refine lv_goto (tgt := 9) hx hb d_M_worthOf_64 (by decide) ?_
  refine lv_iload hx hb d_M_worthOf_9 (lv_at hl 0 rfl) ?_
  refine lv_iconst (v := 4) hx hb d_M_worthOf_11 (by decide) ?_
  refine lv_icmp_ge (tgt := 67) hx hb d_M_worthOf_12 (by decide) (fun c_10 => absurd c_10 (by decide)) (fun c_10 => ?_)
  refine lv_lload hx hb d_M_worthOf_15 (lv_at hl 2 rfl) ?_
  refine lv_aload_n hx hb d_M_worthOf_17 rfl (lv_at hl 4 rfl) ?_
  refine lv_iload_n hx hb d_M_worthOf_18 rfl (lv_at hl 5 rfl) ?_
  refine lv_iload hx hb d_M_worthOf_19 (lv_at hl 0 rfl) ?_
  refine lv_iadd hx hb d_M_worthOf_21 ?_
  refine xr_lald (i := (nI (4 * i)) + 3) hx hb hK hw t 1 hF ha rfl (xvin (a := (4 * i) + 3) (xadd (a := 4 * i) (b := 3) rfl rfl) (by omega) (by omega)) d_M_worthOf_22 ?_
  refine lv_topl (fun x_11 ex_11 => ?_)
  obtain rfl : x_11 = A 3 := ex_11.trans ((congrArg F (xcl (a := (4 * i) + 3) (xadd (a := 4 * i) (b := 3) rfl rfl) (by omega))).trans (hA 3 (by omega)))
  refine lv_ldc2 (v := 1000000) hx hb hown (htw _ u_437) d_M_worthOf_23 ?_
  refine lv_ldiv hx hb d_M_worthOf_26 (by decide) ?_
  refine lv_aload_n hx hb d_M_worthOf_27 rfl (lv_at hl 3 rfl) ?_
  refine lv_iload hx hb d_M_worthOf_28 (lv_at hl 0 rfl) ?_
  refine lv_iload_n hx hb d_M_worthOf_30 rfl (lv_at hl 6 rfl) ?_
  refine xr_call (va_runV (As := [.int 3, .int d]) (rest := [.long ((A 3) / 1000000), .long (((0 + (((A 0) / 1000000) * (pr σ d 0))) + (((A 1) / 1000000) * (pr σ d 1))) + (((A 2) / 1000000) * (pr σ d 2)))]) ⟨hx, hb, hml, hown, htw⟩ (c_M_priceOn (ad := ad) hR hI hw 3 (by omega) d) (cwV 2 htw (gV u_485 u_487 us_11 u_3 u_488) rfl rfl rfl hd_M_priceOn ⟨Nat.le_of_ble_eq_true rfl, Nat.le_of_ble_eq_true rfl⟩) ⟨xP_blind, hw.recv hK (ci := 5) (t := 200) rfl m200 rfl, xP_of hK hN⟩ rfl rfl hl.1 rfl (lv_room (Nat.le_of_ble_eq_true rfl)) d_M_worthOf_31 ⟨by decide, by decide⟩) hS (fun v H_ locs hp hS => ?_)
  obtain ⟨rfl, hHe⟩ := hp
  rw [hHe] at hS ⊢
  refine W.eq (g2 := F0 m 34 ls [.long (pr σ d 3), .long ((A 3) / 1000000), .long (((0 + (((A 0) / 1000000) * (pr σ d 0))) + (((A 1) / 1000000) * (pr σ d 1))) + (((A 2) / 1000000) * (pr σ d 2)))]) rfl ?_
  refine lv_lmul hx hb d_M_worthOf_34 ?_
  refine lv_ladd hx hb d_M_worthOf_35 ?_
  refine lv_lstore (lv' := [(4, .long ((((0 + (((A 0) / 1000000) * (pr σ d 0))) + (((A 1) / 1000000) * (pr σ d 1))) + (((A 2) / 1000000) * (pr σ d 2))) + (((A 3) / 1000000) * (pr σ d 3)))), (8, .int 3), (6, .long (((0 + (((A 0) - (A 0) / 1000000 * 1000000) * (pr σ d 0))) + (((A 1) - (A 1) / 1000000 * 1000000) * (pr σ d 1))) + (((A 2) - (A 2) / 1000000 * 1000000) * (pr σ d 2)))), (0, .ref (ad 200)), (1, .ref a), (2, .int (nI (4 * i))), (3, .int d)]) hx hb d_M_worthOf_36 hl (by decide) rfl (fun ls hl => ?_)
  refine lv_lload hx hb d_M_worthOf_38 (lv_at hl 2 rfl) ?_
  refine lv_aload_n hx hb d_M_worthOf_40 rfl (lv_at hl 4 rfl) ?_
  refine lv_iload_n hx hb d_M_worthOf_41 rfl (lv_at hl 5 rfl) ?_
  refine lv_iload hx hb d_M_worthOf_42 (lv_at hl 1 rfl) ?_
  refine lv_iadd hx hb d_M_worthOf_44 ?_
  refine xr_lald (i := (nI (4 * i)) + 3) hx hb hK hw t 1 hF ha rfl (xvin (a := (4 * i) + 3) (xadd (a := 4 * i) (b := 3) rfl rfl) (by omega) (by omega)) d_M_worthOf_45 ?_
  refine lv_topl (fun x_12 ex_12 => ?_)
  obtain rfl : x_12 = A 3 := ex_12.trans ((congrArg F (xcl (a := (4 * i) + 3) (xadd (a := 4 * i) (b := 3) rfl rfl) (by omega))).trans (hA 3 (by omega)))
  refine lv_ldc2 (v := 1000000) hx hb hown (htw _ u_437) d_M_worthOf_46 ?_
  refine lv_lrem hx hb d_M_worthOf_49 (by decide) ?_
  refine lv_aload_n hx hb d_M_worthOf_50 rfl (lv_at hl 3 rfl) ?_
  refine lv_iload hx hb d_M_worthOf_51 (lv_at hl 1 rfl) ?_
  refine lv_iload_n hx hb d_M_worthOf_53 rfl (lv_at hl 6 rfl) ?_
  refine xr_call (va_runV (As := [.int 3, .int d]) (rest := [.long ((A 3) - (A 3) / 1000000 * 1000000), .long (((0 + (((A 0) - (A 0) / 1000000 * 1000000) * (pr σ d 0))) + (((A 1) - (A 1) / 1000000 * 1000000) * (pr σ d 1))) + (((A 2) - (A 2) / 1000000 * 1000000) * (pr σ d 2)))]) ⟨hx, hb, hml, hown, htw⟩ (c_M_priceOn (ad := ad) hR hI hw 3 (by omega) d) (cwV 2 htw (gV u_485 u_487 us_11 u_3 u_488) rfl rfl rfl hd_M_priceOn ⟨Nat.le_of_ble_eq_true rfl, Nat.le_of_ble_eq_true rfl⟩) ⟨xP_blind, hw.recv hK (ci := 5) (t := 200) rfl m200 rfl, xP_of hK hN⟩ rfl rfl hl.1 rfl (lv_room (Nat.le_of_ble_eq_true rfl)) d_M_worthOf_54 ⟨by decide, by decide⟩) hS (fun v H_ locs hp hS => ?_)
  obtain ⟨rfl, hHe⟩ := hp
  rw [hHe] at hS ⊢
  refine W.eq (g2 := F0 m 57 ls [.long (pr σ d 3), .long ((A 3) - (A 3) / 1000000 * 1000000), .long (((0 + (((A 0) - (A 0) / 1000000 * 1000000) * (pr σ d 0))) + (((A 1) - (A 1) / 1000000 * 1000000) * (pr σ d 1))) + (((A 2) - (A 2) / 1000000 * 1000000) * (pr σ d 2)))]) rfl ?_
  refine lv_lmul hx hb d_M_worthOf_57 ?_
  refine lv_ladd hx hb d_M_worthOf_58 ?_
  refine lv_lstore (lv' := [(6, .long ((((0 + (((A 0) - (A 0) / 1000000 * 1000000) * (pr σ d 0))) + (((A 1) - (A 1) / 1000000 * 1000000) * (pr σ d 1))) + (((A 2) - (A 2) / 1000000 * 1000000) * (pr σ d 2))) + (((A 3) - (A 3) / 1000000 * 1000000) * (pr σ d 3)))), (4, .long ((((0 + (((A 0) / 1000000) * (pr σ d 0))) + (((A 1) / 1000000) * (pr σ d 1))) + (((A 2) / 1000000) * (pr σ d 2))) + (((A 3) / 1000000) * (pr σ d 3)))), (8, .int 3), (0, .ref (ad 200)), (1, .ref a), (2, .int (nI (4 * i))), (3, .int d)]) hx hb d_M_worthOf_59 hl (by decide) rfl (fun ls hl => ?_)
  refine lv_iinc (v := 4) (lv' := [(8, .int 4), (6, .long ((((0 + (((A 0) - (A 0) / 1000000 * 1000000) * (pr σ d 0))) + (((A 1) - (A 1) / 1000000 * 1000000) * (pr σ d 1))) + (((A 2) - (A 2) / 1000000 * 1000000) * (pr σ d 2))) + (((A 3) - (A 3) / 1000000 * 1000000) * (pr σ d 3)))), (4, .long ((((0 + (((A 0) / 1000000) * (pr σ d 0))) + (((A 1) / 1000000) * (pr σ d 1))) + (((A 2) / 1000000) * (pr σ d 2))) + (((A 3) / 1000000) * (pr σ d 3)))), (0, .ref (ad 200)), (1, .ref a), (2, .int (nI (4 * i))), (3, .int d)]) hx hb d_M_worthOf_61 hl (k := 2) rfl (by decide) (by decide) rfl (fun ls hl => ?_)
  refine lv_goto (tgt := 9) hx hb d_M_worthOf_64 (by decide) ?_
  refine lv_iload hx hb d_M_worthOf_9 (lv_at hl 0 rfl) ?_
  refine lv_iconst (v := 4) hx hb d_M_worthOf_11 (by decide) ?_
  refine lv_icmp_ge (tgt := 67) hx hb d_M_worthOf_12 (by decide) (fun c_13 => ?_) (fun c_13 => absurd (by decide) c_13)
  refine lv_lload hx hb d_M_worthOf_67 (lv_at hl 2 rfl) ?_
  refine lv_lload hx hb d_M_worthOf_69 (lv_at hl 1 rfl) ?_
  refine lv_ldc2 (v := 1000000) hx hb hown (htw _ u_437) d_M_worthOf_71 ?_
  refine lv_ldiv hx hb d_M_worthOf_74 (by decide) ?_
  refine lv_ladd hx hb d_M_worthOf_75 ?_
  exact W.lret (v := ((((0 + (((A 0) / 1000000) * (pr σ d 0))) + (((A 1) / 1000000) * (pr σ d 1))) + (((A 2) / 1000000) * (pr σ d 2))) + (((A 3) / 1000000) * (pr σ d 3))) + (((((0 + (((A 0) - (A 0) / 1000000 * 1000000) * (pr σ d 0))) + (((A 1) - (A 1) / 1000000 * 1000000) * (pr σ d 1))) + (((A 2) - (A 2) / 1000000 * 1000000) * (pr σ d 2))) + (((A 3) - (A 3) / 1000000 * 1000000) * (pr σ d 3))) / 1000000)) hx hb hr (fun t ht _ => ⟨_, rfl, ⟨rfl, ht⟩, hS.F ht⟩) hS.2.2 d_M_worthOf_76
set_option maxHeartbeats 4000000 in
set_option maxRecDepth 100000 in
theorem c_M_worth {l : Launch} {D : va_G} {K : Nat → ClassId} {B : Nat} {ad : Nat → Nat} {w : Nat → Option va_E} {H : Heap} {σ : xS} (hR : RepM K σ ad w) (hI : Inv σ) (hw : xw D vwCl B ad w H) (x1 x2 : Int32) : xC l D K B y_M_worth b_M_worth 3 (some .long) rm_M_worth [.ref (ad 200), .int x1, .int x2] H (fun v H1 => v = some (.long (f_worth σ x1 x2)) ∧ H1 = H) := by
  refine Met.ofW (cc := b_M_worth) (maxL := 3) (ret := (some .long)) (by decide) rfl ?_
  intro p e s m args below meth c s₁ B0 hml hv
  obtain ⟨rfl, hsz, hK, hN⟩ := hv
  have hx := B0.exec
  have hb := B0.bytes
  have hr := B0.returns
  have htw : ∀ w ∈ xW0, w.before [.ref (ad 200), .int x1, .int x2].toArray s = true := fun w h => atoms_spec (ws := Cond.code y_M_worth b_M_worth 3 (some .long) :: xW0) B0.pre w (List.mem_cons_of_mem _ h)
  have hown : s.vm.findClass R_M = some m.cls := findClass_of_methodNamed B0.named
  have hlocks := B0.notSynchronized
  subst hsz
  have hS : va_S (fun q => B ≤ q) s.heap s.heap [] := va_S.rf
  have hl := lv_entry ([.ref (ad 200), .int x1, .int x2]) (n := 3) (Nat.le_of_ble_eq_true rfl)
  rw [lg_entry_eq]
  generalize (lg_sl ([.ref (ad 200), .int x1, .int x2]) ++ List.replicate (3 - (lg_sl ([.ref (ad 200), .int x1, .int x2])).length) Slot.unset).toArray = ls at hl ⊢
  have hl : lv_has ls 3 [(0, .ref (ad 200)), (1, .int x1), (2, .int x2)] := hl
  have hH : s.heap = s.heap := rfl
  obtain ⟨FA, FT, FS, FO, m200, m203, m204, m205, m206, m207, m208, m209, m210, m212, m213, m214, m215, m216, m217, m218, m220, m223, m224, m225, m226, hFA, hFT, hFS, hFO⟩ := id hR
  obtain ⟨hnb, hns, hnr, hpc, hst, hto, htl, hrm, hpa, hwt, hdf, hds⟩ := id hI
  refine lv_aload_n hx hb d_M_worth_0 rfl (lv_at hl 0 rfl) ?_
  refine lv_iload_n hx hb d_M_worth_1 rfl (lv_at hl 1 rfl) ?_
  refine xr_call (va_runV (As := [.int x1]) (rest := []) ⟨hx, hb, hml, hown, htw⟩ (c_M_isBatch (ad := ad) hR hI hw x1) (cwV 1 htw (gV u_430 u_432 us_8 u_3 u_433) rfl rfl rfl hd_M_isBatch ⟨Nat.le_of_ble_eq_true rfl, Nat.le_of_ble_eq_true rfl⟩) ⟨xP_blind, hw.recv hK (ci := 5) (t := 200) rfl m200 rfl, xP_of hK hN⟩ rfl rfl hl.1 rfl (lv_room (Nat.le_of_ble_eq_true rfl)) d_M_worth_2 ⟨by decide, by decide⟩) hS (fun v H_ locs hp hS => ?_)
  obtain ⟨hHe, hp⟩ := hp
  rw [hHe] at hS ⊢
  rcases hp with ⟨f2, rfl⟩ | ⟨i1, hi1, rfl, rfl⟩
  · refine W.eq (g2 := F0 m 5 ls [.int 0]) rfl ?_
    refine lv_if_eq (tgt := 27) hx hb d_M_worth_5 (by decide) (fun c_3 => ?_) (fun c_3 => absurd (by decide) c_3)
    refine lv_ldc2 (v := (-1)) hx hb hown (htw _ u_447) d_M_worth_27 ?_
    exact W.lret (v := (-1)) hx hb hr (fun t ht _ => ⟨_, rfl, ⟨by simp [f_worth, opt_n, opt_s, opt_c, f2], ht⟩, hS.F ht⟩) hS.2.2 d_M_worth_30
  · have fi1 : xi (σ.1 0) (nI i1) = some i1 := xi_nI hi1 (by omega)
    refine W.eq (g2 := F0 m 5 ls [.int 1]) rfl ?_
    refine lv_if_eq (tgt := 27) hx hb d_M_worth_5 (by decide) (fun c_4 => absurd c_4 (by decide)) (fun c_4 => ?_)
    refine lv_iload_n hx hb d_M_worth_8 rfl (lv_at hl 2 rfl) ?_
    refine lv_if_lt (tgt := 27) hx hb d_M_worth_9 (by decide) (fun c_5 => ?_) (fun c_5 => ?_)
    · refine lv_ldc2 (v := (-1)) hx hb hown (htw _ u_447) d_M_worth_27 ?_
      exact W.lret (v := (-1)) hx hb hr (fun t ht _ => ⟨_, rfl, ⟨by simp [f_worth, opt_n, opt_s, opt_c, fi1, c_5, Int32.not_le.mpr c_5, Int32.not_le.mpr c_5], ht⟩, hS.F ht⟩) hS.2.2 d_M_worth_30
    · refine lv_aload_n hx hb d_M_worth_12 rfl (lv_at hl 0 rfl) ?_
      refine lv_aload_n hx hb d_M_worth_13 rfl (lv_at hl 0 rfl) ?_
      refine xr_get (ci := 5) (v := .ref (ad 209)) (C := R_M) (T := T_M) (N := 26) hx hb htw in_M hown hK hw 200 m200 rfl rfl 8 (by decide) (htw _ u_342) (fun _ h9 => h9) rfl d_M_worth_14 ?_
      refine lv_iconst (v := 4) hx hb d_M_worth_17 (by decide) ?_
      refine lv_iload_n hx hb d_M_worth_18 rfl (lv_at hl 1 rfl) ?_
      refine lv_imul hx hb d_M_worth_19 ?_
      refine lv_iload_n hx hb d_M_worth_20 rfl (lv_at hl 2 rfl) ?_
      refine W.eq (g2 := F0 m 21 ls [.int x2, .int (nI (4 * i1)), .ref (ad 209), .ref (ad 200)]) (by rw [show (4 * (nI i1) : Int32) = nI (4 * i1) from xmul (a := 4) (b := i1) rfl rfl]) ?_
      refine xr_call (va_runV (As := [.ref (ad 209), .int (nI (4 * i1)), .int x2]) (rest := []) ⟨hx, hb, hml, hown, htw⟩ (c_M_worthOf (ad := ad) hR hI hw 209 32 (by decide) FA (σ.2.2.1 (10 + i1)) m209 i1 (by omega) (fun k hk => hFA i1 k (by omega) hk) x2 (ad 209) rfl) (cwV 3 htw (gV u_481 u_483 us_10 u_3 u_484) rfl rfl rfl hd_M_worthOf ⟨Nat.le_of_ble_eq_true rfl, Nat.le_of_ble_eq_true rfl⟩) ⟨xP_blind, hw.recv hK (ci := 5) (t := 200) rfl m200 rfl, xP_of hK hN⟩ rfl rfl hl.1 rfl (lv_room (Nat.le_of_ble_eq_true rfl)) d_M_worth_21 ⟨by decide, by decide⟩) hS (fun v H_ locs hp hS => ?_)
      obtain ⟨rfl, hHe⟩ := hp
      rw [hHe] at hS ⊢
      refine W.eq (g2 := F0 m 24 ls [.long (wor σ (σ.2.2.1 (10 + i1)) x2)]) rfl ?_
      refine lv_goto (tgt := 30) hx hb d_M_worth_24 (by decide) ?_
      exact W.lret (v := wor σ (σ.2.2.1 (10 + i1)) x2) hx hb hr (fun t ht _ => ⟨_, rfl, ⟨by simp [f_worth, opt_n, opt_s, opt_c, fi1, c_5, Int32.not_lt.mp c_5, Int32.not_lt.mp c_5], ht⟩, hS.F ht⟩) hS.2.2 d_M_worth_30
set_option maxHeartbeats 4000000 in
set_option maxRecDepth 100000 in
theorem c_M_cls {l : Launch} {D : va_G} {K : Nat → ClassId} {B : Nat} {ad : Nat → Nat} {w : Nat → Option va_E} {H : Heap} {σ : xS} (hR : RepM K σ ad w) (hI : Inv σ) (hw : xw D vwCl B ad w H) (x1 : Int32) : xC l D K B y_M_cls b_M_cls 4 (some .int) rm_M_cls [.ref (ad 200), .int x1] H (fun v H1 => v = some (.int (f_cls σ x1)) ∧ H1 = H) := by
  refine Met.ofW (cc := b_M_cls) (maxL := 4) (ret := (some .int)) (by decide) rfl ?_
  intro p e s m args below meth c s₁ B0 hml hv
  obtain ⟨rfl, hsz, hK, hN⟩ := hv
  have hx := B0.exec
  have hb := B0.bytes
  have hr := B0.returns
  have htw : ∀ w ∈ xW0, w.before [.ref (ad 200), .int x1].toArray s = true := fun w h => atoms_spec (ws := Cond.code y_M_cls b_M_cls 4 (some .int) :: xW0) B0.pre w (List.mem_cons_of_mem _ h)
  have hown : s.vm.findClass R_M = some m.cls := findClass_of_methodNamed B0.named
  have hlocks := B0.notSynchronized
  subst hsz
  have hS : va_S (fun q => B ≤ q) s.heap s.heap [] := va_S.rf
  have hl := lv_entry ([.ref (ad 200), .int x1]) (n := 4) (Nat.le_of_ble_eq_true rfl)
  rw [lg_entry_eq]
  generalize (lg_sl ([.ref (ad 200), .int x1]) ++ List.replicate (4 - (lg_sl ([.ref (ad 200), .int x1])).length) Slot.unset).toArray = ls at hl ⊢
  have hl : lv_has ls 4 [(0, .ref (ad 200)), (1, .int x1)] := hl
  have hH : s.heap = s.heap := rfl
  obtain ⟨FA, FT, FS, FO, m200, m203, m204, m205, m206, m207, m208, m209, m210, m212, m213, m214, m215, m216, m217, m218, m220, m223, m224, m225, m226, hFA, hFT, hFS, hFO⟩ := id hR
  obtain ⟨hnb, hns, hnr, hpc, hst, hto, htl, hrm, hpa, hwt, hdf, hds⟩ := id hI
  refine lv_aload_n hx hb d_M_cls_0 rfl (lv_at hl 0 rfl) ?_
  refine lv_iload_n hx hb d_M_cls_1 rfl (lv_at hl 1 rfl) ?_
  refine xr_call (va_runV (As := [.int x1]) (rest := []) ⟨hx, hb, hml, hown, htw⟩ (c_M_isBatch (ad := ad) hR hI hw x1) (cwV 1 htw (gV u_430 u_432 us_8 u_3 u_433) rfl rfl rfl hd_M_isBatch ⟨Nat.le_of_ble_eq_true rfl, Nat.le_of_ble_eq_true rfl⟩) ⟨xP_blind, hw.recv hK (ci := 5) (t := 200) rfl m200 rfl, xP_of hK hN⟩ rfl rfl hl.1 rfl (lv_room (Nat.le_of_ble_eq_true rfl)) d_M_cls_2 ⟨by decide, by decide⟩) hS (fun v H_ locs hp hS => ?_)
  obtain ⟨hHe, hp⟩ := hp
  rw [hHe] at hS ⊢
  rcases hp with ⟨f2, rfl⟩ | ⟨i1, hi1, rfl, rfl⟩
  · refine W.eq (g2 := F0 m 5 ls [.int 0]) rfl ?_
    refine lv_if_eq (tgt := 17) hx hb d_M_cls_5 (by decide) (fun c_3 => ?_) (fun c_3 => absurd (by decide) c_3)
    refine lv_iconst (v := (-1)) hx hb d_M_cls_17 (by decide) ?_
    exact W.iret (v := (-1)) hx hb hr (fun t ht _ => ⟨_, rfl, ⟨by simp [f_cls, opt_n, opt_s, opt_c, f2], ht⟩, hS.F ht⟩) hS.2.2 d_M_cls_18
  · have fi1 : xi (σ.1 0) (nI i1) = some i1 := xi_nI hi1 (by omega)
    refine W.eq (g2 := F0 m 5 ls [.int 1]) rfl ?_
    refine lv_if_eq (tgt := 17) hx hb d_M_cls_5 (by decide) (fun c_4 => absurd c_4 (by decide)) (fun c_4 => ?_)
    refine lv_aload_n hx hb d_M_cls_8 rfl (lv_at hl 0 rfl) ?_
    refine xr_get (ci := 5) (v := .ref (ad 205)) (C := R_M) (T := T_M) (N := 26) hx hb htw in_M hown hK hw 200 m200 rfl rfl 4 (by decide) (htw _ u_338) (fun _ h9 => h9) rfl d_M_cls_9 ?_
    refine lv_iload_n hx hb d_M_cls_12 rfl (lv_at hl 1 rfl) ?_
    refine xr_zald (i := nI i1) hx hb hK hw 205 5 m205 rfl rfl (xvin (a := i1) rfl (by omega) (by omega)) d_M_cls_13 ?_
    refine lv_topi (fun x_5 ex_5 => ?_)
    obtain rfl : x_5 = bI (σ.2.2.2 2 i1) := ex_5.trans ((congrArg (fun b => bI (σ.2.2.2 2 b)) (xcl (a := i1) rfl (by omega))).trans rfl)
    refine lv_if_eq (tgt := 19) hx hb d_M_cls_14 (by decide) (fun c_6 => ?_) (fun c_6 => ?_)
    · have c_6 : (σ.2.2.2 2 i1) = false := bI_f.mp c_6
      refine lv_iconst (v := 0) hx hb d_M_cls_19 (by decide) ?_
      refine lv_istore_n (lv' := [(2, .int 0), (0, .ref (ad 200)), (1, .int (nI i1))]) hx hb d_M_cls_20 rfl hl (by decide) rfl (fun ls hl => ?_)
      refine xloop (σ.1 2) (fun n H locs ls => H = s.heap ∧ va_S (fun q => B ≤ q) s.heap H locs ∧ (fst_ (fun r => fits_ σ r i1) (σ.1 2) 0 = fst_ (fun r => fits_ σ r i1) (σ.1 2 - n) n) ∧ lv_has ls 4 [(2, .int (nI n)), (0, .ref (ad 200)), (1, .int (nI i1))]) 0 (Nat.zero_le _) ⟨rfl, hS, rfl, lv_sub hl [0, 1, 2] rfl⟩ (fun n H locs ls hn hJ ih => ?_)
      obtain ⟨rfl, hS, hex, hl⟩ := hJ
      refine lv_iload_n hx hb d_M_cls_21 rfl (lv_at hl 0 rfl) ?_
      refine lv_aload_n hx hb d_M_cls_22 rfl (lv_at hl 1 rfl) ?_
      refine xr_get (ci := 5) (v := .int (nI (σ.1 2))) (C := R_M) (T := T_M) (N := 26) hx hb htw in_M hown hK hw 200 m200 rfl rfl 21 (by decide) (htw _ u_355) (fun _ h9 => h9) rfl d_M_cls_23 ?_
      refine lv_icmp_ge (tgt := 103) hx hb d_M_cls_26 (by decide) (fun c_7 => ?_) (fun c_7 => ?_)
      · have c_7 : (σ.1 2) ≤ n := (nLE (a := σ.1 2) (b := n) (by omega) (by omega)).mp c_7
        refine lv_bipush (v := 99) hx hb d_M_cls_103 (by decide) ?_
        exact W.iret (v := 99) hx hb hr (fun t ht _ => ⟨_, rfl, ⟨by simp [f_cls, opt_n, opt_s, opt_c, fi1, c_6, hex, show σ.1 2 - n = 0 by omega, fst_], ht⟩, hS.F ht⟩) hS.2.2 d_M_cls_105
      · have c_7 : ¬ (σ.1 2) ≤ n := fun z => c_7 ((nLE (a := σ.1 2) (b := n) (by omega) (by omega)).mpr z)
        obtain ⟨k, hk, ek⟩ := hrm n (by omega)
        have xk : xi 4 (nI k) = some k := xi_nI hk (by decide)
        have hmo := mid_ok (T := σ.2.1 (20 + i1)) (k := k) ⟨hto i1 _ hi1 (by omega), hto i1 _ hi1 (by omega), hto i1 _ hi1 (by omega)⟩
        refine lv_aload_n hx hb d_M_cls_29 rfl (lv_at hl 1 rfl) ?_
        refine lv_iload_n hx hb d_M_cls_30 rfl (lv_at hl 2 rfl) ?_
        refine lv_aload_n hx hb d_M_cls_31 rfl (lv_at hl 1 rfl) ?_
        refine xr_get (ci := 5) (v := .ref (ad 224)) (C := R_M) (T := T_M) (N := 26) hx hb htw in_M hown hK hw 200 m200 rfl rfl 23 (by decide) (htw _ u_357) (fun _ h9 => h9) rfl d_M_cls_32 ?_
        refine lv_iload_n hx hb d_M_cls_35 rfl (lv_at hl 0 rfl) ?_
        refine xr_iald (i := nI n) hx hb hK hw 224 0 m224 rfl rfl (xvin (a := n) rfl (by omega) (by omega)) d_M_cls_36 ?_
        refine lv_topi (fun x_8 ex_8 => ?_)
        obtain rfl : x_8 = (σ.2.1 7) n := ex_8.trans ((congrArg (σ.2.1 7) (xcl (a := n) rfl (by omega))).trans rfl)
        rw [ek]
        refine lv_iconst (v := 1) hx hb d_M_cls_37 (by decide) ?_
        refine xr_call (va_runV (As := [.int (nI i1), .int (nI k), .int 1]) (rest := []) ⟨hx, hb, hml, hown, htw⟩ (c_M_told (ad := ad) hR hI hw i1 (by omega) k (by omega) 1) (cwV 3 htw (gV u_506 u_508 us_12 u_3 u_509) rfl rfl rfl hd_M_told ⟨Nat.le_of_ble_eq_true rfl, Nat.le_of_ble_eq_true rfl⟩) ⟨xP_blind, hw.recv hK (ci := 5) (t := 200) rfl m200 rfl, xP_of hK hN⟩ rfl rfl hl.1 rfl (lv_room (Nat.le_of_ble_eq_true rfl)) d_M_cls_38 ⟨by decide, by decide⟩) hS (fun v H_ locs hp hS => ?_)
        obtain ⟨rfl, hHe⟩ := hp
        rw [hHe] at hS ⊢
        refine W.eq (g2 := F0 m 41 ls [.int (tld (σ.2.1 (20 + i1)) k 1)]) rfl ?_
        refine lv_topi (fun x_9 ex_9 => ?_)
        obtain rfl : x_9 = mid (σ.2.1 (20 + i1)) k := ex_9.trans (tld_mid _ _)
        refine lv_istore_n (lv' := [(3, .int (mid (σ.2.1 (20 + i1)) k)), (2, .int (nI n)), (0, .ref (ad 200)), (1, .int (nI i1))]) hx hb d_M_cls_41 rfl hl (by decide) rfl (fun ls hl => ?_)
        refine lv_iload_n hx hb d_M_cls_42 rfl (lv_at hl 0 rfl) ?_
        refine lv_if_lt (tgt := 97) hx hb d_M_cls_43 (by decide) (fun c_10 => ?_) (fun c_10 => ?_)
        · refine lv_iinc (v := nI n + 1) (lv' := [(2, .int (nI n + 1)), (3, .int (mid (σ.2.1 (20 + i1)) k)), (0, .ref (ad 200)), (1, .int (nI i1))]) hx hb d_M_cls_97 hl (k := 1) rfl rfl (by decide) rfl (fun ls hl => ?_)
          refine lv_goto (tgt := 21) hx hb d_M_cls_100 (by decide) ?_
          have hno : fits_ σ n i1 = false := by simp [fits_, ek, xk, opt_s, c_6, (ok_neg hmo).mp c_10]
          refine ih (by omega) _ _ _ ⟨rfl, hS, ?_, ?_⟩
          · rw [hex, fst_s (by omega), hno]; rfl
          · rw [show nI (n + 1) = nI n + 1 from nI_succ n]; exact lv_sub hl [0, 2, 3] rfl
        · refine lv_aload_n hx hb d_M_cls_46 rfl (lv_at hl 2 rfl) ?_
          refine lv_iload_n hx hb d_M_cls_47 rfl (lv_at hl 3 rfl) ?_
          refine lv_aload_n hx hb d_M_cls_48 rfl (lv_at hl 2 rfl) ?_
          refine xr_get (ci := 5) (v := .ref (ad 224)) (C := R_M) (T := T_M) (N := 26) hx hb htw in_M hown hK hw 200 m200 rfl rfl 23 (by decide) (htw _ u_357) (fun _ h9 => h9) rfl d_M_cls_49 ?_
          refine lv_iload_n hx hb d_M_cls_52 rfl (lv_at hl 1 rfl) ?_
          refine xr_iald (i := nI n) hx hb hK hw 224 0 m224 rfl rfl (xvin (a := n) rfl (by omega) (by omega)) d_M_cls_53 ?_
          refine lv_topi (fun x_11 ex_11 => ?_)
          obtain rfl : x_11 = (σ.2.1 7) n := ex_11.trans ((congrArg (σ.2.1 7) (xcl (a := n) rfl (by omega))).trans rfl)
          rw [ek]
          refine xr_call (va_runV (As := [.int (nI i1), .int (nI k)]) (rest := []) ⟨hx, hb, hml, hown, htw⟩ (c_M_disputed (ad := ad) hR hI hw (nI i1) (nI k)) (cwV 2 htw (gV u_533 u_517 u_518 u_3 u_519) rfl rfl rfl hd_M_disputed ⟨Nat.le_of_ble_eq_true rfl, Nat.le_of_ble_eq_true rfl⟩) ⟨xP_blind, hw.recv hK (ci := 5) (t := 200) rfl m200 rfl, xP_of hK hN⟩ rfl rfl hl.1 rfl (lv_room (Nat.le_of_ble_eq_true rfl)) d_M_cls_54 ⟨by decide, by decide⟩) hS (fun v H_ locs hp hS => ?_)
          obtain ⟨rfl, hHe⟩ := hp
          rw [hHe] at hS ⊢
          have g12 : f_disputed σ (nI i1) (nI k) = !(decide (spr (σ.2.1 (20 + i1)) k ≤ σ.2.1 0 1)) := by rw [f_disputed, show xi (σ.1 0) (nI i1) = some i1 from xi_nI (i := i1) (by omega) (by omega), opt_s, show xi 4 (nI k) = some k from xi_nI (i := k) (by omega) (by decide), opt_s]
          rw [g12]
          refine W.eq (g2 := F0 m 57 ls [.int (bI (!(decide (spr (σ.2.1 (20 + i1)) k ≤ σ.2.1 0 1))))]) rfl ?_
          refine lv_if_ne (tgt := 97) hx hb d_M_cls_57 (by decide) (fun c_13 => ?_) (fun c_13 => ?_)
          · have c_13 : (!(decide (spr (σ.2.1 (20 + i1)) k ≤ σ.2.1 0 1))) = true := bI_t.mp c_13
            refine lv_iinc (v := nI n + 1) (lv' := [(2, .int (nI n + 1)), (3, .int (mid (σ.2.1 (20 + i1)) k)), (0, .ref (ad 200)), (1, .int (nI i1))]) hx hb d_M_cls_97 hl (k := 1) rfl rfl (by decide) rfl (fun ls hl => ?_)
            refine lv_goto (tgt := 21) hx hb d_M_cls_100 (by decide) ?_
            have hno : fits_ σ n i1 = false := by simp [fits_, ek, xk, opt_s, c_6, ok_n1 hmo c_10, (by simpa using c_13 : ¬ spr (σ.2.1 (20 + i1)) k ≤ σ.2.1 0 1)]
            refine ih (by omega) _ _ _ ⟨rfl, hS, ?_, ?_⟩
            · rw [hex, fst_s (by omega), hno]; rfl
            · rw [show nI (n + 1) = nI n + 1 from nI_succ n]; exact lv_sub hl [0, 2, 3] rfl
          · have c_13 : (!(decide (spr (σ.2.1 (20 + i1)) k ≤ σ.2.1 0 1))) = false := bI_f.mp c_13
            refine lv_iload_n hx hb d_M_cls_60 rfl (lv_at hl 0 rfl) ?_
            refine lv_aload_n hx hb d_M_cls_61 rfl (lv_at hl 2 rfl) ?_
            refine xr_get (ci := 5) (v := .ref (ad 225)) (C := R_M) (T := T_M) (N := 26) hx hb htw in_M hown hK hw 200 m200 rfl rfl 24 (by decide) (htw _ u_358) (fun _ h9 => h9) rfl d_M_cls_62 ?_
            refine lv_iload_n hx hb d_M_cls_65 rfl (lv_at hl 1 rfl) ?_
            refine xr_iald (i := nI n) hx hb hK hw 225 0 m225 rfl rfl (xvin (a := n) rfl (by omega) (by omega)) d_M_cls_66 ?_
            refine lv_topi (fun x_14 ex_14 => ?_)
            obtain rfl : x_14 = (σ.2.1 8) n := ex_14.trans ((congrArg (σ.2.1 8) (xcl (a := n) rfl (by omega))).trans rfl)
            refine lv_icmp_gt (tgt := 97) hx hb d_M_cls_67 (by decide) (fun c_15 => ?_) (fun c_15 => ?_)
            · refine lv_iinc (v := nI n + 1) (lv' := [(2, .int (nI n + 1)), (3, .int (mid (σ.2.1 (20 + i1)) k)), (0, .ref (ad 200)), (1, .int (nI i1))]) hx hb d_M_cls_97 hl (k := 1) rfl rfl (by decide) rfl (fun ls hl => ?_)
              refine lv_goto (tgt := 21) hx hb d_M_cls_100 (by decide) ?_
              have hno : fits_ σ n i1 = false := by simp [fits_, ek, xk, opt_s, c_6, ok_n1 hmo c_10, (by simpa using c_13 : spr (σ.2.1 (20 + i1)) k ≤ σ.2.1 0 1), c_15, Int32.not_le.mpr c_15]
              refine ih (by omega) _ _ _ ⟨rfl, hS, ?_, ?_⟩
              · rw [hex, fst_s (by omega), hno]; rfl
              · rw [show nI (n + 1) = nI n + 1 from nI_succ n]; exact lv_sub hl [0, 2, 3] rfl
            · refine lv_aload_n hx hb d_M_cls_70 rfl (lv_at hl 2 rfl) ?_
              refine xr_get (ci := 5) (v := .ref (ad 226)) (C := R_M) (T := T_M) (N := 26) hx hb htw in_M hown hK hw 200 m200 rfl rfl 25 (by decide) (htw _ u_359) (fun _ h9 => h9) rfl d_M_cls_71 ?_
              refine lv_iload_n hx hb d_M_cls_74 rfl (lv_at hl 1 rfl) ?_
              refine xr_iald (i := nI n) hx hb hK hw 226 0 m226 rfl rfl (xvin (a := n) rfl (by omega) (by omega)) d_M_cls_75 ?_
              refine lv_topi (fun x_16 ex_16 => ?_)
              obtain rfl : x_16 = (σ.2.1 9) n := ex_16.trans ((congrArg (σ.2.1 9) (xcl (a := n) rfl (by omega))).trans rfl)
              refine lv_aload_n hx hb d_M_cls_76 rfl (lv_at hl 2 rfl) ?_
              refine xr_get (ci := 5) (v := .int (σ.2.1 0 0)) (C := R_M) (T := T_M) (N := 26) hx hb htw in_M hown hK hw 200 m200 rfl rfl 0 (by decide) (htw _ u_334) (fun _ h9 => h9) rfl d_M_cls_77 ?_
              refine lv_aload_n hx hb d_M_cls_80 rfl (lv_at hl 2 rfl) ?_
              refine xr_get (ci := 5) (v := .ref (ad 204)) (C := R_M) (T := T_M) (N := 26) hx hb htw in_M hown hK hw 200 m200 rfl rfl 3 (by decide) (htw _ u_337) (fun _ h9 => h9) rfl d_M_cls_81 ?_
              refine lv_iload_n hx hb d_M_cls_84 rfl (lv_at hl 3 rfl) ?_
              refine xr_iald (i := nI i1) hx hb hK hw 204 0 m204 rfl rfl (xvin (a := i1) rfl (by omega) (by omega)) d_M_cls_85 ?_
              refine lv_topi (fun x_17 ex_17 => ?_)
              obtain rfl : x_17 = (σ.2.1 1) i1 := ex_17.trans ((congrArg (σ.2.1 1) (xcl (a := i1) rfl (by omega))).trans rfl)
              refine lv_isub hx hb d_M_cls_86 ?_
              refine lv_icmp_gt (tgt := 97) hx hb d_M_cls_87 (by decide) (fun c_18 => ?_) (fun c_18 => ?_)
              · refine lv_iinc (v := nI n + 1) (lv' := [(2, .int (nI n + 1)), (3, .int (mid (σ.2.1 (20 + i1)) k)), (0, .ref (ad 200)), (1, .int (nI i1))]) hx hb d_M_cls_97 hl (k := 1) rfl rfl (by decide) rfl (fun ls hl => ?_)
                refine lv_goto (tgt := 21) hx hb d_M_cls_100 (by decide) ?_
                have hno : fits_ σ n i1 = false := by simp [fits_, ek, xk, opt_s, c_6, ok_n1 hmo c_10, (by simpa using c_13 : spr (σ.2.1 (20 + i1)) k ≤ σ.2.1 0 1), c_15, Int32.not_lt.mp c_15, c_18, Int32.not_le.mpr c_18]
                refine ih (by omega) _ _ _ ⟨rfl, hS, ?_, ?_⟩
                · rw [hex, fst_s (by omega), hno]; rfl
                · rw [show nI (n + 1) = nI n + 1 from nI_succ n]; exact lv_sub hl [0, 2, 3] rfl
              · refine lv_aload_n hx hb d_M_cls_90 rfl (lv_at hl 2 rfl) ?_
                refine xr_get (ci := 5) (v := .ref (ad 223)) (C := R_M) (T := T_M) (N := 26) hx hb htw in_M hown hK hw 200 m200 rfl rfl 22 (by decide) (htw _ u_356) (fun _ h9 => h9) rfl d_M_cls_91 ?_
                refine lv_iload_n hx hb d_M_cls_94 rfl (lv_at hl 1 rfl) ?_
                refine xr_iald (i := nI n) hx hb hK hw 223 0 m223 rfl rfl (xvin (a := n) rfl (by omega) (by omega)) d_M_cls_95 ?_
                refine lv_topi (fun x_19 ex_19 => ?_)
                obtain rfl : x_19 = (σ.2.1 6) n := ex_19.trans ((congrArg (σ.2.1 6) (xcl (a := n) rfl (by omega))).trans rfl)
                have hyes : fits_ σ n i1 = true := by simp [fits_, ek, xk, opt_s, c_6, ok_n1 hmo c_10, (by simpa using c_13 : spr (σ.2.1 (20 + i1)) k ≤ σ.2.1 0 1), c_15, Int32.not_lt.mp c_15, c_18, Int32.not_lt.mp c_18]
                exact W.iret (v := (σ.2.1 6) n) hx hb hr (fun t ht _ => ⟨_, rfl, ⟨by simp [f_cls, opt_n, opt_s, opt_c, fi1, c_6, hex, fst_s (p := fun r => fits_ σ r i1) (show n < σ.1 2 by omega), hyes], ht⟩, hS.F ht⟩) hS.2.2 d_M_cls_96
    · have c_6 : (σ.2.2.2 2 i1) = true := bI_t.mp c_6
      refine lv_iconst (v := (-1)) hx hb d_M_cls_17 (by decide) ?_
      exact W.iret (v := (-1)) hx hb hr (fun t ht _ => ⟨_, rfl, ⟨by simp [f_cls, opt_n, opt_s, opt_c, fi1, c_6], ht⟩, hS.F ht⟩) hS.2.2 d_M_cls_18
set_option maxHeartbeats 4000000 in
set_option maxRecDepth 100000 in
theorem c_M_dispute {l : Launch} {D : va_G} {K : Nat → ClassId} {B : Nat} {ad : Nat → Nat} {w : Nat → Option va_E} {H : Heap} {σ : xS} (hR : RepM K σ ad w) (hI : Inv σ) (hw : xw D vwCl B ad w H) (x1 : Int32) : xC l D K B y_M_dispute b_M_dispute 6 (some .int) rm_M_dispute [.ref (ad 200), .int x1] H (fun v H1 => v = some (.int (f_dispute σ x1)) ∧ H1 = H) := by
  refine Met.ofW (cc := b_M_dispute) (maxL := 6) (ret := (some .int)) (by decide) rfl ?_
  intro p e s m args below meth c s₁ B0 hml hv
  obtain ⟨rfl, hsz, hK, hN⟩ := hv
  have hx := B0.exec
  have hb := B0.bytes
  have hr := B0.returns
  have htw : ∀ w ∈ xW0, w.before [.ref (ad 200), .int x1].toArray s = true := fun w h => atoms_spec (ws := Cond.code y_M_dispute b_M_dispute 6 (some .int) :: xW0) B0.pre w (List.mem_cons_of_mem _ h)
  have hown : s.vm.findClass R_M = some m.cls := findClass_of_methodNamed B0.named
  have hlocks := B0.notSynchronized
  subst hsz
  have hS : va_S (fun q => B ≤ q) s.heap s.heap [] := va_S.rf
  have hl := lv_entry ([.ref (ad 200), .int x1]) (n := 6) (Nat.le_of_ble_eq_true rfl)
  rw [lg_entry_eq]
  generalize (lg_sl ([.ref (ad 200), .int x1]) ++ List.replicate (6 - (lg_sl ([.ref (ad 200), .int x1])).length) Slot.unset).toArray = ls at hl ⊢
  have hl : lv_has ls 6 [(0, .ref (ad 200)), (1, .int x1)] := hl
  have hH : s.heap = s.heap := rfl
  obtain ⟨FA, FT, FS, FO, m200, m203, m204, m205, m206, m207, m208, m209, m210, m212, m213, m214, m215, m216, m217, m218, m220, m223, m224, m225, m226, hFA, hFT, hFS, hFO⟩ := id hR
  obtain ⟨hnb, hns, hnr, hpc, hst, hto, htl, hrm, hpa, hwt, hdf, hds⟩ := id hI
  refine lv_iconst (v := 0) hx hb d_M_dispute_0 (by decide) ?_
  refine lv_istore_n (lv' := [(2, .int 0), (0, .ref (ad 200)), (1, .int x1)]) hx hb d_M_dispute_1 rfl hl (by decide) rfl (fun ls hl => ?_)
  refine lv_iconst (v := 0) hx hb d_M_dispute_2 (by decide) ?_
  refine lv_istore_n (lv' := [(3, .int 0), (2, .int 0), (0, .ref (ad 200)), (1, .int x1)]) hx hb d_M_dispute_3 rfl hl (by decide) rfl (fun ls hl => ?_)
  refine xloop (σ.1 0) (fun n H locs ls => H = s.heap ∧ va_S (fun q => B ≤ q) s.heap H locs ∧ ∃ cv : Int32, (dsp (disp σ) x1 (σ.1 0) 0 0 = dsp (disp σ) x1 (σ.1 0 - n) n cv) ∧ lv_has ls 6 [(3, .int (nI n)), (2, .int cv), (0, .ref (ad 200)), (1, .int x1)]) 0 (Nat.zero_le _) ⟨rfl, hS, 0, rfl, lv_sub hl [0, 1, 2, 3] rfl⟩ (fun n H locs ls hn hJ ih => ?_)
  obtain ⟨rfl, hS, cv, hex, hl⟩ := hJ
  refine lv_iload_n hx hb d_M_dispute_4 rfl (lv_at hl 0 rfl) ?_
  refine lv_aload_n hx hb d_M_dispute_5 rfl (lv_at hl 2 rfl) ?_
  refine xr_get (ci := 5) (v := .int (nI (σ.1 0))) (C := R_M) (T := T_M) (N := 26) hx hb htw in_M hown hK hw 200 m200 rfl rfl 1 (by decide) (htw _ u_335) (fun _ h9 => h9) rfl d_M_dispute_6 ?_
  refine lv_icmp_ge (tgt := 82) hx hb d_M_dispute_9 (by decide) (fun c_1 => ?_) (fun c_1 => ?_)
  · have c_1 : (σ.1 0) ≤ n := (nLE (a := σ.1 0) (b := n) (by omega) (by omega)).mp c_1
    refine lv_iconst (v := (-1)) hx hb d_M_dispute_82 (by decide) ?_
    exact W.iret (v := (-1)) hx hb hr (fun t ht _ => ⟨_, rfl, ⟨by rw [f_dispute, hex, show σ.1 0 - n = 0 by omega]; rfl, ht⟩, hS.F ht⟩) hS.2.2 d_M_dispute_83
  · have c_1 : ¬ (σ.1 0) ≤ n := fun z => c_1 ((nLE (a := σ.1 0) (b := n) (by omega) (by omega)).mpr z)
    refine lv_iconst (v := 0) hx hb d_M_dispute_12 (by decide) ?_
    refine lv_istore (lv' := [(4, .int 0), (3, .int (nI n)), (2, .int cv), (0, .ref (ad 200)), (1, .int x1)]) hx hb d_M_dispute_13 hl (by decide) rfl (fun ls hl => ?_)
    refine lv_iconst (v := 0) hx hb d_M_dispute_15 (by decide) ?_
    refine lv_istore (lv' := [(5, .int 0), (4, .int 0), (3, .int (nI n)), (2, .int cv), (0, .ref (ad 200)), (1, .int x1)]) hx hb d_M_dispute_16 hl (by decide) rfl (fun ls hl => ?_)
    refine lv_iload hx hb d_M_dispute_18 (lv_at hl 0 rfl) ?_
    refine lv_iconst (v := 4) hx hb d_M_dispute_20 (by decide) ?_
    refine lv_icmp_ge (tgt := 52) hx hb d_M_dispute_21 (by decide) (fun c_2 => absurd c_2 (by decide)) (fun c_2 => ?_)
    refine lv_iload hx hb d_M_dispute_24 (lv_at hl 1 rfl) ?_
    refine lv_if_ne (tgt := 39) hx hb d_M_dispute_26 (by decide) (fun c_3 => absurd rfl c_3) (fun c_3 => ?_)
    refine lv_aload_n hx hb d_M_dispute_29 rfl (lv_at hl 4 rfl) ?_
    refine lv_iload_n hx hb d_M_dispute_30 rfl (lv_at hl 2 rfl) ?_
    refine lv_iload hx hb d_M_dispute_31 (lv_at hl 0 rfl) ?_
    refine xr_call (va_runV (As := [.int (nI n), .int 0]) (rest := []) ⟨hx, hb, hml, hown, htw⟩ (c_M_disputed (ad := ad) hR hI hw (nI n) 0) (cwV 2 htw (gV u_533 u_517 u_518 u_3 u_519) rfl rfl rfl hd_M_disputed ⟨Nat.le_of_ble_eq_true rfl, Nat.le_of_ble_eq_true rfl⟩) ⟨xP_blind, hw.recv hK (ci := 5) (t := 200) rfl m200 rfl, xP_of hK hN⟩ rfl rfl hl.1 rfl (lv_room (Nat.le_of_ble_eq_true rfl)) d_M_dispute_33 ⟨by decide, by decide⟩) hS (fun v H_ locs hp hS => ?_)
    obtain ⟨rfl, hHe⟩ := hp
    rw [hHe] at hS ⊢
    have g4 : f_disputed σ (nI n) (0) = !(decide (spr (σ.2.1 (20 + n)) 0 ≤ σ.2.1 0 1)) := by rw [f_disputed, show xi (σ.1 0) (nI n) = some n from xi_nI (i := n) (by omega) (by omega), opt_s, show xi 4 (0) = some 0 from xi_nI (i := 0) (by omega) (by decide), opt_s]
    rw [g4]
    refine W.eq (g2 := F0 m 36 ls [.int (bI (!(decide (spr (σ.2.1 (20 + n)) 0 ≤ σ.2.1 0 1))))]) rfl ?_
    refine lv_if_eq (tgt := 43) hx hb d_M_dispute_36 (by decide) (fun c_5 => ?_) (fun c_5 => ?_)
    · have c_5 : (!(decide (spr (σ.2.1 (20 + n)) 0 ≤ σ.2.1 0 1))) = false := bI_f.mp c_5
      refine lv_iconst (v := 0) hx hb d_M_dispute_43 (by decide) ?_
      refine lv_istore (lv' := [(4, .int 0), (5, .int 0), (3, .int (nI n)), (2, .int cv), (0, .ref (ad 200)), (1, .int x1)]) hx hb d_M_dispute_44 hl (by decide) rfl (fun ls hl => ?_)
      refine lv_iinc (v := 1) (lv' := [(5, .int 1), (4, .int 0), (3, .int (nI n)), (2, .int cv), (0, .ref (ad 200)), (1, .int x1)]) hx hb d_M_dispute_46 hl (k := 1) rfl (by decide) (by decide) rfl (fun ls hl => ?_)
      refine lv_goto (tgt := 18) hx hb d_M_dispute_49 (by decide) ?_
      refine lv_iload hx hb d_M_dispute_18 (lv_at hl 0 rfl) ?_
      refine lv_iconst (v := 4) hx hb d_M_dispute_20 (by decide) ?_
      refine lv_icmp_ge (tgt := 52) hx hb d_M_dispute_21 (by decide) (fun c_6 => absurd c_6 (by decide)) (fun c_6 => ?_)
      refine lv_iload hx hb d_M_dispute_24 (lv_at hl 1 rfl) ?_
      refine lv_if_ne (tgt := 39) hx hb d_M_dispute_26 (by decide) (fun c_7 => absurd rfl c_7) (fun c_7 => ?_)
      refine lv_aload_n hx hb d_M_dispute_29 rfl (lv_at hl 4 rfl) ?_
      refine lv_iload_n hx hb d_M_dispute_30 rfl (lv_at hl 2 rfl) ?_
      refine lv_iload hx hb d_M_dispute_31 (lv_at hl 0 rfl) ?_
      refine xr_call (va_runV (As := [.int (nI n), .int 1]) (rest := []) ⟨hx, hb, hml, hown, htw⟩ (c_M_disputed (ad := ad) hR hI hw (nI n) 1) (cwV 2 htw (gV u_533 u_517 u_518 u_3 u_519) rfl rfl rfl hd_M_disputed ⟨Nat.le_of_ble_eq_true rfl, Nat.le_of_ble_eq_true rfl⟩) ⟨xP_blind, hw.recv hK (ci := 5) (t := 200) rfl m200 rfl, xP_of hK hN⟩ rfl rfl hl.1 rfl (lv_room (Nat.le_of_ble_eq_true rfl)) d_M_dispute_33 ⟨by decide, by decide⟩) hS (fun v H_ locs hp hS => ?_)
      obtain ⟨rfl, hHe⟩ := hp
      rw [hHe] at hS ⊢
      have g8 : f_disputed σ (nI n) (1) = !(decide (spr (σ.2.1 (20 + n)) 1 ≤ σ.2.1 0 1)) := by rw [f_disputed, show xi (σ.1 0) (nI n) = some n from xi_nI (i := n) (by omega) (by omega), opt_s, show xi 4 (1) = some 1 from xi_nI (i := 1) (by omega) (by decide), opt_s]
      rw [g8]
      refine W.eq (g2 := F0 m 36 ls [.int (bI (!(decide (spr (σ.2.1 (20 + n)) 1 ≤ σ.2.1 0 1))))]) rfl ?_
      refine lv_if_eq (tgt := 43) hx hb d_M_dispute_36 (by decide) (fun c_9 => ?_) (fun c_9 => ?_)
      · have c_9 : (!(decide (spr (σ.2.1 (20 + n)) 1 ≤ σ.2.1 0 1))) = false := bI_f.mp c_9
        refine lv_iconst (v := 0) hx hb d_M_dispute_43 (by decide) ?_
        refine lv_istore (lv' := [(4, .int 0), (5, .int 1), (3, .int (nI n)), (2, .int cv), (0, .ref (ad 200)), (1, .int x1)]) hx hb d_M_dispute_44 hl (by decide) rfl (fun ls hl => ?_)
        refine lv_iinc (v := 2) (lv' := [(5, .int 2), (4, .int 0), (3, .int (nI n)), (2, .int cv), (0, .ref (ad 200)), (1, .int x1)]) hx hb d_M_dispute_46 hl (k := 1) rfl (by decide) (by decide) rfl (fun ls hl => ?_)
        refine lv_goto (tgt := 18) hx hb d_M_dispute_49 (by decide) ?_
        refine lv_iload hx hb d_M_dispute_18 (lv_at hl 0 rfl) ?_
        refine lv_iconst (v := 4) hx hb d_M_dispute_20 (by decide) ?_
        refine lv_icmp_ge (tgt := 52) hx hb d_M_dispute_21 (by decide) (fun c_10 => absurd c_10 (by decide)) (fun c_10 => ?_)
        refine lv_iload hx hb d_M_dispute_24 (lv_at hl 1 rfl) ?_
        refine lv_if_ne (tgt := 39) hx hb d_M_dispute_26 (by decide) (fun c_11 => absurd rfl c_11) (fun c_11 => ?_)
        refine lv_aload_n hx hb d_M_dispute_29 rfl (lv_at hl 4 rfl) ?_
        refine lv_iload_n hx hb d_M_dispute_30 rfl (lv_at hl 2 rfl) ?_
        refine lv_iload hx hb d_M_dispute_31 (lv_at hl 0 rfl) ?_
        refine xr_call (va_runV (As := [.int (nI n), .int 2]) (rest := []) ⟨hx, hb, hml, hown, htw⟩ (c_M_disputed (ad := ad) hR hI hw (nI n) 2) (cwV 2 htw (gV u_533 u_517 u_518 u_3 u_519) rfl rfl rfl hd_M_disputed ⟨Nat.le_of_ble_eq_true rfl, Nat.le_of_ble_eq_true rfl⟩) ⟨xP_blind, hw.recv hK (ci := 5) (t := 200) rfl m200 rfl, xP_of hK hN⟩ rfl rfl hl.1 rfl (lv_room (Nat.le_of_ble_eq_true rfl)) d_M_dispute_33 ⟨by decide, by decide⟩) hS (fun v H_ locs hp hS => ?_)
        obtain ⟨rfl, hHe⟩ := hp
        rw [hHe] at hS ⊢
        have g12 : f_disputed σ (nI n) (2) = !(decide (spr (σ.2.1 (20 + n)) 2 ≤ σ.2.1 0 1)) := by rw [f_disputed, show xi (σ.1 0) (nI n) = some n from xi_nI (i := n) (by omega) (by omega), opt_s, show xi 4 (2) = some 2 from xi_nI (i := 2) (by omega) (by decide), opt_s]
        rw [g12]
        refine W.eq (g2 := F0 m 36 ls [.int (bI (!(decide (spr (σ.2.1 (20 + n)) 2 ≤ σ.2.1 0 1))))]) rfl ?_
        refine lv_if_eq (tgt := 43) hx hb d_M_dispute_36 (by decide) (fun c_13 => ?_) (fun c_13 => ?_)
        · have c_13 : (!(decide (spr (σ.2.1 (20 + n)) 2 ≤ σ.2.1 0 1))) = false := bI_f.mp c_13
          refine lv_iconst (v := 0) hx hb d_M_dispute_43 (by decide) ?_
          refine lv_istore (lv' := [(4, .int 0), (5, .int 2), (3, .int (nI n)), (2, .int cv), (0, .ref (ad 200)), (1, .int x1)]) hx hb d_M_dispute_44 hl (by decide) rfl (fun ls hl => ?_)
          refine lv_iinc (v := 3) (lv' := [(5, .int 3), (4, .int 0), (3, .int (nI n)), (2, .int cv), (0, .ref (ad 200)), (1, .int x1)]) hx hb d_M_dispute_46 hl (k := 1) rfl (by decide) (by decide) rfl (fun ls hl => ?_)
          refine lv_goto (tgt := 18) hx hb d_M_dispute_49 (by decide) ?_
          refine lv_iload hx hb d_M_dispute_18 (lv_at hl 0 rfl) ?_
          refine lv_iconst (v := 4) hx hb d_M_dispute_20 (by decide) ?_
          refine lv_icmp_ge (tgt := 52) hx hb d_M_dispute_21 (by decide) (fun c_14 => absurd c_14 (by decide)) (fun c_14 => ?_)
          refine lv_iload hx hb d_M_dispute_24 (lv_at hl 1 rfl) ?_
          refine lv_if_ne (tgt := 39) hx hb d_M_dispute_26 (by decide) (fun c_15 => absurd rfl c_15) (fun c_15 => ?_)
          refine lv_aload_n hx hb d_M_dispute_29 rfl (lv_at hl 4 rfl) ?_
          refine lv_iload_n hx hb d_M_dispute_30 rfl (lv_at hl 2 rfl) ?_
          refine lv_iload hx hb d_M_dispute_31 (lv_at hl 0 rfl) ?_
          refine xr_call (va_runV (As := [.int (nI n), .int 3]) (rest := []) ⟨hx, hb, hml, hown, htw⟩ (c_M_disputed (ad := ad) hR hI hw (nI n) 3) (cwV 2 htw (gV u_533 u_517 u_518 u_3 u_519) rfl rfl rfl hd_M_disputed ⟨Nat.le_of_ble_eq_true rfl, Nat.le_of_ble_eq_true rfl⟩) ⟨xP_blind, hw.recv hK (ci := 5) (t := 200) rfl m200 rfl, xP_of hK hN⟩ rfl rfl hl.1 rfl (lv_room (Nat.le_of_ble_eq_true rfl)) d_M_dispute_33 ⟨by decide, by decide⟩) hS (fun v H_ locs hp hS => ?_)
          obtain ⟨rfl, hHe⟩ := hp
          rw [hHe] at hS ⊢
          have g16 : f_disputed σ (nI n) (3) = !(decide (spr (σ.2.1 (20 + n)) 3 ≤ σ.2.1 0 1)) := by rw [f_disputed, show xi (σ.1 0) (nI n) = some n from xi_nI (i := n) (by omega) (by omega), opt_s, show xi 4 (3) = some 3 from xi_nI (i := 3) (by omega) (by decide), opt_s]
          rw [g16]
          refine W.eq (g2 := F0 m 36 ls [.int (bI (!(decide (spr (σ.2.1 (20 + n)) 3 ≤ σ.2.1 0 1))))]) rfl ?_
          refine lv_if_eq (tgt := 43) hx hb d_M_dispute_36 (by decide) (fun c_17 => ?_) (fun c_17 => ?_)
          · have c_17 : (!(decide (spr (σ.2.1 (20 + n)) 3 ≤ σ.2.1 0 1))) = false := bI_f.mp c_17
            refine lv_iconst (v := 0) hx hb d_M_dispute_43 (by decide) ?_
            refine lv_istore (lv' := [(4, .int 0), (5, .int 3), (3, .int (nI n)), (2, .int cv), (0, .ref (ad 200)), (1, .int x1)]) hx hb d_M_dispute_44 hl (by decide) rfl (fun ls hl => ?_)
            refine lv_iinc (v := 4) (lv' := [(5, .int 4), (4, .int 0), (3, .int (nI n)), (2, .int cv), (0, .ref (ad 200)), (1, .int x1)]) hx hb d_M_dispute_46 hl (k := 1) rfl (by decide) (by decide) rfl (fun ls hl => ?_)
            refine lv_goto (tgt := 18) hx hb d_M_dispute_49 (by decide) ?_
            refine lv_iload hx hb d_M_dispute_18 (lv_at hl 0 rfl) ?_
            refine lv_iconst (v := 4) hx hb d_M_dispute_20 (by decide) ?_
            refine lv_icmp_ge (tgt := 52) hx hb d_M_dispute_21 (by decide) (fun c_18 => ?_) (fun c_18 => absurd (by decide) c_18)
            refine lv_iload hx hb d_M_dispute_52 (lv_at hl 1 rfl) ?_
            refine lv_if_eq (tgt := 76) hx hb d_M_dispute_54 (by decide) (fun c_19 => ?_) (fun c_19 => absurd (by decide) c_19)
            refine lv_iinc (v := nI n + 1) (lv' := [(3, .int (nI n + 1)), (5, .int 4), (4, .int 0), (2, .int cv), (0, .ref (ad 200)), (1, .int x1)]) hx hb d_M_dispute_76 hl (k := 2) rfl rfl (by decide) rfl (fun ls hl => ?_)
            refine lv_goto (tgt := 4) hx hb d_M_dispute_79 (by decide) ?_
            refine ih (by omega) _ _ _ ⟨rfl, hS, cv, ?_, ?_⟩
            · rw [hex, dsp_s (by omega)]; simp [disp, hasS, (by simpa using c_5 : spr (σ.2.1 (20 + n)) 0 ≤ σ.2.1 0 1), (by simpa using c_9 : spr (σ.2.1 (20 + n)) 1 ≤ σ.2.1 0 1), (by simpa using c_13 : spr (σ.2.1 (20 + n)) 2 ≤ σ.2.1 0 1), (by simpa using c_17 : spr (σ.2.1 (20 + n)) 3 ≤ σ.2.1 0 1)]
            · rw [show nI (n + 1) = nI n + 1 from nI_succ n]; exact lv_sub hl [0, 3, 4, 5] rfl
          · have c_17 : (!(decide (spr (σ.2.1 (20 + n)) 3 ≤ σ.2.1 0 1))) = true := bI_t.mp c_17
            refine lv_iconst (v := 1) hx hb d_M_dispute_39 (by decide) ?_
            refine lv_goto (tgt := 44) hx hb d_M_dispute_40 (by decide) ?_
            refine lv_istore (lv' := [(4, .int 1), (5, .int 3), (3, .int (nI n)), (2, .int cv), (0, .ref (ad 200)), (1, .int x1)]) hx hb d_M_dispute_44 hl (by decide) rfl (fun ls hl => ?_)
            refine lv_iinc (v := 4) (lv' := [(5, .int 4), (4, .int 1), (3, .int (nI n)), (2, .int cv), (0, .ref (ad 200)), (1, .int x1)]) hx hb d_M_dispute_46 hl (k := 1) rfl (by decide) (by decide) rfl (fun ls hl => ?_)
            refine lv_goto (tgt := 18) hx hb d_M_dispute_49 (by decide) ?_
            refine lv_iload hx hb d_M_dispute_18 (lv_at hl 0 rfl) ?_
            refine lv_iconst (v := 4) hx hb d_M_dispute_20 (by decide) ?_
            refine lv_icmp_ge (tgt := 52) hx hb d_M_dispute_21 (by decide) (fun c_20 => ?_) (fun c_20 => absurd (by decide) c_20)
            refine lv_iload hx hb d_M_dispute_52 (lv_at hl 1 rfl) ?_
            refine lv_if_eq (tgt := 76) hx hb d_M_dispute_54 (by decide) (fun c_21 => absurd c_21 (by decide)) (fun c_21 => ?_)
            refine lv_aload_n hx hb d_M_dispute_57 rfl (lv_at hl 4 rfl) ?_
            refine xr_get (ci := 5) (v := .ref (ad 205)) (C := R_M) (T := T_M) (N := 26) hx hb htw in_M hown hK hw 200 m200 rfl rfl 4 (by decide) (htw _ u_338) (fun _ h9 => h9) rfl d_M_dispute_58 ?_
            refine lv_iload_n hx hb d_M_dispute_61 rfl (lv_at hl 2 rfl) ?_
            refine xr_zald (i := nI n) hx hb hK hw 205 5 m205 rfl rfl (xvin (a := n) rfl (by omega) (by omega)) d_M_dispute_62 ?_
            refine lv_topi (fun x_22 ex_22 => ?_)
            obtain rfl : x_22 = bI (σ.2.2.2 2 n) := ex_22.trans ((congrArg (fun b => bI (σ.2.2.2 2 b)) (xcl (a := n) rfl (by omega))).trans rfl)
            refine lv_if_ne (tgt := 76) hx hb d_M_dispute_63 (by decide) (fun c_23 => ?_) (fun c_23 => ?_)
            · have c_23 : (σ.2.2.2 2 n) = true := bI_t.mp c_23
              refine lv_iinc (v := nI n + 1) (lv' := [(3, .int (nI n + 1)), (5, .int 4), (4, .int 1), (2, .int cv), (0, .ref (ad 200)), (1, .int x1)]) hx hb d_M_dispute_76 hl (k := 2) rfl rfl (by decide) rfl (fun ls hl => ?_)
              refine lv_goto (tgt := 4) hx hb d_M_dispute_79 (by decide) ?_
              refine ih (by omega) _ _ _ ⟨rfl, hS, cv, ?_, ?_⟩
              · rw [hex, dsp_s (by omega)]; simp [disp, hasS, (by simpa using c_5 : spr (σ.2.1 (20 + n)) 0 ≤ σ.2.1 0 1), (by simpa using c_9 : spr (σ.2.1 (20 + n)) 1 ≤ σ.2.1 0 1), (by simpa using c_13 : spr (σ.2.1 (20 + n)) 2 ≤ σ.2.1 0 1), (by simpa using c_17 : ¬ spr (σ.2.1 (20 + n)) 3 ≤ σ.2.1 0 1), c_23]
              · rw [show nI (n + 1) = nI n + 1 from nI_succ n]; exact lv_sub hl [0, 3, 4, 5] rfl
            · have c_23 : (σ.2.2.2 2 n) = false := bI_f.mp c_23
              refine lv_iload_n hx hb d_M_dispute_66 rfl (lv_at hl 3 rfl) ?_
              refine lv_iload_n hx hb d_M_dispute_67 rfl (lv_at hl 5 rfl) ?_
              refine lv_icmp_ne (tgt := 73) hx hb d_M_dispute_68 (by decide) (fun c_24 => ?_) (fun c_24 => ?_)
              · refine lv_iinc (v := cv + 1) (lv' := [(2, .int (cv + 1)), (5, .int 4), (4, .int 1), (3, .int (nI n)), (0, .ref (ad 200)), (1, .int x1)]) hx hb d_M_dispute_73 hl (k := 3) rfl rfl (by decide) rfl (fun ls hl => ?_)
                refine lv_iinc (v := nI n + 1) (lv' := [(3, .int (nI n + 1)), (2, .int (cv + 1)), (5, .int 4), (4, .int 1), (0, .ref (ad 200)), (1, .int x1)]) hx hb d_M_dispute_76 hl (k := 3) rfl rfl (by decide) rfl (fun ls hl => ?_)
                refine lv_goto (tgt := 4) hx hb d_M_dispute_79 (by decide) ?_
                refine ih (by omega) _ _ _ ⟨rfl, hS, cv + 1, ?_, ?_⟩
                · rw [hex, dsp_s (by omega)]; simp [disp, hasS, (by simpa using c_5 : spr (σ.2.1 (20 + n)) 0 ≤ σ.2.1 0 1), (by simpa using c_9 : spr (σ.2.1 (20 + n)) 1 ≤ σ.2.1 0 1), (by simpa using c_13 : spr (σ.2.1 (20 + n)) 2 ≤ σ.2.1 0 1), (by simpa using c_17 : ¬ spr (σ.2.1 (20 + n)) 3 ≤ σ.2.1 0 1), c_23, c_24]
                · rw [show nI (n + 1) = nI n + 1 from nI_succ n]; exact lv_sub hl [0, 1, 4, 5] rfl
              · refine lv_iload_n hx hb d_M_dispute_71 rfl (lv_at hl 2 rfl) ?_
                exact W.iret (v := nI n) hx hb hr (fun t ht _ => ⟨_, rfl, ⟨by rw [f_dispute, hex, dsp_s (by omega)]; simp [disp, hasS, (by simpa using c_5 : spr (σ.2.1 (20 + n)) 0 ≤ σ.2.1 0 1), (by simpa using c_9 : spr (σ.2.1 (20 + n)) 1 ≤ σ.2.1 0 1), (by simpa using c_13 : spr (σ.2.1 (20 + n)) 2 ≤ σ.2.1 0 1), (by simpa using c_17 : ¬ spr (σ.2.1 (20 + n)) 3 ≤ σ.2.1 0 1), c_23, c_24], ht⟩, hS.F ht⟩) hS.2.2 d_M_dispute_72
        · have c_13 : (!(decide (spr (σ.2.1 (20 + n)) 2 ≤ σ.2.1 0 1))) = true := bI_t.mp c_13
          refine lv_iconst (v := 1) hx hb d_M_dispute_39 (by decide) ?_
          refine lv_goto (tgt := 44) hx hb d_M_dispute_40 (by decide) ?_
          refine lv_istore (lv' := [(4, .int 1), (5, .int 2), (3, .int (nI n)), (2, .int cv), (0, .ref (ad 200)), (1, .int x1)]) hx hb d_M_dispute_44 hl (by decide) rfl (fun ls hl => ?_)
          refine lv_iinc (v := 3) (lv' := [(5, .int 3), (4, .int 1), (3, .int (nI n)), (2, .int cv), (0, .ref (ad 200)), (1, .int x1)]) hx hb d_M_dispute_46 hl (k := 1) rfl (by decide) (by decide) rfl (fun ls hl => ?_)
          refine lv_goto (tgt := 18) hx hb d_M_dispute_49 (by decide) ?_
          refine lv_iload hx hb d_M_dispute_18 (lv_at hl 0 rfl) ?_
          refine lv_iconst (v := 4) hx hb d_M_dispute_20 (by decide) ?_
          refine lv_icmp_ge (tgt := 52) hx hb d_M_dispute_21 (by decide) (fun c_25 => absurd c_25 (by decide)) (fun c_25 => ?_)
          refine lv_iload hx hb d_M_dispute_24 (lv_at hl 1 rfl) ?_
          refine lv_if_ne (tgt := 39) hx hb d_M_dispute_26 (by decide) (fun c_26 => ?_) (fun c_26 => absurd c_26 (by decide))
          refine lv_iconst (v := 1) hx hb d_M_dispute_39 (by decide) ?_
          refine lv_goto (tgt := 44) hx hb d_M_dispute_40 (by decide) ?_
          refine lv_istore (lv' := [(4, .int 1), (5, .int 3), (3, .int (nI n)), (2, .int cv), (0, .ref (ad 200)), (1, .int x1)]) hx hb d_M_dispute_44 hl (by decide) rfl (fun ls hl => ?_)
          refine lv_iinc (v := 4) (lv' := [(5, .int 4), (4, .int 1), (3, .int (nI n)), (2, .int cv), (0, .ref (ad 200)), (1, .int x1)]) hx hb d_M_dispute_46 hl (k := 1) rfl (by decide) (by decide) rfl (fun ls hl => ?_)
          refine lv_goto (tgt := 18) hx hb d_M_dispute_49 (by decide) ?_
          refine lv_iload hx hb d_M_dispute_18 (lv_at hl 0 rfl) ?_
          refine lv_iconst (v := 4) hx hb d_M_dispute_20 (by decide) ?_
          refine lv_icmp_ge (tgt := 52) hx hb d_M_dispute_21 (by decide) (fun c_27 => ?_) (fun c_27 => absurd (by decide) c_27)
          refine lv_iload hx hb d_M_dispute_52 (lv_at hl 1 rfl) ?_
          refine lv_if_eq (tgt := 76) hx hb d_M_dispute_54 (by decide) (fun c_28 => absurd c_28 (by decide)) (fun c_28 => ?_)
          refine lv_aload_n hx hb d_M_dispute_57 rfl (lv_at hl 4 rfl) ?_
          refine xr_get (ci := 5) (v := .ref (ad 205)) (C := R_M) (T := T_M) (N := 26) hx hb htw in_M hown hK hw 200 m200 rfl rfl 4 (by decide) (htw _ u_338) (fun _ h9 => h9) rfl d_M_dispute_58 ?_
          refine lv_iload_n hx hb d_M_dispute_61 rfl (lv_at hl 2 rfl) ?_
          refine xr_zald (i := nI n) hx hb hK hw 205 5 m205 rfl rfl (xvin (a := n) rfl (by omega) (by omega)) d_M_dispute_62 ?_
          refine lv_topi (fun x_29 ex_29 => ?_)
          obtain rfl : x_29 = bI (σ.2.2.2 2 n) := ex_29.trans ((congrArg (fun b => bI (σ.2.2.2 2 b)) (xcl (a := n) rfl (by omega))).trans rfl)
          refine lv_if_ne (tgt := 76) hx hb d_M_dispute_63 (by decide) (fun c_30 => ?_) (fun c_30 => ?_)
          · have c_30 : (σ.2.2.2 2 n) = true := bI_t.mp c_30
            refine lv_iinc (v := nI n + 1) (lv' := [(3, .int (nI n + 1)), (5, .int 4), (4, .int 1), (2, .int cv), (0, .ref (ad 200)), (1, .int x1)]) hx hb d_M_dispute_76 hl (k := 2) rfl rfl (by decide) rfl (fun ls hl => ?_)
            refine lv_goto (tgt := 4) hx hb d_M_dispute_79 (by decide) ?_
            refine ih (by omega) _ _ _ ⟨rfl, hS, cv, ?_, ?_⟩
            · rw [hex, dsp_s (by omega)]; simp [disp, hasS, (by simpa using c_5 : spr (σ.2.1 (20 + n)) 0 ≤ σ.2.1 0 1), (by simpa using c_9 : spr (σ.2.1 (20 + n)) 1 ≤ σ.2.1 0 1), (by simpa using c_13 : ¬ spr (σ.2.1 (20 + n)) 2 ≤ σ.2.1 0 1), c_30]
            · rw [show nI (n + 1) = nI n + 1 from nI_succ n]; exact lv_sub hl [0, 3, 4, 5] rfl
          · have c_30 : (σ.2.2.2 2 n) = false := bI_f.mp c_30
            refine lv_iload_n hx hb d_M_dispute_66 rfl (lv_at hl 3 rfl) ?_
            refine lv_iload_n hx hb d_M_dispute_67 rfl (lv_at hl 5 rfl) ?_
            refine lv_icmp_ne (tgt := 73) hx hb d_M_dispute_68 (by decide) (fun c_31 => ?_) (fun c_31 => ?_)
            · refine lv_iinc (v := cv + 1) (lv' := [(2, .int (cv + 1)), (5, .int 4), (4, .int 1), (3, .int (nI n)), (0, .ref (ad 200)), (1, .int x1)]) hx hb d_M_dispute_73 hl (k := 3) rfl rfl (by decide) rfl (fun ls hl => ?_)
              refine lv_iinc (v := nI n + 1) (lv' := [(3, .int (nI n + 1)), (2, .int (cv + 1)), (5, .int 4), (4, .int 1), (0, .ref (ad 200)), (1, .int x1)]) hx hb d_M_dispute_76 hl (k := 3) rfl rfl (by decide) rfl (fun ls hl => ?_)
              refine lv_goto (tgt := 4) hx hb d_M_dispute_79 (by decide) ?_
              refine ih (by omega) _ _ _ ⟨rfl, hS, cv + 1, ?_, ?_⟩
              · rw [hex, dsp_s (by omega)]; simp [disp, hasS, (by simpa using c_5 : spr (σ.2.1 (20 + n)) 0 ≤ σ.2.1 0 1), (by simpa using c_9 : spr (σ.2.1 (20 + n)) 1 ≤ σ.2.1 0 1), (by simpa using c_13 : ¬ spr (σ.2.1 (20 + n)) 2 ≤ σ.2.1 0 1), c_30, c_31]
              · rw [show nI (n + 1) = nI n + 1 from nI_succ n]; exact lv_sub hl [0, 1, 4, 5] rfl
            · refine lv_iload_n hx hb d_M_dispute_71 rfl (lv_at hl 2 rfl) ?_
              exact W.iret (v := nI n) hx hb hr (fun t ht _ => ⟨_, rfl, ⟨by rw [f_dispute, hex, dsp_s (by omega)]; simp [disp, hasS, (by simpa using c_5 : spr (σ.2.1 (20 + n)) 0 ≤ σ.2.1 0 1), (by simpa using c_9 : spr (σ.2.1 (20 + n)) 1 ≤ σ.2.1 0 1), (by simpa using c_13 : ¬ spr (σ.2.1 (20 + n)) 2 ≤ σ.2.1 0 1), c_30, c_31], ht⟩, hS.F ht⟩) hS.2.2 d_M_dispute_72
      · have c_9 : (!(decide (spr (σ.2.1 (20 + n)) 1 ≤ σ.2.1 0 1))) = true := bI_t.mp c_9
        refine lv_iconst (v := 1) hx hb d_M_dispute_39 (by decide) ?_
        refine lv_goto (tgt := 44) hx hb d_M_dispute_40 (by decide) ?_
        refine lv_istore (lv' := [(4, .int 1), (5, .int 1), (3, .int (nI n)), (2, .int cv), (0, .ref (ad 200)), (1, .int x1)]) hx hb d_M_dispute_44 hl (by decide) rfl (fun ls hl => ?_)
        refine lv_iinc (v := 2) (lv' := [(5, .int 2), (4, .int 1), (3, .int (nI n)), (2, .int cv), (0, .ref (ad 200)), (1, .int x1)]) hx hb d_M_dispute_46 hl (k := 1) rfl (by decide) (by decide) rfl (fun ls hl => ?_)
        refine lv_goto (tgt := 18) hx hb d_M_dispute_49 (by decide) ?_
        refine lv_iload hx hb d_M_dispute_18 (lv_at hl 0 rfl) ?_
        refine lv_iconst (v := 4) hx hb d_M_dispute_20 (by decide) ?_
        refine lv_icmp_ge (tgt := 52) hx hb d_M_dispute_21 (by decide) (fun c_32 => absurd c_32 (by decide)) (fun c_32 => ?_)
        refine lv_iload hx hb d_M_dispute_24 (lv_at hl 1 rfl) ?_
        refine lv_if_ne (tgt := 39) hx hb d_M_dispute_26 (by decide) (fun c_33 => ?_) (fun c_33 => absurd c_33 (by decide))
        refine lv_iconst (v := 1) hx hb d_M_dispute_39 (by decide) ?_
        refine lv_goto (tgt := 44) hx hb d_M_dispute_40 (by decide) ?_
        refine lv_istore (lv' := [(4, .int 1), (5, .int 2), (3, .int (nI n)), (2, .int cv), (0, .ref (ad 200)), (1, .int x1)]) hx hb d_M_dispute_44 hl (by decide) rfl (fun ls hl => ?_)
        refine lv_iinc (v := 3) (lv' := [(5, .int 3), (4, .int 1), (3, .int (nI n)), (2, .int cv), (0, .ref (ad 200)), (1, .int x1)]) hx hb d_M_dispute_46 hl (k := 1) rfl (by decide) (by decide) rfl (fun ls hl => ?_)
        refine lv_goto (tgt := 18) hx hb d_M_dispute_49 (by decide) ?_
        refine lv_iload hx hb d_M_dispute_18 (lv_at hl 0 rfl) ?_
        refine lv_iconst (v := 4) hx hb d_M_dispute_20 (by decide) ?_
        refine lv_icmp_ge (tgt := 52) hx hb d_M_dispute_21 (by decide) (fun c_34 => absurd c_34 (by decide)) (fun c_34 => ?_)
        refine lv_iload hx hb d_M_dispute_24 (lv_at hl 1 rfl) ?_
        refine lv_if_ne (tgt := 39) hx hb d_M_dispute_26 (by decide) (fun c_35 => ?_) (fun c_35 => absurd c_35 (by decide))
        refine lv_iconst (v := 1) hx hb d_M_dispute_39 (by decide) ?_
        refine lv_goto (tgt := 44) hx hb d_M_dispute_40 (by decide) ?_
        refine lv_istore (lv' := [(4, .int 1), (5, .int 3), (3, .int (nI n)), (2, .int cv), (0, .ref (ad 200)), (1, .int x1)]) hx hb d_M_dispute_44 hl (by decide) rfl (fun ls hl => ?_)
        refine lv_iinc (v := 4) (lv' := [(5, .int 4), (4, .int 1), (3, .int (nI n)), (2, .int cv), (0, .ref (ad 200)), (1, .int x1)]) hx hb d_M_dispute_46 hl (k := 1) rfl (by decide) (by decide) rfl (fun ls hl => ?_)
        refine lv_goto (tgt := 18) hx hb d_M_dispute_49 (by decide) ?_
        refine lv_iload hx hb d_M_dispute_18 (lv_at hl 0 rfl) ?_
        refine lv_iconst (v := 4) hx hb d_M_dispute_20 (by decide) ?_
        refine lv_icmp_ge (tgt := 52) hx hb d_M_dispute_21 (by decide) (fun c_36 => ?_) (fun c_36 => absurd (by decide) c_36)
        refine lv_iload hx hb d_M_dispute_52 (lv_at hl 1 rfl) ?_
        refine lv_if_eq (tgt := 76) hx hb d_M_dispute_54 (by decide) (fun c_37 => absurd c_37 (by decide)) (fun c_37 => ?_)
        refine lv_aload_n hx hb d_M_dispute_57 rfl (lv_at hl 4 rfl) ?_
        refine xr_get (ci := 5) (v := .ref (ad 205)) (C := R_M) (T := T_M) (N := 26) hx hb htw in_M hown hK hw 200 m200 rfl rfl 4 (by decide) (htw _ u_338) (fun _ h9 => h9) rfl d_M_dispute_58 ?_
        refine lv_iload_n hx hb d_M_dispute_61 rfl (lv_at hl 2 rfl) ?_
        refine xr_zald (i := nI n) hx hb hK hw 205 5 m205 rfl rfl (xvin (a := n) rfl (by omega) (by omega)) d_M_dispute_62 ?_
        refine lv_topi (fun x_38 ex_38 => ?_)
        obtain rfl : x_38 = bI (σ.2.2.2 2 n) := ex_38.trans ((congrArg (fun b => bI (σ.2.2.2 2 b)) (xcl (a := n) rfl (by omega))).trans rfl)
        refine lv_if_ne (tgt := 76) hx hb d_M_dispute_63 (by decide) (fun c_39 => ?_) (fun c_39 => ?_)
        · have c_39 : (σ.2.2.2 2 n) = true := bI_t.mp c_39
          refine lv_iinc (v := nI n + 1) (lv' := [(3, .int (nI n + 1)), (5, .int 4), (4, .int 1), (2, .int cv), (0, .ref (ad 200)), (1, .int x1)]) hx hb d_M_dispute_76 hl (k := 2) rfl rfl (by decide) rfl (fun ls hl => ?_)
          refine lv_goto (tgt := 4) hx hb d_M_dispute_79 (by decide) ?_
          refine ih (by omega) _ _ _ ⟨rfl, hS, cv, ?_, ?_⟩
          · rw [hex, dsp_s (by omega)]; simp [disp, hasS, (by simpa using c_5 : spr (σ.2.1 (20 + n)) 0 ≤ σ.2.1 0 1), (by simpa using c_9 : ¬ spr (σ.2.1 (20 + n)) 1 ≤ σ.2.1 0 1), c_39]
          · rw [show nI (n + 1) = nI n + 1 from nI_succ n]; exact lv_sub hl [0, 3, 4, 5] rfl
        · have c_39 : (σ.2.2.2 2 n) = false := bI_f.mp c_39
          refine lv_iload_n hx hb d_M_dispute_66 rfl (lv_at hl 3 rfl) ?_
          refine lv_iload_n hx hb d_M_dispute_67 rfl (lv_at hl 5 rfl) ?_
          refine lv_icmp_ne (tgt := 73) hx hb d_M_dispute_68 (by decide) (fun c_40 => ?_) (fun c_40 => ?_)
          · refine lv_iinc (v := cv + 1) (lv' := [(2, .int (cv + 1)), (5, .int 4), (4, .int 1), (3, .int (nI n)), (0, .ref (ad 200)), (1, .int x1)]) hx hb d_M_dispute_73 hl (k := 3) rfl rfl (by decide) rfl (fun ls hl => ?_)
            refine lv_iinc (v := nI n + 1) (lv' := [(3, .int (nI n + 1)), (2, .int (cv + 1)), (5, .int 4), (4, .int 1), (0, .ref (ad 200)), (1, .int x1)]) hx hb d_M_dispute_76 hl (k := 3) rfl rfl (by decide) rfl (fun ls hl => ?_)
            refine lv_goto (tgt := 4) hx hb d_M_dispute_79 (by decide) ?_
            refine ih (by omega) _ _ _ ⟨rfl, hS, cv + 1, ?_, ?_⟩
            · rw [hex, dsp_s (by omega)]; simp [disp, hasS, (by simpa using c_5 : spr (σ.2.1 (20 + n)) 0 ≤ σ.2.1 0 1), (by simpa using c_9 : ¬ spr (σ.2.1 (20 + n)) 1 ≤ σ.2.1 0 1), c_39, c_40]
            · rw [show nI (n + 1) = nI n + 1 from nI_succ n]; exact lv_sub hl [0, 1, 4, 5] rfl
          · refine lv_iload_n hx hb d_M_dispute_71 rfl (lv_at hl 2 rfl) ?_
            exact W.iret (v := nI n) hx hb hr (fun t ht _ => ⟨_, rfl, ⟨by rw [f_dispute, hex, dsp_s (by omega)]; simp [disp, hasS, (by simpa using c_5 : spr (σ.2.1 (20 + n)) 0 ≤ σ.2.1 0 1), (by simpa using c_9 : ¬ spr (σ.2.1 (20 + n)) 1 ≤ σ.2.1 0 1), c_39, c_40], ht⟩, hS.F ht⟩) hS.2.2 d_M_dispute_72
    · have c_5 : (!(decide (spr (σ.2.1 (20 + n)) 0 ≤ σ.2.1 0 1))) = true := bI_t.mp c_5
      refine lv_iconst (v := 1) hx hb d_M_dispute_39 (by decide) ?_
      refine lv_goto (tgt := 44) hx hb d_M_dispute_40 (by decide) ?_
      refine lv_istore (lv' := [(4, .int 1), (5, .int 0), (3, .int (nI n)), (2, .int cv), (0, .ref (ad 200)), (1, .int x1)]) hx hb d_M_dispute_44 hl (by decide) rfl (fun ls hl => ?_)
      refine lv_iinc (v := 1) (lv' := [(5, .int 1), (4, .int 1), (3, .int (nI n)), (2, .int cv), (0, .ref (ad 200)), (1, .int x1)]) hx hb d_M_dispute_46 hl (k := 1) rfl (by decide) (by decide) rfl (fun ls hl => ?_)
      refine lv_goto (tgt := 18) hx hb d_M_dispute_49 (by decide) ?_
      refine lv_iload hx hb d_M_dispute_18 (lv_at hl 0 rfl) ?_
      refine lv_iconst (v := 4) hx hb d_M_dispute_20 (by decide) ?_
      refine lv_icmp_ge (tgt := 52) hx hb d_M_dispute_21 (by decide) (fun c_41 => absurd c_41 (by decide)) (fun c_41 => ?_)
      refine lv_iload hx hb d_M_dispute_24 (lv_at hl 1 rfl) ?_
      refine lv_if_ne (tgt := 39) hx hb d_M_dispute_26 (by decide) (fun c_42 => ?_) (fun c_42 => absurd c_42 (by decide))
      refine lv_iconst (v := 1) hx hb d_M_dispute_39 (by decide) ?_
      refine lv_goto (tgt := 44) hx hb d_M_dispute_40 (by decide) ?_
      refine lv_istore (lv' := [(4, .int 1), (5, .int 1), (3, .int (nI n)), (2, .int cv), (0, .ref (ad 200)), (1, .int x1)]) hx hb d_M_dispute_44 hl (by decide) rfl (fun ls hl => ?_)
      refine lv_iinc (v := 2) (lv' := [(5, .int 2), (4, .int 1), (3, .int (nI n)), (2, .int cv), (0, .ref (ad 200)), (1, .int x1)]) hx hb d_M_dispute_46 hl (k := 1) rfl (by decide) (by decide) rfl (fun ls hl => ?_)
      refine lv_goto (tgt := 18) hx hb d_M_dispute_49 (by decide) ?_
      refine lv_iload hx hb d_M_dispute_18 (lv_at hl 0 rfl) ?_
      refine lv_iconst (v := 4) hx hb d_M_dispute_20 (by decide) ?_
      refine lv_icmp_ge (tgt := 52) hx hb d_M_dispute_21 (by decide) (fun c_43 => absurd c_43 (by decide)) (fun c_43 => ?_)
      refine lv_iload hx hb d_M_dispute_24 (lv_at hl 1 rfl) ?_
      refine lv_if_ne (tgt := 39) hx hb d_M_dispute_26 (by decide) (fun c_44 => ?_) (fun c_44 => absurd c_44 (by decide))
      refine lv_iconst (v := 1) hx hb d_M_dispute_39 (by decide) ?_
      refine lv_goto (tgt := 44) hx hb d_M_dispute_40 (by decide) ?_
      refine lv_istore (lv' := [(4, .int 1), (5, .int 2), (3, .int (nI n)), (2, .int cv), (0, .ref (ad 200)), (1, .int x1)]) hx hb d_M_dispute_44 hl (by decide) rfl (fun ls hl => ?_)
      refine lv_iinc (v := 3) (lv' := [(5, .int 3), (4, .int 1), (3, .int (nI n)), (2, .int cv), (0, .ref (ad 200)), (1, .int x1)]) hx hb d_M_dispute_46 hl (k := 1) rfl (by decide) (by decide) rfl (fun ls hl => ?_)
      refine lv_goto (tgt := 18) hx hb d_M_dispute_49 (by decide) ?_
      refine lv_iload hx hb d_M_dispute_18 (lv_at hl 0 rfl) ?_
      refine lv_iconst (v := 4) hx hb d_M_dispute_20 (by decide) ?_
      refine lv_icmp_ge (tgt := 52) hx hb d_M_dispute_21 (by decide) (fun c_45 => absurd c_45 (by decide)) (fun c_45 => ?_)
      refine lv_iload hx hb d_M_dispute_24 (lv_at hl 1 rfl) ?_
      refine lv_if_ne (tgt := 39) hx hb d_M_dispute_26 (by decide) (fun c_46 => ?_) (fun c_46 => absurd c_46 (by decide))
      refine lv_iconst (v := 1) hx hb d_M_dispute_39 (by decide) ?_
      refine lv_goto (tgt := 44) hx hb d_M_dispute_40 (by decide) ?_
      refine lv_istore (lv' := [(4, .int 1), (5, .int 3), (3, .int (nI n)), (2, .int cv), (0, .ref (ad 200)), (1, .int x1)]) hx hb d_M_dispute_44 hl (by decide) rfl (fun ls hl => ?_)
      refine lv_iinc (v := 4) (lv' := [(5, .int 4), (4, .int 1), (3, .int (nI n)), (2, .int cv), (0, .ref (ad 200)), (1, .int x1)]) hx hb d_M_dispute_46 hl (k := 1) rfl (by decide) (by decide) rfl (fun ls hl => ?_)
      refine lv_goto (tgt := 18) hx hb d_M_dispute_49 (by decide) ?_
      refine lv_iload hx hb d_M_dispute_18 (lv_at hl 0 rfl) ?_
      refine lv_iconst (v := 4) hx hb d_M_dispute_20 (by decide) ?_
      refine lv_icmp_ge (tgt := 52) hx hb d_M_dispute_21 (by decide) (fun c_47 => ?_) (fun c_47 => absurd (by decide) c_47)
      refine lv_iload hx hb d_M_dispute_52 (lv_at hl 1 rfl) ?_
      refine lv_if_eq (tgt := 76) hx hb d_M_dispute_54 (by decide) (fun c_48 => absurd c_48 (by decide)) (fun c_48 => ?_)
      refine lv_aload_n hx hb d_M_dispute_57 rfl (lv_at hl 4 rfl) ?_
      refine xr_get (ci := 5) (v := .ref (ad 205)) (C := R_M) (T := T_M) (N := 26) hx hb htw in_M hown hK hw 200 m200 rfl rfl 4 (by decide) (htw _ u_338) (fun _ h9 => h9) rfl d_M_dispute_58 ?_
      refine lv_iload_n hx hb d_M_dispute_61 rfl (lv_at hl 2 rfl) ?_
      refine xr_zald (i := nI n) hx hb hK hw 205 5 m205 rfl rfl (xvin (a := n) rfl (by omega) (by omega)) d_M_dispute_62 ?_
      refine lv_topi (fun x_49 ex_49 => ?_)
      obtain rfl : x_49 = bI (σ.2.2.2 2 n) := ex_49.trans ((congrArg (fun b => bI (σ.2.2.2 2 b)) (xcl (a := n) rfl (by omega))).trans rfl)
      refine lv_if_ne (tgt := 76) hx hb d_M_dispute_63 (by decide) (fun c_50 => ?_) (fun c_50 => ?_)
      · have c_50 : (σ.2.2.2 2 n) = true := bI_t.mp c_50
        refine lv_iinc (v := nI n + 1) (lv' := [(3, .int (nI n + 1)), (5, .int 4), (4, .int 1), (2, .int cv), (0, .ref (ad 200)), (1, .int x1)]) hx hb d_M_dispute_76 hl (k := 2) rfl rfl (by decide) rfl (fun ls hl => ?_)
        refine lv_goto (tgt := 4) hx hb d_M_dispute_79 (by decide) ?_
        refine ih (by omega) _ _ _ ⟨rfl, hS, cv, ?_, ?_⟩
        · rw [hex, dsp_s (by omega)]; simp [disp, hasS, (by simpa using c_5 : ¬ spr (σ.2.1 (20 + n)) 0 ≤ σ.2.1 0 1), c_50]
        · rw [show nI (n + 1) = nI n + 1 from nI_succ n]; exact lv_sub hl [0, 3, 4, 5] rfl
      · have c_50 : (σ.2.2.2 2 n) = false := bI_f.mp c_50
        refine lv_iload_n hx hb d_M_dispute_66 rfl (lv_at hl 3 rfl) ?_
        refine lv_iload_n hx hb d_M_dispute_67 rfl (lv_at hl 5 rfl) ?_
        refine lv_icmp_ne (tgt := 73) hx hb d_M_dispute_68 (by decide) (fun c_51 => ?_) (fun c_51 => ?_)
        · refine lv_iinc (v := cv + 1) (lv' := [(2, .int (cv + 1)), (5, .int 4), (4, .int 1), (3, .int (nI n)), (0, .ref (ad 200)), (1, .int x1)]) hx hb d_M_dispute_73 hl (k := 3) rfl rfl (by decide) rfl (fun ls hl => ?_)
          refine lv_iinc (v := nI n + 1) (lv' := [(3, .int (nI n + 1)), (2, .int (cv + 1)), (5, .int 4), (4, .int 1), (0, .ref (ad 200)), (1, .int x1)]) hx hb d_M_dispute_76 hl (k := 3) rfl rfl (by decide) rfl (fun ls hl => ?_)
          refine lv_goto (tgt := 4) hx hb d_M_dispute_79 (by decide) ?_
          refine ih (by omega) _ _ _ ⟨rfl, hS, cv + 1, ?_, ?_⟩
          · rw [hex, dsp_s (by omega)]; simp [disp, hasS, (by simpa using c_5 : ¬ spr (σ.2.1 (20 + n)) 0 ≤ σ.2.1 0 1), c_50, c_51]
          · rw [show nI (n + 1) = nI n + 1 from nI_succ n]; exact lv_sub hl [0, 1, 4, 5] rfl
        · refine lv_iload_n hx hb d_M_dispute_71 rfl (lv_at hl 2 rfl) ?_
          exact W.iret (v := nI n) hx hb hr (fun t ht _ => ⟨_, rfl, ⟨by rw [f_dispute, hex, dsp_s (by omega)]; simp [disp, hasS, (by simpa using c_5 : ¬ spr (σ.2.1 (20 + n)) 0 ≤ σ.2.1 0 1), c_50, c_51], ht⟩, hS.F ht⟩) hS.2.2 d_M_dispute_72
