set_option maxHeartbeats 4000000 in
set_option maxRecDepth 100000 in
theorem c_A_sell {l : Launch} {D : va_G} {K : Nat → ClassId} {B : Nat} {ad : Nat → Nat} {w : Nat → Option va_E} {H : Heap} {σ : xS} (hR : RepX K σ ad w) (hI : Inv σ) (hw : xw D vwCl B ad w H) (x1 : Int32) : xC l D K B y_A_sell b_A_sell 5 (some .long) rm_A_sell [.ref (ad 0), .int x1] H (fun v H1 => v = some (.long (f_sell σ x1).2) ∧ PX D K B ad w (f_sell σ x1).1 H1) := by
  refine Met.ofW (cc := b_A_sell) (maxL := 5) (ret := (some .long)) (by decide) rfl ?_
  intro p e s m args below meth c s₁ B0 hml hv
  obtain ⟨rfl, hsz, hK, hN⟩ := hv
  have hx := B0.exec
  have hb := B0.bytes
  have hr := B0.returns
  have htw : ∀ w ∈ xW0, w.before [.ref (ad 0), .int x1].toArray s = true := fun w h => atoms_spec (ws := Cond.code y_A_sell b_A_sell 5 (some .long) :: xW0) B0.pre w (List.mem_cons_of_mem _ h)
  have hown : s.vm.findClass R_A = some m.cls := findClass_of_methodNamed B0.named
  have hlocks := B0.notSynchronized
  subst hsz
  have hS : va_S (fun q => B ≤ q) s.heap s.heap [] := va_S.rf
  have hl := lv_entry ([.ref (ad 0), .int x1]) (n := 5) (Nat.le_of_ble_eq_true rfl)
  rw [lg_entry_eq]
  generalize (lg_sl ([.ref (ad 0), .int x1]) ++ List.replicate (5 - (lg_sl ([.ref (ad 0), .int x1])).length) Slot.unset).toArray = ls at hl ⊢
  have hl : lv_has ls 5 [(0, .ref (ad 0)), (1, .int x1)] := hl
  have hH : s.heap = s.heap := rfl
  obtain ⟨r0, r1, r2, r3, r4, r5, r6, r7, rb, rba, rbt, rbo, rs, rss, rr⟩ := id hR
  obtain ⟨hnb, hns, hnr, hpc, hst, hto, htl, hrm, hpa, hwt, hdf, hds⟩ := id hI
  refine lv_aload_n hx hb d_A_sell_0 rfl (lv_at hl 0 rfl) ?_
  refine lv_iload_n hx hb d_A_sell_1 rfl (lv_at hl 1 rfl) ?_
  refine xr_call (va_runV (As := [.int x1]) (rest := []) ⟨hx, hb, hml, hown, htw⟩ (c_A_stageAt (ad := ad) hR hnb hns hw x1) (cwV 1 htw (gV u_176 u_178 us_3 u_1 u_179) rfl rfl rfl hd_A_stageAt ⟨Nat.le_of_ble_eq_true rfl, Nat.le_of_ble_eq_true rfl⟩) ⟨xP_blind, hw.recv hK (ci := 0) (t := 0) rfl r0 rfl, xP_of hK hN⟩ rfl rfl hl.1 rfl (lv_room (Nat.le_of_ble_eq_true rfl)) d_A_sell_2 ⟨by decide, by decide⟩) hS (fun v H_ locs hp hS => ?_)
  obtain ⟨hHe, hp⟩ := hp
  rw [hHe] at hS ⊢
  rcases hp with ⟨f2, rfl⟩ | ⟨i1, hi1, rfl, rfl⟩
  · refine W.eq (g2 := F0 m 5 ls [.null]) rfl ?_
    refine lv_astore_nN (lv' := [(2, .null), (0, .ref (ad 0)), (1, .int x1)]) hx hb d_A_sell_5 rfl hl (by decide) rfl (fun ls hl => ?_)
    refine lv_aload_nN hx hb d_A_sell_6 rfl (lv_at hl 0 rfl) ?_
    refine lv_ifnonnullN hx hb d_A_sell_7 ?_
    refine lv_ldc2 (v := (-1)) hx hb hown (htw _ u_191) d_A_sell_10 ?_
    have hf : f_sell σ x1 = (σ, (-1)) := by simp [f_sell, opt_n, opt_s, f2]
    exact W.lret (v := (-1)) hx hb hr (fun t ht _ => ⟨_, rfl, by rw [hf, ht]; exact ⟨rfl, PX_same hw hR⟩, hS.F ht⟩) hS.2.2 d_A_sell_13
  · have fi1 : xi (σ.1 1) (nI i1) = some i1 := xi_nI hi1 (by omega)
    refine W.eq (g2 := F0 m 5 ls [.ref (ad (140 + i1))]) rfl ?_
    refine lv_astore_n (lv' := [(2, .ref (ad (140 + i1))), (0, .ref (ad 0)), (1, .int (nI i1))]) hx hb d_A_sell_5 rfl hl (by decide) rfl (fun ls hl => ?_)
    refine lv_aload_n hx hb d_A_sell_6 rfl (lv_at hl 0 rfl) ?_
    refine lv_ifnonnull (tgt := 14) hx hb d_A_sell_7 (by decide) ?_
    refine lv_aload_n hx hb d_A_sell_14 rfl (lv_at hl 1 rfl) ?_
    refine xr_get (ci := 0) (v := .ref (ad 4)) (C := R_A) (T := T_A) (N := 10) hx hb htw in_A hown hK hw 0 r0 rfl rfl 6 (by decide) (htw _ u_47) (fun _ h9 => h9) rfl d_A_sell_15 ?_
    refine lv_aload_n hx hb d_A_sell_18 rfl (lv_at hl 0 rfl) ?_
    refine xr_get (ci := 2) (v := .ref (ad (150 + i1))) (C := R_S) (T := T_S) (N := 4) hx hb htw in_S hown hK hw (140 + i1) (rs i1 hi1) rfl rfl 3 (by decide) (htw _ u_158) (fun _ h9 => h9) rfl d_A_sell_19 ?_
    refine lv_aload_n hx hb d_A_sell_22 rfl (lv_at hl 1 rfl) ?_
    refine xr_get (ci := 0) (v := .int (σ.2.1 0 0)) (C := R_A) (T := T_A) (N := 10) hx hb htw in_A hown hK hw 0 r0 rfl rfl 7 (by decide) (htw _ u_48) (fun _ h9 => h9) rfl d_A_sell_23 ?_
    refine xr_call (va_runV (As := [.ref (ad (150 + i1)), .int (σ.2.1 0 0)]) (rest := []) ⟨hx, hb, hml, hown, htw⟩ (c_P_centsFor (ad := ad) hR hI hw (150 + i1) (σ.2.2.1 (30 + i1)) (rss i1 hi1) (σ.2.1 0 0)) (cwV 2 htw (gV u_221 u_222 u_223 u_2 u_224) rfl rfl rfl hd_P_centsFor ⟨Nat.le_of_ble_eq_true rfl, Nat.le_of_ble_eq_true rfl⟩) ⟨xP_blind, hw.recv hK (ci := 4) (t := 4) rfl r4 rfl, xP_of hK hN⟩ rfl rfl hl.1 rfl (lv_room (Nat.le_of_ble_eq_true rfl)) d_A_sell_26 ⟨by decide, by decide⟩) hS (fun v H_ locs hp hS => ?_)
    obtain ⟨rfl, hHe⟩ := hp
    rw [hHe] at hS ⊢
    refine W.eq (g2 := F0 m 29 ls [.long (wor σ (σ.2.2.1 (30 + i1)) (σ.2.1 0 0))]) rfl ?_
    refine lv_lstore_n (lv' := [(3, .long (wor σ (σ.2.2.1 (30 + i1)) (σ.2.1 0 0))), (2, .ref (ad (140 + i1))), (0, .ref (ad 0)), (1, .int (nI i1))]) hx hb d_A_sell_29 rfl hl (by decide) rfl (fun ls hl => ?_)
    refine lv_aload_n hx hb d_A_sell_30 rfl (lv_at hl 1 rfl) ?_
    refine xr_get (ci := 2) (v := .ref (ad (150 + i1))) (C := R_S) (T := T_S) (N := 4) hx hb htw in_S hown hK hw (140 + i1) (rs i1 hi1) rfl rfl 3 (by decide) (htw _ u_158) (fun _ h9 => h9) rfl d_A_sell_31 ?_
    refine lv_lconst (v := 0) hx hb d_A_sell_34 (by decide) ?_
    refine xr_call (va_runS (As := [.ref (ad (150 + i1)), .long 0]) (rest := []) ⟨hx, hb, hml, hown, htw⟩ (c_J_fillJ (ad := ad) hw (150 + i1) 4 (by decide) (σ.2.2.1 (30 + i1)) 0 (rss i1 hi1) (ad (150 + i1)) rfl) (va_cwS 2 htw (gS u_234 u_235 u_5 u_236) rfl rfl rfl hd_J_fillJ.2 ⟨Nat.le_of_ble_eq_true rfl, Nat.le_of_ble_eq_true rfl⟩) ⟨xP_blind, xP_of hK hN⟩ rfl rfl hl.1 rfl (lv_room (Nat.le_of_ble_eq_true rfl)) d_A_sell_35 ⟨by decide, by decide⟩) hS (fun v H_ locs hp hS => ?_)
    obtain ⟨rfl, hw⟩ := hp
    generalize H_ = H at hw hS ⊢
    have hw : xw D vwCl B ad (xu w (150 + i1) (.inl (K 1, 4, .inr (.inl (fun _ => 0))))) H := hw
    refine W.eq (g2 := F0 m 38 ls []) rfl ?_
    refine lv_aload_n hx hb d_A_sell_38 rfl (lv_at hl 2 rfl) ?_
    refine lv_dup hx hb d_A_sell_39 rfl ?_
    refine xr_get (ci := 0) (v := .long (σ.2.2.1 0 0)) (C := R_A) (T := T_A) (N := 10) hx hb htw in_A hown hK hw 0 ((xu_ne (by omega)).trans (r0)) rfl rfl 9 (by decide) (htw _ u_50) (fun _ h9 => h9) rfl d_A_sell_40 ?_
    refine lv_lload_n hx hb d_A_sell_43 rfl (lv_at hl 0 rfl) ?_
    refine lv_ladd hx hb d_A_sell_44 ?_
    refine xr_put (ci := 0) (v := .long ((σ.2.2.1 0 0) + (wor σ (σ.2.2.1 (30 + i1)) (σ.2.1 0 0)))) (ty := .long) (C := R_A) (T := T_A) (N := 10) hx hb htw in_A ty_A tk_A nm_A hown hK hw hS 0 ((xu_ne (by omega)).trans (r0)) rfl rfl 9 (by decide) (htw _ u_50) (fun _ h9 => h9) rfl (by decide +kernel) rfl rfl (Nat.le_of_ble_eq_true rfl) d_A_sell_45 (fun H locs hw hS => ?_)
    have hw : xw D vwCl B ad (xu (xu w (150 + i1) (.inl (K 1, 4, .inr (.inl (fun _ => 0))))) 0 (.inr (0, [.ref (ad 1), .int (nI (σ.1 0)), .ref (ad 2), .int (nI (σ.1 1)), .ref (ad 3), .int (nI (σ.1 2)), .ref (ad 4), .int (σ.2.1 0 0), .int (σ.2.1 0 1), .long ((σ.2.2.1 0 0) + (wor σ (σ.2.2.1 (30 + i1)) (σ.2.1 0 0)))]))) H := hw
    refine lv_lload_n hx hb d_A_sell_48 rfl (lv_at hl 0 rfl) ?_
    have hRep : RepX K (pL (pL σ (30 + i1) (fun _ => 0)) 0 (vp_updL (σ.2.2.1 0) 0 (σ.2.2.1 0 0 + wor σ (σ.2.2.1 (30 + i1)) (σ.2.1 0 0)))) ad (xu (xu w (150 + i1) (.inl (K 1, 4, .inr (.inl (fun _ => 0))))) 0 (.inr (0, [.ref (ad 1), .int (nI (σ.1 0)), .ref (ad 2), .int (nI (σ.1 1)), .ref (ad 3), .int (nI (σ.1 2)), .ref (ad 4), .int (σ.2.1 0 0), .int (σ.2.1 0 1), .long ((σ.2.2.1 0 0) + (wor σ (σ.2.2.1 (30 + i1)) (σ.2.1 0 0)))]))) := by
      refine ⟨?_, ?_, ?_, ?_, ?_, ?_, ?_, ?_, ?_, ?_, ?_, ?_, ?_, ?_, ?_⟩
      · simp (disch := omega) only [pN, pI, pL, pZ, row_eq, row_ne, xu_eq, xu_ne, xa_eq, xa_ne, pk_us, pk_un, pk_uLs, pk_uLn, r0]
      · simp (disch := omega) only [pN, pI, pL, pZ, row_eq, row_ne, xu_eq, xu_ne, xa_eq, xa_ne, pk_us, pk_un, pk_uLs, pk_uLn, r1]; try rfl
      · simp (disch := omega) only [pN, pI, pL, pZ, row_eq, row_ne, xu_eq, xu_ne, xa_eq, xa_ne, pk_us, pk_un, pk_uLs, pk_uLn, r2]; try rfl
      · simp (disch := omega) only [pN, pI, pL, pZ, row_eq, row_ne, xu_eq, xu_ne, xa_eq, xa_ne, pk_us, pk_un, pk_uLs, pk_uLn, r3]; try rfl
      · simp (disch := omega) only [pN, pI, pL, pZ, row_eq, row_ne, xu_eq, xu_ne, xa_eq, xa_ne, pk_us, pk_un, pk_uLs, pk_uLn, r4]
      · simp (disch := omega) only [pN, pI, pL, pZ, row_eq, row_ne, xu_eq, xu_ne, xa_eq, xa_ne, pk_us, pk_un, pk_uLs, pk_uLn, r5]
      · simp (disch := omega) only [pN, pI, pL, pZ, row_eq, row_ne, xu_eq, xu_ne, xa_eq, xa_ne, pk_us, pk_un, pk_uLs, pk_uLn, r6]
      · simp (disch := omega) only [pN, pI, pL, pZ, row_eq, row_ne, xu_eq, xu_ne, xa_eq, xa_ne, pk_us, pk_un, pk_uLs, pk_uLn, r7]
      · intro jj hj
        have hj : jj < σ.1 0 := by first | exact hj | simpa (disch := omega) only [pN, pI, pL, pZ, row_eq, row_ne, xu_eq, xu_ne, xa_eq, xa_ne, pk_us, pk_un, pk_uLs, pk_uLn] using hj
        simp (disch := omega) only [pN, pI, pL, pZ, row_eq, row_ne, xu_eq, xu_ne, xa_eq, xa_ne, pk_us, pk_un, pk_uLs, pk_uLn, rb jj hj]
      · intro jj hj
        have hj : jj < σ.1 0 := by first | exact hj | simpa (disch := omega) only [pN, pI, pL, pZ, row_eq, row_ne, xu_eq, xu_ne, xa_eq, xa_ne, pk_us, pk_un, pk_uLs, pk_uLn] using hj
        simp (disch := omega) only [pN, pI, pL, pZ, row_eq, row_ne, xu_eq, xu_ne, xa_eq, xa_ne, pk_us, pk_un, pk_uLs, pk_uLn, rba jj hj]
      · intro jj hj
        have hj : jj < σ.1 0 := by first | exact hj | simpa (disch := omega) only [pN, pI, pL, pZ, row_eq, row_ne, xu_eq, xu_ne, xa_eq, xa_ne, pk_us, pk_un, pk_uLs, pk_uLn] using hj
        simp (disch := omega) only [pN, pI, pL, pZ, row_eq, row_ne, xu_eq, xu_ne, xa_eq, xa_ne, pk_us, pk_un, pk_uLs, pk_uLn, rbt jj hj]
      · intro jj hj
        have hj : jj < σ.1 0 := by first | exact hj | simpa (disch := omega) only [pN, pI, pL, pZ, row_eq, row_ne, xu_eq, xu_ne, xa_eq, xa_ne, pk_us, pk_un, pk_uLs, pk_uLn] using hj
        simp (disch := omega) only [pN, pI, pL, pZ, row_eq, row_ne, xu_eq, xu_ne, xa_eq, xa_ne, pk_us, pk_un, pk_uLs, pk_uLn, rbo jj hj]
      · intro jj hj
        have hj : jj < σ.1 1 := by first | exact hj | simpa (disch := omega) only [pN, pI, pL, pZ, row_eq, row_ne, xu_eq, xu_ne, xa_eq, xa_ne, pk_us, pk_un, pk_uLs, pk_uLn] using hj
        simp (disch := omega) only [pN, pI, pL, pZ, row_eq, row_ne, xu_eq, xu_ne, xa_eq, xa_ne, pk_us, pk_un, pk_uLs, pk_uLn, rs jj hj]
      · intro jj hj
        have hj : jj < σ.1 1 := by first | exact hj | simpa (disch := omega) only [pN, pI, pL, pZ, row_eq, row_ne, xu_eq, xu_ne, xa_eq, xa_ne, pk_us, pk_un, pk_uLs, pk_uLn] using hj
        by_cases ej : jj = i1
        · rw [ej]; simp (disch := omega) only [pN, pI, pL, pZ, row_eq, row_ne, xu_eq, xu_ne, xa_eq, xa_ne, pk_us, pk_un, pk_uLs, pk_uLn, rss i1 (by omega)]
        · simp (disch := omega) only [pN, pI, pL, pZ, row_eq, row_ne, xu_eq, xu_ne, xa_eq, xa_ne, pk_us, pk_un, pk_uLs, pk_uLn, rss jj (by omega)]
      · intro jj hj
        have hj : jj < σ.1 2 := by first | exact hj | simpa (disch := omega) only [pN, pI, pL, pZ, row_eq, row_ne, xu_eq, xu_ne, xa_eq, xa_ne, pk_us, pk_un, pk_uLs, pk_uLn] using hj
        simp (disch := omega) only [pN, pI, pL, pZ, row_eq, row_ne, xu_eq, xu_ne, xa_eq, xa_ne, pk_us, pk_un, pk_uLs, pk_uLn, rr jj hj]
    have hf : f_sell σ (nI i1) = (pL (pL σ (30 + i1) (fun _ => 0)) 0 (vp_updL (σ.2.2.1 0) 0 (σ.2.2.1 0 0 + wor σ (σ.2.2.1 (30 + i1)) (σ.2.1 0 0))), wor σ (σ.2.2.1 (30 + i1)) (σ.2.1 0 0)) := by simp [f_sell, opt_n, opt_s, fi1]
    exact W.lret (v := wor σ (σ.2.2.1 (30 + i1)) (σ.2.1 0 0)) hx hb hr (fun t ht _ => ⟨_, rfl, by rw [hf, ht]; exact ⟨rfl, _, _, hw, hRep, rfl, fun t h2 => ⟨by simp (disch := omega) only [xu_ne, xa_ne], rfl⟩⟩, hS.F ht⟩) hS.2.2 d_A_sell_49
set_option maxHeartbeats 4000000 in
set_option maxRecDepth 100000 in
theorem c_A_passThrough {l : Launch} {D : va_G} {K : Nat → ClassId} {B : Nat} {ad : Nat → Nat} {w : Nat → Option va_E} {H : Heap} {σ : xS} (hR : RepX K σ ad w) (hnb : σ.1 0 ≤ 8) (hns : σ.1 1 ≤ 6) (hw : xw D vwCl B ad w H) (i : Nat) (hi : i < σ.1 0) (j : Nat) (hj0 : j < σ.1 1) : xC l D K B y_A_passThrough b_A_passThrough 9 none rm_A_passThrough [.ref (ad 0), .ref (ad (100 + i)), .int (nI j)] H (fun v H1 => v = none ∧ ∃ w1, xw D vwCl B ad w1 H1 ∧ RepX K (s_pass σ i j) ad w1 ∧ ∀ t, 200 ≤ t → w1 t = w t) := by
  refine Met.ofW (cc := b_A_passThrough) (maxL := 9) (ret := none) (by decide) rfl ?_
  intro p e s m args below meth c s₁ B0 hml hv
  obtain ⟨rfl, hsz, hK, hN⟩ := hv
  have hx := B0.exec
  have hb := B0.bytes
  have hr := B0.returns
  have htw : ∀ w ∈ xW0, w.before [.ref (ad 0), .ref (ad (100 + i)), .int (nI j)].toArray s = true := fun w h => atoms_spec (ws := Cond.code y_A_passThrough b_A_passThrough 9 none :: xW0) B0.pre w (List.mem_cons_of_mem _ h)
  have hown : s.vm.findClass R_A = some m.cls := findClass_of_methodNamed B0.named
  have hlocks := B0.notSynchronized
  subst hsz
  have hS : va_S (fun q => B ≤ q) s.heap s.heap [] := va_S.rf
  have hl := lv_entry ([.ref (ad 0), .ref (ad (100 + i)), .int (nI j)]) (n := 9) (Nat.le_of_ble_eq_true rfl)
  rw [lg_entry_eq]
  generalize (lg_sl ([.ref (ad 0), .ref (ad (100 + i)), .int (nI j)]) ++ List.replicate (9 - (lg_sl ([.ref (ad 0), .ref (ad (100 + i)), .int (nI j)])).length) Slot.unset).toArray = ls at hl ⊢
  have hl : lv_has ls 9 [(0, .ref (ad 0)), (1, .ref (ad (100 + i))), (2, .int (nI j))] := hl
  have hH : s.heap = s.heap := rfl
  obtain ⟨r0, r1, r2, r3, r4, r5, r6, r7, rb, rba, rbt, rbo, rs, rss, rr⟩ := id hR
  refine lv_aload_n hx hb d_A_passThrough_0 rfl (lv_at hl 0 rfl) ?_
  refine lv_iload_n hx hb d_A_passThrough_1 rfl (lv_at hl 2 rfl) ?_
  refine xr_call (va_runV (As := [.int (nI j)]) (rest := []) ⟨hx, hb, hml, hown, htw⟩ (c_A_stageAt (ad := ad) hR hnb hns hw (nI j)) (cwV 1 htw (gV u_176 u_178 us_3 u_1 u_179) rfl rfl rfl hd_A_stageAt ⟨Nat.le_of_ble_eq_true rfl, Nat.le_of_ble_eq_true rfl⟩) ⟨xP_blind, hw.recv hK (ci := 0) (t := 0) rfl r0 rfl, xP_of hK hN⟩ rfl rfl hl.1 rfl (lv_room (Nat.le_of_ble_eq_true rfl)) d_A_passThrough_2 ⟨by decide, by decide⟩) hS (fun v H_ locs hp hS => ?_)
  obtain ⟨hHe, hp⟩ := hp
  rw [hHe] at hS ⊢
  rcases hp with ⟨hno, rfl⟩ | ⟨j0, hj1, ej0, rfl⟩
  · rw [xi_nI hj0 (by omega)] at hno; cases hno
  · obtain rfl : j = j0 := (nEQ (by omega) (by omega)).mp ej0
    refine W.eq (g2 := F0 m 5 ls [.ref (ad (140 + j))]) rfl ?_
    refine lv_astore_n (lv' := [(3, .ref (ad (140 + j))), (0, .ref (ad 0)), (1, .ref (ad (100 + i))), (2, .int (nI j))]) hx hb d_A_passThrough_5 rfl hl (by decide) rfl (fun ls hl => ?_)
    refine lv_aload_n hx hb d_A_passThrough_6 rfl (lv_at hl 0 rfl) ?_
    refine lv_ifnonnull (tgt := 11) hx hb d_A_passThrough_7 (by decide) ?_
    refine lv_lconst (v := 0) hx hb d_A_passThrough_11 (by decide) ?_
    refine lv_lstore (lv' := [(4, .long 0), (3, .ref (ad (140 + j))), (0, .ref (ad 0)), (1, .ref (ad (100 + i))), (2, .int (nI j))]) hx hb d_A_passThrough_12 hl (by decide) rfl (fun ls hl => ?_)
    refine lv_iconst (v := 0) hx hb d_A_passThrough_14 (by decide) ?_
    refine lv_istore (lv' := [(6, .int 0), (4, .long 0), (3, .ref (ad (140 + j))), (0, .ref (ad 0)), (1, .ref (ad (100 + i))), (2, .int (nI j))]) hx hb d_A_passThrough_15 hl (by decide) rfl (fun ls hl => ?_)
    refine lv_iload hx hb d_A_passThrough_17 (lv_at hl 0 rfl) ?_
    refine lv_iconst (v := 4) hx hb d_A_passThrough_19 (by decide) ?_
    refine lv_icmp_ge (tgt := 94) hx hb d_A_passThrough_20 (by decide) (fun c_1 => absurd c_1 (by decide)) (fun c_1 => ?_)
    refine lv_aload_n hx hb d_A_passThrough_23 rfl (lv_at hl 4 rfl) ?_
    refine xr_get (ci := 1) (v := .ref (ad (110 + i))) (C := R_B) (T := T_B) (N := 9) hx hb htw in_B hown hK hw (100 + i) (rb i hi) rfl rfl 2 (by decide) (htw _ u_94) (fun _ h9 => h9) rfl d_A_passThrough_24 ?_
    refine lv_iload hx hb d_A_passThrough_27 (lv_at hl 0 rfl) ?_
    refine xr_lald (i := 0) hx hb hK hw (110 + i) 1 (rba i hi) rfl rfl (by unfold vp_in; decide) d_A_passThrough_29 ?_
    refine lv_topl (fun x_2 ex_2 => ?_)
    obtain rfl : x_2 = (σ.2.2.1 (10 + i)) 0 := ex_2.trans ((congrArg (σ.2.2.1 (10 + i)) ((rfl : (0 : Int32).toNatClampNeg = 0))).trans rfl)
    refine lv_aload_n hx hb d_A_passThrough_30 rfl (lv_at hl 2 rfl) ?_
    refine lv_iload hx hb d_A_passThrough_31 (lv_at hl 0 rfl) ?_
    refine xr_call (va_runV (As := [.int 0]) (rest := [.long ((σ.2.2.1 (10 + i)) 0)]) ⟨hx, hb, hml, hown, htw⟩ (c_S_thousandthsOf (ad := ad) (σ := σ) hw (140 + j) j (.ref (ad (150 + j))) (rs j hj0) (ad (140 + j)) rfl 0) (cwV 1 htw (gV u_180 u_181 u_182 u_6 u_183) rfl rfl rfl hd_S_thousandthsOf ⟨Nat.le_of_ble_eq_true rfl, Nat.le_of_ble_eq_true rfl⟩) ⟨xP_blind, hw.recv hK (ci := 2) (t := 140 + j) rfl (rs j hj0) rfl, xP_of hK hN⟩ rfl rfl hl.1 rfl (lv_room (Nat.le_of_ble_eq_true rfl)) d_A_passThrough_33 ⟨by decide, by decide⟩) hS (fun v H_ locs hp hS => ?_)
    obtain ⟨rfl, hHe⟩ := hp
    rw [hHe] at hS ⊢
    refine W.eq (g2 := F0 m 36 ls [.int (thou σ j 0), .long ((σ.2.2.1 (10 + i)) 0)]) rfl ?_
    refine lv_i2l hx hb d_A_passThrough_36 rfl ?_
    refine lv_lmul hx hb d_A_passThrough_37 ?_
    refine lv_ldc2 (v := 1000) hx hb hown (htw _ u_148) d_A_passThrough_38 ?_
    refine lv_ldiv hx hb d_A_passThrough_41 (by decide) ?_
    refine lv_topl (fun x_3 ex_3 => ?_)
    obtain rfl : x_3 = pt σ i j 0 0 := ex_3
    refine lv_lstore (lv' := [(7, .long (pt σ i j 0 0)), (6, .int 0), (4, .long 0), (3, .ref (ad (140 + j))), (0, .ref (ad 0)), (1, .ref (ad (100 + i))), (2, .int (nI j))]) hx hb d_A_passThrough_42 hl (by decide) rfl (fun ls hl => ?_)
    refine lv_aload_n hx hb d_A_passThrough_44 rfl (lv_at hl 5 rfl) ?_
    refine xr_get (ci := 1) (v := .ref (ad (110 + i))) (C := R_B) (T := T_B) (N := 9) hx hb htw in_B hown hK hw (100 + i) (rb i hi) rfl rfl 2 (by decide) (htw _ u_94) (fun _ h9 => h9) rfl d_A_passThrough_45 ?_
    refine lv_iload hx hb d_A_passThrough_48 (lv_at hl 1 rfl) ?_
    refine lv_dup2_11 hx hb d_A_passThrough_50 rfl rfl ?_
    refine xr_lald (i := 0) hx hb hK hw (110 + i) 1 (rba i hi) rfl rfl (by unfold vp_in; decide) d_A_passThrough_51 ?_
    refine lv_topl (fun x_4 ex_4 => ?_)
    obtain rfl : x_4 = (σ.2.2.1 (10 + i)) 0 := ex_4.trans ((congrArg (σ.2.2.1 (10 + i)) ((rfl : (0 : Int32).toNatClampNeg = 0))).trans rfl)
    refine lv_lload hx hb d_A_passThrough_52 (lv_at hl 0 rfl) ?_
    refine lv_lsub hx hb d_A_passThrough_54 ?_
    refine xr_last (i := 0) hx hb hK hw hS (110 + i) 1 (rba i hi) rfl rfl (by unfold vp_in; decide) d_A_passThrough_55 (fun H locs hw hS => ?_)
    have hw : xw D vwCl B ad (xu w (110 + i) (.inl (K 1, 4, .inr (.inl (vp_updL (σ.2.2.1 (10 + i)) 0 (((σ.2.2.1 (10 + i)) 0) - (pt σ i j 0 0))))))) H := hw
    refine lv_aload_n hx hb d_A_passThrough_56 rfl (lv_at hl 5 rfl) ?_
    refine xr_get (ci := 1) (v := .ref (ad (120 + i))) (C := R_B) (T := T_B) (N := 9) hx hb htw in_B hown hK hw (100 + i) ((xu_ne (by omega)).trans (rb i hi)) rfl rfl 3 (by decide) (htw _ u_96) (fun _ h9 => h9) rfl d_A_passThrough_57 ?_
    refine lv_iload_n hx hb d_A_passThrough_60 rfl (lv_at hl 6 rfl) ?_
    refine lv_iconst (v := 4) hx hb d_A_passThrough_61 (by decide) ?_
    refine lv_imul hx hb d_A_passThrough_62 ?_
    refine lv_iload hx hb d_A_passThrough_63 (lv_at hl 1 rfl) ?_
    refine lv_iadd hx hb d_A_passThrough_65 ?_
    refine lv_lload hx hb d_A_passThrough_66 (lv_at hl 0 rfl) ?_
    refine xr_last (i := ((nI j) * 4) + 0) hx hb hK hw hS (120 + i) 1 ((xu_ne (by omega)).trans (rbt i hi)) rfl rfl (xvin (a := j * 4) (xadd (a := j * 4) (b := 0) (xmul (a := j) (b := 4) rfl rfl) rfl) (by omega) (by omega)) d_A_passThrough_68 (fun H locs hw hS => ?_)
    rw [show (((nI j) * 4) + 0).toNatClampNeg = j * 4 from xcl (a := j * 4) (xadd (a := j * 4) (b := 0) (xmul (a := j) (b := 4) rfl rfl) rfl) (by omega)] at hw
    have hw : xw D vwCl B ad (xu (xu w (110 + i) (.inl (K 1, 4, .inr (.inl (vp_updL (σ.2.2.1 (10 + i)) 0 (((σ.2.2.1 (10 + i)) 0) - (pt σ i j 0 0))))))) (120 + i) (.inl (K 1, 24, .inr (.inl (vp_updL (σ.2.2.1 (20 + i)) (j * 4) (pt σ i j 0 0)))))) H := hw
    refine lv_aload_n hx hb d_A_passThrough_69 rfl (lv_at hl 3 rfl) ?_
    refine xr_get (ci := 2) (v := .ref (ad (150 + j))) (C := R_S) (T := T_S) (N := 4) hx hb htw in_S hown hK hw (140 + j) ((xu_ne (by omega)).trans ((xu_ne (by omega)).trans (rs j hj0))) rfl rfl 3 (by decide) (htw _ u_158) (fun _ h9 => h9) rfl d_A_passThrough_70 ?_
    refine lv_iload hx hb d_A_passThrough_73 (lv_at hl 1 rfl) ?_
    refine lv_dup2_11 hx hb d_A_passThrough_75 rfl rfl ?_
    refine xr_lald (i := 0) hx hb hK hw (150 + j) 1 ((xu_ne (by omega)).trans ((xu_ne (by omega)).trans (rss j hj0))) rfl rfl (by unfold vp_in; decide) d_A_passThrough_76 ?_
    refine lv_topl (fun x_5 ex_5 => ?_)
    obtain rfl : x_5 = (σ.2.2.1 (30 + j)) 0 := ex_5.trans ((congrArg (σ.2.2.1 (30 + j)) ((rfl : (0 : Int32).toNatClampNeg = 0))).trans rfl)
    refine lv_lload hx hb d_A_passThrough_77 (lv_at hl 0 rfl) ?_
    refine lv_ladd hx hb d_A_passThrough_79 ?_
    refine xr_last (i := 0) hx hb hK hw hS (150 + j) 1 ((xu_ne (by omega)).trans ((xu_ne (by omega)).trans (rss j hj0))) rfl rfl (by unfold vp_in; decide) d_A_passThrough_80 (fun H locs hw hS => ?_)
    have hw : xw D vwCl B ad (xu (xu (xu w (110 + i) (.inl (K 1, 4, .inr (.inl (vp_updL (σ.2.2.1 (10 + i)) 0 (((σ.2.2.1 (10 + i)) 0) - (pt σ i j 0 0))))))) (120 + i) (.inl (K 1, 24, .inr (.inl (vp_updL (σ.2.2.1 (20 + i)) (j * 4) (pt σ i j 0 0)))))) (150 + j) (.inl (K 1, 4, .inr (.inl (vp_updL (σ.2.2.1 (30 + j)) 0 (((σ.2.2.1 (30 + j)) 0) + (pt σ i j 0 0))))))) H := hw
    refine lv_lload hx hb d_A_passThrough_81 (lv_at hl 2 rfl) ?_
    refine lv_lload hx hb d_A_passThrough_83 (lv_at hl 0 rfl) ?_
    refine lv_ladd hx hb d_A_passThrough_85 ?_
    refine lv_lstore (lv' := [(4, .long (0 + (pt σ i j 0 0))), (7, .long (pt σ i j 0 0)), (6, .int 0), (3, .ref (ad (140 + j))), (0, .ref (ad 0)), (1, .ref (ad (100 + i))), (2, .int (nI j))]) hx hb d_A_passThrough_86 hl (by decide) rfl (fun ls hl => ?_)
    refine lv_iinc (v := 1) (lv' := [(6, .int 1), (4, .long (0 + (pt σ i j 0 0))), (7, .long (pt σ i j 0 0)), (3, .ref (ad (140 + j))), (0, .ref (ad 0)), (1, .ref (ad (100 + i))), (2, .int (nI j))]) hx hb d_A_passThrough_88 hl (k := 2) rfl (by decide) (by decide) rfl (fun ls hl => ?_)
    refine lv_goto (tgt := 17) hx hb d_A_passThrough_91 (by decide) ?_
    refine lv_iload hx hb d_A_passThrough_17 (lv_at hl 0 rfl) ?_
    refine lv_iconst (v := 4) hx hb d_A_passThrough_19 (by decide) ?_
    refine lv_icmp_ge (tgt := 94) hx hb d_A_passThrough_20 (by decide) (fun c_6 => absurd c_6 (by decide)) (fun c_6 => ?_)
    refine lv_aload_n hx hb d_A_passThrough_23 rfl (lv_at hl 5 rfl) ?_
    refine xr_get (ci := 1) (v := .ref (ad (110 + i))) (C := R_B) (T := T_B) (N := 9) hx hb htw in_B hown hK hw (100 + i) ((xu_ne (by omega)).trans ((xu_ne (by omega)).trans ((xu_ne (by omega)).trans (rb i hi)))) rfl rfl 2 (by decide) (htw _ u_94) (fun _ h9 => h9) rfl d_A_passThrough_24 ?_
    refine lv_iload hx hb d_A_passThrough_27 (lv_at hl 0 rfl) ?_
    refine xr_lald (i := 1) hx hb hK hw (110 + i) 1 ((xu_ne (by omega)).trans ((xu_ne (by omega)).trans (xu_eq))) rfl rfl (by unfold vp_in; decide) d_A_passThrough_29 ?_
    refine lv_topl (fun x_7 ex_7 => ?_)
    obtain rfl : x_7 = (σ.2.2.1 (10 + i)) 1 := ex_7.trans ((congrArg (vp_updL (σ.2.2.1 (10 + i)) 0 (((σ.2.2.1 (10 + i)) 0) - (pt σ i j 0 0))) ((rfl : (1 : Int32).toNatClampNeg = 1))).trans ((pk_uLn (show (1 : Nat) ≠ 0 by decide)).trans rfl))
    refine lv_aload_n hx hb d_A_passThrough_30 rfl (lv_at hl 3 rfl) ?_
    refine lv_iload hx hb d_A_passThrough_31 (lv_at hl 0 rfl) ?_
    refine xr_call (va_runV (As := [.int 1]) (rest := [.long ((σ.2.2.1 (10 + i)) 1)]) ⟨hx, hb, hml, hown, htw⟩ (c_S_thousandthsOf (ad := ad) (σ := σ) hw (140 + j) j (.ref (ad (150 + j))) ((xu_ne (by omega)).trans ((xu_ne (by omega)).trans ((xu_ne (by omega)).trans (rs j hj0)))) (ad (140 + j)) rfl 1) (cwV 1 htw (gV u_180 u_181 u_182 u_6 u_183) rfl rfl rfl hd_S_thousandthsOf ⟨Nat.le_of_ble_eq_true rfl, Nat.le_of_ble_eq_true rfl⟩) ⟨xP_blind, hw.recv hK (ci := 2) (t := 140 + j) rfl ((xu_ne (by omega)).trans ((xu_ne (by omega)).trans ((xu_ne (by omega)).trans (rs j hj0)))) rfl, xP_of hK hN⟩ rfl rfl hl.1 rfl (lv_room (Nat.le_of_ble_eq_true rfl)) d_A_passThrough_33 ⟨by decide, by decide⟩) hS (fun v H_ locs hp hS => ?_)
    obtain ⟨rfl, hHe⟩ := hp
    rw [hHe] at hS ⊢
    refine W.eq (g2 := F0 m 36 ls [.int (thou σ j 1), .long ((σ.2.2.1 (10 + i)) 1)]) rfl ?_
    refine lv_i2l hx hb d_A_passThrough_36 rfl ?_
    refine lv_lmul hx hb d_A_passThrough_37 ?_
    refine lv_ldc2 (v := 1000) hx hb hown (htw _ u_148) d_A_passThrough_38 ?_
    refine lv_ldiv hx hb d_A_passThrough_41 (by decide) ?_
    refine lv_topl (fun x_8 ex_8 => ?_)
    obtain rfl : x_8 = pt σ i j 1 1 := ex_8
    refine lv_lstore (lv' := [(7, .long (pt σ i j 1 1)), (6, .int 1), (4, .long (0 + (pt σ i j 0 0))), (3, .ref (ad (140 + j))), (0, .ref (ad 0)), (1, .ref (ad (100 + i))), (2, .int (nI j))]) hx hb d_A_passThrough_42 hl (by decide) rfl (fun ls hl => ?_)
    refine lv_aload_n hx hb d_A_passThrough_44 rfl (lv_at hl 5 rfl) ?_
    refine xr_get (ci := 1) (v := .ref (ad (110 + i))) (C := R_B) (T := T_B) (N := 9) hx hb htw in_B hown hK hw (100 + i) ((xu_ne (by omega)).trans ((xu_ne (by omega)).trans ((xu_ne (by omega)).trans (rb i hi)))) rfl rfl 2 (by decide) (htw _ u_94) (fun _ h9 => h9) rfl d_A_passThrough_45 ?_
    refine lv_iload hx hb d_A_passThrough_48 (lv_at hl 1 rfl) ?_
    refine lv_dup2_11 hx hb d_A_passThrough_50 rfl rfl ?_
    refine xr_lald (i := 1) hx hb hK hw (110 + i) 1 ((xu_ne (by omega)).trans ((xu_ne (by omega)).trans (xu_eq))) rfl rfl (by unfold vp_in; decide) d_A_passThrough_51 ?_
    refine lv_topl (fun x_9 ex_9 => ?_)
    obtain rfl : x_9 = (σ.2.2.1 (10 + i)) 1 := ex_9.trans ((congrArg (vp_updL (σ.2.2.1 (10 + i)) 0 (((σ.2.2.1 (10 + i)) 0) - (pt σ i j 0 0))) ((rfl : (1 : Int32).toNatClampNeg = 1))).trans ((pk_uLn (show (1 : Nat) ≠ 0 by decide)).trans rfl))
    refine lv_lload hx hb d_A_passThrough_52 (lv_at hl 0 rfl) ?_
    refine lv_lsub hx hb d_A_passThrough_54 ?_
    refine xr_last (i := 1) hx hb hK hw hS (110 + i) 1 ((xu_ne (by omega)).trans ((xu_ne (by omega)).trans (xu_eq))) rfl rfl (by unfold vp_in; decide) d_A_passThrough_55 (fun H locs hw hS => ?_)
    have hw : xw D vwCl B ad (xu (xu (xu (xu w (110 + i) (.inl (K 1, 4, .inr (.inl (vp_updL (σ.2.2.1 (10 + i)) 0 (((σ.2.2.1 (10 + i)) 0) - (pt σ i j 0 0))))))) (120 + i) (.inl (K 1, 24, .inr (.inl (vp_updL (σ.2.2.1 (20 + i)) (j * 4) (pt σ i j 0 0)))))) (150 + j) (.inl (K 1, 4, .inr (.inl (vp_updL (σ.2.2.1 (30 + j)) 0 (((σ.2.2.1 (30 + j)) 0) + (pt σ i j 0 0))))))) (110 + i) (.inl (K 1, 4, .inr (.inl (vp_updL (vp_updL (σ.2.2.1 (10 + i)) 0 (((σ.2.2.1 (10 + i)) 0) - (pt σ i j 0 0))) 1 (((σ.2.2.1 (10 + i)) 1) - (pt σ i j 1 1))))))) H := hw
    refine lv_aload_n hx hb d_A_passThrough_56 rfl (lv_at hl 5 rfl) ?_
    refine xr_get (ci := 1) (v := .ref (ad (120 + i))) (C := R_B) (T := T_B) (N := 9) hx hb htw in_B hown hK hw (100 + i) ((xu_ne (by omega)).trans ((xu_ne (by omega)).trans ((xu_ne (by omega)).trans ((xu_ne (by omega)).trans (rb i hi))))) rfl rfl 3 (by decide) (htw _ u_96) (fun _ h9 => h9) rfl d_A_passThrough_57 ?_
    refine lv_iload_n hx hb d_A_passThrough_60 rfl (lv_at hl 6 rfl) ?_
    refine lv_iconst (v := 4) hx hb d_A_passThrough_61 (by decide) ?_
    refine lv_imul hx hb d_A_passThrough_62 ?_
    refine lv_iload hx hb d_A_passThrough_63 (lv_at hl 1 rfl) ?_
    refine lv_iadd hx hb d_A_passThrough_65 ?_
    refine lv_lload hx hb d_A_passThrough_66 (lv_at hl 0 rfl) ?_
    refine xr_last (i := ((nI j) * 4) + 1) hx hb hK hw hS (120 + i) 1 ((xu_ne (by omega)).trans ((xu_ne (by omega)).trans (xu_eq))) rfl rfl (xvin (a := (j * 4) + 1) (xadd (a := j * 4) (b := 1) (xmul (a := j) (b := 4) rfl rfl) rfl) (by omega) (by omega)) d_A_passThrough_68 (fun H locs hw hS => ?_)
    rw [show (((nI j) * 4) + 1).toNatClampNeg = (j * 4) + 1 from xcl (a := (j * 4) + 1) (xadd (a := j * 4) (b := 1) (xmul (a := j) (b := 4) rfl rfl) rfl) (by omega)] at hw
    have hw : xw D vwCl B ad (xu (xu (xu (xu (xu w (110 + i) (.inl (K 1, 4, .inr (.inl (vp_updL (σ.2.2.1 (10 + i)) 0 (((σ.2.2.1 (10 + i)) 0) - (pt σ i j 0 0))))))) (120 + i) (.inl (K 1, 24, .inr (.inl (vp_updL (σ.2.2.1 (20 + i)) (j * 4) (pt σ i j 0 0)))))) (150 + j) (.inl (K 1, 4, .inr (.inl (vp_updL (σ.2.2.1 (30 + j)) 0 (((σ.2.2.1 (30 + j)) 0) + (pt σ i j 0 0))))))) (110 + i) (.inl (K 1, 4, .inr (.inl (vp_updL (vp_updL (σ.2.2.1 (10 + i)) 0 (((σ.2.2.1 (10 + i)) 0) - (pt σ i j 0 0))) 1 (((σ.2.2.1 (10 + i)) 1) - (pt σ i j 1 1))))))) (120 + i) (.inl (K 1, 24, .inr (.inl (vp_updL (vp_updL (σ.2.2.1 (20 + i)) (j * 4) (pt σ i j 0 0)) ((j * 4) + 1) (pt σ i j 1 1)))))) H := hw
    refine lv_aload_n hx hb d_A_passThrough_69 rfl (lv_at hl 3 rfl) ?_
    refine xr_get (ci := 2) (v := .ref (ad (150 + j))) (C := R_S) (T := T_S) (N := 4) hx hb htw in_S hown hK hw (140 + j) ((xu_ne (by omega)).trans ((xu_ne (by omega)).trans ((xu_ne (by omega)).trans ((xu_ne (by omega)).trans ((xu_ne (by omega)).trans (rs j hj0)))))) rfl rfl 3 (by decide) (htw _ u_158) (fun _ h9 => h9) rfl d_A_passThrough_70 ?_
    refine lv_iload hx hb d_A_passThrough_73 (lv_at hl 1 rfl) ?_
    refine lv_dup2_11 hx hb d_A_passThrough_75 rfl rfl ?_
    refine xr_lald (i := 1) hx hb hK hw (150 + j) 1 ((xu_ne (by omega)).trans ((xu_ne (by omega)).trans (xu_eq))) rfl rfl (by unfold vp_in; decide) d_A_passThrough_76 ?_
    refine lv_topl (fun x_10 ex_10 => ?_)
    obtain rfl : x_10 = (σ.2.2.1 (30 + j)) 1 := ex_10.trans ((congrArg (vp_updL (σ.2.2.1 (30 + j)) 0 (((σ.2.2.1 (30 + j)) 0) + (pt σ i j 0 0))) ((rfl : (1 : Int32).toNatClampNeg = 1))).trans ((pk_uLn (show (1 : Nat) ≠ 0 by decide)).trans rfl))
    refine lv_lload hx hb d_A_passThrough_77 (lv_at hl 0 rfl) ?_
    refine lv_ladd hx hb d_A_passThrough_79 ?_
    refine xr_last (i := 1) hx hb hK hw hS (150 + j) 1 ((xu_ne (by omega)).trans ((xu_ne (by omega)).trans (xu_eq))) rfl rfl (by unfold vp_in; decide) d_A_passThrough_80 (fun H locs hw hS => ?_)
    have hw : xw D vwCl B ad (xu (xu (xu (xu (xu (xu w (110 + i) (.inl (K 1, 4, .inr (.inl (vp_updL (σ.2.2.1 (10 + i)) 0 (((σ.2.2.1 (10 + i)) 0) - (pt σ i j 0 0))))))) (120 + i) (.inl (K 1, 24, .inr (.inl (vp_updL (σ.2.2.1 (20 + i)) (j * 4) (pt σ i j 0 0)))))) (150 + j) (.inl (K 1, 4, .inr (.inl (vp_updL (σ.2.2.1 (30 + j)) 0 (((σ.2.2.1 (30 + j)) 0) + (pt σ i j 0 0))))))) (110 + i) (.inl (K 1, 4, .inr (.inl (vp_updL (vp_updL (σ.2.2.1 (10 + i)) 0 (((σ.2.2.1 (10 + i)) 0) - (pt σ i j 0 0))) 1 (((σ.2.2.1 (10 + i)) 1) - (pt σ i j 1 1))))))) (120 + i) (.inl (K 1, 24, .inr (.inl (vp_updL (vp_updL (σ.2.2.1 (20 + i)) (j * 4) (pt σ i j 0 0)) ((j * 4) + 1) (pt σ i j 1 1)))))) (150 + j) (.inl (K 1, 4, .inr (.inl (vp_updL (vp_updL (σ.2.2.1 (30 + j)) 0 (((σ.2.2.1 (30 + j)) 0) + (pt σ i j 0 0))) 1 (((σ.2.2.1 (30 + j)) 1) + (pt σ i j 1 1))))))) H := hw
    refine lv_lload hx hb d_A_passThrough_81 (lv_at hl 2 rfl) ?_
    refine lv_lload hx hb d_A_passThrough_83 (lv_at hl 0 rfl) ?_
    refine lv_ladd hx hb d_A_passThrough_85 ?_
    refine lv_lstore (lv' := [(4, .long ((0 + (pt σ i j 0 0)) + (pt σ i j 1 1))), (7, .long (pt σ i j 1 1)), (6, .int 1), (3, .ref (ad (140 + j))), (0, .ref (ad 0)), (1, .ref (ad (100 + i))), (2, .int (nI j))]) hx hb d_A_passThrough_86 hl (by decide) rfl (fun ls hl => ?_)
    refine lv_iinc (v := 2) (lv' := [(6, .int 2), (4, .long ((0 + (pt σ i j 0 0)) + (pt σ i j 1 1))), (7, .long (pt σ i j 1 1)), (3, .ref (ad (140 + j))), (0, .ref (ad 0)), (1, .ref (ad (100 + i))), (2, .int (nI j))]) hx hb d_A_passThrough_88 hl (k := 2) rfl (by decide) (by decide) rfl (fun ls hl => ?_)
    refine lv_goto (tgt := 17) hx hb d_A_passThrough_91 (by decide) ?_
    refine lv_iload hx hb d_A_passThrough_17 (lv_at hl 0 rfl) ?_
    refine lv_iconst (v := 4) hx hb d_A_passThrough_19 (by decide) ?_
    refine lv_icmp_ge (tgt := 94) hx hb d_A_passThrough_20 (by decide) (fun c_11 => absurd c_11 (by decide)) (fun c_11 => ?_)
    refine lv_aload_n hx hb d_A_passThrough_23 rfl (lv_at hl 5 rfl) ?_
    refine xr_get (ci := 1) (v := .ref (ad (110 + i))) (C := R_B) (T := T_B) (N := 9) hx hb htw in_B hown hK hw (100 + i) ((xu_ne (by omega)).trans ((xu_ne (by omega)).trans ((xu_ne (by omega)).trans ((xu_ne (by omega)).trans ((xu_ne (by omega)).trans ((xu_ne (by omega)).trans (rb i hi))))))) rfl rfl 2 (by decide) (htw _ u_94) (fun _ h9 => h9) rfl d_A_passThrough_24 ?_
    refine lv_iload hx hb d_A_passThrough_27 (lv_at hl 0 rfl) ?_
    refine xr_lald (i := 2) hx hb hK hw (110 + i) 1 ((xu_ne (by omega)).trans ((xu_ne (by omega)).trans (xu_eq))) rfl rfl (by unfold vp_in; decide) d_A_passThrough_29 ?_
    refine lv_topl (fun x_12 ex_12 => ?_)
    obtain rfl : x_12 = (σ.2.2.1 (10 + i)) 2 := ex_12.trans ((congrArg (vp_updL (vp_updL (σ.2.2.1 (10 + i)) 0 (((σ.2.2.1 (10 + i)) 0) - (pt σ i j 0 0))) 1 (((σ.2.2.1 (10 + i)) 1) - (pt σ i j 1 1))) ((rfl : (2 : Int32).toNatClampNeg = 2))).trans ((pk_uLn (show (2 : Nat) ≠ 1 by decide)).trans ((pk_uLn (show (2 : Nat) ≠ 0 by decide)).trans rfl)))
    refine lv_aload_n hx hb d_A_passThrough_30 rfl (lv_at hl 3 rfl) ?_
    refine lv_iload hx hb d_A_passThrough_31 (lv_at hl 0 rfl) ?_
    refine xr_call (va_runV (As := [.int 2]) (rest := [.long ((σ.2.2.1 (10 + i)) 2)]) ⟨hx, hb, hml, hown, htw⟩ (c_S_thousandthsOf (ad := ad) (σ := σ) hw (140 + j) j (.ref (ad (150 + j))) ((xu_ne (by omega)).trans ((xu_ne (by omega)).trans ((xu_ne (by omega)).trans ((xu_ne (by omega)).trans ((xu_ne (by omega)).trans ((xu_ne (by omega)).trans (rs j hj0))))))) (ad (140 + j)) rfl 2) (cwV 1 htw (gV u_180 u_181 u_182 u_6 u_183) rfl rfl rfl hd_S_thousandthsOf ⟨Nat.le_of_ble_eq_true rfl, Nat.le_of_ble_eq_true rfl⟩) ⟨xP_blind, hw.recv hK (ci := 2) (t := 140 + j) rfl ((xu_ne (by omega)).trans ((xu_ne (by omega)).trans ((xu_ne (by omega)).trans ((xu_ne (by omega)).trans ((xu_ne (by omega)).trans ((xu_ne (by omega)).trans (rs j hj0))))))) rfl, xP_of hK hN⟩ rfl rfl hl.1 rfl (lv_room (Nat.le_of_ble_eq_true rfl)) d_A_passThrough_33 ⟨by decide, by decide⟩) hS (fun v H_ locs hp hS => ?_)
    obtain ⟨rfl, hHe⟩ := hp
    rw [hHe] at hS ⊢
    refine W.eq (g2 := F0 m 36 ls [.int (thou σ j 2), .long ((σ.2.2.1 (10 + i)) 2)]) rfl ?_
    refine lv_i2l hx hb d_A_passThrough_36 rfl ?_
    refine lv_lmul hx hb d_A_passThrough_37 ?_
    refine lv_ldc2 (v := 1000) hx hb hown (htw _ u_148) d_A_passThrough_38 ?_
    refine lv_ldiv hx hb d_A_passThrough_41 (by decide) ?_
    refine lv_topl (fun x_13 ex_13 => ?_)
    obtain rfl : x_13 = pt σ i j 2 2 := ex_13
    refine lv_lstore (lv' := [(7, .long (pt σ i j 2 2)), (6, .int 2), (4, .long ((0 + (pt σ i j 0 0)) + (pt σ i j 1 1))), (3, .ref (ad (140 + j))), (0, .ref (ad 0)), (1, .ref (ad (100 + i))), (2, .int (nI j))]) hx hb d_A_passThrough_42 hl (by decide) rfl (fun ls hl => ?_)
    refine lv_aload_n hx hb d_A_passThrough_44 rfl (lv_at hl 5 rfl) ?_
    refine xr_get (ci := 1) (v := .ref (ad (110 + i))) (C := R_B) (T := T_B) (N := 9) hx hb htw in_B hown hK hw (100 + i) ((xu_ne (by omega)).trans ((xu_ne (by omega)).trans ((xu_ne (by omega)).trans ((xu_ne (by omega)).trans ((xu_ne (by omega)).trans ((xu_ne (by omega)).trans (rb i hi))))))) rfl rfl 2 (by decide) (htw _ u_94) (fun _ h9 => h9) rfl d_A_passThrough_45 ?_
    refine lv_iload hx hb d_A_passThrough_48 (lv_at hl 1 rfl) ?_
    refine lv_dup2_11 hx hb d_A_passThrough_50 rfl rfl ?_
    refine xr_lald (i := 2) hx hb hK hw (110 + i) 1 ((xu_ne (by omega)).trans ((xu_ne (by omega)).trans (xu_eq))) rfl rfl (by unfold vp_in; decide) d_A_passThrough_51 ?_
    refine lv_topl (fun x_14 ex_14 => ?_)
    obtain rfl : x_14 = (σ.2.2.1 (10 + i)) 2 := ex_14.trans ((congrArg (vp_updL (vp_updL (σ.2.2.1 (10 + i)) 0 (((σ.2.2.1 (10 + i)) 0) - (pt σ i j 0 0))) 1 (((σ.2.2.1 (10 + i)) 1) - (pt σ i j 1 1))) ((rfl : (2 : Int32).toNatClampNeg = 2))).trans ((pk_uLn (show (2 : Nat) ≠ 1 by decide)).trans ((pk_uLn (show (2 : Nat) ≠ 0 by decide)).trans rfl)))
    refine lv_lload hx hb d_A_passThrough_52 (lv_at hl 0 rfl) ?_
    refine lv_lsub hx hb d_A_passThrough_54 ?_
    refine xr_last (i := 2) hx hb hK hw hS (110 + i) 1 ((xu_ne (by omega)).trans ((xu_ne (by omega)).trans (xu_eq))) rfl rfl (by unfold vp_in; decide) d_A_passThrough_55 (fun H locs hw hS => ?_)
    have hw : xw D vwCl B ad (xu (xu (xu (xu (xu (xu (xu w (110 + i) (.inl (K 1, 4, .inr (.inl (vp_updL (σ.2.2.1 (10 + i)) 0 (((σ.2.2.1 (10 + i)) 0) - (pt σ i j 0 0))))))) (120 + i) (.inl (K 1, 24, .inr (.inl (vp_updL (σ.2.2.1 (20 + i)) (j * 4) (pt σ i j 0 0)))))) (150 + j) (.inl (K 1, 4, .inr (.inl (vp_updL (σ.2.2.1 (30 + j)) 0 (((σ.2.2.1 (30 + j)) 0) + (pt σ i j 0 0))))))) (110 + i) (.inl (K 1, 4, .inr (.inl (vp_updL (vp_updL (σ.2.2.1 (10 + i)) 0 (((σ.2.2.1 (10 + i)) 0) - (pt σ i j 0 0))) 1 (((σ.2.2.1 (10 + i)) 1) - (pt σ i j 1 1))))))) (120 + i) (.inl (K 1, 24, .inr (.inl (vp_updL (vp_updL (σ.2.2.1 (20 + i)) (j * 4) (pt σ i j 0 0)) ((j * 4) + 1) (pt σ i j 1 1)))))) (150 + j) (.inl (K 1, 4, .inr (.inl (vp_updL (vp_updL (σ.2.2.1 (30 + j)) 0 (((σ.2.2.1 (30 + j)) 0) + (pt σ i j 0 0))) 1 (((σ.2.2.1 (30 + j)) 1) + (pt σ i j 1 1))))))) (110 + i) (.inl (K 1, 4, .inr (.inl (vp_updL (vp_updL (vp_updL (σ.2.2.1 (10 + i)) 0 (((σ.2.2.1 (10 + i)) 0) - (pt σ i j 0 0))) 1 (((σ.2.2.1 (10 + i)) 1) - (pt σ i j 1 1))) 2 (((σ.2.2.1 (10 + i)) 2) - (pt σ i j 2 2))))))) H := hw
    refine lv_aload_n hx hb d_A_passThrough_56 rfl (lv_at hl 5 rfl) ?_
    refine xr_get (ci := 1) (v := .ref (ad (120 + i))) (C := R_B) (T := T_B) (N := 9) hx hb htw in_B hown hK hw (100 + i) ((xu_ne (by omega)).trans ((xu_ne (by omega)).trans ((xu_ne (by omega)).trans ((xu_ne (by omega)).trans ((xu_ne (by omega)).trans ((xu_ne (by omega)).trans ((xu_ne (by omega)).trans (rb i hi)))))))) rfl rfl 3 (by decide) (htw _ u_96) (fun _ h9 => h9) rfl d_A_passThrough_57 ?_
    refine lv_iload_n hx hb d_A_passThrough_60 rfl (lv_at hl 6 rfl) ?_
    refine lv_iconst (v := 4) hx hb d_A_passThrough_61 (by decide) ?_
    refine lv_imul hx hb d_A_passThrough_62 ?_
    refine lv_iload hx hb d_A_passThrough_63 (lv_at hl 1 rfl) ?_
    refine lv_iadd hx hb d_A_passThrough_65 ?_
    refine lv_lload hx hb d_A_passThrough_66 (lv_at hl 0 rfl) ?_
    refine xr_last (i := ((nI j) * 4) + 2) hx hb hK hw hS (120 + i) 1 ((xu_ne (by omega)).trans ((xu_ne (by omega)).trans (xu_eq))) rfl rfl (xvin (a := (j * 4) + 2) (xadd (a := j * 4) (b := 2) (xmul (a := j) (b := 4) rfl rfl) rfl) (by omega) (by omega)) d_A_passThrough_68 (fun H locs hw hS => ?_)
    rw [show (((nI j) * 4) + 2).toNatClampNeg = (j * 4) + 2 from xcl (a := (j * 4) + 2) (xadd (a := j * 4) (b := 2) (xmul (a := j) (b := 4) rfl rfl) rfl) (by omega)] at hw
    have hw : xw D vwCl B ad (xu (xu (xu (xu (xu (xu (xu (xu w (110 + i) (.inl (K 1, 4, .inr (.inl (vp_updL (σ.2.2.1 (10 + i)) 0 (((σ.2.2.1 (10 + i)) 0) - (pt σ i j 0 0))))))) (120 + i) (.inl (K 1, 24, .inr (.inl (vp_updL (σ.2.2.1 (20 + i)) (j * 4) (pt σ i j 0 0)))))) (150 + j) (.inl (K 1, 4, .inr (.inl (vp_updL (σ.2.2.1 (30 + j)) 0 (((σ.2.2.1 (30 + j)) 0) + (pt σ i j 0 0))))))) (110 + i) (.inl (K 1, 4, .inr (.inl (vp_updL (vp_updL (σ.2.2.1 (10 + i)) 0 (((σ.2.2.1 (10 + i)) 0) - (pt σ i j 0 0))) 1 (((σ.2.2.1 (10 + i)) 1) - (pt σ i j 1 1))))))) (120 + i) (.inl (K 1, 24, .inr (.inl (vp_updL (vp_updL (σ.2.2.1 (20 + i)) (j * 4) (pt σ i j 0 0)) ((j * 4) + 1) (pt σ i j 1 1)))))) (150 + j) (.inl (K 1, 4, .inr (.inl (vp_updL (vp_updL (σ.2.2.1 (30 + j)) 0 (((σ.2.2.1 (30 + j)) 0) + (pt σ i j 0 0))) 1 (((σ.2.2.1 (30 + j)) 1) + (pt σ i j 1 1))))))) (110 + i) (.inl (K 1, 4, .inr (.inl (vp_updL (vp_updL (vp_updL (σ.2.2.1 (10 + i)) 0 (((σ.2.2.1 (10 + i)) 0) - (pt σ i j 0 0))) 1 (((σ.2.2.1 (10 + i)) 1) - (pt σ i j 1 1))) 2 (((σ.2.2.1 (10 + i)) 2) - (pt σ i j 2 2))))))) (120 + i) (.inl (K 1, 24, .inr (.inl (vp_updL (vp_updL (vp_updL (σ.2.2.1 (20 + i)) (j * 4) (pt σ i j 0 0)) ((j * 4) + 1) (pt σ i j 1 1)) ((j * 4) + 2) (pt σ i j 2 2)))))) H := hw
    refine lv_aload_n hx hb d_A_passThrough_69 rfl (lv_at hl 3 rfl) ?_
    refine xr_get (ci := 2) (v := .ref (ad (150 + j))) (C := R_S) (T := T_S) (N := 4) hx hb htw in_S hown hK hw (140 + j) ((xu_ne (by omega)).trans ((xu_ne (by omega)).trans ((xu_ne (by omega)).trans ((xu_ne (by omega)).trans ((xu_ne (by omega)).trans ((xu_ne (by omega)).trans ((xu_ne (by omega)).trans ((xu_ne (by omega)).trans (rs j hj0))))))))) rfl rfl 3 (by decide) (htw _ u_158) (fun _ h9 => h9) rfl d_A_passThrough_70 ?_
    refine lv_iload hx hb d_A_passThrough_73 (lv_at hl 1 rfl) ?_
    refine lv_dup2_11 hx hb d_A_passThrough_75 rfl rfl ?_
    refine xr_lald (i := 2) hx hb hK hw (150 + j) 1 ((xu_ne (by omega)).trans ((xu_ne (by omega)).trans (xu_eq))) rfl rfl (by unfold vp_in; decide) d_A_passThrough_76 ?_
    refine lv_topl (fun x_15 ex_15 => ?_)
    obtain rfl : x_15 = (σ.2.2.1 (30 + j)) 2 := ex_15.trans ((congrArg (vp_updL (vp_updL (σ.2.2.1 (30 + j)) 0 (((σ.2.2.1 (30 + j)) 0) + (pt σ i j 0 0))) 1 (((σ.2.2.1 (30 + j)) 1) + (pt σ i j 1 1))) ((rfl : (2 : Int32).toNatClampNeg = 2))).trans ((pk_uLn (show (2 : Nat) ≠ 1 by decide)).trans ((pk_uLn (show (2 : Nat) ≠ 0 by decide)).trans rfl)))
    refine lv_lload hx hb d_A_passThrough_77 (lv_at hl 0 rfl) ?_
    refine lv_ladd hx hb d_A_passThrough_79 ?_
    refine xr_last (i := 2) hx hb hK hw hS (150 + j) 1 ((xu_ne (by omega)).trans ((xu_ne (by omega)).trans (xu_eq))) rfl rfl (by unfold vp_in; decide) d_A_passThrough_80 (fun H locs hw hS => ?_)
    have hw : xw D vwCl B ad (xu (xu (xu (xu (xu (xu (xu (xu (xu w (110 + i) (.inl (K 1, 4, .inr (.inl (vp_updL (σ.2.2.1 (10 + i)) 0 (((σ.2.2.1 (10 + i)) 0) - (pt σ i j 0 0))))))) (120 + i) (.inl (K 1, 24, .inr (.inl (vp_updL (σ.2.2.1 (20 + i)) (j * 4) (pt σ i j 0 0)))))) (150 + j) (.inl (K 1, 4, .inr (.inl (vp_updL (σ.2.2.1 (30 + j)) 0 (((σ.2.2.1 (30 + j)) 0) + (pt σ i j 0 0))))))) (110 + i) (.inl (K 1, 4, .inr (.inl (vp_updL (vp_updL (σ.2.2.1 (10 + i)) 0 (((σ.2.2.1 (10 + i)) 0) - (pt σ i j 0 0))) 1 (((σ.2.2.1 (10 + i)) 1) - (pt σ i j 1 1))))))) (120 + i) (.inl (K 1, 24, .inr (.inl (vp_updL (vp_updL (σ.2.2.1 (20 + i)) (j * 4) (pt σ i j 0 0)) ((j * 4) + 1) (pt σ i j 1 1)))))) (150 + j) (.inl (K 1, 4, .inr (.inl (vp_updL (vp_updL (σ.2.2.1 (30 + j)) 0 (((σ.2.2.1 (30 + j)) 0) + (pt σ i j 0 0))) 1 (((σ.2.2.1 (30 + j)) 1) + (pt σ i j 1 1))))))) (110 + i) (.inl (K 1, 4, .inr (.inl (vp_updL (vp_updL (vp_updL (σ.2.2.1 (10 + i)) 0 (((σ.2.2.1 (10 + i)) 0) - (pt σ i j 0 0))) 1 (((σ.2.2.1 (10 + i)) 1) - (pt σ i j 1 1))) 2 (((σ.2.2.1 (10 + i)) 2) - (pt σ i j 2 2))))))) (120 + i) (.inl (K 1, 24, .inr (.inl (vp_updL (vp_updL (vp_updL (σ.2.2.1 (20 + i)) (j * 4) (pt σ i j 0 0)) ((j * 4) + 1) (pt σ i j 1 1)) ((j * 4) + 2) (pt σ i j 2 2)))))) (150 + j) (.inl (K 1, 4, .inr (.inl (vp_updL (vp_updL (vp_updL (σ.2.2.1 (30 + j)) 0 (((σ.2.2.1 (30 + j)) 0) + (pt σ i j 0 0))) 1 (((σ.2.2.1 (30 + j)) 1) + (pt σ i j 1 1))) 2 (((σ.2.2.1 (30 + j)) 2) + (pt σ i j 2 2))))))) H := hw
    refine lv_lload hx hb d_A_passThrough_81 (lv_at hl 2 rfl) ?_
    refine lv_lload hx hb d_A_passThrough_83 (lv_at hl 0 rfl) ?_
    refine lv_ladd hx hb d_A_passThrough_85 ?_
    refine lv_lstore (lv' := [(4, .long (((0 + (pt σ i j 0 0)) + (pt σ i j 1 1)) + (pt σ i j 2 2))), (7, .long (pt σ i j 2 2)), (6, .int 2), (3, .ref (ad (140 + j))), (0, .ref (ad 0)), (1, .ref (ad (100 + i))), (2, .int (nI j))]) hx hb d_A_passThrough_86 hl (by decide) rfl (fun ls hl => ?_)
    refine lv_iinc (v := 3) (lv' := [(6, .int 3), (4, .long (((0 + (pt σ i j 0 0)) + (pt σ i j 1 1)) + (pt σ i j 2 2))), (7, .long (pt σ i j 2 2)), (3, .ref (ad (140 + j))), (0, .ref (ad 0)), (1, .ref (ad (100 + i))), (2, .int (nI j))]) hx hb d_A_passThrough_88 hl (k := 2) rfl (by decide) (by decide) rfl (fun ls hl => ?_)
    refine lv_goto (tgt := 17) hx hb d_A_passThrough_91 (by decide) ?_
    refine lv_iload hx hb d_A_passThrough_17 (lv_at hl 0 rfl) ?_
    refine lv_iconst (v := 4) hx hb d_A_passThrough_19 (by decide) ?_
    refine lv_icmp_ge (tgt := 94) hx hb d_A_passThrough_20 (by decide) (fun c_16 => absurd c_16 (by decide)) (fun c_16 => ?_)
    refine lv_aload_n hx hb d_A_passThrough_23 rfl (lv_at hl 5 rfl) ?_
    refine xr_get (ci := 1) (v := .ref (ad (110 + i))) (C := R_B) (T := T_B) (N := 9) hx hb htw in_B hown hK hw (100 + i) ((xu_ne (by omega)).trans ((xu_ne (by omega)).trans ((xu_ne (by omega)).trans ((xu_ne (by omega)).trans ((xu_ne (by omega)).trans ((xu_ne (by omega)).trans ((xu_ne (by omega)).trans ((xu_ne (by omega)).trans ((xu_ne (by omega)).trans (rb i hi)))))))))) rfl rfl 2 (by decide) (htw _ u_94) (fun _ h9 => h9) rfl d_A_passThrough_24 ?_
    refine lv_iload hx hb d_A_passThrough_27 (lv_at hl 0 rfl) ?_
    refine xr_lald (i := 3) hx hb hK hw (110 + i) 1 ((xu_ne (by omega)).trans ((xu_ne (by omega)).trans (xu_eq))) rfl rfl (by unfold vp_in; decide) d_A_passThrough_29 ?_
    refine lv_topl (fun x_17 ex_17 => ?_)
    obtain rfl : x_17 = (σ.2.2.1 (10 + i)) 3 := ex_17.trans ((congrArg (vp_updL (vp_updL (vp_updL (σ.2.2.1 (10 + i)) 0 (((σ.2.2.1 (10 + i)) 0) - (pt σ i j 0 0))) 1 (((σ.2.2.1 (10 + i)) 1) - (pt σ i j 1 1))) 2 (((σ.2.2.1 (10 + i)) 2) - (pt σ i j 2 2))) ((rfl : (3 : Int32).toNatClampNeg = 3))).trans ((pk_uLn (show (3 : Nat) ≠ 2 by decide)).trans ((pk_uLn (show (3 : Nat) ≠ 1 by decide)).trans ((pk_uLn (show (3 : Nat) ≠ 0 by decide)).trans rfl))))
    refine lv_aload_n hx hb d_A_passThrough_30 rfl (lv_at hl 3 rfl) ?_
    refine lv_iload hx hb d_A_passThrough_31 (lv_at hl 0 rfl) ?_
    refine xr_call (va_runV (As := [.int 3]) (rest := [.long ((σ.2.2.1 (10 + i)) 3)]) ⟨hx, hb, hml, hown, htw⟩ (c_S_thousandthsOf (ad := ad) (σ := σ) hw (140 + j) j (.ref (ad (150 + j))) ((xu_ne (by omega)).trans ((xu_ne (by omega)).trans ((xu_ne (by omega)).trans ((xu_ne (by omega)).trans ((xu_ne (by omega)).trans ((xu_ne (by omega)).trans ((xu_ne (by omega)).trans ((xu_ne (by omega)).trans ((xu_ne (by omega)).trans (rs j hj0)))))))))) (ad (140 + j)) rfl 3) (cwV 1 htw (gV u_180 u_181 u_182 u_6 u_183) rfl rfl rfl hd_S_thousandthsOf ⟨Nat.le_of_ble_eq_true rfl, Nat.le_of_ble_eq_true rfl⟩) ⟨xP_blind, hw.recv hK (ci := 2) (t := 140 + j) rfl ((xu_ne (by omega)).trans ((xu_ne (by omega)).trans ((xu_ne (by omega)).trans ((xu_ne (by omega)).trans ((xu_ne (by omega)).trans ((xu_ne (by omega)).trans ((xu_ne (by omega)).trans ((xu_ne (by omega)).trans ((xu_ne (by omega)).trans (rs j hj0)))))))))) rfl, xP_of hK hN⟩ rfl rfl hl.1 rfl (lv_room (Nat.le_of_ble_eq_true rfl)) d_A_passThrough_33 ⟨by decide, by decide⟩) hS (fun v H_ locs hp hS => ?_)
    obtain ⟨rfl, hHe⟩ := hp
    rw [hHe] at hS ⊢
    refine W.eq (g2 := F0 m 36 ls [.int (thou σ j 3), .long ((σ.2.2.1 (10 + i)) 3)]) rfl ?_
    refine lv_i2l hx hb d_A_passThrough_36 rfl ?_
    refine lv_lmul hx hb d_A_passThrough_37 ?_
    refine lv_ldc2 (v := 1000) hx hb hown (htw _ u_148) d_A_passThrough_38 ?_
    refine lv_ldiv hx hb d_A_passThrough_41 (by decide) ?_
    refine lv_topl (fun x_18 ex_18 => ?_)
    obtain rfl : x_18 = pt σ i j 3 3 := ex_18
    refine lv_lstore (lv' := [(7, .long (pt σ i j 3 3)), (6, .int 3), (4, .long (((0 + (pt σ i j 0 0)) + (pt σ i j 1 1)) + (pt σ i j 2 2))), (3, .ref (ad (140 + j))), (0, .ref (ad 0)), (1, .ref (ad (100 + i))), (2, .int (nI j))]) hx hb d_A_passThrough_42 hl (by decide) rfl (fun ls hl => ?_)
    refine lv_aload_n hx hb d_A_passThrough_44 rfl (lv_at hl 5 rfl) ?_
    refine xr_get (ci := 1) (v := .ref (ad (110 + i))) (C := R_B) (T := T_B) (N := 9) hx hb htw in_B hown hK hw (100 + i) ((xu_ne (by omega)).trans ((xu_ne (by omega)).trans ((xu_ne (by omega)).trans ((xu_ne (by omega)).trans ((xu_ne (by omega)).trans ((xu_ne (by omega)).trans ((xu_ne (by omega)).trans ((xu_ne (by omega)).trans ((xu_ne (by omega)).trans (rb i hi)))))))))) rfl rfl 2 (by decide) (htw _ u_94) (fun _ h9 => h9) rfl d_A_passThrough_45 ?_
    refine lv_iload hx hb d_A_passThrough_48 (lv_at hl 1 rfl) ?_
    refine lv_dup2_11 hx hb d_A_passThrough_50 rfl rfl ?_
    refine xr_lald (i := 3) hx hb hK hw (110 + i) 1 ((xu_ne (by omega)).trans ((xu_ne (by omega)).trans (xu_eq))) rfl rfl (by unfold vp_in; decide) d_A_passThrough_51 ?_
    refine lv_topl (fun x_19 ex_19 => ?_)
    obtain rfl : x_19 = (σ.2.2.1 (10 + i)) 3 := ex_19.trans ((congrArg (vp_updL (vp_updL (vp_updL (σ.2.2.1 (10 + i)) 0 (((σ.2.2.1 (10 + i)) 0) - (pt σ i j 0 0))) 1 (((σ.2.2.1 (10 + i)) 1) - (pt σ i j 1 1))) 2 (((σ.2.2.1 (10 + i)) 2) - (pt σ i j 2 2))) ((rfl : (3 : Int32).toNatClampNeg = 3))).trans ((pk_uLn (show (3 : Nat) ≠ 2 by decide)).trans ((pk_uLn (show (3 : Nat) ≠ 1 by decide)).trans ((pk_uLn (show (3 : Nat) ≠ 0 by decide)).trans rfl))))
    refine lv_lload hx hb d_A_passThrough_52 (lv_at hl 0 rfl) ?_
    refine lv_lsub hx hb d_A_passThrough_54 ?_
    refine xr_last (i := 3) hx hb hK hw hS (110 + i) 1 ((xu_ne (by omega)).trans ((xu_ne (by omega)).trans (xu_eq))) rfl rfl (by unfold vp_in; decide) d_A_passThrough_55 (fun H locs hw hS => ?_)
    have hw : xw D vwCl B ad (xu (xu (xu (xu (xu (xu (xu (xu (xu (xu w (110 + i) (.inl (K 1, 4, .inr (.inl (vp_updL (σ.2.2.1 (10 + i)) 0 (((σ.2.2.1 (10 + i)) 0) - (pt σ i j 0 0))))))) (120 + i) (.inl (K 1, 24, .inr (.inl (vp_updL (σ.2.2.1 (20 + i)) (j * 4) (pt σ i j 0 0)))))) (150 + j) (.inl (K 1, 4, .inr (.inl (vp_updL (σ.2.2.1 (30 + j)) 0 (((σ.2.2.1 (30 + j)) 0) + (pt σ i j 0 0))))))) (110 + i) (.inl (K 1, 4, .inr (.inl (vp_updL (vp_updL (σ.2.2.1 (10 + i)) 0 (((σ.2.2.1 (10 + i)) 0) - (pt σ i j 0 0))) 1 (((σ.2.2.1 (10 + i)) 1) - (pt σ i j 1 1))))))) (120 + i) (.inl (K 1, 24, .inr (.inl (vp_updL (vp_updL (σ.2.2.1 (20 + i)) (j * 4) (pt σ i j 0 0)) ((j * 4) + 1) (pt σ i j 1 1)))))) (150 + j) (.inl (K 1, 4, .inr (.inl (vp_updL (vp_updL (σ.2.2.1 (30 + j)) 0 (((σ.2.2.1 (30 + j)) 0) + (pt σ i j 0 0))) 1 (((σ.2.2.1 (30 + j)) 1) + (pt σ i j 1 1))))))) (110 + i) (.inl (K 1, 4, .inr (.inl (vp_updL (vp_updL (vp_updL (σ.2.2.1 (10 + i)) 0 (((σ.2.2.1 (10 + i)) 0) - (pt σ i j 0 0))) 1 (((σ.2.2.1 (10 + i)) 1) - (pt σ i j 1 1))) 2 (((σ.2.2.1 (10 + i)) 2) - (pt σ i j 2 2))))))) (120 + i) (.inl (K 1, 24, .inr (.inl (vp_updL (vp_updL (vp_updL (σ.2.2.1 (20 + i)) (j * 4) (pt σ i j 0 0)) ((j * 4) + 1) (pt σ i j 1 1)) ((j * 4) + 2) (pt σ i j 2 2)))))) (150 + j) (.inl (K 1, 4, .inr (.inl (vp_updL (vp_updL (vp_updL (σ.2.2.1 (30 + j)) 0 (((σ.2.2.1 (30 + j)) 0) + (pt σ i j 0 0))) 1 (((σ.2.2.1 (30 + j)) 1) + (pt σ i j 1 1))) 2 (((σ.2.2.1 (30 + j)) 2) + (pt σ i j 2 2))))))) (110 + i) (.inl (K 1, 4, .inr (.inl (vp_updL (vp_updL (vp_updL (vp_updL (σ.2.2.1 (10 + i)) 0 (((σ.2.2.1 (10 + i)) 0) - (pt σ i j 0 0))) 1 (((σ.2.2.1 (10 + i)) 1) - (pt σ i j 1 1))) 2 (((σ.2.2.1 (10 + i)) 2) - (pt σ i j 2 2))) 3 (((σ.2.2.1 (10 + i)) 3) - (pt σ i j 3 3))))))) H := hw
    refine lv_aload_n hx hb d_A_passThrough_56 rfl (lv_at hl 5 rfl) ?_
    refine xr_get (ci := 1) (v := .ref (ad (120 + i))) (C := R_B) (T := T_B) (N := 9) hx hb htw in_B hown hK hw (100 + i) ((xu_ne (by omega)).trans ((xu_ne (by omega)).trans ((xu_ne (by omega)).trans ((xu_ne (by omega)).trans ((xu_ne (by omega)).trans ((xu_ne (by omega)).trans ((xu_ne (by omega)).trans ((xu_ne (by omega)).trans ((xu_ne (by omega)).trans ((xu_ne (by omega)).trans (rb i hi))))))))))) rfl rfl 3 (by decide) (htw _ u_96) (fun _ h9 => h9) rfl d_A_passThrough_57 ?_
    refine lv_iload_n hx hb d_A_passThrough_60 rfl (lv_at hl 6 rfl) ?_
    refine lv_iconst (v := 4) hx hb d_A_passThrough_61 (by decide) ?_
    refine lv_imul hx hb d_A_passThrough_62 ?_
    refine lv_iload hx hb d_A_passThrough_63 (lv_at hl 1 rfl) ?_
    refine lv_iadd hx hb d_A_passThrough_65 ?_
    refine lv_lload hx hb d_A_passThrough_66 (lv_at hl 0 rfl) ?_
    refine xr_last (i := ((nI j) * 4) + 3) hx hb hK hw hS (120 + i) 1 ((xu_ne (by omega)).trans ((xu_ne (by omega)).trans (xu_eq))) rfl rfl (xvin (a := (j * 4) + 3) (xadd (a := j * 4) (b := 3) (xmul (a := j) (b := 4) rfl rfl) rfl) (by omega) (by omega)) d_A_passThrough_68 (fun H locs hw hS => ?_)
    rw [show (((nI j) * 4) + 3).toNatClampNeg = (j * 4) + 3 from xcl (a := (j * 4) + 3) (xadd (a := j * 4) (b := 3) (xmul (a := j) (b := 4) rfl rfl) rfl) (by omega)] at hw
    have hw : xw D vwCl B ad (xu (xu (xu (xu (xu (xu (xu (xu (xu (xu (xu w (110 + i) (.inl (K 1, 4, .inr (.inl (vp_updL (σ.2.2.1 (10 + i)) 0 (((σ.2.2.1 (10 + i)) 0) - (pt σ i j 0 0))))))) (120 + i) (.inl (K 1, 24, .inr (.inl (vp_updL (σ.2.2.1 (20 + i)) (j * 4) (pt σ i j 0 0)))))) (150 + j) (.inl (K 1, 4, .inr (.inl (vp_updL (σ.2.2.1 (30 + j)) 0 (((σ.2.2.1 (30 + j)) 0) + (pt σ i j 0 0))))))) (110 + i) (.inl (K 1, 4, .inr (.inl (vp_updL (vp_updL (σ.2.2.1 (10 + i)) 0 (((σ.2.2.1 (10 + i)) 0) - (pt σ i j 0 0))) 1 (((σ.2.2.1 (10 + i)) 1) - (pt σ i j 1 1))))))) (120 + i) (.inl (K 1, 24, .inr (.inl (vp_updL (vp_updL (σ.2.2.1 (20 + i)) (j * 4) (pt σ i j 0 0)) ((j * 4) + 1) (pt σ i j 1 1)))))) (150 + j) (.inl (K 1, 4, .inr (.inl (vp_updL (vp_updL (σ.2.2.1 (30 + j)) 0 (((σ.2.2.1 (30 + j)) 0) + (pt σ i j 0 0))) 1 (((σ.2.2.1 (30 + j)) 1) + (pt σ i j 1 1))))))) (110 + i) (.inl (K 1, 4, .inr (.inl (vp_updL (vp_updL (vp_updL (σ.2.2.1 (10 + i)) 0 (((σ.2.2.1 (10 + i)) 0) - (pt σ i j 0 0))) 1 (((σ.2.2.1 (10 + i)) 1) - (pt σ i j 1 1))) 2 (((σ.2.2.1 (10 + i)) 2) - (pt σ i j 2 2))))))) (120 + i) (.inl (K 1, 24, .inr (.inl (vp_updL (vp_updL (vp_updL (σ.2.2.1 (20 + i)) (j * 4) (pt σ i j 0 0)) ((j * 4) + 1) (pt σ i j 1 1)) ((j * 4) + 2) (pt σ i j 2 2)))))) (150 + j) (.inl (K 1, 4, .inr (.inl (vp_updL (vp_updL (vp_updL (σ.2.2.1 (30 + j)) 0 (((σ.2.2.1 (30 + j)) 0) + (pt σ i j 0 0))) 1 (((σ.2.2.1 (30 + j)) 1) + (pt σ i j 1 1))) 2 (((σ.2.2.1 (30 + j)) 2) + (pt σ i j 2 2))))))) (110 + i) (.inl (K 1, 4, .inr (.inl (vp_updL (vp_updL (vp_updL (vp_updL (σ.2.2.1 (10 + i)) 0 (((σ.2.2.1 (10 + i)) 0) - (pt σ i j 0 0))) 1 (((σ.2.2.1 (10 + i)) 1) - (pt σ i j 1 1))) 2 (((σ.2.2.1 (10 + i)) 2) - (pt σ i j 2 2))) 3 (((σ.2.2.1 (10 + i)) 3) - (pt σ i j 3 3))))))) (120 + i) (.inl (K 1, 24, .inr (.inl (vp_updL (vp_updL (vp_updL (vp_updL (σ.2.2.1 (20 + i)) (j * 4) (pt σ i j 0 0)) ((j * 4) + 1) (pt σ i j 1 1)) ((j * 4) + 2) (pt σ i j 2 2)) ((j * 4) + 3) (pt σ i j 3 3)))))) H := hw
    refine lv_aload_n hx hb d_A_passThrough_69 rfl (lv_at hl 3 rfl) ?_
    refine xr_get (ci := 2) (v := .ref (ad (150 + j))) (C := R_S) (T := T_S) (N := 4) hx hb htw in_S hown hK hw (140 + j) ((xu_ne (by omega)).trans ((xu_ne (by omega)).trans ((xu_ne (by omega)).trans ((xu_ne (by omega)).trans ((xu_ne (by omega)).trans ((xu_ne (by omega)).trans ((xu_ne (by omega)).trans ((xu_ne (by omega)).trans ((xu_ne (by omega)).trans ((xu_ne (by omega)).trans ((xu_ne (by omega)).trans (rs j hj0)))))))))))) rfl rfl 3 (by decide) (htw _ u_158) (fun _ h9 => h9) rfl d_A_passThrough_70 ?_
    refine lv_iload hx hb d_A_passThrough_73 (lv_at hl 1 rfl) ?_
    refine lv_dup2_11 hx hb d_A_passThrough_75 rfl rfl ?_
    refine xr_lald (i := 3) hx hb hK hw (150 + j) 1 ((xu_ne (by omega)).trans ((xu_ne (by omega)).trans (xu_eq))) rfl rfl (by unfold vp_in; decide) d_A_passThrough_76 ?_
    refine lv_topl (fun x_20 ex_20 => ?_)
    obtain rfl : x_20 = (σ.2.2.1 (30 + j)) 3 := ex_20.trans ((congrArg (vp_updL (vp_updL (vp_updL (σ.2.2.1 (30 + j)) 0 (((σ.2.2.1 (30 + j)) 0) + (pt σ i j 0 0))) 1 (((σ.2.2.1 (30 + j)) 1) + (pt σ i j 1 1))) 2 (((σ.2.2.1 (30 + j)) 2) + (pt σ i j 2 2))) ((rfl : (3 : Int32).toNatClampNeg = 3))).trans ((pk_uLn (show (3 : Nat) ≠ 2 by decide)).trans ((pk_uLn (show (3 : Nat) ≠ 1 by decide)).trans ((pk_uLn (show (3 : Nat) ≠ 0 by decide)).trans rfl))))
    refine lv_lload hx hb d_A_passThrough_77 (lv_at hl 0 rfl) ?_
    refine lv_ladd hx hb d_A_passThrough_79 ?_
    refine xr_last (i := 3) hx hb hK hw hS (150 + j) 1 ((xu_ne (by omega)).trans ((xu_ne (by omega)).trans (xu_eq))) rfl rfl (by unfold vp_in; decide) d_A_passThrough_80 (fun H locs hw hS => ?_)
    have hw : xw D vwCl B ad (xu (xu (xu (xu (xu (xu (xu (xu (xu (xu (xu (xu w (110 + i) (.inl (K 1, 4, .inr (.inl (vp_updL (σ.2.2.1 (10 + i)) 0 (((σ.2.2.1 (10 + i)) 0) - (pt σ i j 0 0))))))) (120 + i) (.inl (K 1, 24, .inr (.inl (vp_updL (σ.2.2.1 (20 + i)) (j * 4) (pt σ i j 0 0)))))) (150 + j) (.inl (K 1, 4, .inr (.inl (vp_updL (σ.2.2.1 (30 + j)) 0 (((σ.2.2.1 (30 + j)) 0) + (pt σ i j 0 0))))))) (110 + i) (.inl (K 1, 4, .inr (.inl (vp_updL (vp_updL (σ.2.2.1 (10 + i)) 0 (((σ.2.2.1 (10 + i)) 0) - (pt σ i j 0 0))) 1 (((σ.2.2.1 (10 + i)) 1) - (pt σ i j 1 1))))))) (120 + i) (.inl (K 1, 24, .inr (.inl (vp_updL (vp_updL (σ.2.2.1 (20 + i)) (j * 4) (pt σ i j 0 0)) ((j * 4) + 1) (pt σ i j 1 1)))))) (150 + j) (.inl (K 1, 4, .inr (.inl (vp_updL (vp_updL (σ.2.2.1 (30 + j)) 0 (((σ.2.2.1 (30 + j)) 0) + (pt σ i j 0 0))) 1 (((σ.2.2.1 (30 + j)) 1) + (pt σ i j 1 1))))))) (110 + i) (.inl (K 1, 4, .inr (.inl (vp_updL (vp_updL (vp_updL (σ.2.2.1 (10 + i)) 0 (((σ.2.2.1 (10 + i)) 0) - (pt σ i j 0 0))) 1 (((σ.2.2.1 (10 + i)) 1) - (pt σ i j 1 1))) 2 (((σ.2.2.1 (10 + i)) 2) - (pt σ i j 2 2))))))) (120 + i) (.inl (K 1, 24, .inr (.inl (vp_updL (vp_updL (vp_updL (σ.2.2.1 (20 + i)) (j * 4) (pt σ i j 0 0)) ((j * 4) + 1) (pt σ i j 1 1)) ((j * 4) + 2) (pt σ i j 2 2)))))) (150 + j) (.inl (K 1, 4, .inr (.inl (vp_updL (vp_updL (vp_updL (σ.2.2.1 (30 + j)) 0 (((σ.2.2.1 (30 + j)) 0) + (pt σ i j 0 0))) 1 (((σ.2.2.1 (30 + j)) 1) + (pt σ i j 1 1))) 2 (((σ.2.2.1 (30 + j)) 2) + (pt σ i j 2 2))))))) (110 + i) (.inl (K 1, 4, .inr (.inl (vp_updL (vp_updL (vp_updL (vp_updL (σ.2.2.1 (10 + i)) 0 (((σ.2.2.1 (10 + i)) 0) - (pt σ i j 0 0))) 1 (((σ.2.2.1 (10 + i)) 1) - (pt σ i j 1 1))) 2 (((σ.2.2.1 (10 + i)) 2) - (pt σ i j 2 2))) 3 (((σ.2.2.1 (10 + i)) 3) - (pt σ i j 3 3))))))) (120 + i) (.inl (K 1, 24, .inr (.inl (vp_updL (vp_updL (vp_updL (vp_updL (σ.2.2.1 (20 + i)) (j * 4) (pt σ i j 0 0)) ((j * 4) + 1) (pt σ i j 1 1)) ((j * 4) + 2) (pt σ i j 2 2)) ((j * 4) + 3) (pt σ i j 3 3)))))) (150 + j) (.inl (K 1, 4, .inr (.inl (vp_updL (vp_updL (vp_updL (vp_updL (σ.2.2.1 (30 + j)) 0 (((σ.2.2.1 (30 + j)) 0) + (pt σ i j 0 0))) 1 (((σ.2.2.1 (30 + j)) 1) + (pt σ i j 1 1))) 2 (((σ.2.2.1 (30 + j)) 2) + (pt σ i j 2 2))) 3 (((σ.2.2.1 (30 + j)) 3) + (pt σ i j 3 3))))))) H := hw
    refine lv_lload hx hb d_A_passThrough_81 (lv_at hl 2 rfl) ?_
    refine lv_lload hx hb d_A_passThrough_83 (lv_at hl 0 rfl) ?_
    refine lv_ladd hx hb d_A_passThrough_85 ?_
    refine lv_lstore (lv' := [(4, .long ((((0 + (pt σ i j 0 0)) + (pt σ i j 1 1)) + (pt σ i j 2 2)) + (pt σ i j 3 3))), (7, .long (pt σ i j 3 3)), (6, .int 3), (3, .ref (ad (140 + j))), (0, .ref (ad 0)), (1, .ref (ad (100 + i))), (2, .int (nI j))]) hx hb d_A_passThrough_86 hl (by decide) rfl (fun ls hl => ?_)
    refine lv_iinc (v := 4) (lv' := [(6, .int 4), (4, .long ((((0 + (pt σ i j 0 0)) + (pt σ i j 1 1)) + (pt σ i j 2 2)) + (pt σ i j 3 3))), (7, .long (pt σ i j 3 3)), (3, .ref (ad (140 + j))), (0, .ref (ad 0)), (1, .ref (ad (100 + i))), (2, .int (nI j))]) hx hb d_A_passThrough_88 hl (k := 2) rfl (by decide) (by decide) rfl (fun ls hl => ?_)
    refine lv_goto (tgt := 17) hx hb d_A_passThrough_91 (by decide) ?_
    refine lv_iload hx hb d_A_passThrough_17 (lv_at hl 0 rfl) ?_
    refine lv_iconst (v := 4) hx hb d_A_passThrough_19 (by decide) ?_
    refine lv_icmp_ge (tgt := 94) hx hb d_A_passThrough_20 (by decide) (fun c_21 => ?_) (fun c_21 => absurd (by decide) c_21)
    refine lv_aload_n hx hb d_A_passThrough_94 rfl (lv_at hl 5 rfl) ?_
    refine lv_lconst (v := 0) hx hb d_A_passThrough_95 (by decide) ?_
    refine lv_aload_n hx hb d_A_passThrough_96 rfl (lv_at hl 5 rfl) ?_
    refine xr_get (ci := 1) (v := .long (σ.2.2.1 1 i)) (C := R_B) (T := T_B) (N := 9) hx hb htw in_B hown hK hw (100 + i) ((xu_ne (by omega)).trans ((xu_ne (by omega)).trans ((xu_ne (by omega)).trans ((xu_ne (by omega)).trans ((xu_ne (by omega)).trans ((xu_ne (by omega)).trans ((xu_ne (by omega)).trans ((xu_ne (by omega)).trans ((xu_ne (by omega)).trans ((xu_ne (by omega)).trans ((xu_ne (by omega)).trans ((xu_ne (by omega)).trans (rb i hi))))))))))))) rfl rfl 5 (by decide) (htw _ u_100) (fun _ h9 => h9) rfl d_A_passThrough_97 ?_
    refine lv_lload hx hb d_A_passThrough_100 (lv_at hl 1 rfl) ?_
    refine lv_ldc2 (v := 1000000) hx hb hown (htw _ u_138) d_A_passThrough_102 ?_
    refine lv_ldiv hx hb d_A_passThrough_105 (by decide) ?_
    refine lv_lsub hx hb d_A_passThrough_106 ?_
    refine va_mmax_long hx hb (by rw [hml, hl.1]) hown (htw _ u_184) (htw _ u_185) (htw _ u_7) (htw _ u_186) (Nat.le_of_ble_eq_true rfl) (Nat.le_of_ble_eq_true rfl) (Nat.le_of_ble_eq_true rfl) (Nat.le_of_ble_eq_true rfl) d_A_passThrough_107 ?_
    refine lv_topl (fun x_22 ex_22 => ?_)
    obtain rfl : x_22 = mxL 0 ((σ.2.2.1 1 i) - (((((0 + (pt σ i j 0 0)) + (pt σ i j 1 1)) + (pt σ i j 2 2)) + (pt σ i j 3 3)) / 1000000)) := ex_22
    refine xr_put (ci := 1) (v := .long (mxL 0 ((σ.2.2.1 1 i) - (((((0 + (pt σ i j 0 0)) + (pt σ i j 1 1)) + (pt σ i j 2 2)) + (pt σ i j 3 3)) / 1000000)))) (ty := .long) (C := R_B) (T := T_B) (N := 9) hx hb htw in_B ty_B tk_B nm_B hown hK hw hS (100 + i) ((xu_ne (by omega)).trans ((xu_ne (by omega)).trans ((xu_ne (by omega)).trans ((xu_ne (by omega)).trans ((xu_ne (by omega)).trans ((xu_ne (by omega)).trans ((xu_ne (by omega)).trans ((xu_ne (by omega)).trans ((xu_ne (by omega)).trans ((xu_ne (by omega)).trans ((xu_ne (by omega)).trans ((xu_ne (by omega)).trans (rb i hi))))))))))))) rfl rfl 5 (by decide) (htw _ u_100) (fun _ h9 => h9) rfl (by decide +kernel) rfl rfl (Nat.le_of_ble_eq_true rfl) d_A_passThrough_110 (fun H locs hw hS => ?_)
    have hw : xw D vwCl B ad (xu (xu (xu (xu (xu (xu (xu (xu (xu (xu (xu (xu (xu w (110 + i) (.inl (K 1, 4, .inr (.inl (vp_updL (σ.2.2.1 (10 + i)) 0 (((σ.2.2.1 (10 + i)) 0) - (pt σ i j 0 0))))))) (120 + i) (.inl (K 1, 24, .inr (.inl (vp_updL (σ.2.2.1 (20 + i)) (j * 4) (pt σ i j 0 0)))))) (150 + j) (.inl (K 1, 4, .inr (.inl (vp_updL (σ.2.2.1 (30 + j)) 0 (((σ.2.2.1 (30 + j)) 0) + (pt σ i j 0 0))))))) (110 + i) (.inl (K 1, 4, .inr (.inl (vp_updL (vp_updL (σ.2.2.1 (10 + i)) 0 (((σ.2.2.1 (10 + i)) 0) - (pt σ i j 0 0))) 1 (((σ.2.2.1 (10 + i)) 1) - (pt σ i j 1 1))))))) (120 + i) (.inl (K 1, 24, .inr (.inl (vp_updL (vp_updL (σ.2.2.1 (20 + i)) (j * 4) (pt σ i j 0 0)) ((j * 4) + 1) (pt σ i j 1 1)))))) (150 + j) (.inl (K 1, 4, .inr (.inl (vp_updL (vp_updL (σ.2.2.1 (30 + j)) 0 (((σ.2.2.1 (30 + j)) 0) + (pt σ i j 0 0))) 1 (((σ.2.2.1 (30 + j)) 1) + (pt σ i j 1 1))))))) (110 + i) (.inl (K 1, 4, .inr (.inl (vp_updL (vp_updL (vp_updL (σ.2.2.1 (10 + i)) 0 (((σ.2.2.1 (10 + i)) 0) - (pt σ i j 0 0))) 1 (((σ.2.2.1 (10 + i)) 1) - (pt σ i j 1 1))) 2 (((σ.2.2.1 (10 + i)) 2) - (pt σ i j 2 2))))))) (120 + i) (.inl (K 1, 24, .inr (.inl (vp_updL (vp_updL (vp_updL (σ.2.2.1 (20 + i)) (j * 4) (pt σ i j 0 0)) ((j * 4) + 1) (pt σ i j 1 1)) ((j * 4) + 2) (pt σ i j 2 2)))))) (150 + j) (.inl (K 1, 4, .inr (.inl (vp_updL (vp_updL (vp_updL (σ.2.2.1 (30 + j)) 0 (((σ.2.2.1 (30 + j)) 0) + (pt σ i j 0 0))) 1 (((σ.2.2.1 (30 + j)) 1) + (pt σ i j 1 1))) 2 (((σ.2.2.1 (30 + j)) 2) + (pt σ i j 2 2))))))) (110 + i) (.inl (K 1, 4, .inr (.inl (vp_updL (vp_updL (vp_updL (vp_updL (σ.2.2.1 (10 + i)) 0 (((σ.2.2.1 (10 + i)) 0) - (pt σ i j 0 0))) 1 (((σ.2.2.1 (10 + i)) 1) - (pt σ i j 1 1))) 2 (((σ.2.2.1 (10 + i)) 2) - (pt σ i j 2 2))) 3 (((σ.2.2.1 (10 + i)) 3) - (pt σ i j 3 3))))))) (120 + i) (.inl (K 1, 24, .inr (.inl (vp_updL (vp_updL (vp_updL (vp_updL (σ.2.2.1 (20 + i)) (j * 4) (pt σ i j 0 0)) ((j * 4) + 1) (pt σ i j 1 1)) ((j * 4) + 2) (pt σ i j 2 2)) ((j * 4) + 3) (pt σ i j 3 3)))))) (150 + j) (.inl (K 1, 4, .inr (.inl (vp_updL (vp_updL (vp_updL (vp_updL (σ.2.2.1 (30 + j)) 0 (((σ.2.2.1 (30 + j)) 0) + (pt σ i j 0 0))) 1 (((σ.2.2.1 (30 + j)) 1) + (pt σ i j 1 1))) 2 (((σ.2.2.1 (30 + j)) 2) + (pt σ i j 2 2))) 3 (((σ.2.2.1 (30 + j)) 3) + (pt σ i j 3 3))))))) (100 + i) (.inr (1, [.int (σ.2.1 1 i), .int (bI (σ.2.2.2 0 i)), .ref (ad (110 + i)), .ref (ad (120 + i)), .ref (ad (130 + i)), .long (mxL 0 ((σ.2.2.1 1 i) - (((((0 + (pt σ i j 0 0)) + (pt σ i j 1 1)) + (pt σ i j 2 2)) + (pt σ i j 3 3)) / 1000000))), .int (bI (σ.2.2.2 1 i)), .int (bI (σ.2.2.2 2 i)), .int (nI (σ.1 (10 + 2 * i)))]))) H := hw
    have hRep : RepX K (s_pass σ i j) ad (xu (xu (xu (xu (xu (xu (xu (xu (xu (xu (xu (xu (xu w (110 + i) (.inl (K 1, 4, .inr (.inl (vp_updL (σ.2.2.1 (10 + i)) 0 (((σ.2.2.1 (10 + i)) 0) - (pt σ i j 0 0))))))) (120 + i) (.inl (K 1, 24, .inr (.inl (vp_updL (σ.2.2.1 (20 + i)) (j * 4) (pt σ i j 0 0)))))) (150 + j) (.inl (K 1, 4, .inr (.inl (vp_updL (σ.2.2.1 (30 + j)) 0 (((σ.2.2.1 (30 + j)) 0) + (pt σ i j 0 0))))))) (110 + i) (.inl (K 1, 4, .inr (.inl (vp_updL (vp_updL (σ.2.2.1 (10 + i)) 0 (((σ.2.2.1 (10 + i)) 0) - (pt σ i j 0 0))) 1 (((σ.2.2.1 (10 + i)) 1) - (pt σ i j 1 1))))))) (120 + i) (.inl (K 1, 24, .inr (.inl (vp_updL (vp_updL (σ.2.2.1 (20 + i)) (j * 4) (pt σ i j 0 0)) ((j * 4) + 1) (pt σ i j 1 1)))))) (150 + j) (.inl (K 1, 4, .inr (.inl (vp_updL (vp_updL (σ.2.2.1 (30 + j)) 0 (((σ.2.2.1 (30 + j)) 0) + (pt σ i j 0 0))) 1 (((σ.2.2.1 (30 + j)) 1) + (pt σ i j 1 1))))))) (110 + i) (.inl (K 1, 4, .inr (.inl (vp_updL (vp_updL (vp_updL (σ.2.2.1 (10 + i)) 0 (((σ.2.2.1 (10 + i)) 0) - (pt σ i j 0 0))) 1 (((σ.2.2.1 (10 + i)) 1) - (pt σ i j 1 1))) 2 (((σ.2.2.1 (10 + i)) 2) - (pt σ i j 2 2))))))) (120 + i) (.inl (K 1, 24, .inr (.inl (vp_updL (vp_updL (vp_updL (σ.2.2.1 (20 + i)) (j * 4) (pt σ i j 0 0)) ((j * 4) + 1) (pt σ i j 1 1)) ((j * 4) + 2) (pt σ i j 2 2)))))) (150 + j) (.inl (K 1, 4, .inr (.inl (vp_updL (vp_updL (vp_updL (σ.2.2.1 (30 + j)) 0 (((σ.2.2.1 (30 + j)) 0) + (pt σ i j 0 0))) 1 (((σ.2.2.1 (30 + j)) 1) + (pt σ i j 1 1))) 2 (((σ.2.2.1 (30 + j)) 2) + (pt σ i j 2 2))))))) (110 + i) (.inl (K 1, 4, .inr (.inl (vp_updL (vp_updL (vp_updL (vp_updL (σ.2.2.1 (10 + i)) 0 (((σ.2.2.1 (10 + i)) 0) - (pt σ i j 0 0))) 1 (((σ.2.2.1 (10 + i)) 1) - (pt σ i j 1 1))) 2 (((σ.2.2.1 (10 + i)) 2) - (pt σ i j 2 2))) 3 (((σ.2.2.1 (10 + i)) 3) - (pt σ i j 3 3))))))) (120 + i) (.inl (K 1, 24, .inr (.inl (vp_updL (vp_updL (vp_updL (vp_updL (σ.2.2.1 (20 + i)) (j * 4) (pt σ i j 0 0)) ((j * 4) + 1) (pt σ i j 1 1)) ((j * 4) + 2) (pt σ i j 2 2)) ((j * 4) + 3) (pt σ i j 3 3)))))) (150 + j) (.inl (K 1, 4, .inr (.inl (vp_updL (vp_updL (vp_updL (vp_updL (σ.2.2.1 (30 + j)) 0 (((σ.2.2.1 (30 + j)) 0) + (pt σ i j 0 0))) 1 (((σ.2.2.1 (30 + j)) 1) + (pt σ i j 1 1))) 2 (((σ.2.2.1 (30 + j)) 2) + (pt σ i j 2 2))) 3 (((σ.2.2.1 (30 + j)) 3) + (pt σ i j 3 3))))))) (100 + i) (.inr (1, [.int (σ.2.1 1 i), .int (bI (σ.2.2.2 0 i)), .ref (ad (110 + i)), .ref (ad (120 + i)), .ref (ad (130 + i)), .long (mxL 0 ((σ.2.2.1 1 i) - (((((0 + (pt σ i j 0 0)) + (pt σ i j 1 1)) + (pt σ i j 2 2)) + (pt σ i j 3 3)) / 1000000))), .int (bI (σ.2.2.2 1 i)), .int (bI (σ.2.2.2 2 i)), .int (nI (σ.1 (10 + 2 * i)))]))) := by
      unfold s_pass tog
      refine ⟨?_, ?_, ?_, ?_, ?_, ?_, ?_, ?_, ?_, ?_, ?_, ?_, ?_, ?_, ?_⟩
      · simp (disch := omega) only [pN, pI, pL, pZ, row_eq, row_ne, xu_eq, xu_ne, xa_eq, xa_ne, pk_us, pk_un, pk_uLs, pk_uLn, r0]
      · simp (disch := omega) only [pN, pI, pL, pZ, row_eq, row_ne, xu_eq, xu_ne, xa_eq, xa_ne, pk_us, pk_un, pk_uLs, pk_uLn, r1]; try rfl
      · simp (disch := omega) only [pN, pI, pL, pZ, row_eq, row_ne, xu_eq, xu_ne, xa_eq, xa_ne, pk_us, pk_un, pk_uLs, pk_uLn, r2]; try rfl
      · simp (disch := omega) only [pN, pI, pL, pZ, row_eq, row_ne, xu_eq, xu_ne, xa_eq, xa_ne, pk_us, pk_un, pk_uLs, pk_uLn, r3]; try rfl
      · simp (disch := omega) only [pN, pI, pL, pZ, row_eq, row_ne, xu_eq, xu_ne, xa_eq, xa_ne, pk_us, pk_un, pk_uLs, pk_uLn, r4]
      · simp (disch := omega) only [pN, pI, pL, pZ, row_eq, row_ne, xu_eq, xu_ne, xa_eq, xa_ne, pk_us, pk_un, pk_uLs, pk_uLn, r5]
      · simp (disch := omega) only [pN, pI, pL, pZ, row_eq, row_ne, xu_eq, xu_ne, xa_eq, xa_ne, pk_us, pk_un, pk_uLs, pk_uLn, r6]
      · simp (disch := omega) only [pN, pI, pL, pZ, row_eq, row_ne, xu_eq, xu_ne, xa_eq, xa_ne, pk_us, pk_un, pk_uLs, pk_uLn, r7]
      · intro jj hj
        have hj : jj < σ.1 0 := by first | exact hj | simpa (disch := omega) only [pN, pI, pL, pZ, row_eq, row_ne, xu_eq, xu_ne, xa_eq, xa_ne, pk_us, pk_un, pk_uLs, pk_uLn] using hj
        by_cases ej : jj = i
        · rw [ej]; simp (disch := omega) only [pN, pI, pL, pZ, row_eq, row_ne, xu_eq, xu_ne, xa_eq, xa_ne, pk_us, pk_un, pk_uLs, pk_uLn, rb i (by omega)]
        · simp (disch := omega) only [pN, pI, pL, pZ, row_eq, row_ne, xu_eq, xu_ne, xa_eq, xa_ne, pk_us, pk_un, pk_uLs, pk_uLn, rb jj (by omega)]
      · intro jj hj
        have hj : jj < σ.1 0 := by first | exact hj | simpa (disch := omega) only [pN, pI, pL, pZ, row_eq, row_ne, xu_eq, xu_ne, xa_eq, xa_ne, pk_us, pk_un, pk_uLs, pk_uLn] using hj
        by_cases ej : jj = i
        · rw [ej]; simp (disch := omega) only [pN, pI, pL, pZ, row_eq, row_ne, xu_eq, xu_ne, xa_eq, xa_ne, pk_us, pk_un, pk_uLs, pk_uLn, rba i (by omega)]
        · simp (disch := omega) only [pN, pI, pL, pZ, row_eq, row_ne, xu_eq, xu_ne, xa_eq, xa_ne, pk_us, pk_un, pk_uLs, pk_uLn, rba jj (by omega)]
      · intro jj hj
        have hj : jj < σ.1 0 := by first | exact hj | simpa (disch := omega) only [pN, pI, pL, pZ, row_eq, row_ne, xu_eq, xu_ne, xa_eq, xa_ne, pk_us, pk_un, pk_uLs, pk_uLn] using hj
        by_cases ej : jj = i
        · rw [ej]; simp (disch := omega) only [pN, pI, pL, pZ, row_eq, row_ne, xu_eq, xu_ne, xa_eq, xa_ne, pk_us, pk_un, pk_uLs, pk_uLn, rbt i (by omega)]
        · simp (disch := omega) only [pN, pI, pL, pZ, row_eq, row_ne, xu_eq, xu_ne, xa_eq, xa_ne, pk_us, pk_un, pk_uLs, pk_uLn, rbt jj (by omega)]
      · intro jj hj
        have hj : jj < σ.1 0 := by first | exact hj | simpa (disch := omega) only [pN, pI, pL, pZ, row_eq, row_ne, xu_eq, xu_ne, xa_eq, xa_ne, pk_us, pk_un, pk_uLs, pk_uLn] using hj
        simp (disch := omega) only [pN, pI, pL, pZ, row_eq, row_ne, xu_eq, xu_ne, xa_eq, xa_ne, pk_us, pk_un, pk_uLs, pk_uLn, rbo jj hj]
      · intro jj hj
        have hj : jj < σ.1 1 := by first | exact hj | simpa (disch := omega) only [pN, pI, pL, pZ, row_eq, row_ne, xu_eq, xu_ne, xa_eq, xa_ne, pk_us, pk_un, pk_uLs, pk_uLn] using hj
        simp (disch := omega) only [pN, pI, pL, pZ, row_eq, row_ne, xu_eq, xu_ne, xa_eq, xa_ne, pk_us, pk_un, pk_uLs, pk_uLn, rs jj hj]
      · intro jj hj
        have hj : jj < σ.1 1 := by first | exact hj | simpa (disch := omega) only [pN, pI, pL, pZ, row_eq, row_ne, xu_eq, xu_ne, xa_eq, xa_ne, pk_us, pk_un, pk_uLs, pk_uLn] using hj
        by_cases ej : jj = j
        · rw [ej]; simp (disch := omega) only [pN, pI, pL, pZ, row_eq, row_ne, xu_eq, xu_ne, xa_eq, xa_ne, pk_us, pk_un, pk_uLs, pk_uLn, rss j (by omega)]
        · simp (disch := omega) only [pN, pI, pL, pZ, row_eq, row_ne, xu_eq, xu_ne, xa_eq, xa_ne, pk_us, pk_un, pk_uLs, pk_uLn, rss jj (by omega)]
      · intro jj hj
        have hj : jj < σ.1 2 := by first | exact hj | simpa (disch := omega) only [pN, pI, pL, pZ, row_eq, row_ne, xu_eq, xu_ne, xa_eq, xa_ne, pk_us, pk_un, pk_uLs, pk_uLn] using hj
        simp (disch := omega) only [pN, pI, pL, pZ, row_eq, row_ne, xu_eq, xu_ne, xa_eq, xa_ne, pk_us, pk_un, pk_uLs, pk_uLn, rr jj hj]
    exact W.vret hx hb hr (fun t ht _ => ⟨_, rfl, ⟨rfl, _, by rw [ht]; exact hw, hRep, fun t h2 => by simp (disch := omega) only [xu_ne]⟩, hS.F ht⟩) hS.2.2 d_A_passThrough_113
set_option maxHeartbeats 4000000 in
set_option maxRecDepth 100000 in
theorem c_A_run {l : Launch} {D : va_G} {K : Nat → ClassId} {B : Nat} {ad : Nat → Nat} {w : Nat → Option va_E} {H : Heap} {σ : xS} (hR : RepX K σ ad w) (hI : Inv σ) (hw : xw D vwCl B ad w H) (x1 : Int32) : xC l D K B y_A_run b_A_run 4 (some .int) rm_A_run [.ref (ad 0), .int x1] H (fun v H1 => v = some (.int (f_run σ x1).2) ∧ PX D K B ad w (f_run σ x1).1 H1) := by
  refine Met.ofW (cc := b_A_run) (maxL := 4) (ret := (some .int)) (by decide) rfl ?_
  intro p e s m args below meth c s₁ B0 hml hv
  obtain ⟨rfl, hsz, hK, hN⟩ := hv
  have hx := B0.exec
  have hb := B0.bytes
  have hr := B0.returns
  have htw : ∀ w ∈ xW0, w.before [.ref (ad 0), .int x1].toArray s = true := fun w h => atoms_spec (ws := Cond.code y_A_run b_A_run 4 (some .int) :: xW0) B0.pre w (List.mem_cons_of_mem _ h)
  have hown : s.vm.findClass R_A = some m.cls := findClass_of_methodNamed B0.named
  have hlocks := B0.notSynchronized
  subst hsz
  have hS : va_S (fun q => B ≤ q) s.heap s.heap [] := va_S.rf
  have hl := lv_entry ([.ref (ad 0), .int x1]) (n := 4) (Nat.le_of_ble_eq_true rfl)
  rw [lg_entry_eq]
  generalize (lg_sl ([.ref (ad 0), .int x1]) ++ List.replicate (4 - (lg_sl ([.ref (ad 0), .int x1])).length) Slot.unset).toArray = ls at hl ⊢
  have hl : lv_has ls 4 [(0, .ref (ad 0)), (1, .int x1)] := hl
  have hH : s.heap = s.heap := rfl
  obtain ⟨r0, r1, r2, r3, r4, r5, r6, r7, rb, rba, rbt, rbo, rs, rss, rr⟩ := id hR
  obtain ⟨hnb, hns, hnr, hpc, hst, hto, htl, hrm, hpa, hwt, hdf, hds⟩ := id hI
  refine lv_aload_n hx hb d_A_run_0 rfl (lv_at hl 0 rfl) ?_
  refine lv_iload_n hx hb d_A_run_1 rfl (lv_at hl 1 rfl) ?_
  refine xr_call (va_runV (As := [.int x1]) (rest := []) ⟨hx, hb, hml, hown, htw⟩ (c_A_batchAt (ad := ad) hR hnb hns hw x1) (cwV 1 htw (gV u_131 u_133 us_1 u_1 u_134) rfl rfl rfl hd_A_batchAt ⟨Nat.le_of_ble_eq_true rfl, Nat.le_of_ble_eq_true rfl⟩) ⟨xP_blind, hw.recv hK (ci := 0) (t := 0) rfl r0 rfl, xP_of hK hN⟩ rfl rfl hl.1 rfl (lv_room (Nat.le_of_ble_eq_true rfl)) d_A_run_2 ⟨by decide, by decide⟩) hS (fun v H_ locs hp hS => ?_)
  obtain ⟨hHe, hp⟩ := hp
  rw [hHe] at hS ⊢
  rcases hp with ⟨f2, rfl⟩ | ⟨i1, hi1, rfl, rfl⟩
  · refine W.eq (g2 := F0 m 5 ls [.null]) rfl ?_
    refine lv_astore_nN (lv' := [(2, .null), (0, .ref (ad 0)), (1, .int x1)]) hx hb d_A_run_5 rfl hl (by decide) rfl (fun ls hl => ?_)
    refine lv_aload_nN hx hb d_A_run_6 rfl (lv_at hl 0 rfl) ?_
    refine lv_ifnullN (tgt := 24) hx hb d_A_run_7 (by decide) ?_
    refine lv_iconst (v := (-1)) hx hb d_A_run_24 (by decide) ?_
    have hf : f_run σ x1 = (σ, (-1)) := by simp [f_run, opt_n, opt_s, f2]
    exact W.iret (v := (-1)) hx hb hr (fun t ht _ => ⟨_, rfl, by rw [hf, ht]; exact ⟨rfl, PX_same hw hR⟩, hS.F ht⟩) hS.2.2 d_A_run_25
  · have fi1 : xi (σ.1 0) (nI i1) = some i1 := xi_nI hi1 (by omega)
    refine W.eq (g2 := F0 m 5 ls [.ref (ad (100 + i1))]) rfl ?_
    refine lv_astore_n (lv' := [(2, .ref (ad (100 + i1))), (0, .ref (ad 0)), (1, .int (nI i1))]) hx hb d_A_run_5 rfl hl (by decide) rfl (fun ls hl => ?_)
    refine lv_aload_n hx hb d_A_run_6 rfl (lv_at hl 0 rfl) ?_
    refine lv_ifnull hx hb d_A_run_7 ?_
    refine lv_aload_n hx hb d_A_run_10 rfl (lv_at hl 0 rfl) ?_
    refine xr_get (ci := 1) (v := .int (bI (σ.2.2.2 2 i1))) (C := R_B) (T := T_B) (N := 9) hx hb htw in_B hown hK hw (100 + i1) (rb i1 hi1) rfl rfl 7 (by decide) (htw _ u_102) (fun _ h9 => h9) rfl d_A_run_11 ?_
    refine lv_if_ne (tgt := 24) hx hb d_A_run_14 (by decide) (fun c_3 => ?_) (fun c_3 => ?_)
    · have c_3 : (σ.2.2.2 2 i1) = true := bI_t.mp c_3
      refine lv_iconst (v := (-1)) hx hb d_A_run_24 (by decide) ?_
      have hf : f_run σ (nI i1) = (σ, (-1)) := by simp [f_run, opt_n, opt_s, fi1, c_3]
      exact W.iret (v := (-1)) hx hb hr (fun t ht _ => ⟨_, rfl, by rw [hf, ht]; exact ⟨rfl, PX_same hw hR⟩, hS.F ht⟩) hS.2.2 d_A_run_25
    · have c_3 : (σ.2.2.2 2 i1) = false := bI_f.mp c_3
      refine lv_aload_n hx hb d_A_run_17 rfl (lv_at hl 0 rfl) ?_
      refine xr_get (ci := 1) (v := .int (bI (σ.2.2.2 1 i1))) (C := R_B) (T := T_B) (N := 9) hx hb htw in_B hown hK hw (100 + i1) (rb i1 hi1) rfl rfl 6 (by decide) (htw _ u_101) (fun _ h9 => h9) rfl d_A_run_18 ?_
      refine lv_if_eq (tgt := 26) hx hb d_A_run_21 (by decide) (fun c_4 => ?_) (fun c_4 => ?_)
      · have c_4 : (σ.2.2.2 1 i1) = false := bI_f.mp c_4
        refine lv_iconst (v := 0) hx hb d_A_run_26 (by decide) ?_
        refine lv_istore_n (lv' := [(3, .int 0), (2, .ref (ad (100 + i1))), (0, .ref (ad 0)), (1, .int (nI i1))]) hx hb d_A_run_27 rfl hl (by decide) rfl (fun ls hl => ?_)
        refine xloop (σ.1 1) (fun n H locs ls => ∃ (Lt : Nat → Nat → Int64) (w1 : Nat → Option va_E), passN σ i1 n = (σ.1, σ.2.1, Lt, σ.2.2.2) ∧ xw D vwCl B ad w1 H ∧ RepX K (σ.1, σ.2.1, Lt, σ.2.2.2) ad w1 ∧ (∀ t, 200 ≤ t → w1 t = w t) ∧ va_S (fun q => B ≤ q) s.heap H locs ∧ lv_has ls 4 [(3, .int (nI n)), (2, .ref (ad (100 + i1))), (0, .ref (ad 0)), (1, .int (nI i1))]) 0 (Nat.zero_le _) ⟨σ.2.2.1, w, rfl, hw, hR, fun _ _ => rfl, hS, hl⟩ (fun n H locs ls hn hJ ih => ?_)
        obtain ⟨Lt, w1, hpn, hw, hRn, hfw, hS, hl⟩ := hJ
        obtain ⟨r0, r1, r2, r3, r4, r5, r6, r7, rb, rba, rbt, rbo, rs, rss, rr⟩ := id hRn
        refine lv_iload_n hx hb d_A_run_28 rfl (lv_at hl 0 rfl) ?_
        refine lv_aload_n hx hb d_A_run_29 rfl (lv_at hl 2 rfl) ?_
        refine xr_get (ci := 0) (v := .int (nI (σ.1 1))) (C := R_A) (T := T_A) (N := 10) hx hb htw in_A hown hK hw 0 r0 rfl rfl 3 (by decide) (htw _ u_44) (fun _ h9 => h9) rfl d_A_run_30 ?_
        refine lv_icmp_ge (tgt := 48) hx hb d_A_run_33 (by decide) (fun c_5 => ?_) (fun c_5 => ?_)
        · have c_5 : (σ.1 1) ≤ n := (nLE (a := σ.1 1) (b := n) (by omega) (by omega)).mp c_5
          refine lv_aload_n hx hb d_A_run_48 rfl (lv_at hl 1 rfl) ?_
          refine lv_iconst (v := 1) hx hb d_A_run_49 (by decide) ?_
          refine xr_put (ci := 1) (v := .int 1) (ty := .boolean) (C := R_B) (T := T_B) (N := 9) hx hb htw in_B ty_B tk_B nm_B hown hK hw hS (100 + i1) (rb i1 hi1) rfl rfl 6 (by decide) (htw _ u_101) (fun _ h9 => h9) rfl (by decide +kernel) (by decide) (by decide) (Nat.le_of_ble_eq_true rfl) d_A_run_50 (fun H locs hw hS => ?_)
          have hw : xw D vwCl B ad (xu w1 (100 + i1) (.inr (1, [.int (σ.2.1 1 i1), .int (bI (σ.2.2.2 0 i1)), .ref (ad (110 + i1)), .ref (ad (120 + i1)), .ref (ad (130 + i1)), .long (Lt 1 i1), .int 1, .int (bI (σ.2.2.2 2 i1)), .int (nI (σ.1 (10 + 2 * i1)))]))) H := hw
          refine lv_aload_n hx hb d_A_run_53 rfl (lv_at hl 1 rfl) ?_
          refine lv_aload_n hx hb d_A_run_54 rfl (lv_at hl 2 rfl) ?_
          refine xr_get (ci := 0) (v := .int (nI (σ.1 1))) (C := R_A) (T := T_A) (N := 10) hx hb htw in_A hown hK hw 0 ((xu_ne (by omega)).trans (r0)) rfl rfl 3 (by decide) (htw _ u_44) (fun _ h9 => h9) rfl d_A_run_55 ?_
          refine xr_put (ci := 1) (v := .int (nI (σ.1 1))) (ty := .int) (C := R_B) (T := T_B) (N := 9) hx hb htw in_B ty_B tk_B nm_B hown hK hw hS (100 + i1) xu_eq rfl rfl 8 (by decide) (htw _ u_103) (fun _ h9 => h9) rfl (by decide +kernel) rfl rfl (Nat.le_of_ble_eq_true rfl) d_A_run_58 (fun H locs hw hS => ?_)
          have hw : xw D vwCl B ad (xu (xu w1 (100 + i1) (.inr (1, [.int (σ.2.1 1 i1), .int (bI (σ.2.2.2 0 i1)), .ref (ad (110 + i1)), .ref (ad (120 + i1)), .ref (ad (130 + i1)), .long (Lt 1 i1), .int 1, .int (bI (σ.2.2.2 2 i1)), .int (nI (σ.1 (10 + 2 * i1)))]))) (100 + i1) (.inr (1, [.int (σ.2.1 1 i1), .int (bI (σ.2.2.2 0 i1)), .ref (ad (110 + i1)), .ref (ad (120 + i1)), .ref (ad (130 + i1)), .long (Lt 1 i1), .int 1, .int (bI (σ.2.2.2 2 i1)), .int (nI (σ.1 1))]))) H := hw
          refine lv_aload_n hx hb d_A_run_61 rfl (lv_at hl 2 rfl) ?_
          refine xr_get (ci := 0) (v := .int (nI (σ.1 1))) (C := R_A) (T := T_A) (N := 10) hx hb htw in_A hown hK hw 0 ((xu_ne (by omega)).trans ((xu_ne (by omega)).trans (r0))) rfl rfl 3 (by decide) (htw _ u_44) (fun _ h9 => h9) rfl d_A_run_62 ?_
          obtain rfl : n = σ.1 1 := by omega
          have hLt : (passN σ i1 (σ.1 1)).2.2.1 = Lt := by rw [hpn]
          have hRep : RepX K (s_run σ Lt i1) ad (xu (xu w1 (100 + i1) (.inr (1, [.int (σ.2.1 1 i1), .int (bI (σ.2.2.2 0 i1)), .ref (ad (110 + i1)), .ref (ad (120 + i1)), .ref (ad (130 + i1)), .long (Lt 1 i1), .int 1, .int (bI (σ.2.2.2 2 i1)), .int (nI (σ.1 (10 + 2 * i1)))]))) (100 + i1) (.inr (1, [.int (σ.2.1 1 i1), .int (bI (σ.2.2.2 0 i1)), .ref (ad (110 + i1)), .ref (ad (120 + i1)), .ref (ad (130 + i1)), .long (Lt 1 i1), .int 1, .int (bI (σ.2.2.2 2 i1)), .int (nI (σ.1 1))]))) := by
            unfold s_run
            refine ⟨?_, ?_, ?_, ?_, ?_, ?_, ?_, ?_, ?_, ?_, ?_, ?_, ?_, ?_, ?_⟩
            · simp (disch := omega) only [pN, pI, pL, pZ, row_eq, row_ne, xu_eq, xu_ne, xa_eq, xa_ne, pk_us, pk_un, pk_uLs, pk_uLn, bI_tt, hfw, r0]
            · simp (disch := omega) only [pN, pI, pL, pZ, row_eq, row_ne, xu_eq, xu_ne, xa_eq, xa_ne, pk_us, pk_un, pk_uLs, pk_uLn, bI_tt, hfw, r1]; try rfl
            · simp (disch := omega) only [pN, pI, pL, pZ, row_eq, row_ne, xu_eq, xu_ne, xa_eq, xa_ne, pk_us, pk_un, pk_uLs, pk_uLn, bI_tt, hfw, r2]; try rfl
            · simp (disch := omega) only [pN, pI, pL, pZ, row_eq, row_ne, xu_eq, xu_ne, xa_eq, xa_ne, pk_us, pk_un, pk_uLs, pk_uLn, bI_tt, hfw, r3]; try rfl
            · simp (disch := omega) only [pN, pI, pL, pZ, row_eq, row_ne, xu_eq, xu_ne, xa_eq, xa_ne, pk_us, pk_un, pk_uLs, pk_uLn, bI_tt, hfw, r4]
            · simp (disch := omega) only [pN, pI, pL, pZ, row_eq, row_ne, xu_eq, xu_ne, xa_eq, xa_ne, pk_us, pk_un, pk_uLs, pk_uLn, bI_tt, hfw, r5]
            · simp (disch := omega) only [pN, pI, pL, pZ, row_eq, row_ne, xu_eq, xu_ne, xa_eq, xa_ne, pk_us, pk_un, pk_uLs, pk_uLn, bI_tt, hfw, r6]
            · simp (disch := omega) only [pN, pI, pL, pZ, row_eq, row_ne, xu_eq, xu_ne, xa_eq, xa_ne, pk_us, pk_un, pk_uLs, pk_uLn, bI_tt, hfw, r7]
            · intro jj hj
              have hj : jj < σ.1 0 := by first | exact hj | simpa (disch := omega) only [pN, pI, pL, pZ, row_eq, row_ne, xu_eq, xu_ne, xa_eq, xa_ne, pk_us, pk_un, pk_uLs, pk_uLn, bI_tt, hfw] using hj
              by_cases ej : jj = i1
              · rw [ej]; simp (disch := omega) only [pN, pI, pL, pZ, row_eq, row_ne, xu_eq, xu_ne, xa_eq, xa_ne, pk_us, pk_un, pk_uLs, pk_uLn, bI_tt, hfw, rb i1 (by omega)]
              · simp (disch := omega) only [pN, pI, pL, pZ, row_eq, row_ne, xu_eq, xu_ne, xa_eq, xa_ne, pk_us, pk_un, pk_uLs, pk_uLn, bI_tt, hfw, rb jj (by omega)]
            · intro jj hj
              have hj : jj < σ.1 0 := by first | exact hj | simpa (disch := omega) only [pN, pI, pL, pZ, row_eq, row_ne, xu_eq, xu_ne, xa_eq, xa_ne, pk_us, pk_un, pk_uLs, pk_uLn, bI_tt, hfw] using hj
              simp (disch := omega) only [pN, pI, pL, pZ, row_eq, row_ne, xu_eq, xu_ne, xa_eq, xa_ne, pk_us, pk_un, pk_uLs, pk_uLn, bI_tt, hfw, rba jj hj]
            · intro jj hj
              have hj : jj < σ.1 0 := by first | exact hj | simpa (disch := omega) only [pN, pI, pL, pZ, row_eq, row_ne, xu_eq, xu_ne, xa_eq, xa_ne, pk_us, pk_un, pk_uLs, pk_uLn, bI_tt, hfw] using hj
              simp (disch := omega) only [pN, pI, pL, pZ, row_eq, row_ne, xu_eq, xu_ne, xa_eq, xa_ne, pk_us, pk_un, pk_uLs, pk_uLn, bI_tt, hfw, rbt jj hj]
            · intro jj hj
              have hj : jj < σ.1 0 := by first | exact hj | simpa (disch := omega) only [pN, pI, pL, pZ, row_eq, row_ne, xu_eq, xu_ne, xa_eq, xa_ne, pk_us, pk_un, pk_uLs, pk_uLn, bI_tt, hfw] using hj
              simp (disch := omega) only [pN, pI, pL, pZ, row_eq, row_ne, xu_eq, xu_ne, xa_eq, xa_ne, pk_us, pk_un, pk_uLs, pk_uLn, bI_tt, hfw, rbo jj hj]
            · intro jj hj
              have hj : jj < σ.1 1 := by first | exact hj | simpa (disch := omega) only [pN, pI, pL, pZ, row_eq, row_ne, xu_eq, xu_ne, xa_eq, xa_ne, pk_us, pk_un, pk_uLs, pk_uLn, bI_tt, hfw] using hj
              simp (disch := omega) only [pN, pI, pL, pZ, row_eq, row_ne, xu_eq, xu_ne, xa_eq, xa_ne, pk_us, pk_un, pk_uLs, pk_uLn, bI_tt, hfw, rs jj hj]
            · intro jj hj
              have hj : jj < σ.1 1 := by first | exact hj | simpa (disch := omega) only [pN, pI, pL, pZ, row_eq, row_ne, xu_eq, xu_ne, xa_eq, xa_ne, pk_us, pk_un, pk_uLs, pk_uLn, bI_tt, hfw] using hj
              simp (disch := omega) only [pN, pI, pL, pZ, row_eq, row_ne, xu_eq, xu_ne, xa_eq, xa_ne, pk_us, pk_un, pk_uLs, pk_uLn, bI_tt, hfw, rss jj hj]
            · intro jj hj
              have hj : jj < σ.1 2 := by first | exact hj | simpa (disch := omega) only [pN, pI, pL, pZ, row_eq, row_ne, xu_eq, xu_ne, xa_eq, xa_ne, pk_us, pk_un, pk_uLs, pk_uLn, bI_tt, hfw] using hj
              simp (disch := omega) only [pN, pI, pL, pZ, row_eq, row_ne, xu_eq, xu_ne, xa_eq, xa_ne, pk_us, pk_un, pk_uLs, pk_uLn, bI_tt, hfw, rr jj hj]
          have hf : f_run σ (nI i1) = (s_run σ Lt i1, nI (σ.1 1)) := by simp [f_run, opt_n, opt_s, fi1, c_3, c_4, c_5, hLt]
          exact W.iret (v := nI (σ.1 1)) hx hb hr (fun t ht _ => ⟨_, rfl, by rw [hf, ht]; exact ⟨rfl, _, _, hw, hRep, rfl, fun t h2 => ⟨by simp (disch := omega) only [xu_ne, xa_ne, bI_tt, hfw], rfl⟩⟩, hS.F ht⟩) hS.2.2 d_A_run_65
        · have c_5 : ¬ (σ.1 1) ≤ n := fun z => c_5 ((nLE (a := σ.1 1) (b := n) (by omega) (by omega)).mpr z)
          refine lv_aload_n hx hb d_A_run_36 rfl (lv_at hl 2 rfl) ?_
          refine lv_aload_n hx hb d_A_run_37 rfl (lv_at hl 1 rfl) ?_
          refine lv_iload_n hx hb d_A_run_38 rfl (lv_at hl 0 rfl) ?_
          refine xr_call (va_runV (As := [.ref (ad (100 + i1)), .int (nI n)]) (rest := []) ⟨hx, hb, hml, hown, htw⟩ (c_A_passThrough (ad := ad) (σ := (σ.1, σ.2.1, Lt, σ.2.2.2)) hRn hnb hns hw i1 hi1 n (show n < σ.1 1 by omega)) (cwV 2 htw (gV u_172 u_174 us_2 u_1 u_175) rfl rfl rfl hd_A_passThrough ⟨Nat.le_of_ble_eq_true rfl, Nat.le_of_ble_eq_true rfl⟩) ⟨xP_blind, hw.recv hK (ci := 0) (t := 0) rfl r0 rfl, xP_of hK hN⟩ rfl rfl hl.1 rfl (lv_room (Nat.le_of_ble_eq_true rfl)) d_A_run_39 ⟨by decide, by decide⟩) hS (fun v H_ locs hp hS => ?_)
          obtain ⟨rfl, w2, hw, hR2, hfw2⟩ := hp
          generalize H_ = H at hw hS ⊢
          have hp2 : passN σ i1 (n + 1) = (σ.1, σ.2.1, (s_pass (σ.1, σ.2.1, Lt, σ.2.2.2) i1 n).2.2.1, σ.2.2.2) := by rw [passN, hpn]; rfl
          have hR2 : RepX K (σ.1, σ.2.1, (s_pass (σ.1, σ.2.1, Lt, σ.2.2.2) i1 n).2.2.1, σ.2.2.2) ad w2 := hR2
          refine W.eq (g2 := F0 m 42 ls []) rfl ?_
          refine lv_iinc (v := nI n + 1) (lv' := [(3, .int (nI n + 1)), (2, .ref (ad (100 + i1))), (0, .ref (ad 0)), (1, .int (nI i1))]) hx hb d_A_run_42 hl (k := 0) rfl rfl (by decide) rfl (fun ls hl => ?_)
          refine lv_goto (tgt := 28) hx hb d_A_run_45 (by decide) ?_
          exact ih (by omega) _ _ _ ⟨_, w2, hp2, hw, hR2, fun t h2 => (hfw2 t h2).trans (hfw t h2), hS, by rw [show nI (n + 1) = nI n + 1 from nI_succ n]; exact lv_sub hl [0, 1, 2, 3] rfl⟩
      · have c_4 : (σ.2.2.2 1 i1) = true := bI_t.mp c_4
        refine lv_iconst (v := (-1)) hx hb d_A_run_24 (by decide) ?_
        have hf : f_run σ (nI i1) = (σ, (-1)) := by simp [f_run, opt_n, opt_s, fi1, c_3, c_4]
        exact W.iret (v := (-1)) hx hb hr (fun t ht _ => ⟨_, rfl, by rw [hf, ht]; exact ⟨rfl, PX_same hw hR⟩, hS.F ht⟩) hS.2.2 d_A_run_25
