set_option maxHeartbeats 4000000 in
set_option maxRecDepth 100000 in
theorem c_A_today {l : Launch} {D : va_G} {K : Nat → ClassId} {B : Nat} {ad : Nat → Nat} {w : Nat → Option va_E} {H : Heap} {σ : xS} (hR : RepX K σ ad w) (hI : Inv σ) (hw : xw D vwCl B ad w H) (x1 : Int32) : xC l D K B y_A_today b_A_today 2 (some .boolean) rm_A_today [.ref (ad 0), .int x1] H (fun v H1 => v = some (.int (f_today σ x1).2) ∧ PX D K B ad w (f_today σ x1).1 H1) := by
  refine Met.ofW (cc := b_A_today) (maxL := 2) (ret := (some .boolean)) (by decide) rfl ?_
  intro p e s m args below meth c s₁ B0 hml hv
  obtain ⟨rfl, hsz, hK, hN⟩ := hv
  have hx := B0.exec
  have hb := B0.bytes
  have hr := B0.returns
  have htw : ∀ w ∈ xW0, w.before [.ref (ad 0), .int x1].toArray s = true := fun w h => atoms_spec (ws := Cond.code y_A_today b_A_today 2 (some .boolean) :: xW0) B0.pre w (List.mem_cons_of_mem _ h)
  have hown : s.vm.findClass R_A = some m.cls := findClass_of_methodNamed B0.named
  have hlocks := B0.notSynchronized
  subst hsz
  have hS : va_S (fun q => B ≤ q) s.heap s.heap [] := va_S.rf
  have hl := lv_entry ([.ref (ad 0), .int x1]) (n := 2) (Nat.le_of_ble_eq_true rfl)
  rw [lg_entry_eq]
  generalize (lg_sl ([.ref (ad 0), .int x1]) ++ List.replicate (2 - (lg_sl ([.ref (ad 0), .int x1])).length) Slot.unset).toArray = ls at hl ⊢
  have hl : lv_has ls 2 [(0, .ref (ad 0)), (1, .int x1)] := hl
  have hH : s.heap = s.heap := rfl
  obtain ⟨r0, r1, r2, r3, r4, r5, r6, r7, rb, rba, rbt, rbo, rs, rss, rr⟩ := id hR
  obtain ⟨hnb, hns, hnr, hpc, hst, hto, htl, hrm, hpa, hwt, hdf, hds⟩ := id hI
  refine lv_iload_n hx hb d_A_today_0 rfl (lv_at hl 1 rfl) ?_
  refine lv_i2l hx hb d_A_today_1 rfl ?_
  refine lv_aload_n hx hb d_A_today_2 rfl (lv_at hl 0 rfl) ?_
  refine xr_get (ci := 0) (v := .int (σ.2.1 0 0)) (C := R_A) (T := T_A) (N := 10) hx hb htw in_A hown hK hw 0 r0 rfl rfl 7 (by decide) (htw _ u_48) (fun _ h9 => h9) rfl d_A_today_3 ?_
  refine lv_i2l hx hb d_A_today_6 rfl ?_
  refine lv_ldc2 (v := 100000) hx hb hown (htw _ u_143) d_A_today_7 ?_
  refine xr_call (va_runS (As := [.long x1.toInt64, .long ((σ.2.1 0 0).toInt64), .long 100000]) (rest := []) ⟨hx, hb, hml, hown, htw⟩ (c_A_isWithin x1.toInt64 ((σ.2.1 0 0).toInt64) 100000) (va_cwS 3 htw (gS u_77 u_78 u_1 u_79) rfl rfl rfl hd_A_isWithin.2 ⟨Nat.le_of_ble_eq_true rfl, Nat.le_of_ble_eq_true rfl⟩) ⟨xP_blind, xP_of hK hN⟩ rfl rfl hl.1 rfl (lv_room (Nat.le_of_ble_eq_true rfl)) d_A_today_10 ⟨by decide, by decide⟩) hS (fun v H_ locs hp hS => ?_)
  obtain ⟨rfl, hHe⟩ := hp
  rw [hHe] at hS ⊢
  refine W.eq (g2 := F0 m 13 ls [.int (bI (xin x1.toInt64 ((σ.2.1 0 0).toInt64) 100000))]) rfl ?_
  refine lv_if_ne (tgt := 18) hx hb d_A_today_13 (by decide) (fun c_1 => ?_) (fun c_1 => ?_)
  · have c_1 : (xin x1.toInt64 ((σ.2.1 0 0).toInt64) 100000) = true := bI_t.mp c_1
    refine lv_aload_n hx hb d_A_today_18 rfl (lv_at hl 0 rfl) ?_
    refine lv_iload_n hx hb d_A_today_19 rfl (lv_at hl 1 rfl) ?_
    refine xr_put (ci := 0) (v := .int x1) (ty := .int) (C := R_A) (T := T_A) (N := 10) hx hb htw in_A ty_A tk_A nm_A hown hK hw hS 0 r0 rfl rfl 7 (by decide) (htw _ u_48) (fun _ h9 => h9) rfl (by decide +kernel) rfl rfl (Nat.le_of_ble_eq_true rfl) d_A_today_20 (fun H locs hw hS => ?_)
    have hw : xw D vwCl B ad (xu w 0 (.inr (0, [.ref (ad 1), .int (nI (σ.1 0)), .ref (ad 2), .int (nI (σ.1 1)), .ref (ad 3), .int (nI (σ.1 2)), .ref (ad 4), .int x1, .int (σ.2.1 0 1), .long (σ.2.2.1 0 0)]))) H := hw
    refine lv_iconst (v := 1) hx hb d_A_today_23 (by decide) ?_
    have hRep : RepX K (pI σ 0 (upd (σ.2.1 0) 0 x1)) ad (xu w 0 (.inr (0, [.ref (ad 1), .int (nI (σ.1 0)), .ref (ad 2), .int (nI (σ.1 1)), .ref (ad 3), .int (nI (σ.1 2)), .ref (ad 4), .int x1, .int (σ.2.1 0 1), .long (σ.2.2.1 0 0)]))) := by
      refine ⟨?_, ?_, ?_, ?_, ?_, ?_, ?_, ?_, ?_, ?_, ?_, ?_, ?_, ?_, ?_⟩
      · simp (disch := omega) only [pN, pI, pL, pZ, row_eq, row_ne, xu_eq, xu_ne, xa_eq, xa_ne, pk_us, pk_un, pk_uLs, pk_uLn, r0]
      · simp (disch := omega) only [pN, pI, pL, pZ, row_eq, row_ne, xu_eq, xu_ne, xa_eq, xa_ne, pk_us, pk_un, pk_uLs, pk_uLn, r1]; try rfl
      · simp (disch := omega) only [pN, pI, pL, pZ, row_eq, row_ne, xu_eq, xu_ne, xa_eq, xa_ne, pk_us, pk_un, pk_uLs, pk_uLn, r2]; try rfl
      · simp (disch := omega) only [pN, pI, pL, pZ, row_eq, row_ne, xu_eq, xu_ne, xa_eq, xa_ne, pk_us, pk_un, pk_uLs, pk_uLn, r3]; try rfl
      · simp (disch := omega) only [pN, pI, pL, pZ, row_eq, row_ne, xu_eq, xu_ne, xa_eq, xa_ne, pk_us, pk_un, pk_uLs, pk_uLn, r4]
      · simp (disch := omega) only [pN, pI, pL, pZ, row_eq, row_ne, xu_eq, xu_ne, xa_eq, xa_ne, pk_us, pk_un, pk_uLs, pk_uLn, r5]
      · simp (disch := omega) only [pN, pI, pL, pZ, row_eq, row_ne, xu_eq, xu_ne, xa_eq, xa_ne, pk_us, pk_un, pk_uLs, pk_uLn, r6]
      · simp (disch := omega) only [pN, pI, pL, pZ, row_eq, row_ne, xu_eq, xu_ne, xa_eq, xa_ne, pk_us, pk_un, pk_uLs, pk_uLn, r7]
      · intro jj hj
        have hj : jj < σ.1 0 := by first | exact hj | simpa (disch := omega) only [pN, pI, pL, pZ, row_eq, row_ne, xu_eq, xu_ne, xa_eq, xa_ne, pk_us, pk_un, pk_uLs, pk_uLn] using hj
        simp (disch := omega) only [pN, pI, pL, pZ, row_eq, row_ne, xu_eq, xu_ne, xa_eq, xa_ne, pk_us, pk_un, pk_uLs, pk_uLn, rb jj hj]
      · intro jj hj
        have hj : jj < σ.1 0 := by first | exact hj | simpa (disch := omega) only [pN, pI, pL, pZ, row_eq, row_ne, xu_eq, xu_ne, xa_eq, xa_ne, pk_us, pk_un, pk_uLs, pk_uLn] using hj
        simp (disch := omega) only [pN, pI, pL, pZ, row_eq, row_ne, xu_eq, xu_ne, xa_eq, xa_ne, pk_us, pk_un, pk_uLs, pk_uLn, rba jj hj]
      · intro jj hj
        have hj : jj < σ.1 0 := by first | exact hj | simpa (disch := omega) only [pN, pI, pL, pZ, row_eq, row_ne, xu_eq, xu_ne, xa_eq, xa_ne, pk_us, pk_un, pk_uLs, pk_uLn] using hj
        simp (disch := omega) only [pN, pI, pL, pZ, row_eq, row_ne, xu_eq, xu_ne, xa_eq, xa_ne, pk_us, pk_un, pk_uLs, pk_uLn, rbt jj hj]
      · intro jj hj
        have hj : jj < σ.1 0 := by first | exact hj | simpa (disch := omega) only [pN, pI, pL, pZ, row_eq, row_ne, xu_eq, xu_ne, xa_eq, xa_ne, pk_us, pk_un, pk_uLs, pk_uLn] using hj
        simp (disch := omega) only [pN, pI, pL, pZ, row_eq, row_ne, xu_eq, xu_ne, xa_eq, xa_ne, pk_us, pk_un, pk_uLs, pk_uLn, rbo jj hj]
      · intro jj hj
        have hj : jj < σ.1 1 := by first | exact hj | simpa (disch := omega) only [pN, pI, pL, pZ, row_eq, row_ne, xu_eq, xu_ne, xa_eq, xa_ne, pk_us, pk_un, pk_uLs, pk_uLn] using hj
        simp (disch := omega) only [pN, pI, pL, pZ, row_eq, row_ne, xu_eq, xu_ne, xa_eq, xa_ne, pk_us, pk_un, pk_uLs, pk_uLn, rs jj hj]
      · intro jj hj
        have hj : jj < σ.1 1 := by first | exact hj | simpa (disch := omega) only [pN, pI, pL, pZ, row_eq, row_ne, xu_eq, xu_ne, xa_eq, xa_ne, pk_us, pk_un, pk_uLs, pk_uLn] using hj
        simp (disch := omega) only [pN, pI, pL, pZ, row_eq, row_ne, xu_eq, xu_ne, xa_eq, xa_ne, pk_us, pk_un, pk_uLs, pk_uLn, rss jj hj]
      · intro jj hj
        have hj : jj < σ.1 2 := by first | exact hj | simpa (disch := omega) only [pN, pI, pL, pZ, row_eq, row_ne, xu_eq, xu_ne, xa_eq, xa_ne, pk_us, pk_un, pk_uLs, pk_uLn] using hj
        simp (disch := omega) only [pN, pI, pL, pZ, row_eq, row_ne, xu_eq, xu_ne, xa_eq, xa_ne, pk_us, pk_un, pk_uLs, pk_uLn, rr jj hj]
    have hf : f_today σ x1 = (pI σ 0 (upd (σ.2.1 0) 0 x1), 1) := by simp [f_today, opt_n, opt_s, c_1]
    exact W.zret (v := 1) hx hb hr (by decide) (fun t ht _ => ⟨_, rfl, by rw [hf, ht]; exact ⟨rfl, _, _, hw, hRep, rfl, fun t h2 => ⟨by simp (disch := omega) only [xu_ne, xa_ne], rfl⟩⟩, hS.F ht⟩) hS.2.2 d_A_today_24
  · have c_1 : (xin x1.toInt64 ((σ.2.1 0 0).toInt64) 100000) = false := bI_f.mp c_1
    refine lv_iconst (v := 0) hx hb d_A_today_16 (by decide) ?_
    have hf : f_today σ x1 = (σ, 0) := by simp [f_today, opt_n, opt_s, c_1]
    exact W.zret (v := 0) hx hb hr (by decide) (fun t ht _ => ⟨_, rfl, by rw [hf, ht]; exact ⟨rfl, PX_same hw hR⟩, hS.F ht⟩) hS.2.2 d_A_today_17
set_option maxHeartbeats 4000000 in
set_option maxRecDepth 100000 in
theorem c_A_tolerance {l : Launch} {D : va_G} {K : Nat → ClassId} {B : Nat} {ad : Nat → Nat} {w : Nat → Option va_E} {H : Heap} {σ : xS} (hR : RepX K σ ad w) (hI : Inv σ) (hw : xw D vwCl B ad w H) (x1 : Int32) : xC l D K B y_A_tolerance b_A_tolerance 2 (some .boolean) rm_A_tolerance [.ref (ad 0), .int x1] H (fun v H1 => v = some (.int (f_tolerance σ x1).2) ∧ PX D K B ad w (f_tolerance σ x1).1 H1) := by
  refine Met.ofW (cc := b_A_tolerance) (maxL := 2) (ret := (some .boolean)) (by decide) rfl ?_
  intro p e s m args below meth c s₁ B0 hml hv
  obtain ⟨rfl, hsz, hK, hN⟩ := hv
  have hx := B0.exec
  have hb := B0.bytes
  have hr := B0.returns
  have htw : ∀ w ∈ xW0, w.before [.ref (ad 0), .int x1].toArray s = true := fun w h => atoms_spec (ws := Cond.code y_A_tolerance b_A_tolerance 2 (some .boolean) :: xW0) B0.pre w (List.mem_cons_of_mem _ h)
  have hown : s.vm.findClass R_A = some m.cls := findClass_of_methodNamed B0.named
  have hlocks := B0.notSynchronized
  subst hsz
  have hS : va_S (fun q => B ≤ q) s.heap s.heap [] := va_S.rf
  have hl := lv_entry ([.ref (ad 0), .int x1]) (n := 2) (Nat.le_of_ble_eq_true rfl)
  rw [lg_entry_eq]
  generalize (lg_sl ([.ref (ad 0), .int x1]) ++ List.replicate (2 - (lg_sl ([.ref (ad 0), .int x1])).length) Slot.unset).toArray = ls at hl ⊢
  have hl : lv_has ls 2 [(0, .ref (ad 0)), (1, .int x1)] := hl
  have hH : s.heap = s.heap := rfl
  obtain ⟨r0, r1, r2, r3, r4, r5, r6, r7, rb, rba, rbt, rbo, rs, rss, rr⟩ := id hR
  obtain ⟨hnb, hns, hnr, hpc, hst, hto, htl, hrm, hpa, hwt, hdf, hds⟩ := id hI
  refine lv_iload_n hx hb d_A_tolerance_0 rfl (lv_at hl 1 rfl) ?_
  refine lv_i2l hx hb d_A_tolerance_1 rfl ?_
  refine lv_lconst (v := 0) hx hb d_A_tolerance_2 (by decide) ?_
  refine lv_ldc2 (v := 1000000) hx hb hown (htw _ u_138) d_A_tolerance_3 ?_
  refine xr_call (va_runS (As := [.long x1.toInt64, .long 0, .long 1000000]) (rest := []) ⟨hx, hb, hml, hown, htw⟩ (c_A_isWithin x1.toInt64 0 1000000) (va_cwS 3 htw (gS u_77 u_78 u_1 u_79) rfl rfl rfl hd_A_isWithin.2 ⟨Nat.le_of_ble_eq_true rfl, Nat.le_of_ble_eq_true rfl⟩) ⟨xP_blind, xP_of hK hN⟩ rfl rfl hl.1 rfl (lv_room (Nat.le_of_ble_eq_true rfl)) d_A_tolerance_6 ⟨by decide, by decide⟩) hS (fun v H_ locs hp hS => ?_)
  obtain ⟨rfl, hHe⟩ := hp
  rw [hHe] at hS ⊢
  refine W.eq (g2 := F0 m 9 ls [.int (bI (xin x1.toInt64 0 1000000))]) rfl ?_
  refine lv_if_ne (tgt := 14) hx hb d_A_tolerance_9 (by decide) (fun c_1 => ?_) (fun c_1 => ?_)
  · have c_1 : (xin x1.toInt64 0 1000000) = true := bI_t.mp c_1
    refine lv_aload_n hx hb d_A_tolerance_14 rfl (lv_at hl 0 rfl) ?_
    refine lv_iload_n hx hb d_A_tolerance_15 rfl (lv_at hl 1 rfl) ?_
    refine xr_put (ci := 0) (v := .int x1) (ty := .int) (C := R_A) (T := T_A) (N := 10) hx hb htw in_A ty_A tk_A nm_A hown hK hw hS 0 r0 rfl rfl 8 (by decide) (htw _ u_49) (fun _ h9 => h9) rfl (by decide +kernel) rfl rfl (Nat.le_of_ble_eq_true rfl) d_A_tolerance_16 (fun H locs hw hS => ?_)
    have hw : xw D vwCl B ad (xu w 0 (.inr (0, [.ref (ad 1), .int (nI (σ.1 0)), .ref (ad 2), .int (nI (σ.1 1)), .ref (ad 3), .int (nI (σ.1 2)), .ref (ad 4), .int (σ.2.1 0 0), .int x1, .long (σ.2.2.1 0 0)]))) H := hw
    refine lv_iconst (v := 1) hx hb d_A_tolerance_19 (by decide) ?_
    have hRep : RepX K (pI σ 0 (upd (σ.2.1 0) 1 x1)) ad (xu w 0 (.inr (0, [.ref (ad 1), .int (nI (σ.1 0)), .ref (ad 2), .int (nI (σ.1 1)), .ref (ad 3), .int (nI (σ.1 2)), .ref (ad 4), .int (σ.2.1 0 0), .int x1, .long (σ.2.2.1 0 0)]))) := by
      refine ⟨?_, ?_, ?_, ?_, ?_, ?_, ?_, ?_, ?_, ?_, ?_, ?_, ?_, ?_, ?_⟩
      · simp (disch := omega) only [pN, pI, pL, pZ, row_eq, row_ne, xu_eq, xu_ne, xa_eq, xa_ne, pk_us, pk_un, pk_uLs, pk_uLn, r0]
      · simp (disch := omega) only [pN, pI, pL, pZ, row_eq, row_ne, xu_eq, xu_ne, xa_eq, xa_ne, pk_us, pk_un, pk_uLs, pk_uLn, r1]; try rfl
      · simp (disch := omega) only [pN, pI, pL, pZ, row_eq, row_ne, xu_eq, xu_ne, xa_eq, xa_ne, pk_us, pk_un, pk_uLs, pk_uLn, r2]; try rfl
      · simp (disch := omega) only [pN, pI, pL, pZ, row_eq, row_ne, xu_eq, xu_ne, xa_eq, xa_ne, pk_us, pk_un, pk_uLs, pk_uLn, r3]; try rfl
      · simp (disch := omega) only [pN, pI, pL, pZ, row_eq, row_ne, xu_eq, xu_ne, xa_eq, xa_ne, pk_us, pk_un, pk_uLs, pk_uLn, r4]
      · simp (disch := omega) only [pN, pI, pL, pZ, row_eq, row_ne, xu_eq, xu_ne, xa_eq, xa_ne, pk_us, pk_un, pk_uLs, pk_uLn, r5]
      · simp (disch := omega) only [pN, pI, pL, pZ, row_eq, row_ne, xu_eq, xu_ne, xa_eq, xa_ne, pk_us, pk_un, pk_uLs, pk_uLn, r6]
      · simp (disch := omega) only [pN, pI, pL, pZ, row_eq, row_ne, xu_eq, xu_ne, xa_eq, xa_ne, pk_us, pk_un, pk_uLs, pk_uLn, r7]
      · intro jj hj
        have hj : jj < σ.1 0 := by first | exact hj | simpa (disch := omega) only [pN, pI, pL, pZ, row_eq, row_ne, xu_eq, xu_ne, xa_eq, xa_ne, pk_us, pk_un, pk_uLs, pk_uLn] using hj
        simp (disch := omega) only [pN, pI, pL, pZ, row_eq, row_ne, xu_eq, xu_ne, xa_eq, xa_ne, pk_us, pk_un, pk_uLs, pk_uLn, rb jj hj]
      · intro jj hj
        have hj : jj < σ.1 0 := by first | exact hj | simpa (disch := omega) only [pN, pI, pL, pZ, row_eq, row_ne, xu_eq, xu_ne, xa_eq, xa_ne, pk_us, pk_un, pk_uLs, pk_uLn] using hj
        simp (disch := omega) only [pN, pI, pL, pZ, row_eq, row_ne, xu_eq, xu_ne, xa_eq, xa_ne, pk_us, pk_un, pk_uLs, pk_uLn, rba jj hj]
      · intro jj hj
        have hj : jj < σ.1 0 := by first | exact hj | simpa (disch := omega) only [pN, pI, pL, pZ, row_eq, row_ne, xu_eq, xu_ne, xa_eq, xa_ne, pk_us, pk_un, pk_uLs, pk_uLn] using hj
        simp (disch := omega) only [pN, pI, pL, pZ, row_eq, row_ne, xu_eq, xu_ne, xa_eq, xa_ne, pk_us, pk_un, pk_uLs, pk_uLn, rbt jj hj]
      · intro jj hj
        have hj : jj < σ.1 0 := by first | exact hj | simpa (disch := omega) only [pN, pI, pL, pZ, row_eq, row_ne, xu_eq, xu_ne, xa_eq, xa_ne, pk_us, pk_un, pk_uLs, pk_uLn] using hj
        simp (disch := omega) only [pN, pI, pL, pZ, row_eq, row_ne, xu_eq, xu_ne, xa_eq, xa_ne, pk_us, pk_un, pk_uLs, pk_uLn, rbo jj hj]
      · intro jj hj
        have hj : jj < σ.1 1 := by first | exact hj | simpa (disch := omega) only [pN, pI, pL, pZ, row_eq, row_ne, xu_eq, xu_ne, xa_eq, xa_ne, pk_us, pk_un, pk_uLs, pk_uLn] using hj
        simp (disch := omega) only [pN, pI, pL, pZ, row_eq, row_ne, xu_eq, xu_ne, xa_eq, xa_ne, pk_us, pk_un, pk_uLs, pk_uLn, rs jj hj]
      · intro jj hj
        have hj : jj < σ.1 1 := by first | exact hj | simpa (disch := omega) only [pN, pI, pL, pZ, row_eq, row_ne, xu_eq, xu_ne, xa_eq, xa_ne, pk_us, pk_un, pk_uLs, pk_uLn] using hj
        simp (disch := omega) only [pN, pI, pL, pZ, row_eq, row_ne, xu_eq, xu_ne, xa_eq, xa_ne, pk_us, pk_un, pk_uLs, pk_uLn, rss jj hj]
      · intro jj hj
        have hj : jj < σ.1 2 := by first | exact hj | simpa (disch := omega) only [pN, pI, pL, pZ, row_eq, row_ne, xu_eq, xu_ne, xa_eq, xa_ne, pk_us, pk_un, pk_uLs, pk_uLn] using hj
        simp (disch := omega) only [pN, pI, pL, pZ, row_eq, row_ne, xu_eq, xu_ne, xa_eq, xa_ne, pk_us, pk_un, pk_uLs, pk_uLn, rr jj hj]
    have hf : f_tolerance σ x1 = (pI σ 0 (upd (σ.2.1 0) 1 x1), 1) := by simp [f_tolerance, opt_n, opt_s, c_1]
    exact W.zret (v := 1) hx hb hr (by decide) (fun t ht _ => ⟨_, rfl, by rw [hf, ht]; exact ⟨rfl, _, _, hw, hRep, rfl, fun t h2 => ⟨by simp (disch := omega) only [xu_ne, xa_ne], rfl⟩⟩, hS.F ht⟩) hS.2.2 d_A_tolerance_20
  · have c_1 : (xin x1.toInt64 0 1000000) = false := bI_f.mp c_1
    refine lv_iconst (v := 0) hx hb d_A_tolerance_12 (by decide) ?_
    have hf : f_tolerance σ x1 = (σ, 0) := by simp [f_tolerance, opt_n, opt_s, c_1]
    exact W.zret (v := 0) hx hb hr (by decide) (fun t ht _ => ⟨_, rfl, by rw [hf, ht]; exact ⟨rfl, PX_same hw hR⟩, hS.F ht⟩) hS.2.2 d_A_tolerance_13
set_option maxHeartbeats 4000000 in
set_option maxRecDepth 100000 in
theorem c_A_parts {l : Launch} {D : va_G} {K : Nat → ClassId} {B : Nat} {ad : Nat → Nat} {w : Nat → Option va_E} {H : Heap} {σ : xS} (hR : RepX K σ ad w) (hI : Inv σ) (hw : xw D vwCl B ad w H) (x1 x2 x3 : Int32) : xC l D K B y_A_parts b_A_parts 5 (some .boolean) rm_A_parts [.ref (ad 0), .int x1, .int x2, .int x3] H (fun v H1 => v = some (.int (f_parts σ x1 x2 x3).2) ∧ PX D K B ad w (f_parts σ x1 x2 x3).1 H1) := by
  refine Met.ofW (cc := b_A_parts) (maxL := 5) (ret := (some .boolean)) (by decide) rfl ?_
  intro p e s m args below meth c s₁ B0 hml hv
  obtain ⟨rfl, hsz, hK, hN⟩ := hv
  have hx := B0.exec
  have hb := B0.bytes
  have hr := B0.returns
  have htw : ∀ w ∈ xW0, w.before [.ref (ad 0), .int x1, .int x2, .int x3].toArray s = true := fun w h => atoms_spec (ws := Cond.code y_A_parts b_A_parts 5 (some .boolean) :: xW0) B0.pre w (List.mem_cons_of_mem _ h)
  have hown : s.vm.findClass R_A = some m.cls := findClass_of_methodNamed B0.named
  have hlocks := B0.notSynchronized
  subst hsz
  have hS : va_S (fun q => B ≤ q) s.heap s.heap [] := va_S.rf
  have hl := lv_entry ([.ref (ad 0), .int x1, .int x2, .int x3]) (n := 5) (Nat.le_of_ble_eq_true rfl)
  rw [lg_entry_eq]
  generalize (lg_sl ([.ref (ad 0), .int x1, .int x2, .int x3]) ++ List.replicate (5 - (lg_sl ([.ref (ad 0), .int x1, .int x2, .int x3])).length) Slot.unset).toArray = ls at hl ⊢
  have hl : lv_has ls 5 [(0, .ref (ad 0)), (1, .int x1), (2, .int x2), (3, .int x3)] := hl
  have hH : s.heap = s.heap := rfl
  obtain ⟨r0, r1, r2, r3, r4, r5, r6, r7, rb, rba, rbt, rbo, rs, rss, rr⟩ := id hR
  obtain ⟨hnb, hns, hnr, hpc, hst, hto, htl, hrm, hpa, hwt, hdf, hds⟩ := id hI
  refine lv_aload_n hx hb d_A_parts_0 rfl (lv_at hl 0 rfl) ?_
  refine lv_iload_n hx hb d_A_parts_1 rfl (lv_at hl 1 rfl) ?_
  refine xr_call (va_runV (As := [.int x1]) (rest := []) ⟨hx, hb, hml, hown, htw⟩ (c_A_batchAt (ad := ad) hR hnb hns hw x1) (cwV 1 htw (gV u_131 u_133 us_1 u_1 u_134) rfl rfl rfl hd_A_batchAt ⟨Nat.le_of_ble_eq_true rfl, Nat.le_of_ble_eq_true rfl⟩) ⟨xP_blind, hw.recv hK (ci := 0) (t := 0) rfl r0 rfl, xP_of hK hN⟩ rfl rfl hl.1 rfl (lv_room (Nat.le_of_ble_eq_true rfl)) d_A_parts_2 ⟨by decide, by decide⟩) hS (fun v H_ locs hp hS => ?_)
  obtain ⟨hHe, hp⟩ := hp
  rw [hHe] at hS ⊢
  rcases hp with ⟨f2, rfl⟩ | ⟨i1, hi1, rfl, rfl⟩
  · refine W.eq (g2 := F0 m 5 ls [.null]) rfl ?_
    refine lv_astoreN (lv' := [(4, .null), (0, .ref (ad 0)), (1, .int x1), (2, .int x2), (3, .int x3)]) hx hb d_A_parts_5 hl (by decide) rfl (fun ls hl => ?_)
    refine lv_aloadN hx hb d_A_parts_7 (lv_at hl 0 rfl) ?_
    refine lv_ifnullN (tgt := 36) hx hb d_A_parts_9 (by decide) ?_
    refine lv_iconst (v := 0) hx hb d_A_parts_36 (by decide) ?_
    have hf : f_parts σ x1 x2 x3 = (σ, 0) := by simp [f_parts, opt_n, opt_s, f2]
    exact W.zret (v := 0) hx hb hr (by decide) (fun t ht _ => ⟨_, rfl, by rw [hf, ht]; exact ⟨rfl, PX_same hw hR⟩, hS.F ht⟩) hS.2.2 d_A_parts_37
  · have fi1 : xi (σ.1 0) (nI i1) = some i1 := xi_nI hi1 (by omega)
    refine W.eq (g2 := F0 m 5 ls [.ref (ad (100 + i1))]) rfl ?_
    refine lv_astore (lv' := [(4, .ref (ad (100 + i1))), (0, .ref (ad 0)), (1, .int (nI i1)), (2, .int x2), (3, .int x3)]) hx hb d_A_parts_5 hl (by decide) rfl (fun ls hl => ?_)
    refine lv_aload hx hb d_A_parts_7 (lv_at hl 0 rfl) ?_
    refine lv_ifnull hx hb d_A_parts_9 ?_
    refine lv_aload hx hb d_A_parts_12 (lv_at hl 0 rfl) ?_
    refine xr_get (ci := 1) (v := .int (bI (σ.2.2.2 2 i1))) (C := R_B) (T := T_B) (N := 9) hx hb htw in_B hown hK hw (100 + i1) (rb i1 hi1) rfl rfl 7 (by decide) (htw _ u_102) (fun _ h9 => h9) rfl d_A_parts_14 ?_
    refine lv_if_ne (tgt := 36) hx hb d_A_parts_17 (by decide) (fun c_3 => ?_) (fun c_3 => ?_)
    · have c_3 : (σ.2.2.2 2 i1) = true := bI_t.mp c_3
      refine lv_iconst (v := 0) hx hb d_A_parts_36 (by decide) ?_
      have hf : f_parts σ (nI i1) x2 x3 = (σ, 0) := by simp [f_parts, opt_n, opt_s, fi1, c_3]
      exact W.zret (v := 0) hx hb hr (by decide) (fun t ht _ => ⟨_, rfl, by rw [hf, ht]; exact ⟨rfl, PX_same hw hR⟩, hS.F ht⟩) hS.2.2 d_A_parts_37
    · have c_3 : (σ.2.2.2 2 i1) = false := bI_f.mp c_3
      refine lv_aload hx hb d_A_parts_20 (lv_at hl 0 rfl) ?_
      refine xr_get (ci := 1) (v := .int (bI (σ.2.2.2 1 i1))) (C := R_B) (T := T_B) (N := 9) hx hb htw in_B hown hK hw (100 + i1) (rb i1 hi1) rfl rfl 6 (by decide) (htw _ u_101) (fun _ h9 => h9) rfl d_A_parts_22 ?_
      refine lv_if_ne (tgt := 36) hx hb d_A_parts_25 (by decide) (fun c_4 => ?_) (fun c_4 => ?_)
      · have c_4 : (σ.2.2.2 1 i1) = true := bI_t.mp c_4
        refine lv_iconst (v := 0) hx hb d_A_parts_36 (by decide) ?_
        have hf : f_parts σ (nI i1) x2 x3 = (σ, 0) := by simp [f_parts, opt_n, opt_s, fi1, c_3, c_4]
        exact W.zret (v := 0) hx hb hr (by decide) (fun t ht _ => ⟨_, rfl, by rw [hf, ht]; exact ⟨rfl, PX_same hw hR⟩, hS.F ht⟩) hS.2.2 d_A_parts_37
      · have c_4 : (σ.2.2.2 1 i1) = false := bI_f.mp c_4
        refine lv_aload hx hb d_A_parts_28 (lv_at hl 0 rfl) ?_
        refine xr_get (ci := 1) (v := .int (bI (σ.2.2.2 0 i1))) (C := R_B) (T := T_B) (N := 9) hx hb htw in_B hown hK hw (100 + i1) (rb i1 hi1) rfl rfl 1 (by decide) (htw _ u_92) (fun _ h9 => h9) rfl d_A_parts_30 ?_
        refine lv_if_eq (tgt := 38) hx hb d_A_parts_33 (by decide) (fun c_5 => ?_) (fun c_5 => ?_)
        · have c_5 : (σ.2.2.2 0 i1) = false := bI_f.mp c_5
          refine lv_iload_n hx hb d_A_parts_38 rfl (lv_at hl 3 rfl) ?_
          refine xr_call (va_runS (As := [.int x2]) (rest := []) ⟨hx, hb, hml, hown, htw⟩ (c_A_isMetal x2) (va_cwS 1 htw (gS u_135 u_136 u_1 u_137) rfl rfl rfl hd_A_isMetal.2 ⟨Nat.le_of_ble_eq_true rfl, Nat.le_of_ble_eq_true rfl⟩) ⟨xP_blind, xP_of hK hN⟩ rfl rfl hl.1 rfl (lv_room (Nat.le_of_ble_eq_true rfl)) d_A_parts_39 ⟨by decide, by decide⟩) hS (fun v H_ locs hp hS => ?_)
          obtain ⟨rfl, hHe⟩ := hp
          rw [hHe] at hS ⊢
          refine W.eq (g2 := F0 m 42 ls [.int (bI (xm x2))]) rfl ?_
          refine lv_if_eq (tgt := 57) hx hb d_A_parts_42 (by decide) (fun c_6 => ?_) (fun c_6 => ?_)
          · have c_6 : (xm x2) = false := bI_f.mp c_6
            have f7 : xi 4 x2 = none := xm_xi c_6
            refine lv_iconst (v := 0) hx hb d_A_parts_57 (by decide) ?_
            have hf : f_parts σ (nI i1) x2 x3 = (σ, 0) := by simp [f_parts, opt_n, opt_s, fi1, f7, c_3, c_4, c_5, c_6]
            exact W.zret (v := 0) hx hb hr (by decide) (fun t ht _ => ⟨_, rfl, by rw [hf, ht]; exact ⟨rfl, PX_same hw hR⟩, hS.F ht⟩) hS.2.2 d_A_parts_58
          · have c_6 : (xm x2) = true := bI_t.mp c_6
            obtain ⟨k8, hk8, rfl⟩ := xm_of c_6
            have xk8 : xi 4 (nI k8) = some k8 := xi_nI hk8 (by decide)
            refine lv_iload_n hx hb d_A_parts_45 rfl (lv_at hl 4 rfl) ?_
            refine lv_i2l hx hb d_A_parts_46 rfl ?_
            refine lv_lconst (v := 0) hx hb d_A_parts_47 (by decide) ?_
            refine lv_ldc2 (v := 1000000) hx hb hown (htw _ u_138) d_A_parts_48 ?_
            refine xr_call (va_runS (As := [.long x3.toInt64, .long 0, .long 1000000]) (rest := []) ⟨hx, hb, hml, hown, htw⟩ (c_A_isWithin x3.toInt64 0 1000000) (va_cwS 3 htw (gS u_77 u_78 u_1 u_79) rfl rfl rfl hd_A_isWithin.2 ⟨Nat.le_of_ble_eq_true rfl, Nat.le_of_ble_eq_true rfl⟩) ⟨xP_blind, xP_of hK hN⟩ rfl rfl hl.1 rfl (lv_room (Nat.le_of_ble_eq_true rfl)) d_A_parts_51 ⟨by decide, by decide⟩) hS (fun v H_ locs hp hS => ?_)
            obtain ⟨rfl, hHe⟩ := hp
            rw [hHe] at hS ⊢
            refine W.eq (g2 := F0 m 54 ls [.int (bI (xin x3.toInt64 0 1000000))]) rfl ?_
            refine lv_if_ne (tgt := 59) hx hb d_A_parts_54 (by decide) (fun c_9 => ?_) (fun c_9 => ?_)
            · have c_9 : (xin x3.toInt64 0 1000000) = true := bI_t.mp c_9
              refine lv_aload hx hb d_A_parts_59 (lv_at hl 0 rfl) ?_
              refine xr_get (ci := 1) (v := .ref (ad (110 + i1))) (C := R_B) (T := T_B) (N := 9) hx hb htw in_B hown hK hw (100 + i1) (rb i1 hi1) rfl rfl 2 (by decide) (htw _ u_94) (fun _ h9 => h9) rfl d_A_parts_61 ?_
              refine lv_iload_n hx hb d_A_parts_64 rfl (lv_at hl 3 rfl) ?_
              refine lv_aload hx hb d_A_parts_65 (lv_at hl 0 rfl) ?_
              refine xr_get (ci := 1) (v := .long (σ.2.2.1 1 i1)) (C := R_B) (T := T_B) (N := 9) hx hb htw in_B hown hK hw (100 + i1) (rb i1 hi1) rfl rfl 5 (by decide) (htw _ u_100) (fun _ h9 => h9) rfl d_A_parts_67 ?_
              refine lv_iload_n hx hb d_A_parts_70 rfl (lv_at hl 4 rfl) ?_
              refine lv_i2l hx hb d_A_parts_71 rfl ?_
              refine lv_lmul hx hb d_A_parts_72 ?_
              refine xr_last (i := nI k8) hx hb hK hw hS (110 + i1) 1 (rba i1 hi1) rfl rfl (xvin (a := k8) rfl (by omega) (by omega)) d_A_parts_73 (fun H locs hw hS => ?_)
              rw [show (nI k8).toNatClampNeg = k8 from xcl (a := k8) rfl (by omega)] at hw
              have hw : xw D vwCl B ad (xu w (110 + i1) (.inl (K 1, 4, .inr (.inl (vp_updL (σ.2.2.1 (10 + i1)) k8 ((σ.2.2.1 1 i1) * x3.toInt64)))))) H := hw
              refine lv_iconst (v := 1) hx hb d_A_parts_74 (by decide) ?_
              have hRep : RepX K (pL σ (10 + i1) (vp_updL (σ.2.2.1 (10 + i1)) k8 (σ.2.2.1 1 i1 * x3.toInt64))) ad (xu w (110 + i1) (.inl (K 1, 4, .inr (.inl (vp_updL (σ.2.2.1 (10 + i1)) k8 ((σ.2.2.1 1 i1) * x3.toInt64)))))) := by
                refine ⟨?_, ?_, ?_, ?_, ?_, ?_, ?_, ?_, ?_, ?_, ?_, ?_, ?_, ?_, ?_⟩
                · simp (disch := omega) only [pN, pI, pL, pZ, row_eq, row_ne, xu_eq, xu_ne, xa_eq, xa_ne, pk_us, pk_un, pk_uLs, pk_uLn, r0]
                · simp (disch := omega) only [pN, pI, pL, pZ, row_eq, row_ne, xu_eq, xu_ne, xa_eq, xa_ne, pk_us, pk_un, pk_uLs, pk_uLn, r1]; try rfl
                · simp (disch := omega) only [pN, pI, pL, pZ, row_eq, row_ne, xu_eq, xu_ne, xa_eq, xa_ne, pk_us, pk_un, pk_uLs, pk_uLn, r2]; try rfl
                · simp (disch := omega) only [pN, pI, pL, pZ, row_eq, row_ne, xu_eq, xu_ne, xa_eq, xa_ne, pk_us, pk_un, pk_uLs, pk_uLn, r3]; try rfl
                · simp (disch := omega) only [pN, pI, pL, pZ, row_eq, row_ne, xu_eq, xu_ne, xa_eq, xa_ne, pk_us, pk_un, pk_uLs, pk_uLn, r4]
                · simp (disch := omega) only [pN, pI, pL, pZ, row_eq, row_ne, xu_eq, xu_ne, xa_eq, xa_ne, pk_us, pk_un, pk_uLs, pk_uLn, r5]
                · simp (disch := omega) only [pN, pI, pL, pZ, row_eq, row_ne, xu_eq, xu_ne, xa_eq, xa_ne, pk_us, pk_un, pk_uLs, pk_uLn, r6]
                · simp (disch := omega) only [pN, pI, pL, pZ, row_eq, row_ne, xu_eq, xu_ne, xa_eq, xa_ne, pk_us, pk_un, pk_uLs, pk_uLn, r7]
                · intro jj hj
                  have hj : jj < σ.1 0 := by first | exact hj | simpa (disch := omega) only [pN, pI, pL, pZ, row_eq, row_ne, xu_eq, xu_ne, xa_eq, xa_ne, pk_us, pk_un, pk_uLs, pk_uLn] using hj
                  simp (disch := omega) only [pN, pI, pL, pZ, row_eq, row_ne, xu_eq, xu_ne, xa_eq, xa_ne, pk_us, pk_un, pk_uLs, pk_uLn, rb jj hj]
                · intro jj hj
                  have hj : jj < σ.1 0 := by first | exact hj | simpa (disch := omega) only [pN, pI, pL, pZ, row_eq, row_ne, xu_eq, xu_ne, xa_eq, xa_ne, pk_us, pk_un, pk_uLs, pk_uLn] using hj
                  by_cases ej : jj = i1
                  · rw [ej]; simp (disch := omega) only [pN, pI, pL, pZ, row_eq, row_ne, xu_eq, xu_ne, xa_eq, xa_ne, pk_us, pk_un, pk_uLs, pk_uLn, rba i1 (by omega)]
                  · simp (disch := omega) only [pN, pI, pL, pZ, row_eq, row_ne, xu_eq, xu_ne, xa_eq, xa_ne, pk_us, pk_un, pk_uLs, pk_uLn, rba jj (by omega)]
                · intro jj hj
                  have hj : jj < σ.1 0 := by first | exact hj | simpa (disch := omega) only [pN, pI, pL, pZ, row_eq, row_ne, xu_eq, xu_ne, xa_eq, xa_ne, pk_us, pk_un, pk_uLs, pk_uLn] using hj
                  simp (disch := omega) only [pN, pI, pL, pZ, row_eq, row_ne, xu_eq, xu_ne, xa_eq, xa_ne, pk_us, pk_un, pk_uLs, pk_uLn, rbt jj hj]
                · intro jj hj
                  have hj : jj < σ.1 0 := by first | exact hj | simpa (disch := omega) only [pN, pI, pL, pZ, row_eq, row_ne, xu_eq, xu_ne, xa_eq, xa_ne, pk_us, pk_un, pk_uLs, pk_uLn] using hj
                  simp (disch := omega) only [pN, pI, pL, pZ, row_eq, row_ne, xu_eq, xu_ne, xa_eq, xa_ne, pk_us, pk_un, pk_uLs, pk_uLn, rbo jj hj]
                · intro jj hj
                  have hj : jj < σ.1 1 := by first | exact hj | simpa (disch := omega) only [pN, pI, pL, pZ, row_eq, row_ne, xu_eq, xu_ne, xa_eq, xa_ne, pk_us, pk_un, pk_uLs, pk_uLn] using hj
                  simp (disch := omega) only [pN, pI, pL, pZ, row_eq, row_ne, xu_eq, xu_ne, xa_eq, xa_ne, pk_us, pk_un, pk_uLs, pk_uLn, rs jj hj]
                · intro jj hj
                  have hj : jj < σ.1 1 := by first | exact hj | simpa (disch := omega) only [pN, pI, pL, pZ, row_eq, row_ne, xu_eq, xu_ne, xa_eq, xa_ne, pk_us, pk_un, pk_uLs, pk_uLn] using hj
                  simp (disch := omega) only [pN, pI, pL, pZ, row_eq, row_ne, xu_eq, xu_ne, xa_eq, xa_ne, pk_us, pk_un, pk_uLs, pk_uLn, rss jj hj]
                · intro jj hj
                  have hj : jj < σ.1 2 := by first | exact hj | simpa (disch := omega) only [pN, pI, pL, pZ, row_eq, row_ne, xu_eq, xu_ne, xa_eq, xa_ne, pk_us, pk_un, pk_uLs, pk_uLn] using hj
                  simp (disch := omega) only [pN, pI, pL, pZ, row_eq, row_ne, xu_eq, xu_ne, xa_eq, xa_ne, pk_us, pk_un, pk_uLs, pk_uLn, rr jj hj]
              have hf : f_parts σ (nI i1) (nI k8) x3 = (pL σ (10 + i1) (vp_updL (σ.2.2.1 (10 + i1)) k8 (σ.2.2.1 1 i1 * x3.toInt64)), 1) := by simp [f_parts, opt_n, opt_s, fi1, xk8, c_3, c_4, c_5, c_6, c_9]
              exact W.zret (v := 1) hx hb hr (by decide) (fun t ht _ => ⟨_, rfl, by rw [hf, ht]; exact ⟨rfl, _, _, hw, hRep, rfl, fun t h2 => ⟨by simp (disch := omega) only [xu_ne, xa_ne], rfl⟩⟩, hS.F ht⟩) hS.2.2 d_A_parts_75
            · have c_9 : (xin x3.toInt64 0 1000000) = false := bI_f.mp c_9
              refine lv_iconst (v := 0) hx hb d_A_parts_57 (by decide) ?_
              have hf : f_parts σ (nI i1) (nI k8) x3 = (σ, 0) := by simp [f_parts, opt_n, opt_s, fi1, xk8, c_3, c_4, c_5, c_6, c_9]
              exact W.zret (v := 0) hx hb hr (by decide) (fun t ht _ => ⟨_, rfl, by rw [hf, ht]; exact ⟨rfl, PX_same hw hR⟩, hS.F ht⟩) hS.2.2 d_A_parts_58
        · have c_5 : (σ.2.2.2 0 i1) = true := bI_t.mp c_5
          refine lv_iconst (v := 0) hx hb d_A_parts_36 (by decide) ?_
          have hf : f_parts σ (nI i1) x2 x3 = (σ, 0) := by simp [f_parts, opt_n, opt_s, fi1, c_3, c_4, c_5]
          exact W.zret (v := 0) hx hb hr (by decide) (fun t ht _ => ⟨_, rfl, by rw [hf, ht]; exact ⟨rfl, PX_same hw hR⟩, hS.F ht⟩) hS.2.2 d_A_parts_37
set_option maxHeartbeats 4000000 in
set_option maxRecDepth 100000 in
theorem c_A_assay {l : Launch} {D : va_G} {K : Nat → ClassId} {B : Nat} {ad : Nat → Nat} {w : Nat → Option va_E} {H : Heap} {σ : xS} (hR : RepX K σ ad w) (hI : Inv σ) (hw : xw D vwCl B ad w H) (x1 x2 x3 x4 : Int32) : xC l D K B y_A_assay b_A_assay 6 (some .boolean) rm_A_assay [.ref (ad 0), .int x1, .int x2, .int x3, .int x4] H (fun v H1 => v = some (.int (f_assay σ x1 x2 x3 x4).2) ∧ PX D K B ad w (f_assay σ x1 x2 x3 x4).1 H1) := by
  refine Met.ofW (cc := b_A_assay) (maxL := 6) (ret := (some .boolean)) (by decide) rfl ?_
  intro p e s m args below meth c s₁ B0 hml hv
  obtain ⟨rfl, hsz, hK, hN⟩ := hv
  have hx := B0.exec
  have hb := B0.bytes
  have hr := B0.returns
  have htw : ∀ w ∈ xW0, w.before [.ref (ad 0), .int x1, .int x2, .int x3, .int x4].toArray s = true := fun w h => atoms_spec (ws := Cond.code y_A_assay b_A_assay 6 (some .boolean) :: xW0) B0.pre w (List.mem_cons_of_mem _ h)
  have hown : s.vm.findClass R_A = some m.cls := findClass_of_methodNamed B0.named
  have hlocks := B0.notSynchronized
  subst hsz
  have hS : va_S (fun q => B ≤ q) s.heap s.heap [] := va_S.rf
  have hl := lv_entry ([.ref (ad 0), .int x1, .int x2, .int x3, .int x4]) (n := 6) (Nat.le_of_ble_eq_true rfl)
  rw [lg_entry_eq]
  generalize (lg_sl ([.ref (ad 0), .int x1, .int x2, .int x3, .int x4]) ++ List.replicate (6 - (lg_sl ([.ref (ad 0), .int x1, .int x2, .int x3, .int x4])).length) Slot.unset).toArray = ls at hl ⊢
  have hl : lv_has ls 6 [(0, .ref (ad 0)), (1, .int x1), (2, .int x2), (3, .int x3), (4, .int x4)] := hl
  have hH : s.heap = s.heap := rfl
  obtain ⟨r0, r1, r2, r3, r4, r5, r6, r7, rb, rba, rbt, rbo, rs, rss, rr⟩ := id hR
  obtain ⟨hnb, hns, hnr, hpc, hst, hto, htl, hrm, hpa, hwt, hdf, hds⟩ := id hI
  refine lv_aload_n hx hb d_A_assay_0 rfl (lv_at hl 0 rfl) ?_
  refine lv_iload_n hx hb d_A_assay_1 rfl (lv_at hl 1 rfl) ?_
  refine xr_call (va_runV (As := [.int x1]) (rest := []) ⟨hx, hb, hml, hown, htw⟩ (c_A_batchAt (ad := ad) hR hnb hns hw x1) (cwV 1 htw (gV u_131 u_133 us_1 u_1 u_134) rfl rfl rfl hd_A_batchAt ⟨Nat.le_of_ble_eq_true rfl, Nat.le_of_ble_eq_true rfl⟩) ⟨xP_blind, hw.recv hK (ci := 0) (t := 0) rfl r0 rfl, xP_of hK hN⟩ rfl rfl hl.1 rfl (lv_room (Nat.le_of_ble_eq_true rfl)) d_A_assay_2 ⟨by decide, by decide⟩) hS (fun v H_ locs hp hS => ?_)
  obtain ⟨hHe, hp⟩ := hp
  rw [hHe] at hS ⊢
  rcases hp with ⟨f2, rfl⟩ | ⟨i1, hi1, rfl, rfl⟩
  · refine W.eq (g2 := F0 m 5 ls [.null]) rfl ?_
    refine lv_astoreN (lv' := [(5, .null), (0, .ref (ad 0)), (1, .int x1), (2, .int x2), (3, .int x3), (4, .int x4)]) hx hb d_A_assay_5 hl (by decide) rfl (fun ls hl => ?_)
    refine lv_aloadN hx hb d_A_assay_7 (lv_at hl 0 rfl) ?_
    refine lv_ifnullN (tgt := 27) hx hb d_A_assay_9 (by decide) ?_
    refine lv_iconst (v := 0) hx hb d_A_assay_27 (by decide) ?_
    have hf : f_assay σ x1 x2 x3 x4 = (σ, 0) := by simp [f_assay, opt_n, opt_s, f2]
    exact W.zret (v := 0) hx hb hr (by decide) (fun t ht _ => ⟨_, rfl, by rw [hf, ht]; exact ⟨rfl, PX_same hw hR⟩, hS.F ht⟩) hS.2.2 d_A_assay_28
  · have fi1 : xi (σ.1 0) (nI i1) = some i1 := xi_nI hi1 (by omega)
    refine W.eq (g2 := F0 m 5 ls [.ref (ad (100 + i1))]) rfl ?_
    refine lv_astore (lv' := [(5, .ref (ad (100 + i1))), (0, .ref (ad 0)), (1, .int (nI i1)), (2, .int x2), (3, .int x3), (4, .int x4)]) hx hb d_A_assay_5 hl (by decide) rfl (fun ls hl => ?_)
    refine lv_aload hx hb d_A_assay_7 (lv_at hl 0 rfl) ?_
    refine lv_ifnull hx hb d_A_assay_9 ?_
    refine lv_aload hx hb d_A_assay_12 (lv_at hl 0 rfl) ?_
    refine xr_get (ci := 1) (v := .int (bI (σ.2.2.2 2 i1))) (C := R_B) (T := T_B) (N := 9) hx hb htw in_B hown hK hw (100 + i1) (rb i1 hi1) rfl rfl 7 (by decide) (htw _ u_102) (fun _ h9 => h9) rfl d_A_assay_14 ?_
    refine lv_if_ne (tgt := 27) hx hb d_A_assay_17 (by decide) (fun c_3 => ?_) (fun c_3 => ?_)
    · have c_3 : (σ.2.2.2 2 i1) = true := bI_t.mp c_3
      refine lv_iconst (v := 0) hx hb d_A_assay_27 (by decide) ?_
      have hf : f_assay σ (nI i1) x2 x3 x4 = (σ, 0) := by simp [f_assay, opt_n, opt_s, fi1, c_3]
      exact W.zret (v := 0) hx hb hr (by decide) (fun t ht _ => ⟨_, rfl, by rw [hf, ht]; exact ⟨rfl, PX_same hw hR⟩, hS.F ht⟩) hS.2.2 d_A_assay_28
    · have c_3 : (σ.2.2.2 2 i1) = false := bI_f.mp c_3
      refine lv_iload_n hx hb d_A_assay_20 rfl (lv_at hl 4 rfl) ?_
      refine xr_call (va_runS (As := [.int x3]) (rest := []) ⟨hx, hb, hml, hown, htw⟩ (c_A_isMetal x3) (va_cwS 1 htw (gS u_135 u_136 u_1 u_137) rfl rfl rfl hd_A_isMetal.2 ⟨Nat.le_of_ble_eq_true rfl, Nat.le_of_ble_eq_true rfl⟩) ⟨xP_blind, xP_of hK hN⟩ rfl rfl hl.1 rfl (lv_room (Nat.le_of_ble_eq_true rfl)) d_A_assay_21 ⟨by decide, by decide⟩) hS (fun v H_ locs hp hS => ?_)
      obtain ⟨rfl, hHe⟩ := hp
      rw [hHe] at hS ⊢
      refine W.eq (g2 := F0 m 24 ls [.int (bI (xm x3))]) rfl ?_
      refine lv_if_ne (tgt := 29) hx hb d_A_assay_24 (by decide) (fun c_4 => ?_) (fun c_4 => ?_)
      · have c_4 : (xm x3) = true := bI_t.mp c_4
        obtain ⟨k5, hk5, rfl⟩ := xm_of c_4
        have xk5 : xi 4 (nI k5) = some k5 := xi_nI hk5 (by decide)
        refine lv_iload_n hx hb d_A_assay_29 rfl (lv_at hl 3 rfl) ?_
        refine lv_i2l hx hb d_A_assay_30 rfl ?_
        refine lv_lconst (v := 0) hx hb d_A_assay_31 (by decide) ?_
        refine lv_ldc2 (v := 2) hx hb hown (htw _ u_245) d_A_assay_32 ?_
        refine xr_call (va_runS (As := [.long x2.toInt64, .long 0, .long 2]) (rest := []) ⟨hx, hb, hml, hown, htw⟩ (c_A_isWithin x2.toInt64 0 2) (va_cwS 3 htw (gS u_77 u_78 u_1 u_79) rfl rfl rfl hd_A_isWithin.2 ⟨Nat.le_of_ble_eq_true rfl, Nat.le_of_ble_eq_true rfl⟩) ⟨xP_blind, xP_of hK hN⟩ rfl rfl hl.1 rfl (lv_room (Nat.le_of_ble_eq_true rfl)) d_A_assay_35 ⟨by decide, by decide⟩) hS (fun v H_ locs hp hS => ?_)
        obtain ⟨rfl, hHe⟩ := hp
        rw [hHe] at hS ⊢
        refine W.eq (g2 := F0 m 38 ls [.int (bI (xin x2.toInt64 0 2))]) rfl ?_
        refine lv_if_eq (tgt := 54) hx hb d_A_assay_38 (by decide) (fun c_6 => ?_) (fun c_6 => ?_)
        · have c_6 : (xin x2.toInt64 0 2) = false := bI_f.mp c_6
          have f7 : xi 3 x2 = none := xin_xi c_6
          refine lv_iconst (v := 0) hx hb d_A_assay_54 (by decide) ?_
          have hf : f_assay σ (nI i1) x2 (nI k5) x4 = (σ, 0) := by simp [f_assay, opt_n, opt_s, fi1, xk5, f7, c_3, c_4, c_6]
          exact W.zret (v := 0) hx hb hr (by decide) (fun t ht _ => ⟨_, rfl, by rw [hf, ht]; exact ⟨rfl, PX_same hw hR⟩, hS.F ht⟩) hS.2.2 d_A_assay_55
        · have c_6 : (xin x2.toInt64 0 2) = true := bI_t.mp c_6
          obtain ⟨j8, hj8, rfl⟩ := xin_of c_6
          have xj8 : xi 3 (nI j8) = some j8 := xi_nI hj8 (by decide)
          refine lv_iload hx hb d_A_assay_41 (lv_at hl 5 rfl) ?_
          refine lv_i2l hx hb d_A_assay_43 rfl ?_
          refine lv_lconst (v := 0) hx hb d_A_assay_44 (by decide) ?_
          refine lv_ldc2 (v := 1000000) hx hb hown (htw _ u_138) d_A_assay_45 ?_
          refine xr_call (va_runS (As := [.long x4.toInt64, .long 0, .long 1000000]) (rest := []) ⟨hx, hb, hml, hown, htw⟩ (c_A_isWithin x4.toInt64 0 1000000) (va_cwS 3 htw (gS u_77 u_78 u_1 u_79) rfl rfl rfl hd_A_isWithin.2 ⟨Nat.le_of_ble_eq_true rfl, Nat.le_of_ble_eq_true rfl⟩) ⟨xP_blind, xP_of hK hN⟩ rfl rfl hl.1 rfl (lv_room (Nat.le_of_ble_eq_true rfl)) d_A_assay_48 ⟨by decide, by decide⟩) hS (fun v H_ locs hp hS => ?_)
          obtain ⟨rfl, hHe⟩ := hp
          rw [hHe] at hS ⊢
          refine W.eq (g2 := F0 m 51 ls [.int (bI (xin x4.toInt64 0 1000000))]) rfl ?_
          refine lv_if_ne (tgt := 56) hx hb d_A_assay_51 (by decide) (fun c_9 => ?_) (fun c_9 => ?_)
          · have c_9 : (xin x4.toInt64 0 1000000) = true := bI_t.mp c_9
            refine lv_aload hx hb d_A_assay_56 (lv_at hl 0 rfl) ?_
            refine xr_get (ci := 1) (v := .ref (ad (130 + i1))) (C := R_B) (T := T_B) (N := 9) hx hb htw in_B hown hK hw (100 + i1) (rb i1 hi1) rfl rfl 4 (by decide) (htw _ u_98) (fun _ h9 => h9) rfl d_A_assay_58 ?_
            refine lv_iload_n hx hb d_A_assay_61 rfl (lv_at hl 4 rfl) ?_
            refine lv_iconst (v := 3) hx hb d_A_assay_62 (by decide) ?_
            refine lv_imul hx hb d_A_assay_63 ?_
            refine lv_iload_n hx hb d_A_assay_64 rfl (lv_at hl 3 rfl) ?_
            refine lv_iadd hx hb d_A_assay_65 ?_
            refine lv_iload hx hb d_A_assay_66 (lv_at hl 5 rfl) ?_
            refine xr_iast (i := ((nI k5) * 3) + (nI j8)) hx hb hK hw hS (130 + i1) 0 (rbo i1 hi1) rfl rfl (xvin (a := (k5 * 3) + j8) (xadd (a := k5 * 3) (b := j8) (xmul (a := k5) (b := 3) rfl rfl) rfl) (by omega) (by omega)) d_A_assay_68 (fun H locs hw hS => ?_)
            rw [show (((nI k5) * 3) + (nI j8)).toNatClampNeg = (k5 * 3) + j8 from xcl (a := (k5 * 3) + j8) (xadd (a := k5 * 3) (b := j8) (xmul (a := k5) (b := 3) rfl rfl) rfl) (by omega)] at hw
            have hw : xw D vwCl B ad (xu w (130 + i1) (.inl (K 0, 12, .inl (upd (σ.2.1 (20 + i1)) ((k5 * 3) + j8) x4)))) H := hw
            refine lv_iconst (v := 1) hx hb d_A_assay_69 (by decide) ?_
            have hRep : RepX K (pI σ (20 + i1) (upd (σ.2.1 (20 + i1)) (k5 * 3 + j8) x4)) ad (xu w (130 + i1) (.inl (K 0, 12, .inl (upd (σ.2.1 (20 + i1)) ((k5 * 3) + j8) x4)))) := by
              refine ⟨?_, ?_, ?_, ?_, ?_, ?_, ?_, ?_, ?_, ?_, ?_, ?_, ?_, ?_, ?_⟩
              · simp (disch := omega) only [pN, pI, pL, pZ, row_eq, row_ne, xu_eq, xu_ne, xa_eq, xa_ne, pk_us, pk_un, pk_uLs, pk_uLn, r0]
              · simp (disch := omega) only [pN, pI, pL, pZ, row_eq, row_ne, xu_eq, xu_ne, xa_eq, xa_ne, pk_us, pk_un, pk_uLs, pk_uLn, r1]; try rfl
              · simp (disch := omega) only [pN, pI, pL, pZ, row_eq, row_ne, xu_eq, xu_ne, xa_eq, xa_ne, pk_us, pk_un, pk_uLs, pk_uLn, r2]; try rfl
              · simp (disch := omega) only [pN, pI, pL, pZ, row_eq, row_ne, xu_eq, xu_ne, xa_eq, xa_ne, pk_us, pk_un, pk_uLs, pk_uLn, r3]; try rfl
              · simp (disch := omega) only [pN, pI, pL, pZ, row_eq, row_ne, xu_eq, xu_ne, xa_eq, xa_ne, pk_us, pk_un, pk_uLs, pk_uLn, r4]
              · simp (disch := omega) only [pN, pI, pL, pZ, row_eq, row_ne, xu_eq, xu_ne, xa_eq, xa_ne, pk_us, pk_un, pk_uLs, pk_uLn, r5]
              · simp (disch := omega) only [pN, pI, pL, pZ, row_eq, row_ne, xu_eq, xu_ne, xa_eq, xa_ne, pk_us, pk_un, pk_uLs, pk_uLn, r6]
              · simp (disch := omega) only [pN, pI, pL, pZ, row_eq, row_ne, xu_eq, xu_ne, xa_eq, xa_ne, pk_us, pk_un, pk_uLs, pk_uLn, r7]
              · intro jj hj
                have hj : jj < σ.1 0 := by first | exact hj | simpa (disch := omega) only [pN, pI, pL, pZ, row_eq, row_ne, xu_eq, xu_ne, xa_eq, xa_ne, pk_us, pk_un, pk_uLs, pk_uLn] using hj
                simp (disch := omega) only [pN, pI, pL, pZ, row_eq, row_ne, xu_eq, xu_ne, xa_eq, xa_ne, pk_us, pk_un, pk_uLs, pk_uLn, rb jj hj]
              · intro jj hj
                have hj : jj < σ.1 0 := by first | exact hj | simpa (disch := omega) only [pN, pI, pL, pZ, row_eq, row_ne, xu_eq, xu_ne, xa_eq, xa_ne, pk_us, pk_un, pk_uLs, pk_uLn] using hj
                simp (disch := omega) only [pN, pI, pL, pZ, row_eq, row_ne, xu_eq, xu_ne, xa_eq, xa_ne, pk_us, pk_un, pk_uLs, pk_uLn, rba jj hj]
              · intro jj hj
                have hj : jj < σ.1 0 := by first | exact hj | simpa (disch := omega) only [pN, pI, pL, pZ, row_eq, row_ne, xu_eq, xu_ne, xa_eq, xa_ne, pk_us, pk_un, pk_uLs, pk_uLn] using hj
                simp (disch := omega) only [pN, pI, pL, pZ, row_eq, row_ne, xu_eq, xu_ne, xa_eq, xa_ne, pk_us, pk_un, pk_uLs, pk_uLn, rbt jj hj]
              · intro jj hj
                have hj : jj < σ.1 0 := by first | exact hj | simpa (disch := omega) only [pN, pI, pL, pZ, row_eq, row_ne, xu_eq, xu_ne, xa_eq, xa_ne, pk_us, pk_un, pk_uLs, pk_uLn] using hj
                by_cases ej : jj = i1
                · rw [ej]; simp (disch := omega) only [pN, pI, pL, pZ, row_eq, row_ne, xu_eq, xu_ne, xa_eq, xa_ne, pk_us, pk_un, pk_uLs, pk_uLn, rbo i1 (by omega)]
                · simp (disch := omega) only [pN, pI, pL, pZ, row_eq, row_ne, xu_eq, xu_ne, xa_eq, xa_ne, pk_us, pk_un, pk_uLs, pk_uLn, rbo jj (by omega)]
              · intro jj hj
                have hj : jj < σ.1 1 := by first | exact hj | simpa (disch := omega) only [pN, pI, pL, pZ, row_eq, row_ne, xu_eq, xu_ne, xa_eq, xa_ne, pk_us, pk_un, pk_uLs, pk_uLn] using hj
                simp (disch := omega) only [pN, pI, pL, pZ, row_eq, row_ne, xu_eq, xu_ne, xa_eq, xa_ne, pk_us, pk_un, pk_uLs, pk_uLn, rs jj hj]
              · intro jj hj
                have hj : jj < σ.1 1 := by first | exact hj | simpa (disch := omega) only [pN, pI, pL, pZ, row_eq, row_ne, xu_eq, xu_ne, xa_eq, xa_ne, pk_us, pk_un, pk_uLs, pk_uLn] using hj
                simp (disch := omega) only [pN, pI, pL, pZ, row_eq, row_ne, xu_eq, xu_ne, xa_eq, xa_ne, pk_us, pk_un, pk_uLs, pk_uLn, rss jj hj]
              · intro jj hj
                have hj : jj < σ.1 2 := by first | exact hj | simpa (disch := omega) only [pN, pI, pL, pZ, row_eq, row_ne, xu_eq, xu_ne, xa_eq, xa_ne, pk_us, pk_un, pk_uLs, pk_uLn] using hj
                simp (disch := omega) only [pN, pI, pL, pZ, row_eq, row_ne, xu_eq, xu_ne, xa_eq, xa_ne, pk_us, pk_un, pk_uLs, pk_uLn, rr jj hj]
            have hf : f_assay σ (nI i1) (nI j8) (nI k5) x4 = (pI σ (20 + i1) (upd (σ.2.1 (20 + i1)) (k5 * 3 + j8) x4), 1) := by simp [f_assay, opt_n, opt_s, fi1, xk5, xj8, c_3, c_4, c_6, c_9]
            exact W.zret (v := 1) hx hb hr (by decide) (fun t ht _ => ⟨_, rfl, by rw [hf, ht]; exact ⟨rfl, _, _, hw, hRep, rfl, fun t h2 => ⟨by simp (disch := omega) only [xu_ne, xa_ne], rfl⟩⟩, hS.F ht⟩) hS.2.2 d_A_assay_70
          · have c_9 : (xin x4.toInt64 0 1000000) = false := bI_f.mp c_9
            refine lv_iconst (v := 0) hx hb d_A_assay_54 (by decide) ?_
            have hf : f_assay σ (nI i1) (nI j8) (nI k5) x4 = (σ, 0) := by simp [f_assay, opt_n, opt_s, fi1, xk5, xj8, c_3, c_4, c_6, c_9]
            exact W.zret (v := 0) hx hb hr (by decide) (fun t ht _ => ⟨_, rfl, by rw [hf, ht]; exact ⟨rfl, PX_same hw hR⟩, hS.F ht⟩) hS.2.2 d_A_assay_55
      · have c_4 : (xm x3) = false := bI_f.mp c_4
        have f10 : xi 4 x3 = none := xm_xi c_4
        refine lv_iconst (v := 0) hx hb d_A_assay_27 (by decide) ?_
        have hf : f_assay σ (nI i1) x2 x3 x4 = (σ, 0) := by simp [f_assay, opt_n, opt_s, fi1, f10, c_3, c_4]
        exact W.zret (v := 0) hx hb hr (by decide) (fun t ht _ => ⟨_, rfl, by rw [hf, ht]; exact ⟨rfl, PX_same hw hR⟩, hS.F ht⟩) hS.2.2 d_A_assay_28
set_option maxHeartbeats 4000000 in
set_option maxRecDepth 100000 in
theorem c_P_append {l : Launch} {D : va_G} {K : Nat → ClassId} {B : Nat} {ad : Nat → Nat} {w : Nat → Option va_E} {H : Heap} {σ : xS} (hR : RepX K σ ad w) (hI : Inv σ) (hw : xw D vwCl B ad w H) (k : Nat) (hk : k < 4) (d : Int32) (u : Int64) : xC l D K B y_P_append b_P_append 7 (some .boolean) rm_P_append [.ref (ad 4), .int (nI k), .int d, .long u] H (fun v H1 => v = some (.int (f_append σ k d u).2) ∧ PX D K B ad w (f_append σ k d u).1 H1) := by
  refine Met.ofW (cc := b_P_append) (maxL := 7) (ret := (some .boolean)) (by decide) rfl ?_
  intro p e s m args below meth c s₁ B0 hml hv
  obtain ⟨rfl, hsz, hK, hN⟩ := hv
  have hx := B0.exec
  have hb := B0.bytes
  have hr := B0.returns
  have htw : ∀ w ∈ xW0, w.before [.ref (ad 4), .int (nI k), .int d, .long u].toArray s = true := fun w h => atoms_spec (ws := Cond.code y_P_append b_P_append 7 (some .boolean) :: xW0) B0.pre w (List.mem_cons_of_mem _ h)
  have hown : s.vm.findClass R_P = some m.cls := findClass_of_methodNamed B0.named
  have hlocks := B0.notSynchronized
  subst hsz
  have hS : va_S (fun q => B ≤ q) s.heap s.heap [] := va_S.rf
  have hl := lv_entry ([.ref (ad 4), .int (nI k), .int d, .long u]) (n := 7) (Nat.le_of_ble_eq_true rfl)
  rw [lg_entry_eq]
  generalize (lg_sl ([.ref (ad 4), .int (nI k), .int d, .long u]) ++ List.replicate (7 - (lg_sl ([.ref (ad 4), .int (nI k), .int d, .long u])).length) Slot.unset).toArray = ls at hl ⊢
  have hl : lv_has ls 7 [(0, .ref (ad 4)), (1, .int (nI k)), (2, .int d), (3, .long u)] := hl
  have hH : s.heap = s.heap := rfl
  obtain ⟨r0, r1, r2, r3, r4, r5, r6, r7, rb, rba, rbt, rbo, rs, rss, rr⟩ := id hR
  obtain ⟨hnb, hns, hnr, hpc, hst, hto, htl, hrm, hpa, hwt, hdf, hds⟩ := id hI
  have hck := hpc k hk
  refine lv_aload_n hx hb d_P_append_0 rfl (lv_at hl 0 rfl) ?_
  refine lv_iload_n hx hb d_P_append_1 rfl (lv_at hl 1 rfl) ?_
  refine xr_call (va_runV (As := [.int (nI k)]) (rest := []) ⟨hx, hb, hml, hown, htw⟩ (c_P_countOf (ad := ad) hR hI hw k (by omega)) (cwV 1 htw (gV u_212 u_214 us_4 u_2 u_215) rfl rfl rfl hd_P_countOf ⟨Nat.le_of_ble_eq_true rfl, Nat.le_of_ble_eq_true rfl⟩) ⟨xP_blind, hw.recv hK (ci := 4) (t := 4) rfl r4 rfl, xP_of hK hN⟩ rfl rfl hl.1 rfl (lv_room (Nat.le_of_ble_eq_true rfl)) d_P_append_2 ⟨by decide, by decide⟩) hS (fun v H_ locs hp hS => ?_)
  obtain ⟨rfl, hHe⟩ := hp
  rw [hHe] at hS ⊢
  refine W.eq (g2 := F0 m 5 ls [.int (nI (σ.1 (11 + 2 * k)))]) rfl ?_
  refine lv_istore (lv' := [(5, .int (nI (σ.1 (11 + 2 * k)))), (0, .ref (ad 4)), (1, .int (nI k)), (2, .int d), (3, .long u)]) hx hb d_P_append_5 hl (by decide) rfl (fun ls hl => ?_)
  refine lv_iload_n hx hb d_P_append_7 rfl (lv_at hl 2 rfl) ?_
  refine xr_call (va_runSN (As := [.int (nI k)]) (rest := []) ⟨hx, hb, hml, hown, htw⟩ (c_A_isMetal (nI k)) ⟨va_cnB 1 htw (gC u_137) rfl rfl rfl (hN (.methodLinkNest R_P 26 y_A_isMetal R_A) (by decide +kernel)).1 (htw _ u_1) hd_A_isMetal.2 ⟨Nat.le_of_ble_eq_true rfl, Nat.le_of_ble_eq_true rfl⟩, htw _ u_136, trivial⟩ ⟨xP_blind, xP_of hK hN⟩ rfl rfl hl.1 rfl (lv_room (Nat.le_of_ble_eq_true rfl)) d_P_append_8 ⟨by decide, by decide⟩) hS (fun v H_ locs hp hS => ?_)
  obtain ⟨rfl, hHe⟩ := hp
  rw [hHe] at hS ⊢
  refine W.eq (g2 := F0 m 11 ls [.int (bI (xm (nI k)))]) rfl ?_
  refine lv_if_eq (tgt := 21) hx hb d_P_append_11 (by decide) (fun c_1 => absurd c_1 (by rw [xm_nI hk]; decide)) (fun c_1 => ?_)
  have c_1 : (xm (nI k)) = true := bI_t.mp c_1
  refine lv_iload hx hb d_P_append_14 (lv_at hl 0 rfl) ?_
  refine lv_bipush (v := 6) hx hb d_P_append_16 (by decide) ?_
  refine lv_icmp_lt (tgt := 23) hx hb d_P_append_18 (by decide) (fun c_2 => ?_) (fun c_2 => ?_)
  · have c_2 : (σ.1 (11 + 2 * k)) < 6 := (nLT (a := σ.1 (11 + 2 * k)) (b := 6) (by omega) (by omega)).mp c_2
    refine lv_iload_n hx hb d_P_append_23 rfl (lv_at hl 2 rfl) ?_
    refine lv_bipush (v := 6) hx hb d_P_append_24 (by decide) ?_
    refine lv_imul hx hb d_P_append_26 ?_
    refine lv_iload hx hb d_P_append_27 (lv_at hl 0 rfl) ?_
    refine lv_iadd hx hb d_P_append_29 ?_
    refine lv_istore (lv' := [(6, .int (((nI k) * 6) + (nI (σ.1 (11 + 2 * k))))), (5, .int (nI (σ.1 (11 + 2 * k)))), (0, .ref (ad 4)), (1, .int (nI k)), (2, .int d), (3, .long u)]) hx hb d_P_append_30 hl (by decide) rfl (fun ls hl => ?_)
    refine lv_iload hx hb d_P_append_32 (lv_at hl 1 rfl) ?_
    refine lv_if_le (tgt := 52) hx hb d_P_append_34 (by decide) (fun c_3 => ?_) (fun c_3 => ?_)
    · have c_3 : σ.1 (11 + 2 * k) ≤ 0 := (nLE (a := σ.1 (11 + 2 * k)) (b := 0) (by omega) (by omega)).mp c_3
      refine lv_aload_n hx hb d_P_append_52 rfl (lv_at hl 2 rfl) ?_
      refine xr_get (ci := 4) (v := .ref (ad 6)) (C := R_P) (T := T_P) (N := 3) hx hb htw in_P hown hK hw 4 r4 rfl rfl 1 (by decide) (htw _ u_30) (fun _ h9 => h9) rfl d_P_append_53 ?_
      refine lv_iload hx hb d_P_append_56 (lv_at hl 0 rfl) ?_
      refine lv_iload_n hx hb d_P_append_58 rfl (lv_at hl 4 rfl) ?_
      refine xr_iast (i := ((nI k) * 6) + (nI (σ.1 (11 + 2 * k)))) hx hb hK hw hS 6 0 r6 rfl rfl (xvin (a := (k * 6) + (σ.1 (11 + 2 * k))) (xadd (a := k * 6) (b := σ.1 (11 + 2 * k)) (xmul (a := k) (b := 6) rfl rfl) rfl) (by omega) (by omega)) d_P_append_59 (fun H locs hw hS => ?_)
      rw [show (((nI k) * 6) + (nI (σ.1 (11 + 2 * k)))).toNatClampNeg = (k * 6) + (σ.1 (11 + 2 * k)) from xcl (a := (k * 6) + (σ.1 (11 + 2 * k))) (xadd (a := k * 6) (b := σ.1 (11 + 2 * k)) (xmul (a := k) (b := 6) rfl rfl) rfl) (by omega)] at hw
      have hw : xw D vwCl B ad (xu w 6 (.inl (K 0, 24, .inl (upd (σ.2.1 40) ((k * 6) + (σ.1 (11 + 2 * k))) d)))) H := hw
      refine lv_aload_n hx hb d_P_append_60 rfl (lv_at hl 2 rfl) ?_
      refine xr_get (ci := 4) (v := .ref (ad 7)) (C := R_P) (T := T_P) (N := 3) hx hb htw in_P hown hK hw 4 ((xu_ne (by omega)).trans (r4)) rfl rfl 2 (by decide) (htw _ u_31) (fun _ h9 => h9) rfl d_P_append_61 ?_
      refine lv_iload hx hb d_P_append_64 (lv_at hl 0 rfl) ?_
      refine lv_lload_n hx hb d_P_append_66 rfl (lv_at hl 5 rfl) ?_
      refine xr_last (i := ((nI k) * 6) + (nI (σ.1 (11 + 2 * k)))) hx hb hK hw hS 7 1 ((xu_ne (by omega)).trans (r7)) rfl rfl (xvin (a := (k * 6) + (σ.1 (11 + 2 * k))) (xadd (a := k * 6) (b := σ.1 (11 + 2 * k)) (xmul (a := k) (b := 6) rfl rfl) rfl) (by omega) (by omega)) d_P_append_67 (fun H locs hw hS => ?_)
      rw [show (((nI k) * 6) + (nI (σ.1 (11 + 2 * k)))).toNatClampNeg = (k * 6) + (σ.1 (11 + 2 * k)) from xcl (a := (k * 6) + (σ.1 (11 + 2 * k))) (xadd (a := k * 6) (b := σ.1 (11 + 2 * k)) (xmul (a := k) (b := 6) rfl rfl) rfl) (by omega)] at hw
      have hw : xw D vwCl B ad (xu (xu w 6 (.inl (K 0, 24, .inl (upd (σ.2.1 40) ((k * 6) + (σ.1 (11 + 2 * k))) d)))) 7 (.inl (K 1, 24, .inr (.inl (vp_updL (σ.2.2.1 40) ((k * 6) + (σ.1 (11 + 2 * k))) u))))) H := hw
      refine lv_aload_n hx hb d_P_append_68 rfl (lv_at hl 2 rfl) ?_
      refine xr_get (ci := 4) (v := .ref (ad 5)) (C := R_P) (T := T_P) (N := 3) hx hb htw in_P hown hK hw 4 ((xu_ne (by omega)).trans ((xu_ne (by omega)).trans (r4))) rfl rfl 0 (by decide) (htw _ u_29) (fun _ h9 => h9) rfl d_P_append_69 ?_
      refine lv_iload_n hx hb d_P_append_72 rfl (lv_at hl 3 rfl) ?_
      refine lv_iload hx hb d_P_append_73 (lv_at hl 1 rfl) ?_
      refine lv_iconst (v := 1) hx hb d_P_append_75 (by decide) ?_
      refine lv_iadd hx hb d_P_append_76 ?_
      refine xr_iast (i := nI k) hx hb hK hw hS 5 0 ((xu_ne (by omega)).trans ((xu_ne (by omega)).trans (r5))) rfl rfl (xvin (a := k) rfl (by omega) (by omega)) d_P_append_77 (fun H locs hw hS => ?_)
      rw [show (nI k).toNatClampNeg = k from xcl (a := k) rfl (by omega)] at hw
      have hw : xw D vwCl B ad (xu (xu (xu w 6 (.inl (K 0, 24, .inl (upd (σ.2.1 40) ((k * 6) + (σ.1 (11 + 2 * k))) d)))) 7 (.inl (K 1, 24, .inr (.inl (vp_updL (σ.2.2.1 40) ((k * 6) + (σ.1 (11 + 2 * k))) u))))) 5 (.inl (K 0, 4, .inl (upd (fun k => nI (σ.1 (11 + 2 * k))) k ((nI (σ.1 (11 + 2 * k))) + 1))))) H := hw
      refine lv_iconst (v := 1) hx hb d_P_append_78 (by decide) ?_
      have hRep : RepX K (s_price σ k d u) ad (xu (xu (xu w 6 (.inl (K 0, 24, .inl (upd (σ.2.1 40) ((k * 6) + (σ.1 (11 + 2 * k))) d)))) 7 (.inl (K 1, 24, .inr (.inl (vp_updL (σ.2.2.1 40) ((k * 6) + (σ.1 (11 + 2 * k))) u))))) 5 (.inl (K 0, 4, .inl (upd (fun k => nI (σ.1 (11 + 2 * k))) k ((nI (σ.1 (11 + 2 * k))) + 1))))) := by
        unfold s_price
        refine ⟨?_, ?_, ?_, ?_, ?_, ?_, ?_, ?_, ?_, ?_, ?_, ?_, ?_, ?_, ?_⟩
        · simp (disch := omega) only [pN, pI, pL, pZ, row_eq, row_ne, xu_eq, xu_ne, xa_eq, xa_ne, pk_us, pk_un, pk_uLs, pk_uLn, r0]
        · simp (disch := omega) only [pN, pI, pL, pZ, row_eq, row_ne, xu_eq, xu_ne, xa_eq, xa_ne, pk_us, pk_un, pk_uLs, pk_uLn, r1]; try rfl
        · simp (disch := omega) only [pN, pI, pL, pZ, row_eq, row_ne, xu_eq, xu_ne, xa_eq, xa_ne, pk_us, pk_un, pk_uLs, pk_uLn, r2]; try rfl
        · simp (disch := omega) only [pN, pI, pL, pZ, row_eq, row_ne, xu_eq, xu_ne, xa_eq, xa_ne, pk_us, pk_un, pk_uLs, pk_uLn, r3]; try rfl
        · simp (disch := omega) only [pN, pI, pL, pZ, row_eq, row_ne, xu_eq, xu_ne, xa_eq, xa_ne, pk_us, pk_un, pk_uLs, pk_uLn, r4]
        · simp (disch := omega) only [pN, pI, pL, pZ, row_eq, row_ne, xu_eq, xu_ne, xa_eq, xa_ne, pk_us, pk_un, pk_uLs, pk_uLn]; exact congrArg _ (congrArg _ (congrArg _ (congrArg _ (congrArg _ (fc_up (nI_succ _).symm)))))
        · simp (disch := omega) only [pN, pI, pL, pZ, row_eq, row_ne, xu_eq, xu_ne, xa_eq, xa_ne, pk_us, pk_un, pk_uLs, pk_uLn, r6]
        · simp (disch := omega) only [pN, pI, pL, pZ, row_eq, row_ne, xu_eq, xu_ne, xa_eq, xa_ne, pk_us, pk_un, pk_uLs, pk_uLn, r7]
        · intro jj hj
          have hj : jj < σ.1 0 := by first | exact hj | simpa (disch := omega) only [pN, pI, pL, pZ, row_eq, row_ne, xu_eq, xu_ne, xa_eq, xa_ne, pk_us, pk_un, pk_uLs, pk_uLn] using hj
          simp (disch := omega) only [pN, pI, pL, pZ, row_eq, row_ne, xu_eq, xu_ne, xa_eq, xa_ne, pk_us, pk_un, pk_uLs, pk_uLn, rb jj hj]
        · intro jj hj
          have hj : jj < σ.1 0 := by first | exact hj | simpa (disch := omega) only [pN, pI, pL, pZ, row_eq, row_ne, xu_eq, xu_ne, xa_eq, xa_ne, pk_us, pk_un, pk_uLs, pk_uLn] using hj
          simp (disch := omega) only [pN, pI, pL, pZ, row_eq, row_ne, xu_eq, xu_ne, xa_eq, xa_ne, pk_us, pk_un, pk_uLs, pk_uLn, rba jj hj]
        · intro jj hj
          have hj : jj < σ.1 0 := by first | exact hj | simpa (disch := omega) only [pN, pI, pL, pZ, row_eq, row_ne, xu_eq, xu_ne, xa_eq, xa_ne, pk_us, pk_un, pk_uLs, pk_uLn] using hj
          simp (disch := omega) only [pN, pI, pL, pZ, row_eq, row_ne, xu_eq, xu_ne, xa_eq, xa_ne, pk_us, pk_un, pk_uLs, pk_uLn, rbt jj hj]
        · intro jj hj
          have hj : jj < σ.1 0 := by first | exact hj | simpa (disch := omega) only [pN, pI, pL, pZ, row_eq, row_ne, xu_eq, xu_ne, xa_eq, xa_ne, pk_us, pk_un, pk_uLs, pk_uLn] using hj
          simp (disch := omega) only [pN, pI, pL, pZ, row_eq, row_ne, xu_eq, xu_ne, xa_eq, xa_ne, pk_us, pk_un, pk_uLs, pk_uLn, rbo jj hj]
        · intro jj hj
          have hj : jj < σ.1 1 := by first | exact hj | simpa (disch := omega) only [pN, pI, pL, pZ, row_eq, row_ne, xu_eq, xu_ne, xa_eq, xa_ne, pk_us, pk_un, pk_uLs, pk_uLn] using hj
          simp (disch := omega) only [pN, pI, pL, pZ, row_eq, row_ne, xu_eq, xu_ne, xa_eq, xa_ne, pk_us, pk_un, pk_uLs, pk_uLn, rs jj hj]
        · intro jj hj
          have hj : jj < σ.1 1 := by first | exact hj | simpa (disch := omega) only [pN, pI, pL, pZ, row_eq, row_ne, xu_eq, xu_ne, xa_eq, xa_ne, pk_us, pk_un, pk_uLs, pk_uLn] using hj
          simp (disch := omega) only [pN, pI, pL, pZ, row_eq, row_ne, xu_eq, xu_ne, xa_eq, xa_ne, pk_us, pk_un, pk_uLs, pk_uLn, rss jj hj]
        · intro jj hj
          have hj : jj < σ.1 2 := by first | exact hj | simpa (disch := omega) only [pN, pI, pL, pZ, row_eq, row_ne, xu_eq, xu_ne, xa_eq, xa_ne, pk_us, pk_un, pk_uLs, pk_uLn] using hj
          simp (disch := omega) only [pN, pI, pL, pZ, row_eq, row_ne, xu_eq, xu_ne, xa_eq, xa_ne, pk_us, pk_un, pk_uLs, pk_uLn, rr jj hj]
      have hf : f_append σ k d u = (s_price σ k d u, 1) := by simp [f_append, opt_n, opt_s, c_1, c_2, c_3]
      exact W.zret (v := 1) hx hb hr (by decide) (fun t ht _ => ⟨_, rfl, by rw [hf, ht]; exact ⟨rfl, _, _, hw, hRep, rfl, fun t h2 => ⟨by simp (disch := omega) only [xu_ne, xa_ne], rfl⟩⟩, hS.F ht⟩) hS.2.2 d_P_append_79
    · have c_3 : ¬ σ.1 (11 + 2 * k) ≤ 0 := fun z => c_3 ((nLE (a := σ.1 (11 + 2 * k)) (b := 0) (by omega) (by omega)).mpr z)
      refine lv_iload_n hx hb d_P_append_37 rfl (lv_at hl 4 rfl) ?_
      refine lv_aload_n hx hb d_P_append_38 rfl (lv_at hl 2 rfl) ?_
      refine xr_get (ci := 4) (v := .ref (ad 6)) (C := R_P) (T := T_P) (N := 3) hx hb htw in_P hown hK hw 4 r4 rfl rfl 1 (by decide) (htw _ u_30) (fun _ h9 => h9) rfl d_P_append_39 ?_
      refine lv_iload hx hb d_P_append_42 (lv_at hl 0 rfl) ?_
      refine lv_iconst (v := 1) hx hb d_P_append_44 (by decide) ?_
      refine lv_isub hx hb d_P_append_45 ?_
      refine xr_iald (i := (((nI k) * 6) + (nI (σ.1 (11 + 2 * k)))) - 1) hx hb hK hw 6 0 r6 rfl rfl (xvin (a := ((k * 6) + (σ.1 (11 + 2 * k))) - 1) (xsub (a := (k * 6) + (σ.1 (11 + 2 * k))) (b := 1) (xadd (a := k * 6) (b := σ.1 (11 + 2 * k)) (xmul (a := k) (b := 6) rfl rfl) rfl) (by omega)) (by omega) (by omega)) d_P_append_46 ?_
      refine lv_topi (fun x_4 ex_4 => ?_)
      obtain rfl : x_4 = (σ.2.1 40) (((k * 6) + (σ.1 (11 + 2 * k))) - 1) := ex_4.trans ((congrArg (σ.2.1 40) (xcl (a := ((k * 6) + (σ.1 (11 + 2 * k))) - 1) (xsub (a := (k * 6) + (σ.1 (11 + 2 * k))) (b := 1) (xadd (a := k * 6) (b := σ.1 (11 + 2 * k)) (xmul (a := k) (b := 6) rfl rfl) rfl) (by omega)) (by omega))).trans rfl)
      refine lv_icmp_gt (tgt := 52) hx hb d_P_append_47 (by decide) (fun c_5 => ?_) (fun c_5 => ?_)
      · refine lv_aload_n hx hb d_P_append_52 rfl (lv_at hl 2 rfl) ?_
        refine xr_get (ci := 4) (v := .ref (ad 6)) (C := R_P) (T := T_P) (N := 3) hx hb htw in_P hown hK hw 4 r4 rfl rfl 1 (by decide) (htw _ u_30) (fun _ h9 => h9) rfl d_P_append_53 ?_
        refine lv_iload hx hb d_P_append_56 (lv_at hl 0 rfl) ?_
        refine lv_iload_n hx hb d_P_append_58 rfl (lv_at hl 4 rfl) ?_
        refine xr_iast (i := ((nI k) * 6) + (nI (σ.1 (11 + 2 * k)))) hx hb hK hw hS 6 0 r6 rfl rfl (xvin (a := (k * 6) + (σ.1 (11 + 2 * k))) (xadd (a := k * 6) (b := σ.1 (11 + 2 * k)) (xmul (a := k) (b := 6) rfl rfl) rfl) (by omega) (by omega)) d_P_append_59 (fun H locs hw hS => ?_)
        rw [show (((nI k) * 6) + (nI (σ.1 (11 + 2 * k)))).toNatClampNeg = (k * 6) + (σ.1 (11 + 2 * k)) from xcl (a := (k * 6) + (σ.1 (11 + 2 * k))) (xadd (a := k * 6) (b := σ.1 (11 + 2 * k)) (xmul (a := k) (b := 6) rfl rfl) rfl) (by omega)] at hw
        have hw : xw D vwCl B ad (xu w 6 (.inl (K 0, 24, .inl (upd (σ.2.1 40) ((k * 6) + (σ.1 (11 + 2 * k))) d)))) H := hw
        refine lv_aload_n hx hb d_P_append_60 rfl (lv_at hl 2 rfl) ?_
        refine xr_get (ci := 4) (v := .ref (ad 7)) (C := R_P) (T := T_P) (N := 3) hx hb htw in_P hown hK hw 4 ((xu_ne (by omega)).trans (r4)) rfl rfl 2 (by decide) (htw _ u_31) (fun _ h9 => h9) rfl d_P_append_61 ?_
        refine lv_iload hx hb d_P_append_64 (lv_at hl 0 rfl) ?_
        refine lv_lload_n hx hb d_P_append_66 rfl (lv_at hl 5 rfl) ?_
        refine xr_last (i := ((nI k) * 6) + (nI (σ.1 (11 + 2 * k)))) hx hb hK hw hS 7 1 ((xu_ne (by omega)).trans (r7)) rfl rfl (xvin (a := (k * 6) + (σ.1 (11 + 2 * k))) (xadd (a := k * 6) (b := σ.1 (11 + 2 * k)) (xmul (a := k) (b := 6) rfl rfl) rfl) (by omega) (by omega)) d_P_append_67 (fun H locs hw hS => ?_)
        rw [show (((nI k) * 6) + (nI (σ.1 (11 + 2 * k)))).toNatClampNeg = (k * 6) + (σ.1 (11 + 2 * k)) from xcl (a := (k * 6) + (σ.1 (11 + 2 * k))) (xadd (a := k * 6) (b := σ.1 (11 + 2 * k)) (xmul (a := k) (b := 6) rfl rfl) rfl) (by omega)] at hw
        have hw : xw D vwCl B ad (xu (xu w 6 (.inl (K 0, 24, .inl (upd (σ.2.1 40) ((k * 6) + (σ.1 (11 + 2 * k))) d)))) 7 (.inl (K 1, 24, .inr (.inl (vp_updL (σ.2.2.1 40) ((k * 6) + (σ.1 (11 + 2 * k))) u))))) H := hw
        refine lv_aload_n hx hb d_P_append_68 rfl (lv_at hl 2 rfl) ?_
        refine xr_get (ci := 4) (v := .ref (ad 5)) (C := R_P) (T := T_P) (N := 3) hx hb htw in_P hown hK hw 4 ((xu_ne (by omega)).trans ((xu_ne (by omega)).trans (r4))) rfl rfl 0 (by decide) (htw _ u_29) (fun _ h9 => h9) rfl d_P_append_69 ?_
        refine lv_iload_n hx hb d_P_append_72 rfl (lv_at hl 3 rfl) ?_
        refine lv_iload hx hb d_P_append_73 (lv_at hl 1 rfl) ?_
        refine lv_iconst (v := 1) hx hb d_P_append_75 (by decide) ?_
        refine lv_iadd hx hb d_P_append_76 ?_
        refine xr_iast (i := nI k) hx hb hK hw hS 5 0 ((xu_ne (by omega)).trans ((xu_ne (by omega)).trans (r5))) rfl rfl (xvin (a := k) rfl (by omega) (by omega)) d_P_append_77 (fun H locs hw hS => ?_)
        rw [show (nI k).toNatClampNeg = k from xcl (a := k) rfl (by omega)] at hw
        have hw : xw D vwCl B ad (xu (xu (xu w 6 (.inl (K 0, 24, .inl (upd (σ.2.1 40) ((k * 6) + (σ.1 (11 + 2 * k))) d)))) 7 (.inl (K 1, 24, .inr (.inl (vp_updL (σ.2.2.1 40) ((k * 6) + (σ.1 (11 + 2 * k))) u))))) 5 (.inl (K 0, 4, .inl (upd (fun k => nI (σ.1 (11 + 2 * k))) k ((nI (σ.1 (11 + 2 * k))) + 1))))) H := hw
        refine lv_iconst (v := 1) hx hb d_P_append_78 (by decide) ?_
        have hRep : RepX K (s_price σ k d u) ad (xu (xu (xu w 6 (.inl (K 0, 24, .inl (upd (σ.2.1 40) ((k * 6) + (σ.1 (11 + 2 * k))) d)))) 7 (.inl (K 1, 24, .inr (.inl (vp_updL (σ.2.2.1 40) ((k * 6) + (σ.1 (11 + 2 * k))) u))))) 5 (.inl (K 0, 4, .inl (upd (fun k => nI (σ.1 (11 + 2 * k))) k ((nI (σ.1 (11 + 2 * k))) + 1))))) := by
          unfold s_price
          refine ⟨?_, ?_, ?_, ?_, ?_, ?_, ?_, ?_, ?_, ?_, ?_, ?_, ?_, ?_, ?_⟩
          · simp (disch := omega) only [pN, pI, pL, pZ, row_eq, row_ne, xu_eq, xu_ne, xa_eq, xa_ne, pk_us, pk_un, pk_uLs, pk_uLn, r0]
          · simp (disch := omega) only [pN, pI, pL, pZ, row_eq, row_ne, xu_eq, xu_ne, xa_eq, xa_ne, pk_us, pk_un, pk_uLs, pk_uLn, r1]; try rfl
          · simp (disch := omega) only [pN, pI, pL, pZ, row_eq, row_ne, xu_eq, xu_ne, xa_eq, xa_ne, pk_us, pk_un, pk_uLs, pk_uLn, r2]; try rfl
          · simp (disch := omega) only [pN, pI, pL, pZ, row_eq, row_ne, xu_eq, xu_ne, xa_eq, xa_ne, pk_us, pk_un, pk_uLs, pk_uLn, r3]; try rfl
          · simp (disch := omega) only [pN, pI, pL, pZ, row_eq, row_ne, xu_eq, xu_ne, xa_eq, xa_ne, pk_us, pk_un, pk_uLs, pk_uLn, r4]
          · simp (disch := omega) only [pN, pI, pL, pZ, row_eq, row_ne, xu_eq, xu_ne, xa_eq, xa_ne, pk_us, pk_un, pk_uLs, pk_uLn]; exact congrArg _ (congrArg _ (congrArg _ (congrArg _ (congrArg _ (fc_up (nI_succ _).symm)))))
          · simp (disch := omega) only [pN, pI, pL, pZ, row_eq, row_ne, xu_eq, xu_ne, xa_eq, xa_ne, pk_us, pk_un, pk_uLs, pk_uLn, r6]
          · simp (disch := omega) only [pN, pI, pL, pZ, row_eq, row_ne, xu_eq, xu_ne, xa_eq, xa_ne, pk_us, pk_un, pk_uLs, pk_uLn, r7]
          · intro jj hj
            have hj : jj < σ.1 0 := by first | exact hj | simpa (disch := omega) only [pN, pI, pL, pZ, row_eq, row_ne, xu_eq, xu_ne, xa_eq, xa_ne, pk_us, pk_un, pk_uLs, pk_uLn] using hj
            simp (disch := omega) only [pN, pI, pL, pZ, row_eq, row_ne, xu_eq, xu_ne, xa_eq, xa_ne, pk_us, pk_un, pk_uLs, pk_uLn, rb jj hj]
          · intro jj hj
            have hj : jj < σ.1 0 := by first | exact hj | simpa (disch := omega) only [pN, pI, pL, pZ, row_eq, row_ne, xu_eq, xu_ne, xa_eq, xa_ne, pk_us, pk_un, pk_uLs, pk_uLn] using hj
            simp (disch := omega) only [pN, pI, pL, pZ, row_eq, row_ne, xu_eq, xu_ne, xa_eq, xa_ne, pk_us, pk_un, pk_uLs, pk_uLn, rba jj hj]
          · intro jj hj
            have hj : jj < σ.1 0 := by first | exact hj | simpa (disch := omega) only [pN, pI, pL, pZ, row_eq, row_ne, xu_eq, xu_ne, xa_eq, xa_ne, pk_us, pk_un, pk_uLs, pk_uLn] using hj
            simp (disch := omega) only [pN, pI, pL, pZ, row_eq, row_ne, xu_eq, xu_ne, xa_eq, xa_ne, pk_us, pk_un, pk_uLs, pk_uLn, rbt jj hj]
          · intro jj hj
            have hj : jj < σ.1 0 := by first | exact hj | simpa (disch := omega) only [pN, pI, pL, pZ, row_eq, row_ne, xu_eq, xu_ne, xa_eq, xa_ne, pk_us, pk_un, pk_uLs, pk_uLn] using hj
            simp (disch := omega) only [pN, pI, pL, pZ, row_eq, row_ne, xu_eq, xu_ne, xa_eq, xa_ne, pk_us, pk_un, pk_uLs, pk_uLn, rbo jj hj]
          · intro jj hj
            have hj : jj < σ.1 1 := by first | exact hj | simpa (disch := omega) only [pN, pI, pL, pZ, row_eq, row_ne, xu_eq, xu_ne, xa_eq, xa_ne, pk_us, pk_un, pk_uLs, pk_uLn] using hj
            simp (disch := omega) only [pN, pI, pL, pZ, row_eq, row_ne, xu_eq, xu_ne, xa_eq, xa_ne, pk_us, pk_un, pk_uLs, pk_uLn, rs jj hj]
          · intro jj hj
            have hj : jj < σ.1 1 := by first | exact hj | simpa (disch := omega) only [pN, pI, pL, pZ, row_eq, row_ne, xu_eq, xu_ne, xa_eq, xa_ne, pk_us, pk_un, pk_uLs, pk_uLn] using hj
            simp (disch := omega) only [pN, pI, pL, pZ, row_eq, row_ne, xu_eq, xu_ne, xa_eq, xa_ne, pk_us, pk_un, pk_uLs, pk_uLn, rss jj hj]
          · intro jj hj
            have hj : jj < σ.1 2 := by first | exact hj | simpa (disch := omega) only [pN, pI, pL, pZ, row_eq, row_ne, xu_eq, xu_ne, xa_eq, xa_ne, pk_us, pk_un, pk_uLs, pk_uLn] using hj
            simp (disch := omega) only [pN, pI, pL, pZ, row_eq, row_ne, xu_eq, xu_ne, xa_eq, xa_ne, pk_us, pk_un, pk_uLs, pk_uLn, rr jj hj]
        have hf : f_append σ k d u = (s_price σ k d u, 1) := by simp [f_append, opt_n, opt_s, c_1, c_2, c_3, c_5]
        exact W.zret (v := 1) hx hb hr (by decide) (fun t ht _ => ⟨_, rfl, by rw [hf, ht]; exact ⟨rfl, _, _, hw, hRep, rfl, fun t h2 => ⟨by simp (disch := omega) only [xu_ne, xa_ne], rfl⟩⟩, hS.F ht⟩) hS.2.2 d_P_append_79
      · refine lv_iconst (v := 0) hx hb d_P_append_50 (by decide) ?_
        have hf : f_append σ k d u = (σ, 0) := by simp [f_append, opt_n, opt_s, c_1, c_2, c_3, c_5]
        exact W.zret (v := 0) hx hb hr (by decide) (fun t ht _ => ⟨_, rfl, by rw [hf, ht]; exact ⟨rfl, PX_same hw hR⟩, hS.F ht⟩) hS.2.2 d_P_append_51
  · have c_2 : ¬ (σ.1 (11 + 2 * k)) < 6 := fun z => c_2 ((nLT (a := σ.1 (11 + 2 * k)) (b := 6) (by omega) (by omega)).mpr z)
    refine lv_iconst (v := 0) hx hb d_P_append_21 (by decide) ?_
    have hf : f_append σ k d u = (σ, 0) := by simp [f_append, opt_n, opt_s, c_1, c_2]
    exact W.zret (v := 0) hx hb hr (by decide) (fun t ht _ => ⟨_, rfl, by rw [hf, ht]; exact ⟨rfl, PX_same hw hR⟩, hS.F ht⟩) hS.2.2 d_P_append_22
set_option maxHeartbeats 4000000 in
set_option maxRecDepth 100000 in
theorem c_A_price {l : Launch} {D : va_G} {K : Nat → ClassId} {B : Nat} {ad : Nat → Nat} {w : Nat → Option va_E} {H : Heap} {σ : xS} (hR : RepX K σ ad w) (hI : Inv σ) (hw : xw D vwCl B ad w H) (x1 x2 : Int32) (x3 : Int64) : xC l D K B y_A_price b_A_price 5 (some .boolean) rm_A_price [.ref (ad 0), .int x1, .int x2, .long x3] H (fun v H1 => v = some (.int (f_price σ x1 x2 x3).2) ∧ PX D K B ad w (f_price σ x1 x2 x3).1 H1) := by
  refine Met.ofW (cc := b_A_price) (maxL := 5) (ret := (some .boolean)) (by decide) rfl ?_
  intro p e s m args below meth c s₁ B0 hml hv
  obtain ⟨rfl, hsz, hK, hN⟩ := hv
  have hx := B0.exec
  have hb := B0.bytes
  have hr := B0.returns
  have htw : ∀ w ∈ xW0, w.before [.ref (ad 0), .int x1, .int x2, .long x3].toArray s = true := fun w h => atoms_spec (ws := Cond.code y_A_price b_A_price 5 (some .boolean) :: xW0) B0.pre w (List.mem_cons_of_mem _ h)
  have hown : s.vm.findClass R_A = some m.cls := findClass_of_methodNamed B0.named
  have hlocks := B0.notSynchronized
  subst hsz
  have hS : va_S (fun q => B ≤ q) s.heap s.heap [] := va_S.rf
  have hl := lv_entry ([.ref (ad 0), .int x1, .int x2, .long x3]) (n := 5) (Nat.le_of_ble_eq_true rfl)
  rw [lg_entry_eq]
  generalize (lg_sl ([.ref (ad 0), .int x1, .int x2, .long x3]) ++ List.replicate (5 - (lg_sl ([.ref (ad 0), .int x1, .int x2, .long x3])).length) Slot.unset).toArray = ls at hl ⊢
  have hl : lv_has ls 5 [(0, .ref (ad 0)), (1, .int x1), (2, .int x2), (3, .long x3)] := hl
  have hH : s.heap = s.heap := rfl
  obtain ⟨r0, r1, r2, r3, r4, r5, r6, r7, rb, rba, rbt, rbo, rs, rss, rr⟩ := id hR
  obtain ⟨hnb, hns, hnr, hpc, hst, hto, htl, hrm, hpa, hwt, hdf, hds⟩ := id hI
  refine lv_iload_n hx hb d_A_price_0 rfl (lv_at hl 1 rfl) ?_
  refine xr_call (va_runS (As := [.int x1]) (rest := []) ⟨hx, hb, hml, hown, htw⟩ (c_A_isMetal x1) (va_cwS 1 htw (gS u_135 u_136 u_1 u_137) rfl rfl rfl hd_A_isMetal.2 ⟨Nat.le_of_ble_eq_true rfl, Nat.le_of_ble_eq_true rfl⟩) ⟨xP_blind, xP_of hK hN⟩ rfl rfl hl.1 rfl (lv_room (Nat.le_of_ble_eq_true rfl)) d_A_price_1 ⟨by decide, by decide⟩) hS (fun v H_ locs hp hS => ?_)
  obtain ⟨rfl, hHe⟩ := hp
  rw [hHe] at hS ⊢
  refine W.eq (g2 := F0 m 4 ls [.int (bI (xm x1))]) rfl ?_
  refine lv_if_eq (tgt := 30) hx hb d_A_price_4 (by decide) (fun c_1 => ?_) (fun c_1 => ?_)
  · have c_1 : (xm x1) = false := bI_f.mp c_1
    have f2 : xi 4 x1 = none := xm_xi c_1
    refine lv_iconst (v := 0) hx hb d_A_price_30 (by decide) ?_
    have hf : f_price σ x1 x2 x3 = (σ, 0) := by simp [f_price, opt_n, opt_s, f2, c_1]
    exact W.zret (v := 0) hx hb hr (by decide) (fun t ht _ => ⟨_, rfl, by rw [hf, ht]; exact ⟨rfl, PX_same hw hR⟩, hS.F ht⟩) hS.2.2 d_A_price_31
  · have c_1 : (xm x1) = true := bI_t.mp c_1
    obtain ⟨k3, hk3, rfl⟩ := xm_of c_1
    have xk3 : xi 4 (nI k3) = some k3 := xi_nI hk3 (by decide)
    refine lv_iload_n hx hb d_A_price_7 rfl (lv_at hl 2 rfl) ?_
    refine lv_i2l hx hb d_A_price_8 rfl ?_
    refine lv_lconst (v := 0) hx hb d_A_price_9 (by decide) ?_
    refine lv_ldc2 (v := 100000) hx hb hown (htw _ u_143) d_A_price_10 ?_
    refine xr_call (va_runS (As := [.long x2.toInt64, .long 0, .long 100000]) (rest := []) ⟨hx, hb, hml, hown, htw⟩ (c_A_isWithin x2.toInt64 0 100000) (va_cwS 3 htw (gS u_77 u_78 u_1 u_79) rfl rfl rfl hd_A_isWithin.2 ⟨Nat.le_of_ble_eq_true rfl, Nat.le_of_ble_eq_true rfl⟩) ⟨xP_blind, xP_of hK hN⟩ rfl rfl hl.1 rfl (lv_room (Nat.le_of_ble_eq_true rfl)) d_A_price_13 ⟨by decide, by decide⟩) hS (fun v H_ locs hp hS => ?_)
    obtain ⟨rfl, hHe⟩ := hp
    rw [hHe] at hS ⊢
    refine W.eq (g2 := F0 m 16 ls [.int (bI (xin x2.toInt64 0 100000))]) rfl ?_
    refine lv_if_eq (tgt := 30) hx hb d_A_price_16 (by decide) (fun c_4 => ?_) (fun c_4 => ?_)
    · have c_4 : (xin x2.toInt64 0 100000) = false := bI_f.mp c_4
      refine lv_iconst (v := 0) hx hb d_A_price_30 (by decide) ?_
      have hf : f_price σ (nI k3) x2 x3 = (σ, 0) := by simp [f_price, opt_n, opt_s, xk3, c_1, c_4]
      exact W.zret (v := 0) hx hb hr (by decide) (fun t ht _ => ⟨_, rfl, by rw [hf, ht]; exact ⟨rfl, PX_same hw hR⟩, hS.F ht⟩) hS.2.2 d_A_price_31
    · have c_4 : (xin x2.toInt64 0 100000) = true := bI_t.mp c_4
      refine lv_lload_n hx hb d_A_price_19 rfl (lv_at hl 3 rfl) ?_
      refine lv_lconst (v := 0) hx hb d_A_price_20 (by decide) ?_
      refine lv_ldc2 (v := 1000000) hx hb hown (htw _ u_138) d_A_price_21 ?_
      refine xr_call (va_runS (As := [.long x3, .long 0, .long 1000000]) (rest := []) ⟨hx, hb, hml, hown, htw⟩ (c_A_isWithin x3 0 1000000) (va_cwS 3 htw (gS u_77 u_78 u_1 u_79) rfl rfl rfl hd_A_isWithin.2 ⟨Nat.le_of_ble_eq_true rfl, Nat.le_of_ble_eq_true rfl⟩) ⟨xP_blind, xP_of hK hN⟩ rfl rfl hl.1 rfl (lv_room (Nat.le_of_ble_eq_true rfl)) d_A_price_24 ⟨by decide, by decide⟩) hS (fun v H_ locs hp hS => ?_)
      obtain ⟨rfl, hHe⟩ := hp
      rw [hHe] at hS ⊢
      refine W.eq (g2 := F0 m 27 ls [.int (bI (xin x3 0 1000000))]) rfl ?_
      refine lv_if_ne (tgt := 32) hx hb d_A_price_27 (by decide) (fun c_5 => ?_) (fun c_5 => ?_)
      · have c_5 : (xin x3 0 1000000) = true := bI_t.mp c_5
        refine lv_aload_n hx hb d_A_price_32 rfl (lv_at hl 0 rfl) ?_
        refine xr_get (ci := 0) (v := .ref (ad 4)) (C := R_A) (T := T_A) (N := 10) hx hb htw in_A hown hK hw 0 r0 rfl rfl 6 (by decide) (htw _ u_47) (fun _ h9 => h9) rfl d_A_price_33 ?_
        refine lv_iload_n hx hb d_A_price_36 rfl (lv_at hl 1 rfl) ?_
        refine lv_iload_n hx hb d_A_price_37 rfl (lv_at hl 2 rfl) ?_
        refine lv_lload_n hx hb d_A_price_38 rfl (lv_at hl 3 rfl) ?_
        refine xr_call (va_runV (As := [.int (nI k3), .int x2, .long x3]) (rest := []) ⟨hx, hb, hml, hown, htw⟩ (c_P_append (ad := ad) hR hI hw k3 (by omega) x2 x3) (cwV 3 htw (gV u_208 u_209 u_210 u_2 u_211) rfl rfl rfl hd_P_append ⟨Nat.le_of_ble_eq_true rfl, Nat.le_of_ble_eq_true rfl⟩) ⟨xP_blind, hw.recv hK (ci := 4) (t := 4) rfl r4 rfl, xP_of hK hN⟩ rfl rfl hl.1 rfl (lv_room (Nat.le_of_ble_eq_true rfl)) d_A_price_39 ⟨by decide, by decide⟩) hS (fun v H_ locs hp hS => ?_)
        obtain ⟨rfl, hPX⟩ := hp
        refine W.eq (g2 := F0 m 42 ls [.int ((f_append σ k3 x2 x3).2)]) rfl ?_
        have hf : f_price σ (nI k3) x2 x3 = f_append σ k3 x2 x3 := by simp [f_price, opt_n, opt_s, xk3, c_1, c_4, c_5]
        exact W.zret (v := (f_append σ k3 x2 x3).2) hx hb hr f_append_nar (fun t ht _ => ⟨_, rfl, by rw [hf, ht]; exact ⟨rfl, hPX⟩, hS.F ht⟩) hS.2.2 d_A_price_42
      · have c_5 : (xin x3 0 1000000) = false := bI_f.mp c_5
        refine lv_iconst (v := 0) hx hb d_A_price_30 (by decide) ?_
        have hf : f_price σ (nI k3) x2 x3 = (σ, 0) := by simp [f_price, opt_n, opt_s, xk3, c_1, c_4, c_5]
        exact W.zret (v := 0) hx hb hr (by decide) (fun t ht _ => ⟨_, rfl, by rw [hf, ht]; exact ⟨rfl, PX_same hw hR⟩, hS.F ht⟩) hS.2.2 d_A_price_31
