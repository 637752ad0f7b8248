set_option maxHeartbeats 4000000 in
set_option maxRecDepth 100000 in
theorem c_M_stage {l : Launch} {D : va_G} {K : Nat → ClassId} {B : Nat} {ad : Nat → Nat} {w : Nat → Option va_E} {H : Heap} {σ : xS} (hR : RepM K σ ad w) (hI : Inv σ) (hw : xw D vwCl B ad w H) (x1 x2 x3 : Int32) : xC l D K B y_M_stage b_M_stage 4 (some .int) rm_M_stage [.ref (ad 200), .int x1, .int x2, .int x3] H (fun v H1 => v = some (.int (f_stage σ x1 x2 x3).2) ∧ PM D K B ad w (f_stage σ x1 x2 x3).1 H1) := by
  refine Met.ofW (cc := b_M_stage) (maxL := 4) (ret := (some .int)) (by decide) rfl ?_
  intro p e s m args below meth c s₁ B0 hml hv
  obtain ⟨rfl, hsz, hK, hN⟩ := hv
  have hx := B0.exec
  have hb := B0.bytes
  have hr := B0.returns
  have htw : ∀ w ∈ xW0, w.before [.ref (ad 200), .int x1, .int x2, .int x3].toArray s = true := fun w h => atoms_spec (ws := Cond.code y_M_stage b_M_stage 4 (some .int) :: xW0) B0.pre w (List.mem_cons_of_mem _ h)
  have hown : s.vm.findClass R_M = some m.cls := findClass_of_methodNamed B0.named
  have hlocks := B0.notSynchronized
  subst hsz
  have hS : va_S (fun q => B ≤ q) s.heap s.heap [] := va_S.rf
  have hl := lv_entry ([.ref (ad 200), .int x1, .int x2, .int x3]) (n := 4) (Nat.le_of_ble_eq_true rfl)
  rw [lg_entry_eq]
  generalize (lg_sl ([.ref (ad 200), .int x1, .int x2, .int x3]) ++ List.replicate (4 - (lg_sl ([.ref (ad 200), .int x1, .int x2, .int x3])).length) Slot.unset).toArray = ls at hl ⊢
  have hl : lv_has ls 4 [(0, .ref (ad 200)), (1, .int x1), (2, .int x2), (3, .int x3)] := hl
  have hH : s.heap = s.heap := rfl
  obtain ⟨FA, FT, FS, FO, m200, m203, m204, m205, m206, m207, m208, m209, m210, m212, m213, m214, m215, m216, m217, m218, m220, m223, m224, m225, m226, hFA, hFT, hFS, hFO⟩ := id hR
  obtain ⟨hnb, hns, hnr, hpc, hst, hto, htl, hrm, hpa, hwt, hdf, hds⟩ := id hI
  refine lv_aload_n hx hb d_M_stage_0 rfl (lv_at hl 0 rfl) ?_
  refine xr_get (ci := 5) (v := .int (nI (σ.1 1))) (C := R_M) (T := T_M) (N := 26) hx hb htw in_M hown hK hw 200 m200 rfl rfl 10 (by decide) (htw _ u_344) (fun _ h9 => h9) rfl d_M_stage_1 ?_
  refine lv_bipush (v := 6) hx hb d_M_stage_4 (by decide) ?_
  refine lv_icmp_eq (tgt := 40) hx hb d_M_stage_6 (by decide) (fun c_1 => ?_) (fun c_1 => ?_)
  · have c_1 : (σ.1 1) = 6 := (nEQ (a := σ.1 1) (b := 6) (by omega) (by omega)).mp c_1
    refine lv_iconst (v := (-1)) hx hb d_M_stage_40 (by decide) ?_
    have hf : f_stage σ x1 x2 x3 = (σ, (-1)) := by simp [f_stage, opt_n, opt_s, c_1, show ¬ σ.1 1 < 6 by omega, opt_c]
    exact W.iret (v := (-1)) hx hb hr (fun t ht _ => ⟨_, rfl, by rw [hf, ht]; exact ⟨rfl, PM_same hw hR⟩, hS.F ht⟩) hS.2.2 d_M_stage_41
  · have c_1 : ¬ (σ.1 1) = 6 := fun z => c_1 ((nEQ (a := σ.1 1) (b := 6) (by omega) (by omega)).mpr z)
    refine lv_iload_n hx hb d_M_stage_9 rfl (lv_at hl 1 rfl) ?_
    refine xr_call (va_runS (As := [.int x1]) (rest := []) ⟨hx, hb, hml, hown, htw⟩ (c_M_isMetal x1) (va_cwS 1 htw (gS u_434 u_435 u_3 u_436) rfl rfl rfl hd_M_isMetal.2 ⟨Nat.le_of_ble_eq_true rfl, Nat.le_of_ble_eq_true rfl⟩) ⟨xP_blind, xP_of hK hN⟩ rfl rfl hl.1 rfl (lv_room (Nat.le_of_ble_eq_true rfl)) d_M_stage_10 ⟨by decide, by decide⟩) hS (fun v H_ locs hp hS => ?_)
    obtain ⟨rfl, hHe⟩ := hp
    rw [hHe] at hS ⊢
    refine W.eq (g2 := F0 m 13 ls [.int (bI (xm x1))]) rfl ?_
    refine lv_if_eq (tgt := 40) hx hb d_M_stage_13 (by decide) (fun c_2 => ?_) (fun c_2 => ?_)
    · have c_2 : (xm x1) = false := bI_f.mp c_2
      refine lv_iconst (v := (-1)) hx hb d_M_stage_40 (by decide) ?_
      have hf : f_stage σ x1 x2 x3 = (σ, (-1)) := by simp [f_stage, opt_n, opt_s, c_1, c_2, show σ.1 1 < 6 by omega, opt_c]
      exact W.iret (v := (-1)) hx hb hr (fun t ht _ => ⟨_, rfl, by rw [hf, ht]; exact ⟨rfl, PM_same hw hR⟩, hS.F ht⟩) hS.2.2 d_M_stage_41
    · have c_2 : (xm x1) = true := bI_t.mp c_2
      refine lv_iload_n hx hb d_M_stage_16 rfl (lv_at hl 2 rfl) ?_
      refine lv_i2l hx hb d_M_stage_17 rfl ?_
      refine lv_lconst (v := 0) hx hb d_M_stage_18 (by decide) ?_
      refine lv_ldc2 (v := 1000) hx hb hown (htw _ u_456) d_M_stage_19 ?_
      refine xr_call (va_runS (As := [.long x2.toInt64, .long 0, .long 1000]) (rest := []) ⟨hx, hb, hml, hown, htw⟩ (c_M_isIn x2.toInt64 0 1000) (va_cwS 3 htw (gS u_419 u_420 u_3 u_421) rfl rfl rfl hd_M_isIn.2 ⟨Nat.le_of_ble_eq_true rfl, Nat.le_of_ble_eq_true rfl⟩) ⟨xP_blind, xP_of hK hN⟩ rfl rfl hl.1 rfl (lv_room (Nat.le_of_ble_eq_true rfl)) d_M_stage_22 ⟨by decide, by decide⟩) hS (fun v H_ locs hp hS => ?_)
      obtain ⟨rfl, hHe⟩ := hp
      rw [hHe] at hS ⊢
      refine W.eq (g2 := F0 m 25 ls [.int (bI (xin x2.toInt64 0 1000))]) rfl ?_
      refine lv_if_eq (tgt := 40) hx hb d_M_stage_25 (by decide) (fun c_3 => ?_) (fun c_3 => ?_)
      · have c_3 : (xin x2.toInt64 0 1000) = false := bI_f.mp c_3
        refine lv_iconst (v := (-1)) hx hb d_M_stage_40 (by decide) ?_
        have hf : f_stage σ x1 x2 x3 = (σ, (-1)) := by simp [f_stage, opt_n, opt_s, c_1, c_2, c_3, show σ.1 1 < 6 by omega, opt_c]
        exact W.iret (v := (-1)) hx hb hr (fun t ht _ => ⟨_, rfl, by rw [hf, ht]; exact ⟨rfl, PM_same hw hR⟩, hS.F ht⟩) hS.2.2 d_M_stage_41
      · have c_3 : (xin x2.toInt64 0 1000) = true := bI_t.mp c_3
        refine lv_iload_n hx hb d_M_stage_28 rfl (lv_at hl 3 rfl) ?_
        refine lv_i2l hx hb d_M_stage_29 rfl ?_
        refine lv_lconst (v := 0) hx hb d_M_stage_30 (by decide) ?_
        refine lv_ldc2 (v := 1000) hx hb hown (htw _ u_456) d_M_stage_31 ?_
        refine xr_call (va_runS (As := [.long x3.toInt64, .long 0, .long 1000]) (rest := []) ⟨hx, hb, hml, hown, htw⟩ (c_M_isIn x3.toInt64 0 1000) (va_cwS 3 htw (gS u_419 u_420 u_3 u_421) rfl rfl rfl hd_M_isIn.2 ⟨Nat.le_of_ble_eq_true rfl, Nat.le_of_ble_eq_true rfl⟩) ⟨xP_blind, xP_of hK hN⟩ rfl rfl hl.1 rfl (lv_room (Nat.le_of_ble_eq_true rfl)) d_M_stage_34 ⟨by decide, by decide⟩) hS (fun v H_ locs hp hS => ?_)
        obtain ⟨rfl, hHe⟩ := hp
        rw [hHe] at hS ⊢
        refine W.eq (g2 := F0 m 37 ls [.int (bI (xin x3.toInt64 0 1000))]) rfl ?_
        refine lv_if_ne (tgt := 42) hx hb d_M_stage_37 (by decide) (fun c_4 => ?_) (fun c_4 => ?_)
        · have c_4 : (xin x3.toInt64 0 1000) = true := bI_t.mp c_4
          refine lv_aload_n hx hb d_M_stage_42 rfl (lv_at hl 0 rfl) ?_
          refine xr_get (ci := 5) (v := .ref (ad 212)) (C := R_M) (T := T_M) (N := 26) hx hb htw in_M hown hK hw 200 m200 rfl rfl 11 (by decide) (htw _ u_345) (fun _ h9 => h9) rfl d_M_stage_43 ?_
          refine lv_aload_n hx hb d_M_stage_46 rfl (lv_at hl 0 rfl) ?_
          refine xr_get (ci := 5) (v := .int (nI (σ.1 1))) (C := R_M) (T := T_M) (N := 26) hx hb htw in_M hown hK hw 200 m200 rfl rfl 10 (by decide) (htw _ u_344) (fun _ h9 => h9) rfl d_M_stage_47 ?_
          refine lv_iload_n hx hb d_M_stage_50 rfl (lv_at hl 1 rfl) ?_
          refine xr_iast (i := nI (σ.1 1)) hx hb hK hw hS 212 0 m212 rfl rfl (xvin (a := σ.1 1) rfl (by omega) (by omega)) d_M_stage_51 (fun H locs hw hS => ?_)
          rw [show (nI (σ.1 1)).toNatClampNeg = σ.1 1 from xcl (a := σ.1 1) rfl (by omega)] at hw
          have hw : xw D vwCl B ad (xu w 212 (.inl (K 0, 6, .inl (upd (σ.2.1 3) (σ.1 1) x1)))) H := hw
          refine lv_aload_n hx hb d_M_stage_52 rfl (lv_at hl 0 rfl) ?_
          refine xr_get (ci := 5) (v := .ref (ad 213)) (C := R_M) (T := T_M) (N := 26) hx hb htw in_M hown hK hw 200 ((xu_ne (by omega)).trans (m200)) rfl rfl 12 (by decide) (htw _ u_346) (fun _ h9 => h9) rfl d_M_stage_53 ?_
          refine lv_aload_n hx hb d_M_stage_56 rfl (lv_at hl 0 rfl) ?_
          refine xr_get (ci := 5) (v := .int (nI (σ.1 1))) (C := R_M) (T := T_M) (N := 26) hx hb htw in_M hown hK hw 200 ((xu_ne (by omega)).trans (m200)) rfl rfl 10 (by decide) (htw _ u_344) (fun _ h9 => h9) rfl d_M_stage_57 ?_
          refine lv_iload_n hx hb d_M_stage_60 rfl (lv_at hl 2 rfl) ?_
          refine xr_iast (i := nI (σ.1 1)) hx hb hK hw hS 213 0 ((xu_ne (by omega)).trans (m213)) rfl rfl (xvin (a := σ.1 1) rfl (by omega) (by omega)) d_M_stage_61 (fun H locs hw hS => ?_)
          rw [show (nI (σ.1 1)).toNatClampNeg = σ.1 1 from xcl (a := σ.1 1) rfl (by omega)] at hw
          have hw : xw D vwCl B ad (xu (xu w 212 (.inl (K 0, 6, .inl (upd (σ.2.1 3) (σ.1 1) x1)))) 213 (.inl (K 0, 6, .inl (upd (σ.2.1 4) (σ.1 1) x2)))) H := hw
          refine lv_aload_n hx hb d_M_stage_62 rfl (lv_at hl 0 rfl) ?_
          refine xr_get (ci := 5) (v := .ref (ad 214)) (C := R_M) (T := T_M) (N := 26) hx hb htw in_M hown hK hw 200 ((xu_ne (by omega)).trans ((xu_ne (by omega)).trans (m200))) rfl rfl 13 (by decide) (htw _ u_347) (fun _ h9 => h9) rfl d_M_stage_63 ?_
          refine lv_aload_n hx hb d_M_stage_66 rfl (lv_at hl 0 rfl) ?_
          refine xr_get (ci := 5) (v := .int (nI (σ.1 1))) (C := R_M) (T := T_M) (N := 26) hx hb htw in_M hown hK hw 200 ((xu_ne (by omega)).trans ((xu_ne (by omega)).trans (m200))) rfl rfl 10 (by decide) (htw _ u_344) (fun _ h9 => h9) rfl d_M_stage_67 ?_
          refine lv_iload_n hx hb d_M_stage_70 rfl (lv_at hl 3 rfl) ?_
          refine xr_iast (i := nI (σ.1 1)) hx hb hK hw hS 214 0 ((xu_ne (by omega)).trans ((xu_ne (by omega)).trans (m214))) rfl rfl (xvin (a := σ.1 1) rfl (by omega) (by omega)) d_M_stage_71 (fun H locs hw hS => ?_)
          rw [show (nI (σ.1 1)).toNatClampNeg = σ.1 1 from xcl (a := σ.1 1) rfl (by omega)] at hw
          have hw : xw D vwCl B ad (xu (xu (xu w 212 (.inl (K 0, 6, .inl (upd (σ.2.1 3) (σ.1 1) x1)))) 213 (.inl (K 0, 6, .inl (upd (σ.2.1 4) (σ.1 1) x2)))) 214 (.inl (K 0, 6, .inl (upd (σ.2.1 5) (σ.1 1) x3)))) H := hw
          refine lv_aload_n hx hb d_M_stage_72 rfl (lv_at hl 0 rfl) ?_
          refine lv_dup hx hb d_M_stage_73 rfl ?_
          refine xr_get (ci := 5) (v := .int (nI (σ.1 1))) (C := R_M) (T := T_M) (N := 26) hx hb htw in_M hown hK hw 200 ((xu_ne (by omega)).trans ((xu_ne (by omega)).trans ((xu_ne (by omega)).trans (m200)))) rfl rfl 10 (by decide) (htw _ u_344) (fun _ h9 => h9) rfl d_M_stage_74 ?_
          refine lv_iconst (v := 1) hx hb d_M_stage_77 (by decide) ?_
          refine lv_iadd hx hb d_M_stage_78 ?_
          refine xr_put (ci := 5) (v := .int ((nI (σ.1 1)) + 1)) (ty := .int) (C := R_M) (T := T_M) (N := 26) hx hb htw in_M ty_M tk_M nm_M hown hK hw hS 200 ((xu_ne (by omega)).trans ((xu_ne (by omega)).trans ((xu_ne (by omega)).trans (m200)))) rfl rfl 10 (by decide) (htw _ u_344) (fun _ h9 => h9) rfl (by decide +kernel) rfl rfl (Nat.le_of_ble_eq_true rfl) d_M_stage_79 (fun H locs hw hS => ?_)
          have hw : xw D vwCl B ad (xu (xu (xu (xu w 212 (.inl (K 0, 6, .inl (upd (σ.2.1 3) (σ.1 1) x1)))) 213 (.inl (K 0, 6, .inl (upd (σ.2.1 4) (σ.1 1) x2)))) 214 (.inl (K 0, 6, .inl (upd (σ.2.1 5) (σ.1 1) x3)))) 200 (.inr (5, [.int (σ.2.1 0 0), .int (nI (σ.1 0)), .ref (ad 203), .ref (ad 204), .ref (ad 205), .ref (ad 206), .ref (ad 207), .ref (ad 208), .ref (ad 209), .ref (ad 210), .int ((nI (σ.1 1)) + 1), .ref (ad 212), .ref (ad 213), .ref (ad 214), .ref (ad 215), .ref (ad 216), .ref (ad 217), .ref (ad 218), .long (σ.2.2.1 0 0), .ref (ad 220), .int (σ.2.1 0 1), .int (nI (σ.1 2)), .ref (ad 223), .ref (ad 224), .ref (ad 225), .ref (ad 226)]))) H := hw
          refine lv_aload_n hx hb d_M_stage_82 rfl (lv_at hl 0 rfl) ?_
          refine xr_get (ci := 5) (v := .int ((nI (σ.1 1)) + 1)) (C := R_M) (T := T_M) (N := 26) hx hb htw in_M hown hK hw 200 xu_eq rfl rfl 10 (by decide) (htw _ u_344) (fun _ h9 => h9) rfl d_M_stage_83 ?_
          refine lv_iconst (v := 1) hx hb d_M_stage_86 (by decide) ?_
          refine lv_isub hx hb d_M_stage_87 ?_
          have hRep : RepM K (s_stage σ x1 x2 x3) ad (xu (xu (xu (xu w 212 (.inl (K 0, 6, .inl (upd (σ.2.1 3) (σ.1 1) x1)))) 213 (.inl (K 0, 6, .inl (upd (σ.2.1 4) (σ.1 1) x2)))) 214 (.inl (K 0, 6, .inl (upd (σ.2.1 5) (σ.1 1) x3)))) 200 (.inr (5, [.int (σ.2.1 0 0), .int (nI (σ.1 0)), .ref (ad 203), .ref (ad 204), .ref (ad 205), .ref (ad 206), .ref (ad 207), .ref (ad 208), .ref (ad 209), .ref (ad 210), .int ((nI (σ.1 1)) + 1), .ref (ad 212), .ref (ad 213), .ref (ad 214), .ref (ad 215), .ref (ad 216), .ref (ad 217), .ref (ad 218), .long (σ.2.2.1 0 0), .ref (ad 220), .int (σ.2.1 0 1), .int (nI (σ.1 2)), .ref (ad 223), .ref (ad 224), .ref (ad 225), .ref (ad 226)]))) := by
            unfold s_stage
            refine ⟨FA, FT, FS, FO, ?_, ?_, ?_, ?_, ?_, ?_, ?_, ?_, ?_, ?_, ?_, ?_, ?_, ?_, ?_, ?_, ?_, ?_, ?_, ?_, ?_, ?_, ?_, ?_, ?_⟩
            · simp (disch := omega) only [pN, pI, pL, pZ, row_eq, row_ne, xu_eq, xu_ne, xa_eq, xa_ne, pk_us, pk_un, pk_uLs, pk_uLn, nI_succ, m200]
            · simp (disch := omega) only [pN, pI, pL, pZ, row_eq, row_ne, xu_eq, xu_ne, xa_eq, xa_ne, pk_us, pk_un, pk_uLs, pk_uLn, nI_succ, m203]
            · simp (disch := omega) only [pN, pI, pL, pZ, row_eq, row_ne, xu_eq, xu_ne, xa_eq, xa_ne, pk_us, pk_un, pk_uLs, pk_uLn, nI_succ, m204]
            · simp (disch := omega) only [pN, pI, pL, pZ, row_eq, row_ne, xu_eq, xu_ne, xa_eq, xa_ne, pk_us, pk_un, pk_uLs, pk_uLn, nI_succ, m205]
            · simp (disch := omega) only [pN, pI, pL, pZ, row_eq, row_ne, xu_eq, xu_ne, xa_eq, xa_ne, pk_us, pk_un, pk_uLs, pk_uLn, nI_succ, m206]
            · simp (disch := omega) only [pN, pI, pL, pZ, row_eq, row_ne, xu_eq, xu_ne, xa_eq, xa_ne, pk_us, pk_un, pk_uLs, pk_uLn, nI_succ, m207]
            · simp (disch := omega) only [pN, pI, pL, pZ, row_eq, row_ne, xu_eq, xu_ne, xa_eq, xa_ne, pk_us, pk_un, pk_uLs, pk_uLn, nI_succ, m208]
            · simp (disch := omega) only [pN, pI, pL, pZ, row_eq, row_ne, xu_eq, xu_ne, xa_eq, xa_ne, pk_us, pk_un, pk_uLs, pk_uLn, nI_succ, m209]
            · simp (disch := omega) only [pN, pI, pL, pZ, row_eq, row_ne, xu_eq, xu_ne, xa_eq, xa_ne, pk_us, pk_un, pk_uLs, pk_uLn, nI_succ, m210]
            · simp (disch := omega) only [pN, pI, pL, pZ, row_eq, row_ne, xu_eq, xu_ne, xa_eq, xa_ne, pk_us, pk_un, pk_uLs, pk_uLn, nI_succ, m212]
            · simp (disch := omega) only [pN, pI, pL, pZ, row_eq, row_ne, xu_eq, xu_ne, xa_eq, xa_ne, pk_us, pk_un, pk_uLs, pk_uLn, nI_succ, m213]
            · simp (disch := omega) only [pN, pI, pL, pZ, row_eq, row_ne, xu_eq, xu_ne, xa_eq, xa_ne, pk_us, pk_un, pk_uLs, pk_uLn, nI_succ, m214]
            · simp (disch := omega) only [pN, pI, pL, pZ, row_eq, row_ne, xu_eq, xu_ne, xa_eq, xa_ne, pk_us, pk_un, pk_uLs, pk_uLn, nI_succ, m215]
            · simp (disch := omega) only [pN, pI, pL, pZ, row_eq, row_ne, xu_eq, xu_ne, xa_eq, xa_ne, pk_us, pk_un, pk_uLs, pk_uLn, nI_succ, m216]
            · simp (disch := omega) only [pN, pI, pL, pZ, row_eq, row_ne, xu_eq, xu_ne, xa_eq, xa_ne, pk_us, pk_un, pk_uLs, pk_uLn, nI_succ, m217]
            · simp (disch := omega) only [pN, pI, pL, pZ, row_eq, row_ne, xu_eq, xu_ne, xa_eq, xa_ne, pk_us, pk_un, pk_uLs, pk_uLn, nI_succ, m218]
            · simp (disch := omega) only [pN, pI, pL, pZ, row_eq, row_ne, xu_eq, xu_ne, xa_eq, xa_ne, pk_us, pk_un, pk_uLs, pk_uLn, nI_succ, m220]
            · simp (disch := omega) only [pN, pI, pL, pZ, row_eq, row_ne, xu_eq, xu_ne, xa_eq, xa_ne, pk_us, pk_un, pk_uLs, pk_uLn, nI_succ, m223]
            · simp (disch := omega) only [pN, pI, pL, pZ, row_eq, row_ne, xu_eq, xu_ne, xa_eq, xa_ne, pk_us, pk_un, pk_uLs, pk_uLn, nI_succ, m224]
            · simp (disch := omega) only [pN, pI, pL, pZ, row_eq, row_ne, xu_eq, xu_ne, xa_eq, xa_ne, pk_us, pk_un, pk_uLs, pk_uLn, nI_succ, m225]
            · simp (disch := omega) only [pN, pI, pL, pZ, row_eq, row_ne, xu_eq, xu_ne, xa_eq, xa_ne, pk_us, pk_un, pk_uLs, pk_uLn, nI_succ, m226]
            · intro b q hb hq; simp (disch := omega) only [pN, pI, pL, pZ, row_eq, row_ne, xu_eq, xu_ne, xa_eq, xa_ne, pk_us, pk_un, pk_uLs, pk_uLn, nI_succ]; exact hFA b q hb hq
            · intro b q hb hq; simp (disch := omega) only [pN, pI, pL, pZ, row_eq, row_ne, xu_eq, xu_ne, xa_eq, xa_ne, pk_us, pk_un, pk_uLs, pk_uLn, nI_succ]; exact hFT b q hb hq
            · intro b q hb hq; simp (disch := omega) only [pN, pI, pL, pZ, row_eq, row_ne, xu_eq, xu_ne, xa_eq, xa_ne, pk_us, pk_un, pk_uLs, pk_uLn, nI_succ]; exact hFS b q hb hq
            · intro b q hb hq; simp (disch := omega) only [pN, pI, pL, pZ, row_eq, row_ne, xu_eq, xu_ne, xa_eq, xa_ne, pk_us, pk_un, pk_uLs, pk_uLn, nI_succ]; exact hFO b q hb hq
          have hf : f_stage σ x1 x2 x3 = (s_stage σ x1 x2 x3, nI (σ.1 1)) := by simp [f_stage, opt_n, opt_s, c_1, c_2, c_3, c_4, show σ.1 1 < 6 by omega]
          exact W.iret (v := ((nI (σ.1 1)) + 1) - 1) hx hb hr (fun t ht _ => ⟨_, rfl, by rw [hf, ht]; exact ⟨congrArg (fun z => some (Value.int z)) (nI_back _), _, hw, hRep, fun t h2 => by simp (disch := omega) only [xu_ne, nI_succ]⟩, hS.F ht⟩) hS.2.2 d_M_stage_88
        · have c_4 : (xin x3.toInt64 0 1000) = false := bI_f.mp c_4
          refine lv_iconst (v := (-1)) hx hb d_M_stage_40 (by decide) ?_
          have hf : f_stage σ x1 x2 x3 = (σ, (-1)) := by simp [f_stage, opt_n, opt_s, c_1, c_2, c_3, c_4, show σ.1 1 < 6 by omega, opt_c]
          exact W.iret (v := (-1)) hx hb hr (fun t ht _ => ⟨_, rfl, by rw [hf, ht]; exact ⟨rfl, PM_same hw hR⟩, hS.F ht⟩) hS.2.2 d_M_stage_41
set_option maxHeartbeats 4000000 in
set_option maxRecDepth 100000 in
theorem c_M_rule {l : Launch} {D : va_G} {K : Nat → ClassId} {B : Nat} {ad : Nat → Nat} {w : Nat → Option va_E} {H : Heap} {σ : xS} (hR : RepM K σ ad w) (hI : Inv σ) (hw : xw D vwCl B ad w H) (x1 x2 x3 x4 : Int32) : xC l D K B y_M_rule b_M_rule 5 (some .int) rm_M_rule [.ref (ad 200), .int x1, .int x2, .int x3, .int x4] H (fun v H1 => v = some (.int (f_rule σ x1 x2 x3 x4).2) ∧ PM D K B ad w (f_rule σ x1 x2 x3 x4).1 H1) := by
  refine Met.ofW (cc := b_M_rule) (maxL := 5) (ret := (some .int)) (by decide) rfl ?_
  intro p e s m args below meth c s₁ B0 hml hv
  obtain ⟨rfl, hsz, hK, hN⟩ := hv
  have hx := B0.exec
  have hb := B0.bytes
  have hr := B0.returns
  have htw : ∀ w ∈ xW0, w.before [.ref (ad 200), .int x1, .int x2, .int x3, .int x4].toArray s = true := fun w h => atoms_spec (ws := Cond.code y_M_rule b_M_rule 5 (some .int) :: xW0) B0.pre w (List.mem_cons_of_mem _ h)
  have hown : s.vm.findClass R_M = some m.cls := findClass_of_methodNamed B0.named
  have hlocks := B0.notSynchronized
  subst hsz
  have hS : va_S (fun q => B ≤ q) s.heap s.heap [] := va_S.rf
  have hl := lv_entry ([.ref (ad 200), .int x1, .int x2, .int x3, .int x4]) (n := 5) (Nat.le_of_ble_eq_true rfl)
  rw [lg_entry_eq]
  generalize (lg_sl ([.ref (ad 200), .int x1, .int x2, .int x3, .int x4]) ++ List.replicate (5 - (lg_sl ([.ref (ad 200), .int x1, .int x2, .int x3, .int x4])).length) Slot.unset).toArray = ls at hl ⊢
  have hl : lv_has ls 5 [(0, .ref (ad 200)), (1, .int x1), (2, .int x2), (3, .int x3), (4, .int x4)] := hl
  have hH : s.heap = s.heap := rfl
  obtain ⟨FA, FT, FS, FO, m200, m203, m204, m205, m206, m207, m208, m209, m210, m212, m213, m214, m215, m216, m217, m218, m220, m223, m224, m225, m226, hFA, hFT, hFS, hFO⟩ := id hR
  obtain ⟨hnb, hns, hnr, hpc, hst, hto, htl, hrm, hpa, hwt, hdf, hds⟩ := id hI
  refine lv_aload_n hx hb d_M_rule_0 rfl (lv_at hl 0 rfl) ?_
  refine xr_get (ci := 5) (v := .int (nI (σ.1 2))) (C := R_M) (T := T_M) (N := 26) hx hb htw in_M hown hK hw 200 m200 rfl rfl 21 (by decide) (htw _ u_355) (fun _ h9 => h9) rfl d_M_rule_1 ?_
  refine lv_bipush (v := 8) hx hb d_M_rule_4 (by decide) ?_
  refine lv_icmp_eq (tgt := 53) hx hb d_M_rule_6 (by decide) (fun c_1 => ?_) (fun c_1 => ?_)
  · have c_1 : (σ.1 2) = 8 := (nEQ (a := σ.1 2) (b := 8) (by omega) (by omega)).mp c_1
    refine lv_iconst (v := (-1)) hx hb d_M_rule_53 (by decide) ?_
    have hf : f_rule σ x1 x2 x3 x4 = (σ, (-1)) := by simp [f_rule, opt_n, opt_s, c_1, show ¬ σ.1 2 < 8 by omega, opt_c]
    exact W.iret (v := (-1)) hx hb hr (fun t ht _ => ⟨_, rfl, by rw [hf, ht]; exact ⟨rfl, PM_same hw hR⟩, hS.F ht⟩) hS.2.2 d_M_rule_54
  · have c_1 : ¬ (σ.1 2) = 8 := fun z => c_1 ((nEQ (a := σ.1 2) (b := 8) (by omega) (by omega)).mpr z)
    refine lv_iload_n hx hb d_M_rule_9 rfl (lv_at hl 1 rfl) ?_
    refine lv_i2l hx hb d_M_rule_10 rfl ?_
    refine lv_lconst (v := 0) hx hb d_M_rule_11 (by decide) ?_
    refine lv_ldc2 (v := 9) hx hb hown (htw _ u_528) d_M_rule_12 ?_
    refine xr_call (va_runS (As := [.long x1.toInt64, .long 0, .long 9]) (rest := []) ⟨hx, hb, hml, hown, htw⟩ (c_M_isIn x1.toInt64 0 9) (va_cwS 3 htw (gS u_419 u_420 u_3 u_421) rfl rfl rfl hd_M_isIn.2 ⟨Nat.le_of_ble_eq_true rfl, Nat.le_of_ble_eq_true rfl⟩) ⟨xP_blind, xP_of hK hN⟩ rfl rfl hl.1 rfl (lv_room (Nat.le_of_ble_eq_true rfl)) d_M_rule_15 ⟨by decide, by decide⟩) hS (fun v H_ locs hp hS => ?_)
    obtain ⟨rfl, hHe⟩ := hp
    rw [hHe] at hS ⊢
    refine W.eq (g2 := F0 m 18 ls [.int (bI (xin x1.toInt64 0 9))]) rfl ?_
    refine lv_if_eq (tgt := 53) hx hb d_M_rule_18 (by decide) (fun c_2 => ?_) (fun c_2 => ?_)
    · have c_2 : (xin x1.toInt64 0 9) = false := bI_f.mp c_2
      refine lv_iconst (v := (-1)) hx hb d_M_rule_53 (by decide) ?_
      have hf : f_rule σ x1 x2 x3 x4 = (σ, (-1)) := by simp [f_rule, opt_n, opt_s, c_1, c_2, show σ.1 2 < 8 by omega, opt_c]
      exact W.iret (v := (-1)) hx hb hr (fun t ht _ => ⟨_, rfl, by rw [hf, ht]; exact ⟨rfl, PM_same hw hR⟩, hS.F ht⟩) hS.2.2 d_M_rule_54
    · have c_2 : (xin x1.toInt64 0 9) = true := bI_t.mp c_2
      refine lv_iload_n hx hb d_M_rule_21 rfl (lv_at hl 2 rfl) ?_
      refine xr_call (va_runS (As := [.int x2]) (rest := []) ⟨hx, hb, hml, hown, htw⟩ (c_M_isMetal x2) (va_cwS 1 htw (gS u_434 u_435 u_3 u_436) rfl rfl rfl hd_M_isMetal.2 ⟨Nat.le_of_ble_eq_true rfl, Nat.le_of_ble_eq_true rfl⟩) ⟨xP_blind, xP_of hK hN⟩ rfl rfl hl.1 rfl (lv_room (Nat.le_of_ble_eq_true rfl)) d_M_rule_22 ⟨by decide, by decide⟩) hS (fun v H_ locs hp hS => ?_)
      obtain ⟨rfl, hHe⟩ := hp
      rw [hHe] at hS ⊢
      refine W.eq (g2 := F0 m 25 ls [.int (bI (xm x2))]) rfl ?_
      refine lv_if_eq (tgt := 53) hx hb d_M_rule_25 (by decide) (fun c_3 => ?_) (fun c_3 => ?_)
      · have c_3 : (xm x2) = false := bI_f.mp c_3
        refine lv_iconst (v := (-1)) hx hb d_M_rule_53 (by decide) ?_
        have hf : f_rule σ x1 x2 x3 x4 = (σ, (-1)) := by simp [f_rule, opt_n, opt_s, c_1, c_2, c_3, show σ.1 2 < 8 by omega, opt_c]
        exact W.iret (v := (-1)) hx hb hr (fun t ht _ => ⟨_, rfl, by rw [hf, ht]; exact ⟨rfl, PM_same hw hR⟩, hS.F ht⟩) hS.2.2 d_M_rule_54
      · have c_3 : (xm x2) = true := bI_t.mp c_3
        refine lv_iload_n hx hb d_M_rule_28 rfl (lv_at hl 3 rfl) ?_
        refine lv_i2l hx hb d_M_rule_29 rfl ?_
        refine lv_lconst (v := 0) hx hb d_M_rule_30 (by decide) ?_
        refine lv_ldc2 (v := 1000000) hx hb hown (htw _ u_437) d_M_rule_31 ?_
        refine xr_call (va_runS (As := [.long x3.toInt64, .long 0, .long 1000000]) (rest := []) ⟨hx, hb, hml, hown, htw⟩ (c_M_isIn x3.toInt64 0 1000000) (va_cwS 3 htw (gS u_419 u_420 u_3 u_421) rfl rfl rfl hd_M_isIn.2 ⟨Nat.le_of_ble_eq_true rfl, Nat.le_of_ble_eq_true rfl⟩) ⟨xP_blind, xP_of hK hN⟩ rfl rfl hl.1 rfl (lv_room (Nat.le_of_ble_eq_true rfl)) d_M_rule_34 ⟨by decide, by decide⟩) hS (fun v H_ locs hp hS => ?_)
        obtain ⟨rfl, hHe⟩ := hp
        rw [hHe] at hS ⊢
        refine W.eq (g2 := F0 m 37 ls [.int (bI (xin x3.toInt64 0 1000000))]) rfl ?_
        refine lv_if_eq (tgt := 53) hx hb d_M_rule_37 (by decide) (fun c_4 => ?_) (fun c_4 => ?_)
        · have c_4 : (xin x3.toInt64 0 1000000) = false := bI_f.mp c_4
          refine lv_iconst (v := (-1)) hx hb d_M_rule_53 (by decide) ?_
          have hf : f_rule σ x1 x2 x3 x4 = (σ, (-1)) := by simp [f_rule, opt_n, opt_s, c_1, c_2, c_3, c_4, show σ.1 2 < 8 by omega, opt_c]
          exact W.iret (v := (-1)) hx hb hr (fun t ht _ => ⟨_, rfl, by rw [hf, ht]; exact ⟨rfl, PM_same hw hR⟩, hS.F ht⟩) hS.2.2 d_M_rule_54
        · have c_4 : (xin x3.toInt64 0 1000000) = true := bI_t.mp c_4
          refine lv_iload hx hb d_M_rule_40 (lv_at hl 4 rfl) ?_
          refine lv_i2l hx hb d_M_rule_42 rfl ?_
          refine lv_lconst (v := 0) hx hb d_M_rule_43 (by decide) ?_
          refine lv_ldc2 (v := 100000) hx hb hown (htw _ u_442) d_M_rule_44 ?_
          refine xr_call (va_runS (As := [.long x4.toInt64, .long 0, .long 100000]) (rest := []) ⟨hx, hb, hml, hown, htw⟩ (c_M_isIn x4.toInt64 0 100000) (va_cwS 3 htw (gS u_419 u_420 u_3 u_421) rfl rfl rfl hd_M_isIn.2 ⟨Nat.le_of_ble_eq_true rfl, Nat.le_of_ble_eq_true rfl⟩) ⟨xP_blind, xP_of hK hN⟩ rfl rfl hl.1 rfl (lv_room (Nat.le_of_ble_eq_true rfl)) d_M_rule_47 ⟨by decide, by decide⟩) hS (fun v H_ locs hp hS => ?_)
          obtain ⟨rfl, hHe⟩ := hp
          rw [hHe] at hS ⊢
          refine W.eq (g2 := F0 m 50 ls [.int (bI (xin x4.toInt64 0 100000))]) rfl ?_
          refine lv_if_ne (tgt := 55) hx hb d_M_rule_50 (by decide) (fun c_5 => ?_) (fun c_5 => ?_)
          · have c_5 : (xin x4.toInt64 0 100000) = true := bI_t.mp c_5
            refine lv_aload_n hx hb d_M_rule_55 rfl (lv_at hl 0 rfl) ?_
            refine xr_get (ci := 5) (v := .ref (ad 223)) (C := R_M) (T := T_M) (N := 26) hx hb htw in_M hown hK hw 200 m200 rfl rfl 22 (by decide) (htw _ u_356) (fun _ h9 => h9) rfl d_M_rule_56 ?_
            refine lv_aload_n hx hb d_M_rule_59 rfl (lv_at hl 0 rfl) ?_
            refine xr_get (ci := 5) (v := .int (nI (σ.1 2))) (C := R_M) (T := T_M) (N := 26) hx hb htw in_M hown hK hw 200 m200 rfl rfl 21 (by decide) (htw _ u_355) (fun _ h9 => h9) rfl d_M_rule_60 ?_
            refine lv_iload_n hx hb d_M_rule_63 rfl (lv_at hl 1 rfl) ?_
            refine xr_iast (i := nI (σ.1 2)) hx hb hK hw hS 223 0 m223 rfl rfl (xvin (a := σ.1 2) rfl (by omega) (by omega)) d_M_rule_64 (fun H locs hw hS => ?_)
            rw [show (nI (σ.1 2)).toNatClampNeg = σ.1 2 from xcl (a := σ.1 2) rfl (by omega)] at hw
            have hw : xw D vwCl B ad (xu w 223 (.inl (K 0, 8, .inl (upd (σ.2.1 6) (σ.1 2) x1)))) H := hw
            refine lv_aload_n hx hb d_M_rule_65 rfl (lv_at hl 0 rfl) ?_
            refine xr_get (ci := 5) (v := .ref (ad 224)) (C := R_M) (T := T_M) (N := 26) hx hb htw in_M hown hK hw 200 ((xu_ne (by omega)).trans (m200)) rfl rfl 23 (by decide) (htw _ u_357) (fun _ h9 => h9) rfl d_M_rule_66 ?_
            refine lv_aload_n hx hb d_M_rule_69 rfl (lv_at hl 0 rfl) ?_
            refine xr_get (ci := 5) (v := .int (nI (σ.1 2))) (C := R_M) (T := T_M) (N := 26) hx hb htw in_M hown hK hw 200 ((xu_ne (by omega)).trans (m200)) rfl rfl 21 (by decide) (htw _ u_355) (fun _ h9 => h9) rfl d_M_rule_70 ?_
            refine lv_iload_n hx hb d_M_rule_73 rfl (lv_at hl 2 rfl) ?_
            refine xr_iast (i := nI (σ.1 2)) hx hb hK hw hS 224 0 ((xu_ne (by omega)).trans (m224)) rfl rfl (xvin (a := σ.1 2) rfl (by omega) (by omega)) d_M_rule_74 (fun H locs hw hS => ?_)
            rw [show (nI (σ.1 2)).toNatClampNeg = σ.1 2 from xcl (a := σ.1 2) rfl (by omega)] at hw
            have hw : xw D vwCl B ad (xu (xu w 223 (.inl (K 0, 8, .inl (upd (σ.2.1 6) (σ.1 2) x1)))) 224 (.inl (K 0, 8, .inl (upd (σ.2.1 7) (σ.1 2) x2)))) H := hw
            refine lv_aload_n hx hb d_M_rule_75 rfl (lv_at hl 0 rfl) ?_
            refine xr_get (ci := 5) (v := .ref (ad 225)) (C := R_M) (T := T_M) (N := 26) hx hb htw in_M hown hK hw 200 ((xu_ne (by omega)).trans ((xu_ne (by omega)).trans (m200))) rfl rfl 24 (by decide) (htw _ u_358) (fun _ h9 => h9) rfl d_M_rule_76 ?_
            refine lv_aload_n hx hb d_M_rule_79 rfl (lv_at hl 0 rfl) ?_
            refine xr_get (ci := 5) (v := .int (nI (σ.1 2))) (C := R_M) (T := T_M) (N := 26) hx hb htw in_M hown hK hw 200 ((xu_ne (by omega)).trans ((xu_ne (by omega)).trans (m200))) rfl rfl 21 (by decide) (htw _ u_355) (fun _ h9 => h9) rfl d_M_rule_80 ?_
            refine lv_iload_n hx hb d_M_rule_83 rfl (lv_at hl 3 rfl) ?_
            refine xr_iast (i := nI (σ.1 2)) hx hb hK hw hS 225 0 ((xu_ne (by omega)).trans ((xu_ne (by omega)).trans (m225))) rfl rfl (xvin (a := σ.1 2) rfl (by omega) (by omega)) d_M_rule_84 (fun H locs hw hS => ?_)
            rw [show (nI (σ.1 2)).toNatClampNeg = σ.1 2 from xcl (a := σ.1 2) rfl (by omega)] at hw
            have hw : xw D vwCl B ad (xu (xu (xu w 223 (.inl (K 0, 8, .inl (upd (σ.2.1 6) (σ.1 2) x1)))) 224 (.inl (K 0, 8, .inl (upd (σ.2.1 7) (σ.1 2) x2)))) 225 (.inl (K 0, 8, .inl (upd (σ.2.1 8) (σ.1 2) x3)))) H := hw
            refine lv_aload_n hx hb d_M_rule_85 rfl (lv_at hl 0 rfl) ?_
            refine xr_get (ci := 5) (v := .ref (ad 226)) (C := R_M) (T := T_M) (N := 26) hx hb htw in_M hown hK hw 200 ((xu_ne (by omega)).trans ((xu_ne (by omega)).trans ((xu_ne (by omega)).trans (m200)))) rfl rfl 25 (by decide) (htw _ u_359) (fun _ h9 => h9) rfl d_M_rule_86 ?_
            refine lv_aload_n hx hb d_M_rule_89 rfl (lv_at hl 0 rfl) ?_
            refine xr_get (ci := 5) (v := .int (nI (σ.1 2))) (C := R_M) (T := T_M) (N := 26) hx hb htw in_M hown hK hw 200 ((xu_ne (by omega)).trans ((xu_ne (by omega)).trans ((xu_ne (by omega)).trans (m200)))) rfl rfl 21 (by decide) (htw _ u_355) (fun _ h9 => h9) rfl d_M_rule_90 ?_
            refine lv_iload hx hb d_M_rule_93 (lv_at hl 4 rfl) ?_
            refine xr_iast (i := nI (σ.1 2)) hx hb hK hw hS 226 0 ((xu_ne (by omega)).trans ((xu_ne (by omega)).trans ((xu_ne (by omega)).trans (m226)))) rfl rfl (xvin (a := σ.1 2) rfl (by omega) (by omega)) d_M_rule_95 (fun H locs hw hS => ?_)
            rw [show (nI (σ.1 2)).toNatClampNeg = σ.1 2 from xcl (a := σ.1 2) rfl (by omega)] at hw
            have hw : xw D vwCl B ad (xu (xu (xu (xu w 223 (.inl (K 0, 8, .inl (upd (σ.2.1 6) (σ.1 2) x1)))) 224 (.inl (K 0, 8, .inl (upd (σ.2.1 7) (σ.1 2) x2)))) 225 (.inl (K 0, 8, .inl (upd (σ.2.1 8) (σ.1 2) x3)))) 226 (.inl (K 0, 8, .inl (upd (σ.2.1 9) (σ.1 2) x4)))) H := hw
            refine lv_aload_n hx hb d_M_rule_96 rfl (lv_at hl 0 rfl) ?_
            refine lv_dup hx hb d_M_rule_97 rfl ?_
            refine xr_get (ci := 5) (v := .int (nI (σ.1 2))) (C := R_M) (T := T_M) (N := 26) hx hb htw in_M hown hK hw 200 ((xu_ne (by omega)).trans ((xu_ne (by omega)).trans ((xu_ne (by omega)).trans ((xu_ne (by omega)).trans (m200))))) rfl rfl 21 (by decide) (htw _ u_355) (fun _ h9 => h9) rfl d_M_rule_98 ?_
            refine lv_iconst (v := 1) hx hb d_M_rule_101 (by decide) ?_
            refine lv_iadd hx hb d_M_rule_102 ?_
            refine xr_put (ci := 5) (v := .int ((nI (σ.1 2)) + 1)) (ty := .int) (C := R_M) (T := T_M) (N := 26) hx hb htw in_M ty_M tk_M nm_M hown hK hw hS 200 ((xu_ne (by omega)).trans ((xu_ne (by omega)).trans ((xu_ne (by omega)).trans ((xu_ne (by omega)).trans (m200))))) rfl rfl 21 (by decide) (htw _ u_355) (fun _ h9 => h9) rfl (by decide +kernel) rfl rfl (Nat.le_of_ble_eq_true rfl) d_M_rule_103 (fun H locs hw hS => ?_)
            have hw : xw D vwCl B ad (xu (xu (xu (xu (xu w 223 (.inl (K 0, 8, .inl (upd (σ.2.1 6) (σ.1 2) x1)))) 224 (.inl (K 0, 8, .inl (upd (σ.2.1 7) (σ.1 2) x2)))) 225 (.inl (K 0, 8, .inl (upd (σ.2.1 8) (σ.1 2) x3)))) 226 (.inl (K 0, 8, .inl (upd (σ.2.1 9) (σ.1 2) x4)))) 200 (.inr (5, [.int (σ.2.1 0 0), .int (nI (σ.1 0)), .ref (ad 203), .ref (ad 204), .ref (ad 205), .ref (ad 206), .ref (ad 207), .ref (ad 208), .ref (ad 209), .ref (ad 210), .int (nI (σ.1 1)), .ref (ad 212), .ref (ad 213), .ref (ad 214), .ref (ad 215), .ref (ad 216), .ref (ad 217), .ref (ad 218), .long (σ.2.2.1 0 0), .ref (ad 220), .int (σ.2.1 0 1), .int ((nI (σ.1 2)) + 1), .ref (ad 223), .ref (ad 224), .ref (ad 225), .ref (ad 226)]))) H := hw
            refine lv_aload_n hx hb d_M_rule_106 rfl (lv_at hl 0 rfl) ?_
            refine xr_get (ci := 5) (v := .int ((nI (σ.1 2)) + 1)) (C := R_M) (T := T_M) (N := 26) hx hb htw in_M hown hK hw 200 xu_eq rfl rfl 21 (by decide) (htw _ u_355) (fun _ h9 => h9) rfl d_M_rule_107 ?_
            refine lv_iconst (v := 1) hx hb d_M_rule_110 (by decide) ?_
            refine lv_isub hx hb d_M_rule_111 ?_
            have hRep : RepM K (s_rule σ x1 x2 x3 x4) ad (xu (xu (xu (xu (xu w 223 (.inl (K 0, 8, .inl (upd (σ.2.1 6) (σ.1 2) x1)))) 224 (.inl (K 0, 8, .inl (upd (σ.2.1 7) (σ.1 2) x2)))) 225 (.inl (K 0, 8, .inl (upd (σ.2.1 8) (σ.1 2) x3)))) 226 (.inl (K 0, 8, .inl (upd (σ.2.1 9) (σ.1 2) x4)))) 200 (.inr (5, [.int (σ.2.1 0 0), .int (nI (σ.1 0)), .ref (ad 203), .ref (ad 204), .ref (ad 205), .ref (ad 206), .ref (ad 207), .ref (ad 208), .ref (ad 209), .ref (ad 210), .int (nI (σ.1 1)), .ref (ad 212), .ref (ad 213), .ref (ad 214), .ref (ad 215), .ref (ad 216), .ref (ad 217), .ref (ad 218), .long (σ.2.2.1 0 0), .ref (ad 220), .int (σ.2.1 0 1), .int ((nI (σ.1 2)) + 1), .ref (ad 223), .ref (ad 224), .ref (ad 225), .ref (ad 226)]))) := by
              unfold s_rule
              refine ⟨FA, FT, FS, FO, ?_, ?_, ?_, ?_, ?_, ?_, ?_, ?_, ?_, ?_, ?_, ?_, ?_, ?_, ?_, ?_, ?_, ?_, ?_, ?_, ?_, ?_, ?_, ?_, ?_⟩
              · simp (disch := omega) only [pN, pI, pL, pZ, row_eq, row_ne, xu_eq, xu_ne, xa_eq, xa_ne, pk_us, pk_un, pk_uLs, pk_uLn, nI_succ, m200]
              · simp (disch := omega) only [pN, pI, pL, pZ, row_eq, row_ne, xu_eq, xu_ne, xa_eq, xa_ne, pk_us, pk_un, pk_uLs, pk_uLn, nI_succ, m203]
              · simp (disch := omega) only [pN, pI, pL, pZ, row_eq, row_ne, xu_eq, xu_ne, xa_eq, xa_ne, pk_us, pk_un, pk_uLs, pk_uLn, nI_succ, m204]
              · simp (disch := omega) only [pN, pI, pL, pZ, row_eq, row_ne, xu_eq, xu_ne, xa_eq, xa_ne, pk_us, pk_un, pk_uLs, pk_uLn, nI_succ, m205]
              · simp (disch := omega) only [pN, pI, pL, pZ, row_eq, row_ne, xu_eq, xu_ne, xa_eq, xa_ne, pk_us, pk_un, pk_uLs, pk_uLn, nI_succ, m206]
              · simp (disch := omega) only [pN, pI, pL, pZ, row_eq, row_ne, xu_eq, xu_ne, xa_eq, xa_ne, pk_us, pk_un, pk_uLs, pk_uLn, nI_succ, m207]
              · simp (disch := omega) only [pN, pI, pL, pZ, row_eq, row_ne, xu_eq, xu_ne, xa_eq, xa_ne, pk_us, pk_un, pk_uLs, pk_uLn, nI_succ, m208]
              · simp (disch := omega) only [pN, pI, pL, pZ, row_eq, row_ne, xu_eq, xu_ne, xa_eq, xa_ne, pk_us, pk_un, pk_uLs, pk_uLn, nI_succ, m209]
              · simp (disch := omega) only [pN, pI, pL, pZ, row_eq, row_ne, xu_eq, xu_ne, xa_eq, xa_ne, pk_us, pk_un, pk_uLs, pk_uLn, nI_succ, m210]
              · simp (disch := omega) only [pN, pI, pL, pZ, row_eq, row_ne, xu_eq, xu_ne, xa_eq, xa_ne, pk_us, pk_un, pk_uLs, pk_uLn, nI_succ, m212]
              · simp (disch := omega) only [pN, pI, pL, pZ, row_eq, row_ne, xu_eq, xu_ne, xa_eq, xa_ne, pk_us, pk_un, pk_uLs, pk_uLn, nI_succ, m213]
              · simp (disch := omega) only [pN, pI, pL, pZ, row_eq, row_ne, xu_eq, xu_ne, xa_eq, xa_ne, pk_us, pk_un, pk_uLs, pk_uLn, nI_succ, m214]
              · simp (disch := omega) only [pN, pI, pL, pZ, row_eq, row_ne, xu_eq, xu_ne, xa_eq, xa_ne, pk_us, pk_un, pk_uLs, pk_uLn, nI_succ, m215]
              · simp (disch := omega) only [pN, pI, pL, pZ, row_eq, row_ne, xu_eq, xu_ne, xa_eq, xa_ne, pk_us, pk_un, pk_uLs, pk_uLn, nI_succ, m216]
              · simp (disch := omega) only [pN, pI, pL, pZ, row_eq, row_ne, xu_eq, xu_ne, xa_eq, xa_ne, pk_us, pk_un, pk_uLs, pk_uLn, nI_succ, m217]
              · simp (disch := omega) only [pN, pI, pL, pZ, row_eq, row_ne, xu_eq, xu_ne, xa_eq, xa_ne, pk_us, pk_un, pk_uLs, pk_uLn, nI_succ, m218]
              · simp (disch := omega) only [pN, pI, pL, pZ, row_eq, row_ne, xu_eq, xu_ne, xa_eq, xa_ne, pk_us, pk_un, pk_uLs, pk_uLn, nI_succ, m220]
              · simp (disch := omega) only [pN, pI, pL, pZ, row_eq, row_ne, xu_eq, xu_ne, xa_eq, xa_ne, pk_us, pk_un, pk_uLs, pk_uLn, nI_succ, m223]
              · simp (disch := omega) only [pN, pI, pL, pZ, row_eq, row_ne, xu_eq, xu_ne, xa_eq, xa_ne, pk_us, pk_un, pk_uLs, pk_uLn, nI_succ, m224]
              · simp (disch := omega) only [pN, pI, pL, pZ, row_eq, row_ne, xu_eq, xu_ne, xa_eq, xa_ne, pk_us, pk_un, pk_uLs, pk_uLn, nI_succ, m225]
              · simp (disch := omega) only [pN, pI, pL, pZ, row_eq, row_ne, xu_eq, xu_ne, xa_eq, xa_ne, pk_us, pk_un, pk_uLs, pk_uLn, nI_succ, m226]
              · intro b q hb hq; simp (disch := omega) only [pN, pI, pL, pZ, row_eq, row_ne, xu_eq, xu_ne, xa_eq, xa_ne, pk_us, pk_un, pk_uLs, pk_uLn, nI_succ]; exact hFA b q hb hq
              · intro b q hb hq; simp (disch := omega) only [pN, pI, pL, pZ, row_eq, row_ne, xu_eq, xu_ne, xa_eq, xa_ne, pk_us, pk_un, pk_uLs, pk_uLn, nI_succ]; exact hFT b q hb hq
              · intro b q hb hq; simp (disch := omega) only [pN, pI, pL, pZ, row_eq, row_ne, xu_eq, xu_ne, xa_eq, xa_ne, pk_us, pk_un, pk_uLs, pk_uLn, nI_succ]; exact hFS b q hb hq
              · intro b q hb hq; simp (disch := omega) only [pN, pI, pL, pZ, row_eq, row_ne, xu_eq, xu_ne, xa_eq, xa_ne, pk_us, pk_un, pk_uLs, pk_uLn, nI_succ]; exact hFO b q hb hq
            have hf : f_rule σ x1 x2 x3 x4 = (s_rule σ x1 x2 x3 x4, nI (σ.1 2)) := by simp [f_rule, opt_n, opt_s, c_1, c_2, c_3, c_4, c_5, show σ.1 2 < 8 by omega]
            exact W.iret (v := ((nI (σ.1 2)) + 1) - 1) hx hb hr (fun t ht _ => ⟨_, rfl, by rw [hf, ht]; exact ⟨congrArg (fun z => some (Value.int z)) (nI_back _), _, hw, hRep, fun t h2 => by simp (disch := omega) only [xu_ne, nI_succ]⟩, hS.F ht⟩) hS.2.2 d_M_rule_112
          · have c_5 : (xin x4.toInt64 0 100000) = false := bI_f.mp c_5
            refine lv_iconst (v := (-1)) hx hb d_M_rule_53 (by decide) ?_
            have hf : f_rule σ x1 x2 x3 x4 = (σ, (-1)) := by simp [f_rule, opt_n, opt_s, c_1, c_2, c_3, c_4, c_5, show σ.1 2 < 8 by omega, opt_c]
            exact W.iret (v := (-1)) hx hb hr (fun t ht _ => ⟨_, rfl, by rw [hf, ht]; exact ⟨rfl, PM_same hw hR⟩, hS.F ht⟩) hS.2.2 d_M_rule_54
set_option maxHeartbeats 4000000 in
set_option maxRecDepth 100000 in
theorem c_M_price {l : Launch} {D : va_G} {K : Nat → ClassId} {B : Nat} {ad : Nat → Nat} {w : Nat → Option va_E} {H : Heap} {σ : xS} (hR : RepM K σ ad w) (hI : Inv σ) (hw : xw D vwCl B ad w H) (x1 x2 : Int32) (x3 : Int64) : xC l D K B y_M_price b_M_price 6 (some .boolean) rm_M_price [.ref (ad 200), .int x1, .int x2, .long x3] H (fun v H1 => v = some (.int (f_price σ x1 x2 x3).2) ∧ PM D K B ad w (f_price σ x1 x2 x3).1 H1) := by
  refine Met.ofW (cc := b_M_price) (maxL := 6) (ret := (some .boolean)) (by decide) rfl ?_
  intro p e s m args below meth c s₁ B0 hml hv
  obtain ⟨rfl, hsz, hK, hN⟩ := hv
  have hx := B0.exec
  have hb := B0.bytes
  have hr := B0.returns
  have htw : ∀ w ∈ xW0, w.before [.ref (ad 200), .int x1, .int x2, .long x3].toArray s = true := fun w h => atoms_spec (ws := Cond.code y_M_price b_M_price 6 (some .boolean) :: xW0) B0.pre w (List.mem_cons_of_mem _ h)
  have hown : s.vm.findClass R_M = some m.cls := findClass_of_methodNamed B0.named
  have hlocks := B0.notSynchronized
  subst hsz
  have hS : va_S (fun q => B ≤ q) s.heap s.heap [] := va_S.rf
  have hl := lv_entry ([.ref (ad 200), .int x1, .int x2, .long x3]) (n := 6) (Nat.le_of_ble_eq_true rfl)
  rw [lg_entry_eq]
  generalize (lg_sl ([.ref (ad 200), .int x1, .int x2, .long x3]) ++ List.replicate (6 - (lg_sl ([.ref (ad 200), .int x1, .int x2, .long x3])).length) Slot.unset).toArray = ls at hl ⊢
  have hl : lv_has ls 6 [(0, .ref (ad 200)), (1, .int x1), (2, .int x2), (3, .long x3)] := hl
  have hH : s.heap = s.heap := rfl
  obtain ⟨FA, FT, FS, FO, m200, m203, m204, m205, m206, m207, m208, m209, m210, m212, m213, m214, m215, m216, m217, m218, m220, m223, m224, m225, m226, hFA, hFT, hFS, hFO⟩ := id hR
  obtain ⟨hnb, hns, hnr, hpc, hst, hto, htl, hrm, hpa, hwt, hdf, hds⟩ := id hI
  refine lv_iload_n hx hb d_M_price_0 rfl (lv_at hl 1 rfl) ?_
  refine xr_call (va_runS (As := [.int x1]) (rest := []) ⟨hx, hb, hml, hown, htw⟩ (c_M_isMetal x1) (va_cwS 1 htw (gS u_434 u_435 u_3 u_436) rfl rfl rfl hd_M_isMetal.2 ⟨Nat.le_of_ble_eq_true rfl, Nat.le_of_ble_eq_true rfl⟩) ⟨xP_blind, xP_of hK hN⟩ rfl rfl hl.1 rfl (lv_room (Nat.le_of_ble_eq_true rfl)) d_M_price_1 ⟨by decide, by decide⟩) hS (fun v H_ locs hp hS => ?_)
  obtain ⟨rfl, hHe⟩ := hp
  rw [hHe] at hS ⊢
  refine W.eq (g2 := F0 m 4 ls [.int (bI (xm x1))]) rfl ?_
  refine lv_if_eq (tgt := 41) hx hb d_M_price_4 (by decide) (fun c_1 => ?_) (fun c_1 => ?_)
  · have c_1 : (xm x1) = false := bI_f.mp c_1
    have f2 : xi 4 x1 = none := xm_xi c_1
    refine lv_iconst (v := 0) hx hb d_M_price_41 (by decide) ?_
    have hf : f_price σ x1 x2 x3 = (σ, 0) := by simp [f_price, opt_n, opt_s, f2, c_1, f_append, opt_c]
    exact W.zret (v := 0) hx hb hr (by decide) (fun t ht _ => ⟨_, rfl, by rw [hf, ht]; exact ⟨rfl, PM_same hw hR⟩, hS.F ht⟩) hS.2.2 d_M_price_42
  · have c_1 : (xm x1) = true := bI_t.mp c_1
    obtain ⟨k3, hk3, rfl⟩ := xm_of c_1
    have xk3 : xi 4 (nI k3) = some k3 := xi_nI hk3 (by decide)
    have hck := hpc k3 hk3
    refine lv_aload_n hx hb d_M_price_7 rfl (lv_at hl 0 rfl) ?_
    refine xr_get (ci := 5) (v := .ref (ad 216)) (C := R_M) (T := T_M) (N := 26) hx hb htw in_M hown hK hw 200 m200 rfl rfl 15 (by decide) (htw _ u_349) (fun _ h9 => h9) rfl d_M_price_8 ?_
    refine lv_iload_n hx hb d_M_price_11 rfl (lv_at hl 1 rfl) ?_
    refine xr_iald (i := nI k3) hx hb hK hw 216 0 m216 rfl rfl (xvin (a := k3) rfl (by omega) (by omega)) d_M_price_12 ?_
    refine lv_topi (fun x_4 ex_4 => ?_)
    obtain rfl : x_4 = nI (σ.1 (11 + 2 * k3)) := ex_4.trans ((congrArg (fun k => nI (σ.1 (11 + 2 * k))) (xcl (a := k3) rfl (by omega))).trans rfl)
    refine lv_bipush (v := 6) hx hb d_M_price_13 (by decide) ?_
    refine lv_icmp_eq (tgt := 41) hx hb d_M_price_15 (by decide) (fun c_5 => ?_) (fun c_5 => ?_)
    · have c_5 : (σ.1 (11 + 2 * k3)) = 6 := (nEQ (a := σ.1 (11 + 2 * k3)) (b := 6) (by omega) (by omega)).mp c_5
      refine lv_iconst (v := 0) hx hb d_M_price_41 (by decide) ?_
      have hf : f_price σ (nI k3) x2 x3 = (σ, 0) := by simp [f_price, opt_n, opt_s, xk3, c_1, show ¬ σ.1 (11 + 2 * k3) < 6 by omega, f_append, opt_c]
      exact W.zret (v := 0) hx hb hr (by decide) (fun t ht _ => ⟨_, rfl, by rw [hf, ht]; exact ⟨rfl, PM_same hw hR⟩, hS.F ht⟩) hS.2.2 d_M_price_42
    · have c_5 : ¬ (σ.1 (11 + 2 * k3)) = 6 := fun z => c_5 ((nEQ (a := σ.1 (11 + 2 * k3)) (b := 6) (by omega) (by omega)).mpr z)
      refine lv_iload_n hx hb d_M_price_18 rfl (lv_at hl 2 rfl) ?_
      refine lv_i2l hx hb d_M_price_19 rfl ?_
      refine lv_lconst (v := 0) hx hb d_M_price_20 (by decide) ?_
      refine lv_ldc2 (v := 100000) hx hb hown (htw _ u_442) d_M_price_21 ?_
      refine xr_call (va_runS (As := [.long x2.toInt64, .long 0, .long 100000]) (rest := []) ⟨hx, hb, hml, hown, htw⟩ (c_M_isIn x2.toInt64 0 100000) (va_cwS 3 htw (gS u_419 u_420 u_3 u_421) rfl rfl rfl hd_M_isIn.2 ⟨Nat.le_of_ble_eq_true rfl, Nat.le_of_ble_eq_true rfl⟩) ⟨xP_blind, xP_of hK hN⟩ rfl rfl hl.1 rfl (lv_room (Nat.le_of_ble_eq_true rfl)) d_M_price_24 ⟨by decide, by decide⟩) hS (fun v H_ locs hp hS => ?_)
      obtain ⟨rfl, hHe⟩ := hp
      rw [hHe] at hS ⊢
      refine W.eq (g2 := F0 m 27 ls [.int (bI (xin x2.toInt64 0 100000))]) rfl ?_
      refine lv_if_eq (tgt := 41) hx hb d_M_price_27 (by decide) (fun c_6 => ?_) (fun c_6 => ?_)
      · have c_6 : (xin x2.toInt64 0 100000) = false := bI_f.mp c_6
        refine lv_iconst (v := 0) hx hb d_M_price_41 (by decide) ?_
        have hf : f_price σ (nI k3) x2 x3 = (σ, 0) := by simp [f_price, opt_n, opt_s, xk3, c_1, c_6, show σ.1 (11 + 2 * k3) < 6 by omega, f_append, opt_c]
        exact W.zret (v := 0) hx hb hr (by decide) (fun t ht _ => ⟨_, rfl, by rw [hf, ht]; exact ⟨rfl, PM_same hw hR⟩, hS.F ht⟩) hS.2.2 d_M_price_42
      · have c_6 : (xin x2.toInt64 0 100000) = true := bI_t.mp c_6
        refine lv_lload_n hx hb d_M_price_30 rfl (lv_at hl 3 rfl) ?_
        refine lv_lconst (v := 0) hx hb d_M_price_31 (by decide) ?_
        refine lv_ldc2 (v := 1000000) hx hb hown (htw _ u_437) d_M_price_32 ?_
        refine xr_call (va_runS (As := [.long x3, .long 0, .long 1000000]) (rest := []) ⟨hx, hb, hml, hown, htw⟩ (c_M_isIn x3 0 1000000) (va_cwS 3 htw (gS u_419 u_420 u_3 u_421) rfl rfl rfl hd_M_isIn.2 ⟨Nat.le_of_ble_eq_true rfl, Nat.le_of_ble_eq_true rfl⟩) ⟨xP_blind, xP_of hK hN⟩ rfl rfl hl.1 rfl (lv_room (Nat.le_of_ble_eq_true rfl)) d_M_price_35 ⟨by decide, by decide⟩) hS (fun v H_ locs hp hS => ?_)
        obtain ⟨rfl, hHe⟩ := hp
        rw [hHe] at hS ⊢
        refine W.eq (g2 := F0 m 38 ls [.int (bI (xin x3 0 1000000))]) rfl ?_
        refine lv_if_ne (tgt := 43) hx hb d_M_price_38 (by decide) (fun c_7 => ?_) (fun c_7 => ?_)
        · have c_7 : (xin x3 0 1000000) = true := bI_t.mp c_7
          refine lv_bipush (v := 6) hx hb d_M_price_43 (by decide) ?_
          refine lv_iload_n hx hb d_M_price_45 rfl (lv_at hl 1 rfl) ?_
          refine lv_imul hx hb d_M_price_46 ?_
          refine lv_aload_n hx hb d_M_price_47 rfl (lv_at hl 0 rfl) ?_
          refine xr_get (ci := 5) (v := .ref (ad 216)) (C := R_M) (T := T_M) (N := 26) hx hb htw in_M hown hK hw 200 m200 rfl rfl 15 (by decide) (htw _ u_349) (fun _ h9 => h9) rfl d_M_price_48 ?_
          refine lv_iload_n hx hb d_M_price_51 rfl (lv_at hl 1 rfl) ?_
          refine xr_iald (i := nI k3) hx hb hK hw 216 0 m216 rfl rfl (xvin (a := k3) rfl (by omega) (by omega)) d_M_price_52 ?_
          refine lv_topi (fun x_8 ex_8 => ?_)
          obtain rfl : x_8 = nI (σ.1 (11 + 2 * k3)) := ex_8.trans ((congrArg (fun k => nI (σ.1 (11 + 2 * k))) (xcl (a := k3) rfl (by omega))).trans rfl)
          refine lv_iadd hx hb d_M_price_53 ?_
          refine lv_istore (lv' := [(5, .int ((6 * (nI k3)) + (nI (σ.1 (11 + 2 * k3))))), (0, .ref (ad 200)), (1, .int (nI k3)), (2, .int x2), (3, .long x3)]) hx hb d_M_price_54 hl (by decide) rfl (fun ls hl => ?_)
          refine lv_aload_n hx hb d_M_price_56 rfl (lv_at hl 1 rfl) ?_
          refine xr_get (ci := 5) (v := .ref (ad 216)) (C := R_M) (T := T_M) (N := 26) hx hb htw in_M hown hK hw 200 m200 rfl rfl 15 (by decide) (htw _ u_349) (fun _ h9 => h9) rfl d_M_price_57 ?_
          refine lv_iload_n hx hb d_M_price_60 rfl (lv_at hl 2 rfl) ?_
          refine xr_iald (i := nI k3) hx hb hK hw 216 0 m216 rfl rfl (xvin (a := k3) rfl (by omega) (by omega)) d_M_price_61 ?_
          refine lv_topi (fun x_9 ex_9 => ?_)
          obtain rfl : x_9 = nI (σ.1 (11 + 2 * k3)) := ex_9.trans ((congrArg (fun k => nI (σ.1 (11 + 2 * k))) (xcl (a := k3) rfl (by omega))).trans rfl)
          refine lv_if_le (tgt := 80) hx hb d_M_price_62 (by decide) (fun c_10 => ?_) (fun c_10 => ?_)
          · have c_10 : σ.1 (11 + 2 * k3) ≤ 0 := (nLE (a := σ.1 (11 + 2 * k3)) (b := 0) (by omega) (by omega)).mp c_10
            refine lv_aload_n hx hb d_M_price_80 rfl (lv_at hl 1 rfl) ?_
            refine xr_get (ci := 5) (v := .ref (ad 217)) (C := R_M) (T := T_M) (N := 26) hx hb htw in_M hown hK hw 200 m200 rfl rfl 16 (by decide) (htw _ u_350) (fun _ h9 => h9) rfl d_M_price_81 ?_
            refine lv_iload hx hb d_M_price_84 (lv_at hl 0 rfl) ?_
            refine lv_iload_n hx hb d_M_price_86 rfl (lv_at hl 3 rfl) ?_
            refine xr_iast (i := (6 * (nI k3)) + (nI (σ.1 (11 + 2 * k3)))) hx hb hK hw hS 217 0 m217 rfl rfl (xvin (a := (6 * k3) + (σ.1 (11 + 2 * k3))) (xadd (a := 6 * k3) (b := σ.1 (11 + 2 * k3)) (xmul (a := 6) (b := k3) rfl rfl) rfl) (by omega) (by omega)) d_M_price_87 (fun H locs hw hS => ?_)
            rw [show ((6 * (nI k3)) + (nI (σ.1 (11 + 2 * k3)))).toNatClampNeg = k3 * 6 + σ.1 (11 + 2 * k3) from (xcl (a := (6 * k3) + (σ.1 (11 + 2 * k3))) (xadd (a := 6 * k3) (b := σ.1 (11 + 2 * k3)) (xmul (a := 6) (b := k3) rfl rfl) rfl) (by omega)).trans (show (6 * k3) + (σ.1 (11 + 2 * k3)) = k3 * 6 + σ.1 (11 + 2 * k3) by omega)] at hw
            have hw : xw D vwCl B ad (xu w 217 (.inl (K 0, 24, .inl (upd (σ.2.1 40) (k3 * 6 + σ.1 (11 + 2 * k3)) x2)))) H := hw
            refine lv_aload_n hx hb d_M_price_88 rfl (lv_at hl 1 rfl) ?_
            refine xr_get (ci := 5) (v := .ref (ad 218)) (C := R_M) (T := T_M) (N := 26) hx hb htw in_M hown hK hw 200 ((xu_ne (by omega)).trans (m200)) rfl rfl 17 (by decide) (htw _ u_351) (fun _ h9 => h9) rfl d_M_price_89 ?_
            refine lv_iload hx hb d_M_price_92 (lv_at hl 0 rfl) ?_
            refine lv_lload_n hx hb d_M_price_94 rfl (lv_at hl 4 rfl) ?_
            refine xr_last (i := (6 * (nI k3)) + (nI (σ.1 (11 + 2 * k3)))) hx hb hK hw hS 218 1 ((xu_ne (by omega)).trans (m218)) rfl rfl (xvin (a := (6 * k3) + (σ.1 (11 + 2 * k3))) (xadd (a := 6 * k3) (b := σ.1 (11 + 2 * k3)) (xmul (a := 6) (b := k3) rfl rfl) rfl) (by omega) (by omega)) d_M_price_95 (fun H locs hw hS => ?_)
            rw [show ((6 * (nI k3)) + (nI (σ.1 (11 + 2 * k3)))).toNatClampNeg = k3 * 6 + σ.1 (11 + 2 * k3) from (xcl (a := (6 * k3) + (σ.1 (11 + 2 * k3))) (xadd (a := 6 * k3) (b := σ.1 (11 + 2 * k3)) (xmul (a := 6) (b := k3) rfl rfl) rfl) (by omega)).trans (show (6 * k3) + (σ.1 (11 + 2 * k3)) = k3 * 6 + σ.1 (11 + 2 * k3) by omega)] at hw
            have hw : xw D vwCl B ad (xu (xu w 217 (.inl (K 0, 24, .inl (upd (σ.2.1 40) (k3 * 6 + σ.1 (11 + 2 * k3)) x2)))) 218 (.inl (K 1, 24, .inr (.inl (vp_updL (σ.2.2.1 40) (k3 * 6 + σ.1 (11 + 2 * k3)) x3))))) H := hw
            refine lv_aload_n hx hb d_M_price_96 rfl (lv_at hl 1 rfl) ?_
            refine xr_get (ci := 5) (v := .ref (ad 216)) (C := R_M) (T := T_M) (N := 26) hx hb htw in_M hown hK hw 200 ((xu_ne (by omega)).trans ((xu_ne (by omega)).trans (m200))) rfl rfl 15 (by decide) (htw _ u_349) (fun _ h9 => h9) rfl d_M_price_97 ?_
            refine lv_iload_n hx hb d_M_price_100 rfl (lv_at hl 2 rfl) ?_
            refine lv_dup2_11 hx hb d_M_price_101 rfl rfl ?_
            refine xr_iald (i := nI k3) hx hb hK hw 216 0 ((xu_ne (by omega)).trans ((xu_ne (by omega)).trans (m216))) rfl rfl (xvin (a := k3) rfl (by omega) (by omega)) d_M_price_102 ?_
            refine lv_topi (fun x_11 ex_11 => ?_)
            obtain rfl : x_11 = nI (σ.1 (11 + 2 * k3)) := ex_11.trans ((congrArg (fun k => nI (σ.1 (11 + 2 * k))) (xcl (a := k3) rfl (by omega))).trans rfl)
            refine lv_iconst (v := 1) hx hb d_M_price_103 (by decide) ?_
            refine lv_iadd hx hb d_M_price_104 ?_
            refine xr_iast (i := nI k3) hx hb hK hw hS 216 0 ((xu_ne (by omega)).trans ((xu_ne (by omega)).trans (m216))) rfl rfl (xvin (a := k3) rfl (by omega) (by omega)) d_M_price_105 (fun H locs hw hS => ?_)
            rw [show (nI k3).toNatClampNeg = k3 from xcl (a := k3) rfl (by omega)] at hw
            have hw : xw D vwCl B ad (xu (xu (xu w 217 (.inl (K 0, 24, .inl (upd (σ.2.1 40) (k3 * 6 + σ.1 (11 + 2 * k3)) x2)))) 218 (.inl (K 1, 24, .inr (.inl (vp_updL (σ.2.2.1 40) (k3 * 6 + σ.1 (11 + 2 * k3)) x3))))) 216 (.inl (K 0, 4, .inl (upd (fun k => nI (σ.1 (11 + 2 * k))) k3 ((nI (σ.1 (11 + 2 * k3))) + 1))))) H := hw
            refine lv_iconst (v := 1) hx hb d_M_price_106 (by decide) ?_
            have hRep : RepM K (s_price σ k3 x2 x3) ad (xu (xu (xu w 217 (.inl (K 0, 24, .inl (upd (σ.2.1 40) (k3 * 6 + σ.1 (11 + 2 * k3)) x2)))) 218 (.inl (K 1, 24, .inr (.inl (vp_updL (σ.2.2.1 40) (k3 * 6 + σ.1 (11 + 2 * k3)) x3))))) 216 (.inl (K 0, 4, .inl (upd (fun k => nI (σ.1 (11 + 2 * k))) k3 ((nI (σ.1 (11 + 2 * k3))) + 1))))) := by
              unfold s_price
              refine ⟨FA, FT, FS, FO, ?_, ?_, ?_, ?_, ?_, ?_, ?_, ?_, ?_, ?_, ?_, ?_, ?_, ?_, ?_, ?_, ?_, ?_, ?_, ?_, ?_, ?_, ?_, ?_, ?_⟩
              · simp (disch := omega) only [pN, pI, pL, pZ, row_eq, row_ne, xu_eq, xu_ne, xa_eq, xa_ne, pk_us, pk_un, pk_uLs, pk_uLn, m200]
              · simp (disch := omega) only [pN, pI, pL, pZ, row_eq, row_ne, xu_eq, xu_ne, xa_eq, xa_ne, pk_us, pk_un, pk_uLs, pk_uLn, m203]
              · simp (disch := omega) only [pN, pI, pL, pZ, row_eq, row_ne, xu_eq, xu_ne, xa_eq, xa_ne, pk_us, pk_un, pk_uLs, pk_uLn, m204]
              · simp (disch := omega) only [pN, pI, pL, pZ, row_eq, row_ne, xu_eq, xu_ne, xa_eq, xa_ne, pk_us, pk_un, pk_uLs, pk_uLn, m205]
              · simp (disch := omega) only [pN, pI, pL, pZ, row_eq, row_ne, xu_eq, xu_ne, xa_eq, xa_ne, pk_us, pk_un, pk_uLs, pk_uLn, m206]
              · simp (disch := omega) only [pN, pI, pL, pZ, row_eq, row_ne, xu_eq, xu_ne, xa_eq, xa_ne, pk_us, pk_un, pk_uLs, pk_uLn, m207]
              · simp (disch := omega) only [pN, pI, pL, pZ, row_eq, row_ne, xu_eq, xu_ne, xa_eq, xa_ne, pk_us, pk_un, pk_uLs, pk_uLn, m208]
              · simp (disch := omega) only [pN, pI, pL, pZ, row_eq, row_ne, xu_eq, xu_ne, xa_eq, xa_ne, pk_us, pk_un, pk_uLs, pk_uLn, m209]
              · simp (disch := omega) only [pN, pI, pL, pZ, row_eq, row_ne, xu_eq, xu_ne, xa_eq, xa_ne, pk_us, pk_un, pk_uLs, pk_uLn, m210]
              · simp (disch := omega) only [pN, pI, pL, pZ, row_eq, row_ne, xu_eq, xu_ne, xa_eq, xa_ne, pk_us, pk_un, pk_uLs, pk_uLn, m212]
              · simp (disch := omega) only [pN, pI, pL, pZ, row_eq, row_ne, xu_eq, xu_ne, xa_eq, xa_ne, pk_us, pk_un, pk_uLs, pk_uLn, m213]
              · simp (disch := omega) only [pN, pI, pL, pZ, row_eq, row_ne, xu_eq, xu_ne, xa_eq, xa_ne, pk_us, pk_un, pk_uLs, pk_uLn, m214]
              · simp (disch := omega) only [pN, pI, pL, pZ, row_eq, row_ne, xu_eq, xu_ne, xa_eq, xa_ne, pk_us, pk_un, pk_uLs, pk_uLn, m215]
              · simp (disch := omega) only [pN, pI, pL, pZ, row_eq, row_ne, xu_eq, xu_ne, xa_eq, xa_ne, pk_us, pk_un, pk_uLs, pk_uLn]; exact congrArg _ (congrArg _ (congrArg _ (congrArg _ (congrArg _ (fc_up (nI_succ _).symm)))))
              · simp (disch := omega) only [pN, pI, pL, pZ, row_eq, row_ne, xu_eq, xu_ne, xa_eq, xa_ne, pk_us, pk_un, pk_uLs, pk_uLn, m217]
              · simp (disch := omega) only [pN, pI, pL, pZ, row_eq, row_ne, xu_eq, xu_ne, xa_eq, xa_ne, pk_us, pk_un, pk_uLs, pk_uLn, m218]
              · simp (disch := omega) only [pN, pI, pL, pZ, row_eq, row_ne, xu_eq, xu_ne, xa_eq, xa_ne, pk_us, pk_un, pk_uLs, pk_uLn, m220]
              · simp (disch := omega) only [pN, pI, pL, pZ, row_eq, row_ne, xu_eq, xu_ne, xa_eq, xa_ne, pk_us, pk_un, pk_uLs, pk_uLn, m223]
              · simp (disch := omega) only [pN, pI, pL, pZ, row_eq, row_ne, xu_eq, xu_ne, xa_eq, xa_ne, pk_us, pk_un, pk_uLs, pk_uLn, m224]
              · simp (disch := omega) only [pN, pI, pL, pZ, row_eq, row_ne, xu_eq, xu_ne, xa_eq, xa_ne, pk_us, pk_un, pk_uLs, pk_uLn, m225]
              · simp (disch := omega) only [pN, pI, pL, pZ, row_eq, row_ne, xu_eq, xu_ne, xa_eq, xa_ne, pk_us, pk_un, pk_uLs, pk_uLn, m226]
              · intro b q hb hq; simp (disch := omega) only [pN, pI, pL, pZ, row_eq, row_ne, xu_eq, xu_ne, xa_eq, xa_ne, pk_us, pk_un, pk_uLs, pk_uLn]; exact hFA b q hb hq
              · intro b q hb hq; simp (disch := omega) only [pN, pI, pL, pZ, row_eq, row_ne, xu_eq, xu_ne, xa_eq, xa_ne, pk_us, pk_un, pk_uLs, pk_uLn]; exact hFT b q hb hq
              · intro b q hb hq; simp (disch := omega) only [pN, pI, pL, pZ, row_eq, row_ne, xu_eq, xu_ne, xa_eq, xa_ne, pk_us, pk_un, pk_uLs, pk_uLn]; exact hFS b q hb hq
              · intro b q hb hq; simp (disch := omega) only [pN, pI, pL, pZ, row_eq, row_ne, xu_eq, xu_ne, xa_eq, xa_ne, pk_us, pk_un, pk_uLs, pk_uLn]; exact hFO b q hb hq
            have hf : f_price σ (nI k3) x2 x3 = (s_price σ k3 x2 x3, 1) := by simp [f_price, opt_n, opt_s, xk3, c_1, c_6, c_7, c_10, show σ.1 (11 + 2 * k3) < 6 by omega, show σ.1 (11 + 2 * k3) ≤ 0 by omega, show σ.1 (11 + 2 * k3) = 0 by omega, f_append]
            exact W.zret (v := 1) hx hb hr (by decide) (fun t ht _ => ⟨_, rfl, by rw [hf, ht]; exact ⟨rfl, _, hw, hRep, fun t h2 => by simp (disch := omega) only [xu_ne]⟩, hS.F ht⟩) hS.2.2 d_M_price_107
          · have c_10 : ¬ σ.1 (11 + 2 * k3) ≤ 0 := fun z => c_10 ((nLE (a := σ.1 (11 + 2 * k3)) (b := 0) (by omega) (by omega)).mpr z)
            refine lv_iload_n hx hb d_M_price_65 rfl (lv_at hl 3 rfl) ?_
            refine lv_aload_n hx hb d_M_price_66 rfl (lv_at hl 1 rfl) ?_
            refine xr_get (ci := 5) (v := .ref (ad 217)) (C := R_M) (T := T_M) (N := 26) hx hb htw in_M hown hK hw 200 m200 rfl rfl 16 (by decide) (htw _ u_350) (fun _ h9 => h9) rfl d_M_price_67 ?_
            refine lv_iload hx hb d_M_price_70 (lv_at hl 0 rfl) ?_
            refine lv_iconst (v := 1) hx hb d_M_price_72 (by decide) ?_
            refine lv_isub hx hb d_M_price_73 ?_
            refine xr_iald (i := ((6 * (nI k3)) + (nI (σ.1 (11 + 2 * k3)))) - 1) hx hb hK hw 217 0 m217 rfl rfl (xvin (a := ((6 * k3) + (σ.1 (11 + 2 * k3))) - 1) (xsub (a := (6 * k3) + (σ.1 (11 + 2 * k3))) (b := 1) (xadd (a := 6 * k3) (b := σ.1 (11 + 2 * k3)) (xmul (a := 6) (b := k3) rfl rfl) rfl) (by omega)) (by omega) (by omega)) d_M_price_74 ?_
            refine lv_topi (fun x_12 ex_12 => ?_)
            obtain rfl : x_12 = (σ.2.1 40) (k3 * 6 + σ.1 (11 + 2 * k3) - 1) := ex_12.trans ((congrArg (σ.2.1 40) ((xcl (a := ((6 * k3) + (σ.1 (11 + 2 * k3))) - 1) (xsub (a := (6 * k3) + (σ.1 (11 + 2 * k3))) (b := 1) (xadd (a := 6 * k3) (b := σ.1 (11 + 2 * k3)) (xmul (a := 6) (b := k3) rfl rfl) rfl) (by omega)) (by omega)).trans (show ((6 * k3) + (σ.1 (11 + 2 * k3))) - 1 = k3 * 6 + σ.1 (11 + 2 * k3) - 1 by omega))).trans rfl)
            refine lv_icmp_gt (tgt := 80) hx hb d_M_price_75 (by decide) (fun c_13 => ?_) (fun c_13 => ?_)
            · refine lv_aload_n hx hb d_M_price_80 rfl (lv_at hl 1 rfl) ?_
              refine xr_get (ci := 5) (v := .ref (ad 217)) (C := R_M) (T := T_M) (N := 26) hx hb htw in_M hown hK hw 200 m200 rfl rfl 16 (by decide) (htw _ u_350) (fun _ h9 => h9) rfl d_M_price_81 ?_
              refine lv_iload hx hb d_M_price_84 (lv_at hl 0 rfl) ?_
              refine lv_iload_n hx hb d_M_price_86 rfl (lv_at hl 3 rfl) ?_
              refine xr_iast (i := (6 * (nI k3)) + (nI (σ.1 (11 + 2 * k3)))) hx hb hK hw hS 217 0 m217 rfl rfl (xvin (a := (6 * k3) + (σ.1 (11 + 2 * k3))) (xadd (a := 6 * k3) (b := σ.1 (11 + 2 * k3)) (xmul (a := 6) (b := k3) rfl rfl) rfl) (by omega) (by omega)) d_M_price_87 (fun H locs hw hS => ?_)
              rw [show ((6 * (nI k3)) + (nI (σ.1 (11 + 2 * k3)))).toNatClampNeg = k3 * 6 + σ.1 (11 + 2 * k3) from (xcl (a := (6 * k3) + (σ.1 (11 + 2 * k3))) (xadd (a := 6 * k3) (b := σ.1 (11 + 2 * k3)) (xmul (a := 6) (b := k3) rfl rfl) rfl) (by omega)).trans (show (6 * k3) + (σ.1 (11 + 2 * k3)) = k3 * 6 + σ.1 (11 + 2 * k3) by omega)] at hw
              have hw : xw D vwCl B ad (xu w 217 (.inl (K 0, 24, .inl (upd (σ.2.1 40) (k3 * 6 + σ.1 (11 + 2 * k3)) x2)))) H := hw
              refine lv_aload_n hx hb d_M_price_88 rfl (lv_at hl 1 rfl) ?_
              refine xr_get (ci := 5) (v := .ref (ad 218)) (C := R_M) (T := T_M) (N := 26) hx hb htw in_M hown hK hw 200 ((xu_ne (by omega)).trans (m200)) rfl rfl 17 (by decide) (htw _ u_351) (fun _ h9 => h9) rfl d_M_price_89 ?_
              refine lv_iload hx hb d_M_price_92 (lv_at hl 0 rfl) ?_
              refine lv_lload_n hx hb d_M_price_94 rfl (lv_at hl 4 rfl) ?_
              refine xr_last (i := (6 * (nI k3)) + (nI (σ.1 (11 + 2 * k3)))) hx hb hK hw hS 218 1 ((xu_ne (by omega)).trans (m218)) rfl rfl (xvin (a := (6 * k3) + (σ.1 (11 + 2 * k3))) (xadd (a := 6 * k3) (b := σ.1 (11 + 2 * k3)) (xmul (a := 6) (b := k3) rfl rfl) rfl) (by omega) (by omega)) d_M_price_95 (fun H locs hw hS => ?_)
              rw [show ((6 * (nI k3)) + (nI (σ.1 (11 + 2 * k3)))).toNatClampNeg = k3 * 6 + σ.1 (11 + 2 * k3) from (xcl (a := (6 * k3) + (σ.1 (11 + 2 * k3))) (xadd (a := 6 * k3) (b := σ.1 (11 + 2 * k3)) (xmul (a := 6) (b := k3) rfl rfl) rfl) (by omega)).trans (show (6 * k3) + (σ.1 (11 + 2 * k3)) = k3 * 6 + σ.1 (11 + 2 * k3) by omega)] at hw
              have hw : xw D vwCl B ad (xu (xu w 217 (.inl (K 0, 24, .inl (upd (σ.2.1 40) (k3 * 6 + σ.1 (11 + 2 * k3)) x2)))) 218 (.inl (K 1, 24, .inr (.inl (vp_updL (σ.2.2.1 40) (k3 * 6 + σ.1 (11 + 2 * k3)) x3))))) H := hw
              refine lv_aload_n hx hb d_M_price_96 rfl (lv_at hl 1 rfl) ?_
              refine xr_get (ci := 5) (v := .ref (ad 216)) (C := R_M) (T := T_M) (N := 26) hx hb htw in_M hown hK hw 200 ((xu_ne (by omega)).trans ((xu_ne (by omega)).trans (m200))) rfl rfl 15 (by decide) (htw _ u_349) (fun _ h9 => h9) rfl d_M_price_97 ?_
              refine lv_iload_n hx hb d_M_price_100 rfl (lv_at hl 2 rfl) ?_
              refine lv_dup2_11 hx hb d_M_price_101 rfl rfl ?_
              refine xr_iald (i := nI k3) hx hb hK hw 216 0 ((xu_ne (by omega)).trans ((xu_ne (by omega)).trans (m216))) rfl rfl (xvin (a := k3) rfl (by omega) (by omega)) d_M_price_102 ?_
              refine lv_topi (fun x_14 ex_14 => ?_)
              obtain rfl : x_14 = nI (σ.1 (11 + 2 * k3)) := ex_14.trans ((congrArg (fun k => nI (σ.1 (11 + 2 * k))) (xcl (a := k3) rfl (by omega))).trans rfl)
              refine lv_iconst (v := 1) hx hb d_M_price_103 (by decide) ?_
              refine lv_iadd hx hb d_M_price_104 ?_
              refine xr_iast (i := nI k3) hx hb hK hw hS 216 0 ((xu_ne (by omega)).trans ((xu_ne (by omega)).trans (m216))) rfl rfl (xvin (a := k3) rfl (by omega) (by omega)) d_M_price_105 (fun H locs hw hS => ?_)
              rw [show (nI k3).toNatClampNeg = k3 from xcl (a := k3) rfl (by omega)] at hw
              have hw : xw D vwCl B ad (xu (xu (xu w 217 (.inl (K 0, 24, .inl (upd (σ.2.1 40) (k3 * 6 + σ.1 (11 + 2 * k3)) x2)))) 218 (.inl (K 1, 24, .inr (.inl (vp_updL (σ.2.2.1 40) (k3 * 6 + σ.1 (11 + 2 * k3)) x3))))) 216 (.inl (K 0, 4, .inl (upd (fun k => nI (σ.1 (11 + 2 * k))) k3 ((nI (σ.1 (11 + 2 * k3))) + 1))))) H := hw
              refine lv_iconst (v := 1) hx hb d_M_price_106 (by decide) ?_
              have hRep : RepM K (s_price σ k3 x2 x3) ad (xu (xu (xu w 217 (.inl (K 0, 24, .inl (upd (σ.2.1 40) (k3 * 6 + σ.1 (11 + 2 * k3)) x2)))) 218 (.inl (K 1, 24, .inr (.inl (vp_updL (σ.2.2.1 40) (k3 * 6 + σ.1 (11 + 2 * k3)) x3))))) 216 (.inl (K 0, 4, .inl (upd (fun k => nI (σ.1 (11 + 2 * k))) k3 ((nI (σ.1 (11 + 2 * k3))) + 1))))) := by
                unfold s_price
                refine ⟨FA, FT, FS, FO, ?_, ?_, ?_, ?_, ?_, ?_, ?_, ?_, ?_, ?_, ?_, ?_, ?_, ?_, ?_, ?_, ?_, ?_, ?_, ?_, ?_, ?_, ?_, ?_, ?_⟩
                · simp (disch := omega) only [pN, pI, pL, pZ, row_eq, row_ne, xu_eq, xu_ne, xa_eq, xa_ne, pk_us, pk_un, pk_uLs, pk_uLn, m200]
                · simp (disch := omega) only [pN, pI, pL, pZ, row_eq, row_ne, xu_eq, xu_ne, xa_eq, xa_ne, pk_us, pk_un, pk_uLs, pk_uLn, m203]
                · simp (disch := omega) only [pN, pI, pL, pZ, row_eq, row_ne, xu_eq, xu_ne, xa_eq, xa_ne, pk_us, pk_un, pk_uLs, pk_uLn, m204]
                · simp (disch := omega) only [pN, pI, pL, pZ, row_eq, row_ne, xu_eq, xu_ne, xa_eq, xa_ne, pk_us, pk_un, pk_uLs, pk_uLn, m205]
                · simp (disch := omega) only [pN, pI, pL, pZ, row_eq, row_ne, xu_eq, xu_ne, xa_eq, xa_ne, pk_us, pk_un, pk_uLs, pk_uLn, m206]
                · simp (disch := omega) only [pN, pI, pL, pZ, row_eq, row_ne, xu_eq, xu_ne, xa_eq, xa_ne, pk_us, pk_un, pk_uLs, pk_uLn, m207]
                · simp (disch := omega) only [pN, pI, pL, pZ, row_eq, row_ne, xu_eq, xu_ne, xa_eq, xa_ne, pk_us, pk_un, pk_uLs, pk_uLn, m208]
                · simp (disch := omega) only [pN, pI, pL, pZ, row_eq, row_ne, xu_eq, xu_ne, xa_eq, xa_ne, pk_us, pk_un, pk_uLs, pk_uLn, m209]
                · simp (disch := omega) only [pN, pI, pL, pZ, row_eq, row_ne, xu_eq, xu_ne, xa_eq, xa_ne, pk_us, pk_un, pk_uLs, pk_uLn, m210]
                · simp (disch := omega) only [pN, pI, pL, pZ, row_eq, row_ne, xu_eq, xu_ne, xa_eq, xa_ne, pk_us, pk_un, pk_uLs, pk_uLn, m212]
                · simp (disch := omega) only [pN, pI, pL, pZ, row_eq, row_ne, xu_eq, xu_ne, xa_eq, xa_ne, pk_us, pk_un, pk_uLs, pk_uLn, m213]
                · simp (disch := omega) only [pN, pI, pL, pZ, row_eq, row_ne, xu_eq, xu_ne, xa_eq, xa_ne, pk_us, pk_un, pk_uLs, pk_uLn, m214]
                · simp (disch := omega) only [pN, pI, pL, pZ, row_eq, row_ne, xu_eq, xu_ne, xa_eq, xa_ne, pk_us, pk_un, pk_uLs, pk_uLn, m215]
                · simp (disch := omega) only [pN, pI, pL, pZ, row_eq, row_ne, xu_eq, xu_ne, xa_eq, xa_ne, pk_us, pk_un, pk_uLs, pk_uLn]; exact congrArg _ (congrArg _ (congrArg _ (congrArg _ (congrArg _ (fc_up (nI_succ _).symm)))))
                · simp (disch := omega) only [pN, pI, pL, pZ, row_eq, row_ne, xu_eq, xu_ne, xa_eq, xa_ne, pk_us, pk_un, pk_uLs, pk_uLn, m217]
                · simp (disch := omega) only [pN, pI, pL, pZ, row_eq, row_ne, xu_eq, xu_ne, xa_eq, xa_ne, pk_us, pk_un, pk_uLs, pk_uLn, m218]
                · simp (disch := omega) only [pN, pI, pL, pZ, row_eq, row_ne, xu_eq, xu_ne, xa_eq, xa_ne, pk_us, pk_un, pk_uLs, pk_uLn, m220]
                · simp (disch := omega) only [pN, pI, pL, pZ, row_eq, row_ne, xu_eq, xu_ne, xa_eq, xa_ne, pk_us, pk_un, pk_uLs, pk_uLn, m223]
                · simp (disch := omega) only [pN, pI, pL, pZ, row_eq, row_ne, xu_eq, xu_ne, xa_eq, xa_ne, pk_us, pk_un, pk_uLs, pk_uLn, m224]
                · simp (disch := omega) only [pN, pI, pL, pZ, row_eq, row_ne, xu_eq, xu_ne, xa_eq, xa_ne, pk_us, pk_un, pk_uLs, pk_uLn, m225]
                · simp (disch := omega) only [pN, pI, pL, pZ, row_eq, row_ne, xu_eq, xu_ne, xa_eq, xa_ne, pk_us, pk_un, pk_uLs, pk_uLn, m226]
                · intro b q hb hq; simp (disch := omega) only [pN, pI, pL, pZ, row_eq, row_ne, xu_eq, xu_ne, xa_eq, xa_ne, pk_us, pk_un, pk_uLs, pk_uLn]; exact hFA b q hb hq
                · intro b q hb hq; simp (disch := omega) only [pN, pI, pL, pZ, row_eq, row_ne, xu_eq, xu_ne, xa_eq, xa_ne, pk_us, pk_un, pk_uLs, pk_uLn]; exact hFT b q hb hq
                · intro b q hb hq; simp (disch := omega) only [pN, pI, pL, pZ, row_eq, row_ne, xu_eq, xu_ne, xa_eq, xa_ne, pk_us, pk_un, pk_uLs, pk_uLn]; exact hFS b q hb hq
                · intro b q hb hq; simp (disch := omega) only [pN, pI, pL, pZ, row_eq, row_ne, xu_eq, xu_ne, xa_eq, xa_ne, pk_us, pk_un, pk_uLs, pk_uLn]; exact hFO b q hb hq
              have hf : f_price σ (nI k3) x2 x3 = (s_price σ k3 x2 x3, 1) := by simp [f_price, opt_n, opt_s, xk3, c_1, c_6, c_7, c_10, c_13, show σ.1 (11 + 2 * k3) < 6 by omega, show ¬ σ.1 (11 + 2 * k3) ≤ 0 by omega, show ¬ σ.1 (11 + 2 * k3) = 0 by omega, c_13, f_append]
              exact W.zret (v := 1) hx hb hr (by decide) (fun t ht _ => ⟨_, rfl, by rw [hf, ht]; exact ⟨rfl, _, hw, hRep, fun t h2 => by simp (disch := omega) only [xu_ne]⟩, hS.F ht⟩) hS.2.2 d_M_price_107
            · refine lv_iconst (v := 0) hx hb d_M_price_78 (by decide) ?_
              have hf : f_price σ (nI k3) x2 x3 = (σ, 0) := by simp [f_price, opt_n, opt_s, xk3, c_1, c_6, c_7, c_10, c_13, show σ.1 (11 + 2 * k3) < 6 by omega, show ¬ σ.1 (11 + 2 * k3) ≤ 0 by omega, show ¬ σ.1 (11 + 2 * k3) = 0 by omega, c_13, f_append, opt_c]
              exact W.zret (v := 0) hx hb hr (by decide) (fun t ht _ => ⟨_, rfl, by rw [hf, ht]; exact ⟨rfl, PM_same hw hR⟩, hS.F ht⟩) hS.2.2 d_M_price_79
        · have c_7 : (xin x3 0 1000000) = false := bI_f.mp c_7
          refine lv_iconst (v := 0) hx hb d_M_price_41 (by decide) ?_
          have hf : f_price σ (nI k3) x2 x3 = (σ, 0) := by simp [f_price, opt_n, opt_s, xk3, c_1, c_6, c_7, show σ.1 (11 + 2 * k3) < 6 by omega, f_append, opt_c]
          exact W.zret (v := 0) hx hb hr (by decide) (fun t ht _ => ⟨_, rfl, by rw [hf, ht]; exact ⟨rfl, PM_same hw hR⟩, hS.F ht⟩) hS.2.2 d_M_price_42
set_option maxHeartbeats 4000000 in
set_option maxRecDepth 100000 in
theorem c_M_add {l : Launch} {D : va_G} {K : Nat → ClassId} {B : Nat} {ad : Nat → Nat} {w : Nat → Option va_E} {H : Heap} {σ : xS} (hR : RepM K σ ad w) (hI : Inv σ) (hw : xw D vwCl B ad w H) (hn : σ.1 0 < 8) (g : Int64) (d : Int32) : xC l D K B y_M_add b_M_add 5 (some .int) rm_M_add [.ref (ad 200), .long g, .int d] H (fun v H1 => v = some (.int (nI (σ.1 0))) ∧ PM D K B ad w (s_new σ g d false) H1) := by
  refine Met.ofW (cc := b_M_add) (maxL := 5) (ret := (some .int)) (by decide) rfl ?_
  intro p e s m args below meth c s₁ B0 hml hv
  obtain ⟨rfl, hsz, hK, hN⟩ := hv
  have hx := B0.exec
  have hb := B0.bytes
  have hr := B0.returns
  have htw : ∀ w ∈ xW0, w.before [.ref (ad 200), .long g, .int d].toArray s = true := fun w h => atoms_spec (ws := Cond.code y_M_add b_M_add 5 (some .int) :: xW0) B0.pre w (List.mem_cons_of_mem _ h)
  have hown : s.vm.findClass R_M = some m.cls := findClass_of_methodNamed B0.named
  have hlocks := B0.notSynchronized
  subst hsz
  have hS : va_S (fun q => B ≤ q) s.heap s.heap [] := va_S.rf
  have hl := lv_entry ([.ref (ad 200), .long g, .int d]) (n := 5) (Nat.le_of_ble_eq_true rfl)
  rw [lg_entry_eq]
  generalize (lg_sl ([.ref (ad 200), .long g, .int d]) ++ List.replicate (5 - (lg_sl ([.ref (ad 200), .long g, .int d])).length) Slot.unset).toArray = ls at hl ⊢
  have hl : lv_has ls 5 [(0, .ref (ad 200)), (1, .long g), (3, .int d)] := hl
  have hH : s.heap = s.heap := rfl
  obtain ⟨FA, FT, FS, FO, m200, m203, m204, m205, m206, m207, m208, m209, m210, m212, m213, m214, m215, m216, m217, m218, m220, m223, m224, m225, m226, hFA, hFT, hFS, hFO⟩ := id hR
  obtain ⟨hnb, hns, hnr, hpc, hst, hto, htl, hrm, hpa, hwt, hdf, hds⟩ := id hI
  refine lv_aload_n hx hb d_M_add_0 rfl (lv_at hl 0 rfl) ?_
  refine xr_get (ci := 5) (v := .ref (ad 203)) (C := R_M) (T := T_M) (N := 26) hx hb htw in_M hown hK hw 200 m200 rfl rfl 2 (by decide) (htw _ u_336) (fun _ h9 => h9) rfl d_M_add_1 ?_
  refine lv_aload_n hx hb d_M_add_4 rfl (lv_at hl 0 rfl) ?_
  refine xr_get (ci := 5) (v := .int (nI (σ.1 0))) (C := R_M) (T := T_M) (N := 26) hx hb htw in_M hown hK hw 200 m200 rfl rfl 1 (by decide) (htw _ u_335) (fun _ h9 => h9) rfl d_M_add_5 ?_
  refine lv_lload_n hx hb d_M_add_8 rfl (lv_at hl 1 rfl) ?_
  refine xr_last (i := nI (σ.1 0)) hx hb hK hw hS 203 1 m203 rfl rfl (xvin (a := σ.1 0) rfl (by omega) (by omega)) d_M_add_9 (fun H locs hw hS => ?_)
  rw [show (nI (σ.1 0)).toNatClampNeg = σ.1 0 from xcl (a := σ.1 0) rfl (by omega)] at hw
  have hw : xw D vwCl B ad (xu w 203 (.inl (K 1, 8, .inr (.inl (vp_updL (σ.2.2.1 1) (σ.1 0) g))))) H := hw
  refine lv_aload_n hx hb d_M_add_10 rfl (lv_at hl 0 rfl) ?_
  refine xr_get (ci := 5) (v := .ref (ad 204)) (C := R_M) (T := T_M) (N := 26) hx hb htw in_M hown hK hw 200 ((xu_ne (by omega)).trans (m200)) rfl rfl 3 (by decide) (htw _ u_337) (fun _ h9 => h9) rfl d_M_add_11 ?_
  refine lv_aload_n hx hb d_M_add_14 rfl (lv_at hl 0 rfl) ?_
  refine xr_get (ci := 5) (v := .int (nI (σ.1 0))) (C := R_M) (T := T_M) (N := 26) hx hb htw in_M hown hK hw 200 ((xu_ne (by omega)).trans (m200)) rfl rfl 1 (by decide) (htw _ u_335) (fun _ h9 => h9) rfl d_M_add_15 ?_
  refine lv_iload_n hx hb d_M_add_18 rfl (lv_at hl 2 rfl) ?_
  refine xr_iast (i := nI (σ.1 0)) hx hb hK hw hS 204 0 ((xu_ne (by omega)).trans (m204)) rfl rfl (xvin (a := σ.1 0) rfl (by omega) (by omega)) d_M_add_19 (fun H locs hw hS => ?_)
  rw [show (nI (σ.1 0)).toNatClampNeg = σ.1 0 from xcl (a := σ.1 0) rfl (by omega)] at hw
  have hw : xw D vwCl B ad (xu (xu w 203 (.inl (K 1, 8, .inr (.inl (vp_updL (σ.2.2.1 1) (σ.1 0) g))))) 204 (.inl (K 0, 8, .inl (upd (σ.2.1 1) (σ.1 0) d)))) H := hw
  refine lv_aload_n hx hb d_M_add_20 rfl (lv_at hl 0 rfl) ?_
  refine xr_get (ci := 5) (v := .ref (ad 208)) (C := R_M) (T := T_M) (N := 26) hx hb htw in_M hown hK hw 200 ((xu_ne (by omega)).trans ((xu_ne (by omega)).trans (m200))) rfl rfl 7 (by decide) (htw _ u_341) (fun _ h9 => h9) rfl d_M_add_21 ?_
  refine lv_aload_n hx hb d_M_add_24 rfl (lv_at hl 0 rfl) ?_
  refine xr_get (ci := 5) (v := .int (nI (σ.1 0))) (C := R_M) (T := T_M) (N := 26) hx hb htw in_M hown hK hw 200 ((xu_ne (by omega)).trans ((xu_ne (by omega)).trans (m200))) rfl rfl 1 (by decide) (htw _ u_335) (fun _ h9 => h9) rfl d_M_add_25 ?_
  refine lv_iconst (v := (-1)) hx hb d_M_add_28 (by decide) ?_
  refine xr_iast (i := nI (σ.1 0)) hx hb hK hw hS 208 0 ((xu_ne (by omega)).trans ((xu_ne (by omega)).trans (m208))) rfl rfl (xvin (a := σ.1 0) rfl (by omega) (by omega)) d_M_add_29 (fun H locs hw hS => ?_)
  rw [show (nI (σ.1 0)).toNatClampNeg = σ.1 0 from xcl (a := σ.1 0) rfl (by omega)] at hw
  have hw : xw D vwCl B ad (xu (xu (xu w 203 (.inl (K 1, 8, .inr (.inl (vp_updL (σ.2.2.1 1) (σ.1 0) g))))) 204 (.inl (K 0, 8, .inl (upd (σ.2.1 1) (σ.1 0) d)))) 208 (.inl (K 0, 8, .inl (upd (σ.2.1 10) (σ.1 0) (-1))))) H := hw
  refine lv_iconst (v := 0) hx hb d_M_add_30 (by decide) ?_
  refine lv_istore (lv' := [(4, .int 0), (0, .ref (ad 200)), (1, .long g), (3, .int d)]) hx hb d_M_add_31 hl (by decide) rfl (fun ls hl => ?_)
  refine lv_iload hx hb d_M_add_33 (lv_at hl 0 rfl) ?_
  refine lv_bipush (v := 12) hx hb d_M_add_35 (by decide) ?_
  refine lv_icmp_ge (tgt := 62) hx hb d_M_add_37 (by decide) (fun c_1 => absurd c_1 (by decide)) (fun c_1 => ?_)
  refine lv_aload_n hx hb d_M_add_40 rfl (lv_at hl 1 rfl) ?_
  refine xr_get (ci := 5) (v := .ref (ad 220)) (C := R_M) (T := T_M) (N := 26) hx hb htw in_M hown hK hw 200 ((xu_ne (by omega)).trans ((xu_ne (by omega)).trans ((xu_ne (by omega)).trans (m200)))) rfl rfl 19 (by decide) (htw _ u_353) (fun _ h9 => h9) rfl d_M_add_41 ?_
  refine lv_bipush (v := 12) hx hb d_M_add_44 (by decide) ?_
  refine lv_aload_n hx hb d_M_add_46 rfl (lv_at hl 1 rfl) ?_
  refine xr_get (ci := 5) (v := .int (nI (σ.1 0))) (C := R_M) (T := T_M) (N := 26) hx hb htw in_M hown hK hw 200 ((xu_ne (by omega)).trans ((xu_ne (by omega)).trans ((xu_ne (by omega)).trans (m200)))) rfl rfl 1 (by decide) (htw _ u_335) (fun _ h9 => h9) rfl d_M_add_47 ?_
  refine lv_imul hx hb d_M_add_50 ?_
  refine lv_iload hx hb d_M_add_51 (lv_at hl 0 rfl) ?_
  refine lv_iadd hx hb d_M_add_53 ?_
  refine lv_iconst (v := (-1)) hx hb d_M_add_54 (by decide) ?_
  refine xr_iast (i := (12 * (nI (σ.1 0))) + 0) hx hb hK hw hS 220 0 ((xu_ne (by omega)).trans ((xu_ne (by omega)).trans ((xu_ne (by omega)).trans (m220)))) rfl rfl (xvin (a := 12 * (σ.1 0)) (xadd (a := 12 * (σ.1 0)) (b := 0) (xmul (a := 12) (b := σ.1 0) rfl rfl) rfl) (by omega) (by omega)) d_M_add_55 (fun H locs hw hS => ?_)
  rw [show ((12 * (nI (σ.1 0))) + 0).toNatClampNeg = 12 * σ.1 0 + 0 from (xcl (a := 12 * (σ.1 0)) (xadd (a := 12 * (σ.1 0)) (b := 0) (xmul (a := 12) (b := σ.1 0) rfl rfl) rfl) (by omega)).trans (show 12 * (σ.1 0) = 12 * σ.1 0 + 0 by omega)] at hw
  have hw : xw D vwCl B ad (xu (xu (xu (xu w 203 (.inl (K 1, 8, .inr (.inl (vp_updL (σ.2.2.1 1) (σ.1 0) g))))) 204 (.inl (K 0, 8, .inl (upd (σ.2.1 1) (σ.1 0) d)))) 208 (.inl (K 0, 8, .inl (upd (σ.2.1 10) (σ.1 0) (-1))))) 220 (.inl (K 0, 96, .inl (upd FO (12 * σ.1 0 + 0) (-1))))) H := hw
  refine lv_iinc (v := 1) (lv' := [(4, .int 1), (0, .ref (ad 200)), (1, .long g), (3, .int d)]) hx hb d_M_add_56 hl (k := 0) rfl (by decide) (by decide) rfl (fun ls hl => ?_)
  refine lv_goto (tgt := 33) hx hb d_M_add_59 (by decide) ?_
  refine lv_iload hx hb d_M_add_33 (lv_at hl 0 rfl) ?_
  refine lv_bipush (v := 12) hx hb d_M_add_35 (by decide) ?_
  refine lv_icmp_ge (tgt := 62) hx hb d_M_add_37 (by decide) (fun c_2 => absurd c_2 (by decide)) (fun c_2 => ?_)
  refine lv_aload_n hx hb d_M_add_40 rfl (lv_at hl 1 rfl) ?_
  refine xr_get (ci := 5) (v := .ref (ad 220)) (C := R_M) (T := T_M) (N := 26) hx hb htw in_M hown hK hw 200 ((xu_ne (by omega)).trans ((xu_ne (by omega)).trans ((xu_ne (by omega)).trans ((xu_ne (by omega)).trans (m200))))) rfl rfl 19 (by decide) (htw _ u_353) (fun _ h9 => h9) rfl d_M_add_41 ?_
  refine lv_bipush (v := 12) hx hb d_M_add_44 (by decide) ?_
  refine lv_aload_n hx hb d_M_add_46 rfl (lv_at hl 1 rfl) ?_
  refine xr_get (ci := 5) (v := .int (nI (σ.1 0))) (C := R_M) (T := T_M) (N := 26) hx hb htw in_M hown hK hw 200 ((xu_ne (by omega)).trans ((xu_ne (by omega)).trans ((xu_ne (by omega)).trans ((xu_ne (by omega)).trans (m200))))) rfl rfl 1 (by decide) (htw _ u_335) (fun _ h9 => h9) rfl d_M_add_47 ?_
  refine lv_imul hx hb d_M_add_50 ?_
  refine lv_iload hx hb d_M_add_51 (lv_at hl 0 rfl) ?_
  refine lv_iadd hx hb d_M_add_53 ?_
  refine lv_iconst (v := (-1)) hx hb d_M_add_54 (by decide) ?_
  refine xr_iast (i := (12 * (nI (σ.1 0))) + 1) hx hb hK hw hS 220 0 xu_eq rfl rfl (xvin (a := (12 * (σ.1 0)) + 1) (xadd (a := 12 * (σ.1 0)) (b := 1) (xmul (a := 12) (b := σ.1 0) rfl rfl) rfl) (by omega) (by omega)) d_M_add_55 (fun H locs hw hS => ?_)
  rw [show ((12 * (nI (σ.1 0))) + 1).toNatClampNeg = 12 * σ.1 0 + 1 from (xcl (a := (12 * (σ.1 0)) + 1) (xadd (a := 12 * (σ.1 0)) (b := 1) (xmul (a := 12) (b := σ.1 0) rfl rfl) rfl) (by omega)).trans (show (12 * (σ.1 0)) + 1 = 12 * σ.1 0 + 1 by omega)] at hw
  have hw : xw D vwCl B ad (xu (xu (xu (xu (xu w 203 (.inl (K 1, 8, .inr (.inl (vp_updL (σ.2.2.1 1) (σ.1 0) g))))) 204 (.inl (K 0, 8, .inl (upd (σ.2.1 1) (σ.1 0) d)))) 208 (.inl (K 0, 8, .inl (upd (σ.2.1 10) (σ.1 0) (-1))))) 220 (.inl (K 0, 96, .inl (upd FO (12 * σ.1 0 + 0) (-1))))) 220 (.inl (K 0, 96, .inl (upd (upd FO (12 * σ.1 0 + 0) (-1)) (12 * σ.1 0 + 1) (-1))))) H := hw
  refine lv_iinc (v := 2) (lv' := [(4, .int 2), (0, .ref (ad 200)), (1, .long g), (3, .int d)]) hx hb d_M_add_56 hl (k := 0) rfl (by decide) (by decide) rfl (fun ls hl => ?_)
  refine lv_goto (tgt := 33) hx hb d_M_add_59 (by decide) ?_
  refine lv_iload hx hb d_M_add_33 (lv_at hl 0 rfl) ?_
  refine lv_bipush (v := 12) hx hb d_M_add_35 (by decide) ?_
  refine lv_icmp_ge (tgt := 62) hx hb d_M_add_37 (by decide) (fun c_3 => absurd c_3 (by decide)) (fun c_3 => ?_)
  refine lv_aload_n hx hb d_M_add_40 rfl (lv_at hl 1 rfl) ?_
  refine xr_get (ci := 5) (v := .ref (ad 220)) (C := R_M) (T := T_M) (N := 26) hx hb htw in_M hown hK hw 200 ((xu_ne (by omega)).trans ((xu_ne (by omega)).trans ((xu_ne (by omega)).trans ((xu_ne (by omega)).trans ((xu_ne (by omega)).trans (m200)))))) rfl rfl 19 (by decide) (htw _ u_353) (fun _ h9 => h9) rfl d_M_add_41 ?_
  refine lv_bipush (v := 12) hx hb d_M_add_44 (by decide) ?_
  refine lv_aload_n hx hb d_M_add_46 rfl (lv_at hl 1 rfl) ?_
  refine xr_get (ci := 5) (v := .int (nI (σ.1 0))) (C := R_M) (T := T_M) (N := 26) hx hb htw in_M hown hK hw 200 ((xu_ne (by omega)).trans ((xu_ne (by omega)).trans ((xu_ne (by omega)).trans ((xu_ne (by omega)).trans ((xu_ne (by omega)).trans (m200)))))) rfl rfl 1 (by decide) (htw _ u_335) (fun _ h9 => h9) rfl d_M_add_47 ?_
  refine lv_imul hx hb d_M_add_50 ?_
  refine lv_iload hx hb d_M_add_51 (lv_at hl 0 rfl) ?_
  refine lv_iadd hx hb d_M_add_53 ?_
  refine lv_iconst (v := (-1)) hx hb d_M_add_54 (by decide) ?_
  refine xr_iast (i := (12 * (nI (σ.1 0))) + 2) hx hb hK hw hS 220 0 xu_eq rfl rfl (xvin (a := (12 * (σ.1 0)) + 2) (xadd (a := 12 * (σ.1 0)) (b := 2) (xmul (a := 12) (b := σ.1 0) rfl rfl) rfl) (by omega) (by omega)) d_M_add_55 (fun H locs hw hS => ?_)
  rw [show ((12 * (nI (σ.1 0))) + 2).toNatClampNeg = 12 * σ.1 0 + 2 from (xcl (a := (12 * (σ.1 0)) + 2) (xadd (a := 12 * (σ.1 0)) (b := 2) (xmul (a := 12) (b := σ.1 0) rfl rfl) rfl) (by omega)).trans (show (12 * (σ.1 0)) + 2 = 12 * σ.1 0 + 2 by omega)] at hw
  have hw : xw D vwCl B ad (xu (xu (xu (xu (xu (xu w 203 (.inl (K 1, 8, .inr (.inl (vp_updL (σ.2.2.1 1) (σ.1 0) g))))) 204 (.inl (K 0, 8, .inl (upd (σ.2.1 1) (σ.1 0) d)))) 208 (.inl (K 0, 8, .inl (upd (σ.2.1 10) (σ.1 0) (-1))))) 220 (.inl (K 0, 96, .inl (upd FO (12 * σ.1 0 + 0) (-1))))) 220 (.inl (K 0, 96, .inl (upd (upd FO (12 * σ.1 0 + 0) (-1)) (12 * σ.1 0 + 1) (-1))))) 220 (.inl (K 0, 96, .inl (upd (upd (upd FO (12 * σ.1 0 + 0) (-1)) (12 * σ.1 0 + 1) (-1)) (12 * σ.1 0 + 2) (-1))))) H := hw
  refine lv_iinc (v := 3) (lv' := [(4, .int 3), (0, .ref (ad 200)), (1, .long g), (3, .int d)]) hx hb d_M_add_56 hl (k := 0) rfl (by decide) (by decide) rfl (fun ls hl => ?_)
  refine lv_goto (tgt := 33) hx hb d_M_add_59 (by decide) ?_
  refine lv_iload hx hb d_M_add_33 (lv_at hl 0 rfl) ?_
  refine lv_bipush (v := 12) hx hb d_M_add_35 (by decide) ?_
  refine lv_icmp_ge (tgt := 62) hx hb d_M_add_37 (by decide) (fun c_4 => absurd c_4 (by decide)) (fun c_4 => ?_)
  refine lv_aload_n hx hb d_M_add_40 rfl (lv_at hl 1 rfl) ?_
  refine xr_get (ci := 5) (v := .ref (ad 220)) (C := R_M) (T := T_M) (N := 26) hx hb htw in_M hown hK hw 200 ((xu_ne (by omega)).trans ((xu_ne (by omega)).trans ((xu_ne (by omega)).trans ((xu_ne (by omega)).trans ((xu_ne (by omega)).trans ((xu_ne (by omega)).trans (m200))))))) rfl rfl 19 (by decide) (htw _ u_353) (fun _ h9 => h9) rfl d_M_add_41 ?_
  refine lv_bipush (v := 12) hx hb d_M_add_44 (by decide) ?_
  refine lv_aload_n hx hb d_M_add_46 rfl (lv_at hl 1 rfl) ?_
  refine xr_get (ci := 5) (v := .int (nI (σ.1 0))) (C := R_M) (T := T_M) (N := 26) hx hb htw in_M hown hK hw 200 ((xu_ne (by omega)).trans ((xu_ne (by omega)).trans ((xu_ne (by omega)).trans ((xu_ne (by omega)).trans ((xu_ne (by omega)).trans ((xu_ne (by omega)).trans (m200))))))) rfl rfl 1 (by decide) (htw _ u_335) (fun _ h9 => h9) rfl d_M_add_47 ?_
  refine lv_imul hx hb d_M_add_50 ?_
  refine lv_iload hx hb d_M_add_51 (lv_at hl 0 rfl) ?_
  refine lv_iadd hx hb d_M_add_53 ?_
  refine lv_iconst (v := (-1)) hx hb d_M_add_54 (by decide) ?_
  refine xr_iast (i := (12 * (nI (σ.1 0))) + 3) hx hb hK hw hS 220 0 xu_eq rfl rfl (xvin (a := (12 * (σ.1 0)) + 3) (xadd (a := 12 * (σ.1 0)) (b := 3) (xmul (a := 12) (b := σ.1 0) rfl rfl) rfl) (by omega) (by omega)) d_M_add_55 (fun H locs hw hS => ?_)
  rw [show ((12 * (nI (σ.1 0))) + 3).toNatClampNeg = 12 * σ.1 0 + 3 from (xcl (a := (12 * (σ.1 0)) + 3) (xadd (a := 12 * (σ.1 0)) (b := 3) (xmul (a := 12) (b := σ.1 0) rfl rfl) rfl) (by omega)).trans (show (12 * (σ.1 0)) + 3 = 12 * σ.1 0 + 3 by omega)] at hw
  have hw : xw D vwCl B ad (xu (xu (xu (xu (xu (xu (xu w 203 (.inl (K 1, 8, .inr (.inl (vp_updL (σ.2.2.1 1) (σ.1 0) g))))) 204 (.inl (K 0, 8, .inl (upd (σ.2.1 1) (σ.1 0) d)))) 208 (.inl (K 0, 8, .inl (upd (σ.2.1 10) (σ.1 0) (-1))))) 220 (.inl (K 0, 96, .inl (upd FO (12 * σ.1 0 + 0) (-1))))) 220 (.inl (K 0, 96, .inl (upd (upd FO (12 * σ.1 0 + 0) (-1)) (12 * σ.1 0 + 1) (-1))))) 220 (.inl (K 0, 96, .inl (upd (upd (upd FO (12 * σ.1 0 + 0) (-1)) (12 * σ.1 0 + 1) (-1)) (12 * σ.1 0 + 2) (-1))))) 220 (.inl (K 0, 96, .inl (upd (upd (upd (upd FO (12 * σ.1 0 + 0) (-1)) (12 * σ.1 0 + 1) (-1)) (12 * σ.1 0 + 2) (-1)) (12 * σ.1 0 + 3) (-1))))) H := hw
  refine lv_iinc (v := 4) (lv' := [(4, .int 4), (0, .ref (ad 200)), (1, .long g), (3, .int d)]) hx hb d_M_add_56 hl (k := 0) rfl (by decide) (by decide) rfl (fun ls hl => ?_)
  refine lv_goto (tgt := 33) hx hb d_M_add_59 (by decide) ?_
  refine lv_iload hx hb d_M_add_33 (lv_at hl 0 rfl) ?_
  refine lv_bipush (v := 12) hx hb d_M_add_35 (by decide) ?_
  refine lv_icmp_ge (tgt := 62) hx hb d_M_add_37 (by decide) (fun c_5 => absurd c_5 (by decide)) (fun c_5 => ?_)
  refine lv_aload_n hx hb d_M_add_40 rfl (lv_at hl 1 rfl) ?_
  refine xr_get (ci := 5) (v := .ref (ad 220)) (C := R_M) (T := T_M) (N := 26) hx hb htw in_M hown hK hw 200 ((xu_ne (by omega)).trans ((xu_ne (by omega)).trans ((xu_ne (by omega)).trans ((xu_ne (by omega)).trans ((xu_ne (by omega)).trans ((xu_ne (by omega)).trans ((xu_ne (by omega)).trans (m200)))))))) rfl rfl 19 (by decide) (htw _ u_353) (fun _ h9 => h9) rfl d_M_add_41 ?_
  refine lv_bipush (v := 12) hx hb d_M_add_44 (by decide) ?_
  refine lv_aload_n hx hb d_M_add_46 rfl (lv_at hl 1 rfl) ?_
  refine xr_get (ci := 5) (v := .int (nI (σ.1 0))) (C := R_M) (T := T_M) (N := 26) hx hb htw in_M hown hK hw 200 ((xu_ne (by omega)).trans ((xu_ne (by omega)).trans ((xu_ne (by omega)).trans ((xu_ne (by omega)).trans ((xu_ne (by omega)).trans ((xu_ne (by omega)).trans ((xu_ne (by omega)).trans (m200)))))))) rfl rfl 1 (by decide) (htw _ u_335) (fun _ h9 => h9) rfl d_M_add_47 ?_
  refine lv_imul hx hb d_M_add_50 ?_
  refine lv_iload hx hb d_M_add_51 (lv_at hl 0 rfl) ?_
  refine lv_iadd hx hb d_M_add_53 ?_
  refine lv_iconst (v := (-1)) hx hb d_M_add_54 (by decide) ?_
  refine xr_iast (i := (12 * (nI (σ.1 0))) + 4) hx hb hK hw hS 220 0 xu_eq rfl rfl (xvin (a := (12 * (σ.1 0)) + 4) (xadd (a := 12 * (σ.1 0)) (b := 4) (xmul (a := 12) (b := σ.1 0) rfl rfl) rfl) (by omega) (by omega)) d_M_add_55 (fun H locs hw hS => ?_)
  rw [show ((12 * (nI (σ.1 0))) + 4).toNatClampNeg = 12 * σ.1 0 + 4 from (xcl (a := (12 * (σ.1 0)) + 4) (xadd (a := 12 * (σ.1 0)) (b := 4) (xmul (a := 12) (b := σ.1 0) rfl rfl) rfl) (by omega)).trans (show (12 * (σ.1 0)) + 4 = 12 * σ.1 0 + 4 by omega)] at hw
  have hw : xw D vwCl B ad (xu (xu (xu (xu (xu (xu (xu (xu w 203 (.inl (K 1, 8, .inr (.inl (vp_updL (σ.2.2.1 1) (σ.1 0) g))))) 204 (.inl (K 0, 8, .inl (upd (σ.2.1 1) (σ.1 0) d)))) 208 (.inl (K 0, 8, .inl (upd (σ.2.1 10) (σ.1 0) (-1))))) 220 (.inl (K 0, 96, .inl (upd FO (12 * σ.1 0 + 0) (-1))))) 220 (.inl (K 0, 96, .inl (upd (upd FO (12 * σ.1 0 + 0) (-1)) (12 * σ.1 0 + 1) (-1))))) 220 (.inl (K 0, 96, .inl (upd (upd (upd FO (12 * σ.1 0 + 0) (-1)) (12 * σ.1 0 + 1) (-1)) (12 * σ.1 0 + 2) (-1))))) 220 (.inl (K 0, 96, .inl (upd (upd (upd (upd FO (12 * σ.1 0 + 0) (-1)) (12 * σ.1 0 + 1) (-1)) (12 * σ.1 0 + 2) (-1)) (12 * σ.1 0 + 3) (-1))))) 220 (.inl (K 0, 96, .inl (upd (upd (upd (upd (upd FO (12 * σ.1 0 + 0) (-1)) (12 * σ.1 0 + 1) (-1)) (12 * σ.1 0 + 2) (-1)) (12 * σ.1 0 + 3) (-1)) (12 * σ.1 0 + 4) (-1))))) H := hw
  refine lv_iinc (v := 5) (lv' := [(4, .int 5), (0, .ref (ad 200)), (1, .long g), (3, .int d)]) hx hb d_M_add_56 hl (k := 0) rfl (by decide) (by decide) rfl (fun ls hl => ?_)
  refine lv_goto (tgt := 33) hx hb d_M_add_59 (by decide) ?_
  refine lv_iload hx hb d_M_add_33 (lv_at hl 0 rfl) ?_
  refine lv_bipush (v := 12) hx hb d_M_add_35 (by decide) ?_
  refine lv_icmp_ge (tgt := 62) hx hb d_M_add_37 (by decide) (fun c_6 => absurd c_6 (by decide)) (fun c_6 => ?_)
  refine lv_aload_n hx hb d_M_add_40 rfl (lv_at hl 1 rfl) ?_
  refine xr_get (ci := 5) (v := .ref (ad 220)) (C := R_M) (T := T_M) (N := 26) hx hb htw in_M hown hK hw 200 ((xu_ne (by omega)).trans ((xu_ne (by omega)).trans ((xu_ne (by omega)).trans ((xu_ne (by omega)).trans ((xu_ne (by omega)).trans ((xu_ne (by omega)).trans ((xu_ne (by omega)).trans ((xu_ne (by omega)).trans (m200))))))))) rfl rfl 19 (by decide) (htw _ u_353) (fun _ h9 => h9) rfl d_M_add_41 ?_
  refine lv_bipush (v := 12) hx hb d_M_add_44 (by decide) ?_
  refine lv_aload_n hx hb d_M_add_46 rfl (lv_at hl 1 rfl) ?_
  refine xr_get (ci := 5) (v := .int (nI (σ.1 0))) (C := R_M) (T := T_M) (N := 26) hx hb htw in_M hown hK hw 200 ((xu_ne (by omega)).trans ((xu_ne (by omega)).trans ((xu_ne (by omega)).trans ((xu_ne (by omega)).trans ((xu_ne (by omega)).trans ((xu_ne (by omega)).trans ((xu_ne (by omega)).trans ((xu_ne (by omega)).trans (m200))))))))) rfl rfl 1 (by decide) (htw _ u_335) (fun _ h9 => h9) rfl d_M_add_47 ?_
  refine lv_imul hx hb d_M_add_50 ?_
  refine lv_iload hx hb d_M_add_51 (lv_at hl 0 rfl) ?_
  refine lv_iadd hx hb d_M_add_53 ?_
  refine lv_iconst (v := (-1)) hx hb d_M_add_54 (by decide) ?_
  refine xr_iast (i := (12 * (nI (σ.1 0))) + 5) hx hb hK hw hS 220 0 xu_eq rfl rfl (xvin (a := (12 * (σ.1 0)) + 5) (xadd (a := 12 * (σ.1 0)) (b := 5) (xmul (a := 12) (b := σ.1 0) rfl rfl) rfl) (by omega) (by omega)) d_M_add_55 (fun H locs hw hS => ?_)
  rw [show ((12 * (nI (σ.1 0))) + 5).toNatClampNeg = 12 * σ.1 0 + 5 from (xcl (a := (12 * (σ.1 0)) + 5) (xadd (a := 12 * (σ.1 0)) (b := 5) (xmul (a := 12) (b := σ.1 0) rfl rfl) rfl) (by omega)).trans (show (12 * (σ.1 0)) + 5 = 12 * σ.1 0 + 5 by omega)] at hw
  have hw : xw D vwCl B ad (xu (xu (xu (xu (xu (xu (xu (xu (xu w 203 (.inl (K 1, 8, .inr (.inl (vp_updL (σ.2.2.1 1) (σ.1 0) g))))) 204 (.inl (K 0, 8, .inl (upd (σ.2.1 1) (σ.1 0) d)))) 208 (.inl (K 0, 8, .inl (upd (σ.2.1 10) (σ.1 0) (-1))))) 220 (.inl (K 0, 96, .inl (upd FO (12 * σ.1 0 + 0) (-1))))) 220 (.inl (K 0, 96, .inl (upd (upd FO (12 * σ.1 0 + 0) (-1)) (12 * σ.1 0 + 1) (-1))))) 220 (.inl (K 0, 96, .inl (upd (upd (upd FO (12 * σ.1 0 + 0) (-1)) (12 * σ.1 0 + 1) (-1)) (12 * σ.1 0 + 2) (-1))))) 220 (.inl (K 0, 96, .inl (upd (upd (upd (upd FO (12 * σ.1 0 + 0) (-1)) (12 * σ.1 0 + 1) (-1)) (12 * σ.1 0 + 2) (-1)) (12 * σ.1 0 + 3) (-1))))) 220 (.inl (K 0, 96, .inl (upd (upd (upd (upd (upd FO (12 * σ.1 0 + 0) (-1)) (12 * σ.1 0 + 1) (-1)) (12 * σ.1 0 + 2) (-1)) (12 * σ.1 0 + 3) (-1)) (12 * σ.1 0 + 4) (-1))))) 220 (.inl (K 0, 96, .inl (upd (upd (upd (upd (upd (upd FO (12 * σ.1 0 + 0) (-1)) (12 * σ.1 0 + 1) (-1)) (12 * σ.1 0 + 2) (-1)) (12 * σ.1 0 + 3) (-1)) (12 * σ.1 0 + 4) (-1)) (12 * σ.1 0 + 5) (-1))))) H := hw
  refine lv_iinc (v := 6) (lv' := [(4, .int 6), (0, .ref (ad 200)), (1, .long g), (3, .int d)]) hx hb d_M_add_56 hl (k := 0) rfl (by decide) (by decide) rfl (fun ls hl => ?_)
  refine lv_goto (tgt := 33) hx hb d_M_add_59 (by decide) ?_
  refine lv_iload hx hb d_M_add_33 (lv_at hl 0 rfl) ?_
  refine lv_bipush (v := 12) hx hb d_M_add_35 (by decide) ?_
  refine lv_icmp_ge (tgt := 62) hx hb d_M_add_37 (by decide) (fun c_7 => absurd c_7 (by decide)) (fun c_7 => ?_)
  refine lv_aload_n hx hb d_M_add_40 rfl (lv_at hl 1 rfl) ?_
  refine xr_get (ci := 5) (v := .ref (ad 220)) (C := R_M) (T := T_M) (N := 26) hx hb htw in_M hown hK hw 200 ((xu_ne (by omega)).trans ((xu_ne (by omega)).trans ((xu_ne (by omega)).trans ((xu_ne (by omega)).trans ((xu_ne (by omega)).trans ((xu_ne (by omega)).trans ((xu_ne (by omega)).trans ((xu_ne (by omega)).trans ((xu_ne (by omega)).trans (m200)))))))))) rfl rfl 19 (by decide) (htw _ u_353) (fun _ h9 => h9) rfl d_M_add_41 ?_
  refine lv_bipush (v := 12) hx hb d_M_add_44 (by decide) ?_
  refine lv_aload_n hx hb d_M_add_46 rfl (lv_at hl 1 rfl) ?_
  refine xr_get (ci := 5) (v := .int (nI (σ.1 0))) (C := R_M) (T := T_M) (N := 26) hx hb htw in_M hown hK hw 200 ((xu_ne (by omega)).trans ((xu_ne (by omega)).trans ((xu_ne (by omega)).trans ((xu_ne (by omega)).trans ((xu_ne (by omega)).trans ((xu_ne (by omega)).trans ((xu_ne (by omega)).trans ((xu_ne (by omega)).trans ((xu_ne (by omega)).trans (m200)))))))))) rfl rfl 1 (by decide) (htw _ u_335) (fun _ h9 => h9) rfl d_M_add_47 ?_
  refine lv_imul hx hb d_M_add_50 ?_
  refine lv_iload hx hb d_M_add_51 (lv_at hl 0 rfl) ?_
  refine lv_iadd hx hb d_M_add_53 ?_
  refine lv_iconst (v := (-1)) hx hb d_M_add_54 (by decide) ?_
  refine xr_iast (i := (12 * (nI (σ.1 0))) + 6) hx hb hK hw hS 220 0 xu_eq rfl rfl (xvin (a := (12 * (σ.1 0)) + 6) (xadd (a := 12 * (σ.1 0)) (b := 6) (xmul (a := 12) (b := σ.1 0) rfl rfl) rfl) (by omega) (by omega)) d_M_add_55 (fun H locs hw hS => ?_)
  rw [show ((12 * (nI (σ.1 0))) + 6).toNatClampNeg = 12 * σ.1 0 + 6 from (xcl (a := (12 * (σ.1 0)) + 6) (xadd (a := 12 * (σ.1 0)) (b := 6) (xmul (a := 12) (b := σ.1 0) rfl rfl) rfl) (by omega)).trans (show (12 * (σ.1 0)) + 6 = 12 * σ.1 0 + 6 by omega)] at hw
  have hw : xw D vwCl B ad (xu (xu (xu (xu (xu (xu (xu (xu (xu (xu w 203 (.inl (K 1, 8, .inr (.inl (vp_updL (σ.2.2.1 1) (σ.1 0) g))))) 204 (.inl (K 0, 8, .inl (upd (σ.2.1 1) (σ.1 0) d)))) 208 (.inl (K 0, 8, .inl (upd (σ.2.1 10) (σ.1 0) (-1))))) 220 (.inl (K 0, 96, .inl (upd FO (12 * σ.1 0 + 0) (-1))))) 220 (.inl (K 0, 96, .inl (upd (upd FO (12 * σ.1 0 + 0) (-1)) (12 * σ.1 0 + 1) (-1))))) 220 (.inl (K 0, 96, .inl (upd (upd (upd FO (12 * σ.1 0 + 0) (-1)) (12 * σ.1 0 + 1) (-1)) (12 * σ.1 0 + 2) (-1))))) 220 (.inl (K 0, 96, .inl (upd (upd (upd (upd FO (12 * σ.1 0 + 0) (-1)) (12 * σ.1 0 + 1) (-1)) (12 * σ.1 0 + 2) (-1)) (12 * σ.1 0 + 3) (-1))))) 220 (.inl (K 0, 96, .inl (upd (upd (upd (upd (upd FO (12 * σ.1 0 + 0) (-1)) (12 * σ.1 0 + 1) (-1)) (12 * σ.1 0 + 2) (-1)) (12 * σ.1 0 + 3) (-1)) (12 * σ.1 0 + 4) (-1))))) 220 (.inl (K 0, 96, .inl (upd (upd (upd (upd (upd (upd FO (12 * σ.1 0 + 0) (-1)) (12 * σ.1 0 + 1) (-1)) (12 * σ.1 0 + 2) (-1)) (12 * σ.1 0 + 3) (-1)) (12 * σ.1 0 + 4) (-1)) (12 * σ.1 0 + 5) (-1))))) 220 (.inl (K 0, 96, .inl (upd (upd (upd (upd (upd (upd (upd FO (12 * σ.1 0 + 0) (-1)) (12 * σ.1 0 + 1) (-1)) (12 * σ.1 0 + 2) (-1)) (12 * σ.1 0 + 3) (-1)) (12 * σ.1 0 + 4) (-1)) (12 * σ.1 0 + 5) (-1)) (12 * σ.1 0 + 6) (-1))))) H := hw
  refine lv_iinc (v := 7) (lv' := [(4, .int 7), (0, .ref (ad 200)), (1, .long g), (3, .int d)]) hx hb d_M_add_56 hl (k := 0) rfl (by decide) (by decide) rfl (fun ls hl => ?_)
  refine lv_goto (tgt := 33) hx hb d_M_add_59 (by decide) ?_
  refine lv_iload hx hb d_M_add_33 (lv_at hl 0 rfl) ?_
  refine lv_bipush (v := 12) hx hb d_M_add_35 (by decide) ?_
  refine lv_icmp_ge (tgt := 62) hx hb d_M_add_37 (by decide) (fun c_8 => absurd c_8 (by decide)) (fun c_8 => ?_)
  refine lv_aload_n hx hb d_M_add_40 rfl (lv_at hl 1 rfl) ?_
  refine xr_get (ci := 5) (v := .ref (ad 220)) (C := R_M) (T := T_M) (N := 26) hx hb htw in_M hown hK hw 200 ((xu_ne (by omega)).trans ((xu_ne (by omega)).trans ((xu_ne (by omega)).trans ((xu_ne (by omega)).trans ((xu_ne (by omega)).trans ((xu_ne (by omega)).trans ((xu_ne (by omega)).trans ((xu_ne (by omega)).trans ((xu_ne (by omega)).trans ((xu_ne (by omega)).trans (m200))))))))))) rfl rfl 19 (by decide) (htw _ u_353) (fun _ h9 => h9) rfl d_M_add_41 ?_
  refine lv_bipush (v := 12) hx hb d_M_add_44 (by decide) ?_
  refine lv_aload_n hx hb d_M_add_46 rfl (lv_at hl 1 rfl) ?_
  refine xr_get (ci := 5) (v := .int (nI (σ.1 0))) (C := R_M) (T := T_M) (N := 26) hx hb htw in_M hown hK hw 200 ((xu_ne (by omega)).trans ((xu_ne (by omega)).trans ((xu_ne (by omega)).trans ((xu_ne (by omega)).trans ((xu_ne (by omega)).trans ((xu_ne (by omega)).trans ((xu_ne (by omega)).trans ((xu_ne (by omega)).trans ((xu_ne (by omega)).trans ((xu_ne (by omega)).trans (m200))))))))))) rfl rfl 1 (by decide) (htw _ u_335) (fun _ h9 => h9) rfl d_M_add_47 ?_
  refine lv_imul hx hb d_M_add_50 ?_
  refine lv_iload hx hb d_M_add_51 (lv_at hl 0 rfl) ?_
  refine lv_iadd hx hb d_M_add_53 ?_
  refine lv_iconst (v := (-1)) hx hb d_M_add_54 (by decide) ?_
  refine xr_iast (i := (12 * (nI (σ.1 0))) + 7) hx hb hK hw hS 220 0 xu_eq rfl rfl (xvin (a := (12 * (σ.1 0)) + 7) (xadd (a := 12 * (σ.1 0)) (b := 7) (xmul (a := 12) (b := σ.1 0) rfl rfl) rfl) (by omega) (by omega)) d_M_add_55 (fun H locs hw hS => ?_)
  rw [show ((12 * (nI (σ.1 0))) + 7).toNatClampNeg = 12 * σ.1 0 + 7 from (xcl (a := (12 * (σ.1 0)) + 7) (xadd (a := 12 * (σ.1 0)) (b := 7) (xmul (a := 12) (b := σ.1 0) rfl rfl) rfl) (by omega)).trans (show (12 * (σ.1 0)) + 7 = 12 * σ.1 0 + 7 by omega)] at hw
  have hw : xw D vwCl B ad (xu (xu (xu (xu (xu (xu (xu (xu (xu (xu (xu w 203 (.inl (K 1, 8, .inr (.inl (vp_updL (σ.2.2.1 1) (σ.1 0) g))))) 204 (.inl (K 0, 8, .inl (upd (σ.2.1 1) (σ.1 0) d)))) 208 (.inl (K 0, 8, .inl (upd (σ.2.1 10) (σ.1 0) (-1))))) 220 (.inl (K 0, 96, .inl (upd FO (12 * σ.1 0 + 0) (-1))))) 220 (.inl (K 0, 96, .inl (upd (upd FO (12 * σ.1 0 + 0) (-1)) (12 * σ.1 0 + 1) (-1))))) 220 (.inl (K 0, 96, .inl (upd (upd (upd FO (12 * σ.1 0 + 0) (-1)) (12 * σ.1 0 + 1) (-1)) (12 * σ.1 0 + 2) (-1))))) 220 (.inl (K 0, 96, .inl (upd (upd (upd (upd FO (12 * σ.1 0 + 0) (-1)) (12 * σ.1 0 + 1) (-1)) (12 * σ.1 0 + 2) (-1)) (12 * σ.1 0 + 3) (-1))))) 220 (.inl (K 0, 96, .inl (upd (upd (upd (upd (upd FO (12 * σ.1 0 + 0) (-1)) (12 * σ.1 0 + 1) (-1)) (12 * σ.1 0 + 2) (-1)) (12 * σ.1 0 + 3) (-1)) (12 * σ.1 0 + 4) (-1))))) 220 (.inl (K 0, 96, .inl (upd (upd (upd (upd (upd (upd FO (12 * σ.1 0 + 0) (-1)) (12 * σ.1 0 + 1) (-1)) (12 * σ.1 0 + 2) (-1)) (12 * σ.1 0 + 3) (-1)) (12 * σ.1 0 + 4) (-1)) (12 * σ.1 0 + 5) (-1))))) 220 (.inl (K 0, 96, .inl (upd (upd (upd (upd (upd (upd (upd FO (12 * σ.1 0 + 0) (-1)) (12 * σ.1 0 + 1) (-1)) (12 * σ.1 0 + 2) (-1)) (12 * σ.1 0 + 3) (-1)) (12 * σ.1 0 + 4) (-1)) (12 * σ.1 0 + 5) (-1)) (12 * σ.1 0 + 6) (-1))))) 220 (.inl (K 0, 96, .inl (upd (upd (upd (upd (upd (upd (upd (upd FO (12 * σ.1 0 + 0) (-1)) (12 * σ.1 0 + 1) (-1)) (12 * σ.1 0 + 2) (-1)) (12 * σ.1 0 + 3) (-1)) (12 * σ.1 0 + 4) (-1)) (12 * σ.1 0 + 5) (-1)) (12 * σ.1 0 + 6) (-1)) (12 * σ.1 0 + 7) (-1))))) H := hw
  refine lv_iinc (v := 8) (lv' := [(4, .int 8), (0, .ref (ad 200)), (1, .long g), (3, .int d)]) hx hb d_M_add_56 hl (k := 0) rfl (by decide) (by decide) rfl (fun ls hl => ?_)
  refine lv_goto (tgt := 33) hx hb d_M_add_59 (by decide) ?_
  refine lv_iload hx hb d_M_add_33 (lv_at hl 0 rfl) ?_
  refine lv_bipush (v := 12) hx hb d_M_add_35 (by decide) ?_
  refine lv_icmp_ge (tgt := 62) hx hb d_M_add_37 (by decide) (fun c_9 => absurd c_9 (by decide)) (fun c_9 => ?_)
  refine lv_aload_n hx hb d_M_add_40 rfl (lv_at hl 1 rfl) ?_
  refine xr_get (ci := 5) (v := .ref (ad 220)) (C := R_M) (T := T_M) (N := 26) hx hb htw in_M hown hK hw 200 ((xu_ne (by omega)).trans ((xu_ne (by omega)).trans ((xu_ne (by omega)).trans ((xu_ne (by omega)).trans ((xu_ne (by omega)).trans ((xu_ne (by omega)).trans ((xu_ne (by omega)).trans ((xu_ne (by omega)).trans ((xu_ne (by omega)).trans ((xu_ne (by omega)).trans ((xu_ne (by omega)).trans (m200)))))))))))) rfl rfl 19 (by decide) (htw _ u_353) (fun _ h9 => h9) rfl d_M_add_41 ?_
  refine lv_bipush (v := 12) hx hb d_M_add_44 (by decide) ?_
  refine lv_aload_n hx hb d_M_add_46 rfl (lv_at hl 1 rfl) ?_
  refine xr_get (ci := 5) (v := .int (nI (σ.1 0))) (C := R_M) (T := T_M) (N := 26) hx hb htw in_M hown hK hw 200 ((xu_ne (by omega)).trans ((xu_ne (by omega)).trans ((xu_ne (by omega)).trans ((xu_ne (by omega)).trans ((xu_ne (by omega)).trans ((xu_ne (by omega)).trans ((xu_ne (by omega)).trans ((xu_ne (by omega)).trans ((xu_ne (by omega)).trans ((xu_ne (by omega)).trans ((xu_ne (by omega)).trans (m200)))))))))))) rfl rfl 1 (by decide) (htw _ u_335) (fun _ h9 => h9) rfl d_M_add_47 ?_
  refine lv_imul hx hb d_M_add_50 ?_
  refine lv_iload hx hb d_M_add_51 (lv_at hl 0 rfl) ?_
  refine lv_iadd hx hb d_M_add_53 ?_
  refine lv_iconst (v := (-1)) hx hb d_M_add_54 (by decide) ?_
  refine xr_iast (i := (12 * (nI (σ.1 0))) + 8) hx hb hK hw hS 220 0 xu_eq rfl rfl (xvin (a := (12 * (σ.1 0)) + 8) (xadd (a := 12 * (σ.1 0)) (b := 8) (xmul (a := 12) (b := σ.1 0) rfl rfl) rfl) (by omega) (by omega)) d_M_add_55 (fun H locs hw hS => ?_)
  rw [show ((12 * (nI (σ.1 0))) + 8).toNatClampNeg = 12 * σ.1 0 + 8 from (xcl (a := (12 * (σ.1 0)) + 8) (xadd (a := 12 * (σ.1 0)) (b := 8) (xmul (a := 12) (b := σ.1 0) rfl rfl) rfl) (by omega)).trans (show (12 * (σ.1 0)) + 8 = 12 * σ.1 0 + 8 by omega)] at hw
  have hw : xw D vwCl B ad (xu (xu (xu (xu (xu (xu (xu (xu (xu (xu (xu (xu w 203 (.inl (K 1, 8, .inr (.inl (vp_updL (σ.2.2.1 1) (σ.1 0) g))))) 204 (.inl (K 0, 8, .inl (upd (σ.2.1 1) (σ.1 0) d)))) 208 (.inl (K 0, 8, .inl (upd (σ.2.1 10) (σ.1 0) (-1))))) 220 (.inl (K 0, 96, .inl (upd FO (12 * σ.1 0 + 0) (-1))))) 220 (.inl (K 0, 96, .inl (upd (upd FO (12 * σ.1 0 + 0) (-1)) (12 * σ.1 0 + 1) (-1))))) 220 (.inl (K 0, 96, .inl (upd (upd (upd FO (12 * σ.1 0 + 0) (-1)) (12 * σ.1 0 + 1) (-1)) (12 * σ.1 0 + 2) (-1))))) 220 (.inl (K 0, 96, .inl (upd (upd (upd (upd FO (12 * σ.1 0 + 0) (-1)) (12 * σ.1 0 + 1) (-1)) (12 * σ.1 0 + 2) (-1)) (12 * σ.1 0 + 3) (-1))))) 220 (.inl (K 0, 96, .inl (upd (upd (upd (upd (upd FO (12 * σ.1 0 + 0) (-1)) (12 * σ.1 0 + 1) (-1)) (12 * σ.1 0 + 2) (-1)) (12 * σ.1 0 + 3) (-1)) (12 * σ.1 0 + 4) (-1))))) 220 (.inl (K 0, 96, .inl (upd (upd (upd (upd (upd (upd FO (12 * σ.1 0 + 0) (-1)) (12 * σ.1 0 + 1) (-1)) (12 * σ.1 0 + 2) (-1)) (12 * σ.1 0 + 3) (-1)) (12 * σ.1 0 + 4) (-1)) (12 * σ.1 0 + 5) (-1))))) 220 (.inl (K 0, 96, .inl (upd (upd (upd (upd (upd (upd (upd FO (12 * σ.1 0 + 0) (-1)) (12 * σ.1 0 + 1) (-1)) (12 * σ.1 0 + 2) (-1)) (12 * σ.1 0 + 3) (-1)) (12 * σ.1 0 + 4) (-1)) (12 * σ.1 0 + 5) (-1)) (12 * σ.1 0 + 6) (-1))))) 220 (.inl (K 0, 96, .inl (upd (upd (upd (upd (upd (upd (upd (upd FO (12 * σ.1 0 + 0) (-1)) (12 * σ.1 0 + 1) (-1)) (12 * σ.1 0 + 2) (-1)) (12 * σ.1 0 + 3) (-1)) (12 * σ.1 0 + 4) (-1)) (12 * σ.1 0 + 5) (-1)) (12 * σ.1 0 + 6) (-1)) (12 * σ.1 0 + 7) (-1))))) 220 (.inl (K 0, 96, .inl (upd (upd (upd (upd (upd (upd (upd (upd (upd FO (12 * σ.1 0 + 0) (-1)) (12 * σ.1 0 + 1) (-1)) (12 * σ.1 0 + 2) (-1)) (12 * σ.1 0 + 3) (-1)) (12 * σ.1 0 + 4) (-1)) (12 * σ.1 0 + 5) (-1)) (12 * σ.1 0 + 6) (-1)) (12 * σ.1 0 + 7) (-1)) (12 * σ.1 0 + 8) (-1))))) H := hw
  refine lv_iinc (v := 9) (lv' := [(4, .int 9), (0, .ref (ad 200)), (1, .long g), (3, .int d)]) hx hb d_M_add_56 hl (k := 0) rfl (by decide) (by decide) rfl (fun ls hl => ?_)
  refine lv_goto (tgt := 33) hx hb d_M_add_59 (by decide) ?_
  refine lv_iload hx hb d_M_add_33 (lv_at hl 0 rfl) ?_
  refine lv_bipush (v := 12) hx hb d_M_add_35 (by decide) ?_
  refine lv_icmp_ge (tgt := 62) hx hb d_M_add_37 (by decide) (fun c_10 => absurd c_10 (by decide)) (fun c_10 => ?_)
  refine lv_aload_n hx hb d_M_add_40 rfl (lv_at hl 1 rfl) ?_
  refine xr_get (ci := 5) (v := .ref (ad 220)) (C := R_M) (T := T_M) (N := 26) hx hb htw in_M hown hK hw 200 ((xu_ne (by omega)).trans ((xu_ne (by omega)).trans ((xu_ne (by omega)).trans ((xu_ne (by omega)).trans ((xu_ne (by omega)).trans ((xu_ne (by omega)).trans ((xu_ne (by omega)).trans ((xu_ne (by omega)).trans ((xu_ne (by omega)).trans ((xu_ne (by omega)).trans ((xu_ne (by omega)).trans ((xu_ne (by omega)).trans (m200))))))))))))) rfl rfl 19 (by decide) (htw _ u_353) (fun _ h9 => h9) rfl d_M_add_41 ?_
  refine lv_bipush (v := 12) hx hb d_M_add_44 (by decide) ?_
  refine lv_aload_n hx hb d_M_add_46 rfl (lv_at hl 1 rfl) ?_
  refine xr_get (ci := 5) (v := .int (nI (σ.1 0))) (C := R_M) (T := T_M) (N := 26) hx hb htw in_M hown hK hw 200 ((xu_ne (by omega)).trans ((xu_ne (by omega)).trans ((xu_ne (by omega)).trans ((xu_ne (by omega)).trans ((xu_ne (by omega)).trans ((xu_ne (by omega)).trans ((xu_ne (by omega)).trans ((xu_ne (by omega)).trans ((xu_ne (by omega)).trans ((xu_ne (by omega)).trans ((xu_ne (by omega)).trans ((xu_ne (by omega)).trans (m200))))))))))))) rfl rfl 1 (by decide) (htw _ u_335) (fun _ h9 => h9) rfl d_M_add_47 ?_
  refine lv_imul hx hb d_M_add_50 ?_
  refine lv_iload hx hb d_M_add_51 (lv_at hl 0 rfl) ?_
  refine lv_iadd hx hb d_M_add_53 ?_
  refine lv_iconst (v := (-1)) hx hb d_M_add_54 (by decide) ?_
  refine xr_iast (i := (12 * (nI (σ.1 0))) + 9) hx hb hK hw hS 220 0 xu_eq rfl rfl (xvin (a := (12 * (σ.1 0)) + 9) (xadd (a := 12 * (σ.1 0)) (b := 9) (xmul (a := 12) (b := σ.1 0) rfl rfl) rfl) (by omega) (by omega)) d_M_add_55 (fun H locs hw hS => ?_)
  rw [show ((12 * (nI (σ.1 0))) + 9).toNatClampNeg = 12 * σ.1 0 + 9 from (xcl (a := (12 * (σ.1 0)) + 9) (xadd (a := 12 * (σ.1 0)) (b := 9) (xmul (a := 12) (b := σ.1 0) rfl rfl) rfl) (by omega)).trans (show (12 * (σ.1 0)) + 9 = 12 * σ.1 0 + 9 by omega)] at hw
  have hw : xw D vwCl B ad (xu (xu (xu (xu (xu (xu (xu (xu (xu (xu (xu (xu (xu w 203 (.inl (K 1, 8, .inr (.inl (vp_updL (σ.2.2.1 1) (σ.1 0) g))))) 204 (.inl (K 0, 8, .inl (upd (σ.2.1 1) (σ.1 0) d)))) 208 (.inl (K 0, 8, .inl (upd (σ.2.1 10) (σ.1 0) (-1))))) 220 (.inl (K 0, 96, .inl (upd FO (12 * σ.1 0 + 0) (-1))))) 220 (.inl (K 0, 96, .inl (upd (upd FO (12 * σ.1 0 + 0) (-1)) (12 * σ.1 0 + 1) (-1))))) 220 (.inl (K 0, 96, .inl (upd (upd (upd FO (12 * σ.1 0 + 0) (-1)) (12 * σ.1 0 + 1) (-1)) (12 * σ.1 0 + 2) (-1))))) 220 (.inl (K 0, 96, .inl (upd (upd (upd (upd FO (12 * σ.1 0 + 0) (-1)) (12 * σ.1 0 + 1) (-1)) (12 * σ.1 0 + 2) (-1)) (12 * σ.1 0 + 3) (-1))))) 220 (.inl (K 0, 96, .inl (upd (upd (upd (upd (upd FO (12 * σ.1 0 + 0) (-1)) (12 * σ.1 0 + 1) (-1)) (12 * σ.1 0 + 2) (-1)) (12 * σ.1 0 + 3) (-1)) (12 * σ.1 0 + 4) (-1))))) 220 (.inl (K 0, 96, .inl (upd (upd (upd (upd (upd (upd FO (12 * σ.1 0 + 0) (-1)) (12 * σ.1 0 + 1) (-1)) (12 * σ.1 0 + 2) (-1)) (12 * σ.1 0 + 3) (-1)) (12 * σ.1 0 + 4) (-1)) (12 * σ.1 0 + 5) (-1))))) 220 (.inl (K 0, 96, .inl (upd (upd (upd (upd (upd (upd (upd FO (12 * σ.1 0 + 0) (-1)) (12 * σ.1 0 + 1) (-1)) (12 * σ.1 0 + 2) (-1)) (12 * σ.1 0 + 3) (-1)) (12 * σ.1 0 + 4) (-1)) (12 * σ.1 0 + 5) (-1)) (12 * σ.1 0 + 6) (-1))))) 220 (.inl (K 0, 96, .inl (upd (upd (upd (upd (upd (upd (upd (upd FO (12 * σ.1 0 + 0) (-1)) (12 * σ.1 0 + 1) (-1)) (12 * σ.1 0 + 2) (-1)) (12 * σ.1 0 + 3) (-1)) (12 * σ.1 0 + 4) (-1)) (12 * σ.1 0 + 5) (-1)) (12 * σ.1 0 + 6) (-1)) (12 * σ.1 0 + 7) (-1))))) 220 (.inl (K 0, 96, .inl (upd (upd (upd (upd (upd (upd (upd (upd (upd FO (12 * σ.1 0 + 0) (-1)) (12 * σ.1 0 + 1) (-1)) (12 * σ.1 0 + 2) (-1)) (12 * σ.1 0 + 3) (-1)) (12 * σ.1 0 + 4) (-1)) (12 * σ.1 0 + 5) (-1)) (12 * σ.1 0 + 6) (-1)) (12 * σ.1 0 + 7) (-1)) (12 * σ.1 0 + 8) (-1))))) 220 (.inl (K 0, 96, .inl (upd (upd (upd (upd (upd (upd (upd (upd (upd (upd FO (12 * σ.1 0 + 0) (-1)) (12 * σ.1 0 + 1) (-1)) (12 * σ.1 0 + 2) (-1)) (12 * σ.1 0 + 3) (-1)) (12 * σ.1 0 + 4) (-1)) (12 * σ.1 0 + 5) (-1)) (12 * σ.1 0 + 6) (-1)) (12 * σ.1 0 + 7) (-1)) (12 * σ.1 0 + 8) (-1)) (12 * σ.1 0 + 9) (-1))))) H := hw
  refine lv_iinc (v := 10) (lv' := [(4, .int 10), (0, .ref (ad 200)), (1, .long g), (3, .int d)]) hx hb d_M_add_56 hl (k := 0) rfl (by decide) (by decide) rfl (fun ls hl => ?_)
  refine lv_goto (tgt := 33) hx hb d_M_add_59 (by decide) ?_
  refine lv_iload hx hb d_M_add_33 (lv_at hl 0 rfl) ?_
  refine lv_bipush (v := 12) hx hb d_M_add_35 (by decide) ?_
  refine lv_icmp_ge (tgt := 62) hx hb d_M_add_37 (by decide) (fun c_11 => absurd c_11 (by decide)) (fun c_11 => ?_)
  refine lv_aload_n hx hb d_M_add_40 rfl (lv_at hl 1 rfl) ?_
  refine xr_get (ci := 5) (v := .ref (ad 220)) (C := R_M) (T := T_M) (N := 26) hx hb htw in_M hown hK hw 200 ((xu_ne (by omega)).trans ((xu_ne (by omega)).trans ((xu_ne (by omega)).trans ((xu_ne (by omega)).trans ((xu_ne (by omega)).trans ((xu_ne (by omega)).trans ((xu_ne (by omega)).trans ((xu_ne (by omega)).trans ((xu_ne (by omega)).trans ((xu_ne (by omega)).trans ((xu_ne (by omega)).trans ((xu_ne (by omega)).trans ((xu_ne (by omega)).trans (m200)))))))))))))) rfl rfl 19 (by decide) (htw _ u_353) (fun _ h9 => h9) rfl d_M_add_41 ?_
  refine lv_bipush (v := 12) hx hb d_M_add_44 (by decide) ?_
  refine lv_aload_n hx hb d_M_add_46 rfl (lv_at hl 1 rfl) ?_
  refine xr_get (ci := 5) (v := .int (nI (σ.1 0))) (C := R_M) (T := T_M) (N := 26) hx hb htw in_M hown hK hw 200 ((xu_ne (by omega)).trans ((xu_ne (by omega)).trans ((xu_ne (by omega)).trans ((xu_ne (by omega)).trans ((xu_ne (by omega)).trans ((xu_ne (by omega)).trans ((xu_ne (by omega)).trans ((xu_ne (by omega)).trans ((xu_ne (by omega)).trans ((xu_ne (by omega)).trans ((xu_ne (by omega)).trans ((xu_ne (by omega)).trans ((xu_ne (by omega)).trans (m200)))))))))))))) rfl rfl 1 (by decide) (htw _ u_335) (fun _ h9 => h9) rfl d_M_add_47 ?_
  refine lv_imul hx hb d_M_add_50 ?_
  refine lv_iload hx hb d_M_add_51 (lv_at hl 0 rfl) ?_
  refine lv_iadd hx hb d_M_add_53 ?_
  refine lv_iconst (v := (-1)) hx hb d_M_add_54 (by decide) ?_
  refine xr_iast (i := (12 * (nI (σ.1 0))) + 10) hx hb hK hw hS 220 0 xu_eq rfl rfl (xvin (a := (12 * (σ.1 0)) + 10) (xadd (a := 12 * (σ.1 0)) (b := 10) (xmul (a := 12) (b := σ.1 0) rfl rfl) rfl) (by omega) (by omega)) d_M_add_55 (fun H locs hw hS => ?_)
  rw [show ((12 * (nI (σ.1 0))) + 10).toNatClampNeg = 12 * σ.1 0 + 10 from (xcl (a := (12 * (σ.1 0)) + 10) (xadd (a := 12 * (σ.1 0)) (b := 10) (xmul (a := 12) (b := σ.1 0) rfl rfl) rfl) (by omega)).trans (show (12 * (σ.1 0)) + 10 = 12 * σ.1 0 + 10 by omega)] at hw
  have hw : xw D vwCl B ad (xu (xu (xu (xu (xu (xu (xu (xu (xu (xu (xu (xu (xu (xu w 203 (.inl (K 1, 8, .inr (.inl (vp_updL (σ.2.2.1 1) (σ.1 0) g))))) 204 (.inl (K 0, 8, .inl (upd (σ.2.1 1) (σ.1 0) d)))) 208 (.inl (K 0, 8, .inl (upd (σ.2.1 10) (σ.1 0) (-1))))) 220 (.inl (K 0, 96, .inl (upd FO (12 * σ.1 0 + 0) (-1))))) 220 (.inl (K 0, 96, .inl (upd (upd FO (12 * σ.1 0 + 0) (-1)) (12 * σ.1 0 + 1) (-1))))) 220 (.inl (K 0, 96, .inl (upd (upd (upd FO (12 * σ.1 0 + 0) (-1)) (12 * σ.1 0 + 1) (-1)) (12 * σ.1 0 + 2) (-1))))) 220 (.inl (K 0, 96, .inl (upd (upd (upd (upd FO (12 * σ.1 0 + 0) (-1)) (12 * σ.1 0 + 1) (-1)) (12 * σ.1 0 + 2) (-1)) (12 * σ.1 0 + 3) (-1))))) 220 (.inl (K 0, 96, .inl (upd (upd (upd (upd (upd FO (12 * σ.1 0 + 0) (-1)) (12 * σ.1 0 + 1) (-1)) (12 * σ.1 0 + 2) (-1)) (12 * σ.1 0 + 3) (-1)) (12 * σ.1 0 + 4) (-1))))) 220 (.inl (K 0, 96, .inl (upd (upd (upd (upd (upd (upd FO (12 * σ.1 0 + 0) (-1)) (12 * σ.1 0 + 1) (-1)) (12 * σ.1 0 + 2) (-1)) (12 * σ.1 0 + 3) (-1)) (12 * σ.1 0 + 4) (-1)) (12 * σ.1 0 + 5) (-1))))) 220 (.inl (K 0, 96, .inl (upd (upd (upd (upd (upd (upd (upd FO (12 * σ.1 0 + 0) (-1)) (12 * σ.1 0 + 1) (-1)) (12 * σ.1 0 + 2) (-1)) (12 * σ.1 0 + 3) (-1)) (12 * σ.1 0 + 4) (-1)) (12 * σ.1 0 + 5) (-1)) (12 * σ.1 0 + 6) (-1))))) 220 (.inl (K 0, 96, .inl (upd (upd (upd (upd (upd (upd (upd (upd FO (12 * σ.1 0 + 0) (-1)) (12 * σ.1 0 + 1) (-1)) (12 * σ.1 0 + 2) (-1)) (12 * σ.1 0 + 3) (-1)) (12 * σ.1 0 + 4) (-1)) (12 * σ.1 0 + 5) (-1)) (12 * σ.1 0 + 6) (-1)) (12 * σ.1 0 + 7) (-1))))) 220 (.inl (K 0, 96, .inl (upd (upd (upd (upd (upd (upd (upd (upd (upd FO (12 * σ.1 0 + 0) (-1)) (12 * σ.1 0 + 1) (-1)) (12 * σ.1 0 + 2) (-1)) (12 * σ.1 0 + 3) (-1)) (12 * σ.1 0 + 4) (-1)) (12 * σ.1 0 + 5) (-1)) (12 * σ.1 0 + 6) (-1)) (12 * σ.1 0 + 7) (-1)) (12 * σ.1 0 + 8) (-1))))) 220 (.inl (K 0, 96, .inl (upd (upd (upd (upd (upd (upd (upd (upd (upd (upd FO (12 * σ.1 0 + 0) (-1)) (12 * σ.1 0 + 1) (-1)) (12 * σ.1 0 + 2) (-1)) (12 * σ.1 0 + 3) (-1)) (12 * σ.1 0 + 4) (-1)) (12 * σ.1 0 + 5) (-1)) (12 * σ.1 0 + 6) (-1)) (12 * σ.1 0 + 7) (-1)) (12 * σ.1 0 + 8) (-1)) (12 * σ.1 0 + 9) (-1))))) 220 (.inl (K 0, 96, .inl (upd (upd (upd (upd (upd (upd (upd (upd (upd (upd (upd FO (12 * σ.1 0 + 0) (-1)) (12 * σ.1 0 + 1) (-1)) (12 * σ.1 0 + 2) (-1)) (12 * σ.1 0 + 3) (-1)) (12 * σ.1 0 + 4) (-1)) (12 * σ.1 0 + 5) (-1)) (12 * σ.1 0 + 6) (-1)) (12 * σ.1 0 + 7) (-1)) (12 * σ.1 0 + 8) (-1)) (12 * σ.1 0 + 9) (-1)) (12 * σ.1 0 + 10) (-1))))) H := hw
  refine lv_iinc (v := 11) (lv' := [(4, .int 11), (0, .ref (ad 200)), (1, .long g), (3, .int d)]) hx hb d_M_add_56 hl (k := 0) rfl (by decide) (by decide) rfl (fun ls hl => ?_)
  refine lv_goto (tgt := 33) hx hb d_M_add_59 (by decide) ?_
  refine lv_iload hx hb d_M_add_33 (lv_at hl 0 rfl) ?_
  refine lv_bipush (v := 12) hx hb d_M_add_35 (by decide) ?_
  refine lv_icmp_ge (tgt := 62) hx hb d_M_add_37 (by decide) (fun c_12 => absurd c_12 (by decide)) (fun c_12 => ?_)
  refine lv_aload_n hx hb d_M_add_40 rfl (lv_at hl 1 rfl) ?_
  refine xr_get (ci := 5) (v := .ref (ad 220)) (C := R_M) (T := T_M) (N := 26) hx hb htw in_M hown hK hw 200 ((xu_ne (by omega)).trans ((xu_ne (by omega)).trans ((xu_ne (by omega)).trans ((xu_ne (by omega)).trans ((xu_ne (by omega)).trans ((xu_ne (by omega)).trans ((xu_ne (by omega)).trans ((xu_ne (by omega)).trans ((xu_ne (by omega)).trans ((xu_ne (by omega)).trans ((xu_ne (by omega)).trans ((xu_ne (by omega)).trans ((xu_ne (by omega)).trans ((xu_ne (by omega)).trans (m200))))))))))))))) rfl rfl 19 (by decide) (htw _ u_353) (fun _ h9 => h9) rfl d_M_add_41 ?_
  refine lv_bipush (v := 12) hx hb d_M_add_44 (by decide) ?_
  refine lv_aload_n hx hb d_M_add_46 rfl (lv_at hl 1 rfl) ?_
  refine xr_get (ci := 5) (v := .int (nI (σ.1 0))) (C := R_M) (T := T_M) (N := 26) hx hb htw in_M hown hK hw 200 ((xu_ne (by omega)).trans ((xu_ne (by omega)).trans ((xu_ne (by omega)).trans ((xu_ne (by omega)).trans ((xu_ne (by omega)).trans ((xu_ne (by omega)).trans ((xu_ne (by omega)).trans ((xu_ne (by omega)).trans ((xu_ne (by omega)).trans ((xu_ne (by omega)).trans ((xu_ne (by omega)).trans ((xu_ne (by omega)).trans ((xu_ne (by omega)).trans ((xu_ne (by omega)).trans (m200))))))))))))))) rfl rfl 1 (by decide) (htw _ u_335) (fun _ h9 => h9) rfl d_M_add_47 ?_
  refine lv_imul hx hb d_M_add_50 ?_
  refine lv_iload hx hb d_M_add_51 (lv_at hl 0 rfl) ?_
  refine lv_iadd hx hb d_M_add_53 ?_
  refine lv_iconst (v := (-1)) hx hb d_M_add_54 (by decide) ?_
  refine xr_iast (i := (12 * (nI (σ.1 0))) + 11) hx hb hK hw hS 220 0 xu_eq rfl rfl (xvin (a := (12 * (σ.1 0)) + 11) (xadd (a := 12 * (σ.1 0)) (b := 11) (xmul (a := 12) (b := σ.1 0) rfl rfl) rfl) (by omega) (by omega)) d_M_add_55 (fun H locs hw hS => ?_)
  rw [show ((12 * (nI (σ.1 0))) + 11).toNatClampNeg = 12 * σ.1 0 + 11 from (xcl (a := (12 * (σ.1 0)) + 11) (xadd (a := 12 * (σ.1 0)) (b := 11) (xmul (a := 12) (b := σ.1 0) rfl rfl) rfl) (by omega)).trans (show (12 * (σ.1 0)) + 11 = 12 * σ.1 0 + 11 by omega)] at hw
  have hw : xw D vwCl B ad (xu (xu (xu (xu (xu (xu (xu (xu (xu (xu (xu (xu (xu (xu (xu w 203 (.inl (K 1, 8, .inr (.inl (vp_updL (σ.2.2.1 1) (σ.1 0) g))))) 204 (.inl (K 0, 8, .inl (upd (σ.2.1 1) (σ.1 0) d)))) 208 (.inl (K 0, 8, .inl (upd (σ.2.1 10) (σ.1 0) (-1))))) 220 (.inl (K 0, 96, .inl (upd FO (12 * σ.1 0 + 0) (-1))))) 220 (.inl (K 0, 96, .inl (upd (upd FO (12 * σ.1 0 + 0) (-1)) (12 * σ.1 0 + 1) (-1))))) 220 (.inl (K 0, 96, .inl (upd (upd (upd FO (12 * σ.1 0 + 0) (-1)) (12 * σ.1 0 + 1) (-1)) (12 * σ.1 0 + 2) (-1))))) 220 (.inl (K 0, 96, .inl (upd (upd (upd (upd FO (12 * σ.1 0 + 0) (-1)) (12 * σ.1 0 + 1) (-1)) (12 * σ.1 0 + 2) (-1)) (12 * σ.1 0 + 3) (-1))))) 220 (.inl (K 0, 96, .inl (upd (upd (upd (upd (upd FO (12 * σ.1 0 + 0) (-1)) (12 * σ.1 0 + 1) (-1)) (12 * σ.1 0 + 2) (-1)) (12 * σ.1 0 + 3) (-1)) (12 * σ.1 0 + 4) (-1))))) 220 (.inl (K 0, 96, .inl (upd (upd (upd (upd (upd (upd FO (12 * σ.1 0 + 0) (-1)) (12 * σ.1 0 + 1) (-1)) (12 * σ.1 0 + 2) (-1)) (12 * σ.1 0 + 3) (-1)) (12 * σ.1 0 + 4) (-1)) (12 * σ.1 0 + 5) (-1))))) 220 (.inl (K 0, 96, .inl (upd (upd (upd (upd (upd (upd (upd FO (12 * σ.1 0 + 0) (-1)) (12 * σ.1 0 + 1) (-1)) (12 * σ.1 0 + 2) (-1)) (12 * σ.1 0 + 3) (-1)) (12 * σ.1 0 + 4) (-1)) (12 * σ.1 0 + 5) (-1)) (12 * σ.1 0 + 6) (-1))))) 220 (.inl (K 0, 96, .inl (upd (upd (upd (upd (upd (upd (upd (upd FO (12 * σ.1 0 + 0) (-1)) (12 * σ.1 0 + 1) (-1)) (12 * σ.1 0 + 2) (-1)) (12 * σ.1 0 + 3) (-1)) (12 * σ.1 0 + 4) (-1)) (12 * σ.1 0 + 5) (-1)) (12 * σ.1 0 + 6) (-1)) (12 * σ.1 0 + 7) (-1))))) 220 (.inl (K 0, 96, .inl (upd (upd (upd (upd (upd (upd (upd (upd (upd FO (12 * σ.1 0 + 0) (-1)) (12 * σ.1 0 + 1) (-1)) (12 * σ.1 0 + 2) (-1)) (12 * σ.1 0 + 3) (-1)) (12 * σ.1 0 + 4) (-1)) (12 * σ.1 0 + 5) (-1)) (12 * σ.1 0 + 6) (-1)) (12 * σ.1 0 + 7) (-1)) (12 * σ.1 0 + 8) (-1))))) 220 (.inl (K 0, 96, .inl (upd (upd (upd (upd (upd (upd (upd (upd (upd (upd FO (12 * σ.1 0 + 0) (-1)) (12 * σ.1 0 + 1) (-1)) (12 * σ.1 0 + 2) (-1)) (12 * σ.1 0 + 3) (-1)) (12 * σ.1 0 + 4) (-1)) (12 * σ.1 0 + 5) (-1)) (12 * σ.1 0 + 6) (-1)) (12 * σ.1 0 + 7) (-1)) (12 * σ.1 0 + 8) (-1)) (12 * σ.1 0 + 9) (-1))))) 220 (.inl (K 0, 96, .inl (upd (upd (upd (upd (upd (upd (upd (upd (upd (upd (upd FO (12 * σ.1 0 + 0) (-1)) (12 * σ.1 0 + 1) (-1)) (12 * σ.1 0 + 2) (-1)) (12 * σ.1 0 + 3) (-1)) (12 * σ.1 0 + 4) (-1)) (12 * σ.1 0 + 5) (-1)) (12 * σ.1 0 + 6) (-1)) (12 * σ.1 0 + 7) (-1)) (12 * σ.1 0 + 8) (-1)) (12 * σ.1 0 + 9) (-1)) (12 * σ.1 0 + 10) (-1))))) 220 (.inl (K 0, 96, .inl (upd (upd (upd (upd (upd (upd (upd (upd (upd (upd (upd (upd FO (12 * σ.1 0 + 0) (-1)) (12 * σ.1 0 + 1) (-1)) (12 * σ.1 0 + 2) (-1)) (12 * σ.1 0 + 3) (-1)) (12 * σ.1 0 + 4) (-1)) (12 * σ.1 0 + 5) (-1)) (12 * σ.1 0 + 6) (-1)) (12 * σ.1 0 + 7) (-1)) (12 * σ.1 0 + 8) (-1)) (12 * σ.1 0 + 9) (-1)) (12 * σ.1 0 + 10) (-1)) (12 * σ.1 0 + 11) (-1))))) H := hw
  refine lv_iinc (v := 12) (lv' := [(4, .int 12), (0, .ref (ad 200)), (1, .long g), (3, .int d)]) hx hb d_M_add_56 hl (k := 0) rfl (by decide) (by decide) rfl (fun ls hl => ?_)
  refine lv_goto (tgt := 33) hx hb d_M_add_59 (by decide) ?_
  refine lv_iload hx hb d_M_add_33 (lv_at hl 0 rfl) ?_
  refine lv_bipush (v := 12) hx hb d_M_add_35 (by decide) ?_
  refine lv_icmp_ge (tgt := 62) hx hb d_M_add_37 (by decide) (fun c_13 => ?_) (fun c_13 => absurd (by decide) c_13)
  refine lv_aload_n hx hb d_M_add_62 rfl (lv_at hl 1 rfl) ?_
  refine lv_dup hx hb d_M_add_63 rfl ?_
  refine xr_get (ci := 5) (v := .int (nI (σ.1 0))) (C := R_M) (T := T_M) (N := 26) hx hb htw in_M hown hK hw 200 ((xu_ne (by omega)).trans ((xu_ne (by omega)).trans ((xu_ne (by omega)).trans ((xu_ne (by omega)).trans ((xu_ne (by omega)).trans ((xu_ne (by omega)).trans ((xu_ne (by omega)).trans ((xu_ne (by omega)).trans ((xu_ne (by omega)).trans ((xu_ne (by omega)).trans ((xu_ne (by omega)).trans ((xu_ne (by omega)).trans ((xu_ne (by omega)).trans ((xu_ne (by omega)).trans ((xu_ne (by omega)).trans (m200)))))))))))))))) rfl rfl 1 (by decide) (htw _ u_335) (fun _ h9 => h9) rfl d_M_add_64 ?_
  refine lv_iconst (v := 1) hx hb d_M_add_67 (by decide) ?_
  refine lv_iadd hx hb d_M_add_68 ?_
  refine xr_put (ci := 5) (v := .int ((nI (σ.1 0)) + 1)) (ty := .int) (C := R_M) (T := T_M) (N := 26) hx hb htw in_M ty_M tk_M nm_M hown hK hw hS 200 ((xu_ne (by omega)).trans ((xu_ne (by omega)).trans ((xu_ne (by omega)).trans ((xu_ne (by omega)).trans ((xu_ne (by omega)).trans ((xu_ne (by omega)).trans ((xu_ne (by omega)).trans ((xu_ne (by omega)).trans ((xu_ne (by omega)).trans ((xu_ne (by omega)).trans ((xu_ne (by omega)).trans ((xu_ne (by omega)).trans ((xu_ne (by omega)).trans ((xu_ne (by omega)).trans ((xu_ne (by omega)).trans (m200)))))))))))))))) rfl rfl 1 (by decide) (htw _ u_335) (fun _ h9 => h9) rfl (by decide +kernel) rfl rfl (Nat.le_of_ble_eq_true rfl) d_M_add_69 (fun H locs hw hS => ?_)
  have hw : xw D vwCl B ad (xu (xu (xu (xu (xu (xu (xu (xu (xu (xu (xu (xu (xu (xu (xu (xu w 203 (.inl (K 1, 8, .inr (.inl (vp_updL (σ.2.2.1 1) (σ.1 0) g))))) 204 (.inl (K 0, 8, .inl (upd (σ.2.1 1) (σ.1 0) d)))) 208 (.inl (K 0, 8, .inl (upd (σ.2.1 10) (σ.1 0) (-1))))) 220 (.inl (K 0, 96, .inl (upd FO (12 * σ.1 0 + 0) (-1))))) 220 (.inl (K 0, 96, .inl (upd (upd FO (12 * σ.1 0 + 0) (-1)) (12 * σ.1 0 + 1) (-1))))) 220 (.inl (K 0, 96, .inl (upd (upd (upd FO (12 * σ.1 0 + 0) (-1)) (12 * σ.1 0 + 1) (-1)) (12 * σ.1 0 + 2) (-1))))) 220 (.inl (K 0, 96, .inl (upd (upd (upd (upd FO (12 * σ.1 0 + 0) (-1)) (12 * σ.1 0 + 1) (-1)) (12 * σ.1 0 + 2) (-1)) (12 * σ.1 0 + 3) (-1))))) 220 (.inl (K 0, 96, .inl (upd (upd (upd (upd (upd FO (12 * σ.1 0 + 0) (-1)) (12 * σ.1 0 + 1) (-1)) (12 * σ.1 0 + 2) (-1)) (12 * σ.1 0 + 3) (-1)) (12 * σ.1 0 + 4) (-1))))) 220 (.inl (K 0, 96, .inl (upd (upd (upd (upd (upd (upd FO (12 * σ.1 0 + 0) (-1)) (12 * σ.1 0 + 1) (-1)) (12 * σ.1 0 + 2) (-1)) (12 * σ.1 0 + 3) (-1)) (12 * σ.1 0 + 4) (-1)) (12 * σ.1 0 + 5) (-1))))) 220 (.inl (K 0, 96, .inl (upd (upd (upd (upd (upd (upd (upd FO (12 * σ.1 0 + 0) (-1)) (12 * σ.1 0 + 1) (-1)) (12 * σ.1 0 + 2) (-1)) (12 * σ.1 0 + 3) (-1)) (12 * σ.1 0 + 4) (-1)) (12 * σ.1 0 + 5) (-1)) (12 * σ.1 0 + 6) (-1))))) 220 (.inl (K 0, 96, .inl (upd (upd (upd (upd (upd (upd (upd (upd FO (12 * σ.1 0 + 0) (-1)) (12 * σ.1 0 + 1) (-1)) (12 * σ.1 0 + 2) (-1)) (12 * σ.1 0 + 3) (-1)) (12 * σ.1 0 + 4) (-1)) (12 * σ.1 0 + 5) (-1)) (12 * σ.1 0 + 6) (-1)) (12 * σ.1 0 + 7) (-1))))) 220 (.inl (K 0, 96, .inl (upd (upd (upd (upd (upd (upd (upd (upd (upd FO (12 * σ.1 0 + 0) (-1)) (12 * σ.1 0 + 1) (-1)) (12 * σ.1 0 + 2) (-1)) (12 * σ.1 0 + 3) (-1)) (12 * σ.1 0 + 4) (-1)) (12 * σ.1 0 + 5) (-1)) (12 * σ.1 0 + 6) (-1)) (12 * σ.1 0 + 7) (-1)) (12 * σ.1 0 + 8) (-1))))) 220 (.inl (K 0, 96, .inl (upd (upd (upd (upd (upd (upd (upd (upd (upd (upd FO (12 * σ.1 0 + 0) (-1)) (12 * σ.1 0 + 1) (-1)) (12 * σ.1 0 + 2) (-1)) (12 * σ.1 0 + 3) (-1)) (12 * σ.1 0 + 4) (-1)) (12 * σ.1 0 + 5) (-1)) (12 * σ.1 0 + 6) (-1)) (12 * σ.1 0 + 7) (-1)) (12 * σ.1 0 + 8) (-1)) (12 * σ.1 0 + 9) (-1))))) 220 (.inl (K 0, 96, .inl (upd (upd (upd (upd (upd (upd (upd (upd (upd (upd (upd FO (12 * σ.1 0 + 0) (-1)) (12 * σ.1 0 + 1) (-1)) (12 * σ.1 0 + 2) (-1)) (12 * σ.1 0 + 3) (-1)) (12 * σ.1 0 + 4) (-1)) (12 * σ.1 0 + 5) (-1)) (12 * σ.1 0 + 6) (-1)) (12 * σ.1 0 + 7) (-1)) (12 * σ.1 0 + 8) (-1)) (12 * σ.1 0 + 9) (-1)) (12 * σ.1 0 + 10) (-1))))) 220 (.inl (K 0, 96, .inl (upd (upd (upd (upd (upd (upd (upd (upd (upd (upd (upd (upd FO (12 * σ.1 0 + 0) (-1)) (12 * σ.1 0 + 1) (-1)) (12 * σ.1 0 + 2) (-1)) (12 * σ.1 0 + 3) (-1)) (12 * σ.1 0 + 4) (-1)) (12 * σ.1 0 + 5) (-1)) (12 * σ.1 0 + 6) (-1)) (12 * σ.1 0 + 7) (-1)) (12 * σ.1 0 + 8) (-1)) (12 * σ.1 0 + 9) (-1)) (12 * σ.1 0 + 10) (-1)) (12 * σ.1 0 + 11) (-1))))) 200 (.inr (5, [.int (σ.2.1 0 0), .int ((nI (σ.1 0)) + 1), .ref (ad 203), .ref (ad 204), .ref (ad 205), .ref (ad 206), .ref (ad 207), .ref (ad 208), .ref (ad 209), .ref (ad 210), .int (nI (σ.1 1)), .ref (ad 212), .ref (ad 213), .ref (ad 214), .ref (ad 215), .ref (ad 216), .ref (ad 217), .ref (ad 218), .long (σ.2.2.1 0 0), .ref (ad 220), .int (σ.2.1 0 1), .int (nI (σ.1 2)), .ref (ad 223), .ref (ad 224), .ref (ad 225), .ref (ad 226)]))) H := hw
  refine lv_aload_n hx hb d_M_add_72 rfl (lv_at hl 1 rfl) ?_
  refine xr_get (ci := 5) (v := .int ((nI (σ.1 0)) + 1)) (C := R_M) (T := T_M) (N := 26) hx hb htw in_M hown hK hw 200 xu_eq rfl rfl 1 (by decide) (htw _ u_335) (fun _ h9 => h9) rfl d_M_add_73 ?_
  refine lv_iconst (v := 1) hx hb d_M_add_76 (by decide) ?_
  refine lv_isub hx hb d_M_add_77 ?_
  obtain ⟨hd1, hd2, hd3, hd4, hd5, hd6⟩ := hdf (σ.1 0) (Nat.le_refl _) hn
  have hRep : RepM K (s_new σ g d false) ad (xu (xu (xu (xu (xu (xu (xu (xu (xu (xu (xu (xu (xu (xu (xu (xu w 203 (.inl (K 1, 8, .inr (.inl (vp_updL (σ.2.2.1 1) (σ.1 0) g))))) 204 (.inl (K 0, 8, .inl (upd (σ.2.1 1) (σ.1 0) d)))) 208 (.inl (K 0, 8, .inl (upd (σ.2.1 10) (σ.1 0) (-1))))) 220 (.inl (K 0, 96, .inl (upd FO (12 * σ.1 0 + 0) (-1))))) 220 (.inl (K 0, 96, .inl (upd (upd FO (12 * σ.1 0 + 0) (-1)) (12 * σ.1 0 + 1) (-1))))) 220 (.inl (K 0, 96, .inl (upd (upd (upd FO (12 * σ.1 0 + 0) (-1)) (12 * σ.1 0 + 1) (-1)) (12 * σ.1 0 + 2) (-1))))) 220 (.inl (K 0, 96, .inl (upd (upd (upd (upd FO (12 * σ.1 0 + 0) (-1)) (12 * σ.1 0 + 1) (-1)) (12 * σ.1 0 + 2) (-1)) (12 * σ.1 0 + 3) (-1))))) 220 (.inl (K 0, 96, .inl (upd (upd (upd (upd (upd FO (12 * σ.1 0 + 0) (-1)) (12 * σ.1 0 + 1) (-1)) (12 * σ.1 0 + 2) (-1)) (12 * σ.1 0 + 3) (-1)) (12 * σ.1 0 + 4) (-1))))) 220 (.inl (K 0, 96, .inl (upd (upd (upd (upd (upd (upd FO (12 * σ.1 0 + 0) (-1)) (12 * σ.1 0 + 1) (-1)) (12 * σ.1 0 + 2) (-1)) (12 * σ.1 0 + 3) (-1)) (12 * σ.1 0 + 4) (-1)) (12 * σ.1 0 + 5) (-1))))) 220 (.inl (K 0, 96, .inl (upd (upd (upd (upd (upd (upd (upd FO (12 * σ.1 0 + 0) (-1)) (12 * σ.1 0 + 1) (-1)) (12 * σ.1 0 + 2) (-1)) (12 * σ.1 0 + 3) (-1)) (12 * σ.1 0 + 4) (-1)) (12 * σ.1 0 + 5) (-1)) (12 * σ.1 0 + 6) (-1))))) 220 (.inl (K 0, 96, .inl (upd (upd (upd (upd (upd (upd (upd (upd FO (12 * σ.1 0 + 0) (-1)) (12 * σ.1 0 + 1) (-1)) (12 * σ.1 0 + 2) (-1)) (12 * σ.1 0 + 3) (-1)) (12 * σ.1 0 + 4) (-1)) (12 * σ.1 0 + 5) (-1)) (12 * σ.1 0 + 6) (-1)) (12 * σ.1 0 + 7) (-1))))) 220 (.inl (K 0, 96, .inl (upd (upd (upd (upd (upd (upd (upd (upd (upd FO (12 * σ.1 0 + 0) (-1)) (12 * σ.1 0 + 1) (-1)) (12 * σ.1 0 + 2) (-1)) (12 * σ.1 0 + 3) (-1)) (12 * σ.1 0 + 4) (-1)) (12 * σ.1 0 + 5) (-1)) (12 * σ.1 0 + 6) (-1)) (12 * σ.1 0 + 7) (-1)) (12 * σ.1 0 + 8) (-1))))) 220 (.inl (K 0, 96, .inl (upd (upd (upd (upd (upd (upd (upd (upd (upd (upd FO (12 * σ.1 0 + 0) (-1)) (12 * σ.1 0 + 1) (-1)) (12 * σ.1 0 + 2) (-1)) (12 * σ.1 0 + 3) (-1)) (12 * σ.1 0 + 4) (-1)) (12 * σ.1 0 + 5) (-1)) (12 * σ.1 0 + 6) (-1)) (12 * σ.1 0 + 7) (-1)) (12 * σ.1 0 + 8) (-1)) (12 * σ.1 0 + 9) (-1))))) 220 (.inl (K 0, 96, .inl (upd (upd (upd (upd (upd (upd (upd (upd (upd (upd (upd FO (12 * σ.1 0 + 0) (-1)) (12 * σ.1 0 + 1) (-1)) (12 * σ.1 0 + 2) (-1)) (12 * σ.1 0 + 3) (-1)) (12 * σ.1 0 + 4) (-1)) (12 * σ.1 0 + 5) (-1)) (12 * σ.1 0 + 6) (-1)) (12 * σ.1 0 + 7) (-1)) (12 * σ.1 0 + 8) (-1)) (12 * σ.1 0 + 9) (-1)) (12 * σ.1 0 + 10) (-1))))) 220 (.inl (K 0, 96, .inl (upd (upd (upd (upd (upd (upd (upd (upd (upd (upd (upd (upd FO (12 * σ.1 0 + 0) (-1)) (12 * σ.1 0 + 1) (-1)) (12 * σ.1 0 + 2) (-1)) (12 * σ.1 0 + 3) (-1)) (12 * σ.1 0 + 4) (-1)) (12 * σ.1 0 + 5) (-1)) (12 * σ.1 0 + 6) (-1)) (12 * σ.1 0 + 7) (-1)) (12 * σ.1 0 + 8) (-1)) (12 * σ.1 0 + 9) (-1)) (12 * σ.1 0 + 10) (-1)) (12 * σ.1 0 + 11) (-1))))) 200 (.inr (5, [.int (σ.2.1 0 0), .int ((nI (σ.1 0)) + 1), .ref (ad 203), .ref (ad 204), .ref (ad 205), .ref (ad 206), .ref (ad 207), .ref (ad 208), .ref (ad 209), .ref (ad 210), .int (nI (σ.1 1)), .ref (ad 212), .ref (ad 213), .ref (ad 214), .ref (ad 215), .ref (ad 216), .ref (ad 217), .ref (ad 218), .long (σ.2.2.1 0 0), .ref (ad 220), .int (σ.2.1 0 1), .int (nI (σ.1 2)), .ref (ad 223), .ref (ad 224), .ref (ad 225), .ref (ad 226)]))) := by
    unfold s_new
    refine ⟨FA, FT, FS, (upd (upd (upd (upd (upd (upd (upd (upd (upd (upd (upd (upd FO (12 * σ.1 0 + 0) (-1)) (12 * σ.1 0 + 1) (-1)) (12 * σ.1 0 + 2) (-1)) (12 * σ.1 0 + 3) (-1)) (12 * σ.1 0 + 4) (-1)) (12 * σ.1 0 + 5) (-1)) (12 * σ.1 0 + 6) (-1)) (12 * σ.1 0 + 7) (-1)) (12 * σ.1 0 + 8) (-1)) (12 * σ.1 0 + 9) (-1)) (12 * σ.1 0 + 10) (-1)) (12 * σ.1 0 + 11) (-1)), ?_, ?_, ?_, ?_, ?_, ?_, ?_, ?_, ?_, ?_, ?_, ?_, ?_, ?_, ?_, ?_, ?_, ?_, ?_, ?_, ?_, ?_, ?_, ?_, ?_⟩
    · simp (disch := omega) only [pN, pI, pL, pZ, row_eq, row_ne, xu_eq, xu_ne, xa_eq, xa_ne, pk_us, pk_un, pk_uLs, pk_uLn, row_same hd1, nI_succ, m200]
    · simp (disch := omega) only [pN, pI, pL, pZ, row_eq, row_ne, xu_eq, xu_ne, xa_eq, xa_ne, pk_us, pk_un, pk_uLs, pk_uLn, row_same hd1, nI_succ, m203]
    · simp (disch := omega) only [pN, pI, pL, pZ, row_eq, row_ne, xu_eq, xu_ne, xa_eq, xa_ne, pk_us, pk_un, pk_uLs, pk_uLn, row_same hd1, nI_succ, m204]
    · simp (disch := omega) only [pN, pI, pL, pZ, row_eq, row_ne, xu_eq, xu_ne, xa_eq, xa_ne, pk_us, pk_un, pk_uLs, pk_uLn, row_same hd1, nI_succ, m205]
    · simp (disch := omega) only [pN, pI, pL, pZ, row_eq, row_ne, xu_eq, xu_ne, xa_eq, xa_ne, pk_us, pk_un, pk_uLs, pk_uLn, row_same hd1, nI_succ, m206]
    · simp (disch := omega) only [pN, pI, pL, pZ, row_eq, row_ne, xu_eq, xu_ne, xa_eq, xa_ne, pk_us, pk_un, pk_uLs, pk_uLn, row_same hd1, nI_succ, m207]
    · simp (disch := omega) only [pN, pI, pL, pZ, row_eq, row_ne, xu_eq, xu_ne, xa_eq, xa_ne, pk_us, pk_un, pk_uLs, pk_uLn, row_same hd1, nI_succ, m208]
    · simp (disch := omega) only [pN, pI, pL, pZ, row_eq, row_ne, xu_eq, xu_ne, xa_eq, xa_ne, pk_us, pk_un, pk_uLs, pk_uLn, row_same hd1, nI_succ, m209]
    · simp (disch := omega) only [pN, pI, pL, pZ, row_eq, row_ne, xu_eq, xu_ne, xa_eq, xa_ne, pk_us, pk_un, pk_uLs, pk_uLn, row_same hd1, nI_succ, m210]
    · simp (disch := omega) only [pN, pI, pL, pZ, row_eq, row_ne, xu_eq, xu_ne, xa_eq, xa_ne, pk_us, pk_un, pk_uLs, pk_uLn, row_same hd1, nI_succ, m212]
    · simp (disch := omega) only [pN, pI, pL, pZ, row_eq, row_ne, xu_eq, xu_ne, xa_eq, xa_ne, pk_us, pk_un, pk_uLs, pk_uLn, row_same hd1, nI_succ, m213]
    · simp (disch := omega) only [pN, pI, pL, pZ, row_eq, row_ne, xu_eq, xu_ne, xa_eq, xa_ne, pk_us, pk_un, pk_uLs, pk_uLn, row_same hd1, nI_succ, m214]
    · simp (disch := omega) only [pN, pI, pL, pZ, row_eq, row_ne, xu_eq, xu_ne, xa_eq, xa_ne, pk_us, pk_un, pk_uLs, pk_uLn, row_same hd1, nI_succ, m215]
    · simp (disch := omega) only [pN, pI, pL, pZ, row_eq, row_ne, xu_eq, xu_ne, xa_eq, xa_ne, pk_us, pk_un, pk_uLs, pk_uLn, row_same hd1, nI_succ, m216]
    · simp (disch := omega) only [pN, pI, pL, pZ, row_eq, row_ne, xu_eq, xu_ne, xa_eq, xa_ne, pk_us, pk_un, pk_uLs, pk_uLn, row_same hd1, nI_succ, m217]
    · simp (disch := omega) only [pN, pI, pL, pZ, row_eq, row_ne, xu_eq, xu_ne, xa_eq, xa_ne, pk_us, pk_un, pk_uLs, pk_uLn, row_same hd1, nI_succ, m218]
    · simp (disch := omega) only [pN, pI, pL, pZ, row_eq, row_ne, xu_eq, xu_ne, xa_eq, xa_ne, pk_us, pk_un, pk_uLs, pk_uLn, row_same hd1, nI_succ, m220]
    · simp (disch := omega) only [pN, pI, pL, pZ, row_eq, row_ne, xu_eq, xu_ne, xa_eq, xa_ne, pk_us, pk_un, pk_uLs, pk_uLn, row_same hd1, nI_succ, m223]
    · simp (disch := omega) only [pN, pI, pL, pZ, row_eq, row_ne, xu_eq, xu_ne, xa_eq, xa_ne, pk_us, pk_un, pk_uLs, pk_uLn, row_same hd1, nI_succ, m224]
    · simp (disch := omega) only [pN, pI, pL, pZ, row_eq, row_ne, xu_eq, xu_ne, xa_eq, xa_ne, pk_us, pk_un, pk_uLs, pk_uLn, row_same hd1, nI_succ, m225]
    · simp (disch := omega) only [pN, pI, pL, pZ, row_eq, row_ne, xu_eq, xu_ne, xa_eq, xa_ne, pk_us, pk_un, pk_uLs, pk_uLn, row_same hd1, nI_succ, m226]
    · intro b q hb hq; simp (disch := omega) only [pN, pI, pL, pZ, row_eq, row_ne, xu_eq, xu_ne, xa_eq, xa_ne, pk_us, pk_un, pk_uLs, pk_uLn, row_same hd1, nI_succ]; exact hFA b q hb hq
    · intro b q hb hq; simp (disch := omega) only [pN, pI, pL, pZ, row_eq, row_ne, xu_eq, xu_ne, xa_eq, xa_ne, pk_us, pk_un, pk_uLs, pk_uLn, row_same hd1, nI_succ]; exact hFT b q hb hq
    · intro b q hb hq; simp (disch := omega) only [pN, pI, pL, pZ, row_eq, row_ne, xu_eq, xu_ne, xa_eq, xa_ne, pk_us, pk_un, pk_uLs, pk_uLn, row_same hd1, nI_succ]; exact hFS b q hb hq
    · intro b q hb hq; simp (disch := omega) only [pN, pI, pL, pZ, row_eq, row_ne, row_in]; exact relN_12 (relN_s (relN_s (relN_s (relN_s (relN_s (relN_s (relN_s (relN_s (relN_s (relN_s (relN_s (relN_s (relN_0 hFO) (by decide)) (by decide)) (by decide)) (by decide)) (by decide)) (by decide)) (by decide)) (by decide)) (by decide)) (by decide)) (by decide)) (by decide)) b q hb hq
  exact W.iret (v := ((nI (σ.1 0)) + 1) - 1) hx hb hr (fun t ht _ => ⟨_, rfl, by rw [ht]; exact ⟨congrArg (fun z => some (Value.int z)) (nI_back _), _, hw, hRep, fun t h2 => by simp (disch := omega) only [xu_ne]⟩, hS.F ht⟩) hS.2.2 d_M_add_78
set_option maxHeartbeats 4000000 in
set_option maxRecDepth 100000 in
theorem c_M_batch {l : Launch} {D : va_G} {K : Nat → ClassId} {B : Nat} {ad : Nat → Nat} {w : Nat → Option va_E} {H : Heap} {σ : xS} (hR : RepM K σ ad w) (hI : Inv σ) (hw : xw D vwCl B ad w H) (x1 : Int64) : xC l D K B y_M_batch b_M_batch 3 (some .int) rm_M_batch [.ref (ad 200), .long x1] H (fun v H1 => v = some (.int (f_batch σ x1).2) ∧ PM D K B ad w (f_batch σ x1).1 H1) := by
  refine Met.ofW (cc := b_M_batch) (maxL := 3) (ret := (some .int)) (by decide) rfl ?_
  intro p e s m args below meth c s₁ B0 hml hv
  obtain ⟨rfl, hsz, hK, hN⟩ := hv
  have hx := B0.exec
  have hb := B0.bytes
  have hr := B0.returns
  have htw : ∀ w ∈ xW0, w.before [.ref (ad 200), .long x1].toArray s = true := fun w h => atoms_spec (ws := Cond.code y_M_batch b_M_batch 3 (some .int) :: xW0) B0.pre w (List.mem_cons_of_mem _ h)
  have hown : s.vm.findClass R_M = some m.cls := findClass_of_methodNamed B0.named
  have hlocks := B0.notSynchronized
  subst hsz
  have hS : va_S (fun q => B ≤ q) s.heap s.heap [] := va_S.rf
  have hl := lv_entry ([.ref (ad 200), .long x1]) (n := 3) (Nat.le_of_ble_eq_true rfl)
  rw [lg_entry_eq]
  generalize (lg_sl ([.ref (ad 200), .long x1]) ++ List.replicate (3 - (lg_sl ([.ref (ad 200), .long x1])).length) Slot.unset).toArray = ls at hl ⊢
  have hl : lv_has ls 3 [(0, .ref (ad 200)), (1, .long x1)] := hl
  have hH : s.heap = s.heap := rfl
  obtain ⟨FA, FT, FS, FO, m200, m203, m204, m205, m206, m207, m208, m209, m210, m212, m213, m214, m215, m216, m217, m218, m220, m223, m224, m225, m226, hFA, hFT, hFS, hFO⟩ := id hR
  obtain ⟨hnb, hns, hnr, hpc, hst, hto, htl, hrm, hpa, hwt, hdf, hds⟩ := id hI
  refine lv_aload_n hx hb d_M_batch_0 rfl (lv_at hl 0 rfl) ?_
  refine xr_get (ci := 5) (v := .int (nI (σ.1 0))) (C := R_M) (T := T_M) (N := 26) hx hb htw in_M hown hK hw 200 m200 rfl rfl 1 (by decide) (htw _ u_335) (fun _ h9 => h9) rfl d_M_batch_1 ?_
  refine lv_bipush (v := 8) hx hb d_M_batch_4 (by decide) ?_
  refine lv_icmp_eq (tgt := 20) hx hb d_M_batch_6 (by decide) (fun c_1 => ?_) (fun c_1 => ?_)
  · have c_1 : (σ.1 0) = 8 := (nEQ (a := σ.1 0) (b := 8) (by omega) (by omega)).mp c_1
    refine lv_iconst (v := (-1)) hx hb d_M_batch_20 (by decide) ?_
    refine lv_goto (tgt := 33) hx hb d_M_batch_21 (by decide) ?_
    have hf : f_batch σ x1 = (σ, (-1)) := by simp [f_batch, opt_n, opt_s, show ¬ σ.1 0 < 8 by omega, opt_c]
    exact W.iret (v := (-1)) hx hb hr (fun t ht _ => ⟨_, rfl, by rw [hf, ht]; exact ⟨rfl, PM_same hw hR⟩, hS.F ht⟩) hS.2.2 d_M_batch_33
  · have c_1 : ¬ (σ.1 0) = 8 := fun z => c_1 ((nEQ (a := σ.1 0) (b := 8) (by omega) (by omega)).mpr z)
    refine lv_lload_n hx hb d_M_batch_9 rfl (lv_at hl 1 rfl) ?_
    refine lv_lconst (v := 1) hx hb d_M_batch_10 (by decide) ?_
    refine lv_ldc2 (v := 1000000000) hx hb hown (htw _ u_418) d_M_batch_11 ?_
    refine xr_call (va_runS (As := [.long x1, .long 1, .long 1000000000]) (rest := []) ⟨hx, hb, hml, hown, htw⟩ (c_M_isIn x1 1 1000000000) (va_cwS 3 htw (gS u_419 u_420 u_3 u_421) rfl rfl rfl hd_M_isIn.2 ⟨Nat.le_of_ble_eq_true rfl, Nat.le_of_ble_eq_true rfl⟩) ⟨xP_blind, xP_of hK hN⟩ rfl rfl hl.1 rfl (lv_room (Nat.le_of_ble_eq_true rfl)) d_M_batch_14 ⟨by decide, by decide⟩) hS (fun v H_ locs hp hS => ?_)
    obtain ⟨rfl, hHe⟩ := hp
    rw [hHe] at hS ⊢
    refine W.eq (g2 := F0 m 17 ls [.int (bI (xin x1 1 1000000000))]) rfl ?_
    refine lv_if_ne (tgt := 24) hx hb d_M_batch_17 (by decide) (fun c_2 => ?_) (fun c_2 => ?_)
    · have c_2 : (xin x1 1 1000000000) = true := bI_t.mp c_2
      refine lv_aload_n hx hb d_M_batch_24 rfl (lv_at hl 0 rfl) ?_
      refine lv_lload_n hx hb d_M_batch_25 rfl (lv_at hl 1 rfl) ?_
      refine lv_aload_n hx hb d_M_batch_26 rfl (lv_at hl 0 rfl) ?_
      refine xr_get (ci := 5) (v := .int (σ.2.1 0 0)) (C := R_M) (T := T_M) (N := 26) hx hb htw in_M hown hK hw 200 m200 rfl rfl 0 (by decide) (htw _ u_334) (fun _ h9 => h9) rfl d_M_batch_27 ?_
      refine xr_call (va_runV (As := [.long x1, .int (σ.2.1 0 0)]) (rest := []) ⟨hx, hb, hml, hown, htw⟩ (c_M_add (ad := ad) hR hI hw (by omega) x1 (σ.2.1 0 0)) (cwV 2 htw (gV u_422 u_424 us_7 u_3 u_425) rfl rfl rfl hd_M_add ⟨Nat.le_of_ble_eq_true rfl, Nat.le_of_ble_eq_true rfl⟩) ⟨xP_blind, hw.recv hK (ci := 5) (t := 200) rfl m200 rfl, xP_of hK hN⟩ rfl rfl hl.1 rfl (lv_room (Nat.le_of_ble_eq_true rfl)) d_M_batch_30 ⟨by decide, by decide⟩) hS (fun v H_ locs hp hS => ?_)
      obtain ⟨rfl, hPM⟩ := hp
      refine W.eq (g2 := F0 m 33 ls [.int (nI (σ.1 0))]) rfl ?_
      have hf : f_batch σ x1 = (s_new σ x1 (σ.2.1 0 0) false, nI (σ.1 0)) := by simp [f_batch, opt_n, opt_s, c_2, show σ.1 0 < 8 by omega]
      exact W.iret (v := nI (σ.1 0)) hx hb hr (fun t ht _ => ⟨_, rfl, by rw [hf, ht]; exact ⟨rfl, hPM⟩, hS.F ht⟩) hS.2.2 d_M_batch_33
    · have c_2 : (xin x1 1 1000000000) = false := bI_f.mp c_2
      refine lv_iconst (v := (-1)) hx hb d_M_batch_20 (by decide) ?_
      refine lv_goto (tgt := 33) hx hb d_M_batch_21 (by decide) ?_
      have hf : f_batch σ x1 = (σ, (-1)) := by simp [f_batch, opt_n, opt_s, c_2, show σ.1 0 < 8 by omega, opt_c]
      exact W.iret (v := (-1)) hx hb hr (fun t ht _ => ⟨_, rfl, by rw [hf, ht]; exact ⟨rfl, PM_same hw hR⟩, hS.F ht⟩) hS.2.2 d_M_batch_33
set_option maxHeartbeats 4000000 in
set_option maxRecDepth 100000 in
theorem c_M_sell {l : Launch} {D : va_G} {K : Nat → ClassId} {B : Nat} {ad : Nat → Nat} {w : Nat → Option va_E} {H : Heap} {σ : xS} (hR : RepM K σ ad w) (hI : Inv σ) (hw : xw D vwCl B ad w H) (x1 : Int32) : xC l D K B y_M_sell b_M_sell 5 (some .long) rm_M_sell [.ref (ad 200), .int x1] H (fun v H1 => v = some (.long (f_sell σ x1).2) ∧ PM D K B ad w (f_sell σ x1).1 H1) := by
  refine Met.ofW (cc := b_M_sell) (maxL := 5) (ret := (some .long)) (by decide) rfl ?_
  intro p e s m args below meth c s₁ B0 hml hv
  obtain ⟨rfl, hsz, hK, hN⟩ := hv
  have hx := B0.exec
  have hb := B0.bytes
  have hr := B0.returns
  have htw : ∀ w ∈ xW0, w.before [.ref (ad 200), .int x1].toArray s = true := fun w h => atoms_spec (ws := Cond.code y_M_sell b_M_sell 5 (some .long) :: xW0) B0.pre w (List.mem_cons_of_mem _ h)
  have hown : s.vm.findClass R_M = some m.cls := findClass_of_methodNamed B0.named
  have hlocks := B0.notSynchronized
  subst hsz
  have hS : va_S (fun q => B ≤ q) s.heap s.heap [] := va_S.rf
  have hl := lv_entry ([.ref (ad 200), .int x1]) (n := 5) (Nat.le_of_ble_eq_true rfl)
  rw [lg_entry_eq]
  generalize (lg_sl ([.ref (ad 200), .int x1]) ++ List.replicate (5 - (lg_sl ([.ref (ad 200), .int x1])).length) Slot.unset).toArray = ls at hl ⊢
  have hl : lv_has ls 5 [(0, .ref (ad 200)), (1, .int x1)] := hl
  have hH : s.heap = s.heap := rfl
  obtain ⟨FA, FT, FS, FO, m200, m203, m204, m205, m206, m207, m208, m209, m210, m212, m213, m214, m215, m216, m217, m218, m220, m223, m224, m225, m226, hFA, hFT, hFS, hFO⟩ := id hR
  obtain ⟨hnb, hns, hnr, hpc, hst, hto, htl, hrm, hpa, hwt, hdf, hds⟩ := id hI
  refine lv_aload_n hx hb d_M_sell_0 rfl (lv_at hl 0 rfl) ?_
  refine lv_iload_n hx hb d_M_sell_1 rfl (lv_at hl 1 rfl) ?_
  refine xr_call (va_runV (As := [.int x1]) (rest := []) ⟨hx, hb, hml, hown, htw⟩ (c_M_isStage (ad := ad) hR hI hw x1) (cwV 1 htw (gV u_469 u_471 us_9 u_3 u_472) rfl rfl rfl hd_M_isStage ⟨Nat.le_of_ble_eq_true rfl, Nat.le_of_ble_eq_true rfl⟩) ⟨xP_blind, hw.recv hK (ci := 5) (t := 200) rfl m200 rfl, xP_of hK hN⟩ rfl rfl hl.1 rfl (lv_room (Nat.le_of_ble_eq_true rfl)) d_M_sell_2 ⟨by decide, by decide⟩) hS (fun v H_ locs hp hS => ?_)
  obtain ⟨hHe, hp⟩ := hp
  rw [hHe] at hS ⊢
  rcases hp with ⟨f2, rfl⟩ | ⟨i1, hi1, rfl, rfl⟩
  · refine W.eq (g2 := F0 m 5 ls [.int 0]) rfl ?_
    refine lv_if_ne (tgt := 12) hx hb d_M_sell_5 (by decide) (fun c_3 => absurd rfl c_3) (fun c_3 => ?_)
    refine lv_ldc2 (v := (-1)) hx hb hown (htw _ u_447) d_M_sell_8 ?_
    have hf : f_sell σ x1 = (σ, (-1)) := by simp [f_sell, opt_n, opt_s, f2, opt_c]
    exact W.lret (v := (-1)) hx hb hr (fun t ht _ => ⟨_, rfl, by rw [hf, ht]; exact ⟨rfl, PM_same hw hR⟩, hS.F ht⟩) hS.2.2 d_M_sell_11
  · have fi1 : xi (σ.1 1) (nI i1) = some i1 := xi_nI hi1 (by omega)
    refine W.eq (g2 := F0 m 5 ls [.int 1]) rfl ?_
    refine lv_if_ne (tgt := 12) hx hb d_M_sell_5 (by decide) (fun c_4 => ?_) (fun c_4 => absurd c_4 (by decide))
    refine lv_aload_n hx hb d_M_sell_12 rfl (lv_at hl 0 rfl) ?_
    refine lv_aload_n hx hb d_M_sell_13 rfl (lv_at hl 0 rfl) ?_
    refine xr_get (ci := 5) (v := .ref (ad 215)) (C := R_M) (T := T_M) (N := 26) hx hb htw in_M hown hK hw 200 m200 rfl rfl 14 (by decide) (htw _ u_348) (fun _ h9 => h9) rfl d_M_sell_14 ?_
    refine lv_iconst (v := 4) hx hb d_M_sell_17 (by decide) ?_
    refine lv_iload_n hx hb d_M_sell_18 rfl (lv_at hl 1 rfl) ?_
    refine lv_imul hx hb d_M_sell_19 ?_
    refine lv_aload_n hx hb d_M_sell_20 rfl (lv_at hl 0 rfl) ?_
    refine xr_get (ci := 5) (v := .int (σ.2.1 0 0)) (C := R_M) (T := T_M) (N := 26) hx hb htw in_M hown hK hw 200 m200 rfl rfl 0 (by decide) (htw _ u_334) (fun _ h9 => h9) rfl d_M_sell_21 ?_
    refine W.eq (g2 := F0 m 24 ls [.int (σ.2.1 0 0), .int (nI (4 * i1)), .ref (ad 215), .ref (ad 200)]) (by rw [show (4 * (nI i1) : Int32) = nI (4 * i1) from xmul (a := 4) (b := i1) rfl rfl]) ?_
    refine xr_call (va_runV (As := [.ref (ad 215), .int (nI (4 * i1)), .int (σ.2.1 0 0)]) (rest := []) ⟨hx, hb, hml, hown, htw⟩ (c_M_worthOf (ad := ad) hR hI hw 215 24 (by decide) FS (σ.2.2.1 (30 + i1)) m215 i1 (by omega) (fun k hk => hFS i1 k (by omega) hk) (σ.2.1 0 0) (ad 215) rfl) (cwV 3 htw (gV u_481 u_483 us_10 u_3 u_484) rfl rfl rfl hd_M_worthOf ⟨Nat.le_of_ble_eq_true rfl, Nat.le_of_ble_eq_true rfl⟩) ⟨xP_blind, hw.recv hK (ci := 5) (t := 200) rfl m200 rfl, xP_of hK hN⟩ rfl rfl hl.1 rfl (lv_room (Nat.le_of_ble_eq_true rfl)) d_M_sell_24 ⟨by decide, by decide⟩) hS (fun v H_ locs hp hS => ?_)
    obtain ⟨rfl, hHe⟩ := hp
    rw [hHe] at hS ⊢
    refine W.eq (g2 := F0 m 27 ls [.long (wor σ (σ.2.2.1 (30 + i1)) (σ.2.1 0 0))]) rfl ?_
    refine lv_lstore_n (lv' := [(2, .long (wor σ (σ.2.2.1 (30 + i1)) (σ.2.1 0 0))), (0, .ref (ad 200)), (1, .int (nI i1))]) hx hb d_M_sell_27 rfl hl (by decide) rfl (fun ls hl => ?_)
    refine lv_aload_n hx hb d_M_sell_28 rfl (lv_at hl 1 rfl) ?_
    refine lv_dup hx hb d_M_sell_29 rfl ?_
    refine xr_get (ci := 5) (v := .long (σ.2.2.1 0 0)) (C := R_M) (T := T_M) (N := 26) hx hb htw in_M hown hK hw 200 m200 rfl rfl 18 (by decide) (htw _ u_352) (fun _ h9 => h9) rfl d_M_sell_30 ?_
    refine lv_lload_n hx hb d_M_sell_33 rfl (lv_at hl 0 rfl) ?_
    refine lv_ladd hx hb d_M_sell_34 ?_
    refine xr_put (ci := 5) (v := .long ((σ.2.2.1 0 0) + (wor σ (σ.2.2.1 (30 + i1)) (σ.2.1 0 0)))) (ty := .long) (C := R_M) (T := T_M) (N := 26) hx hb htw in_M ty_M tk_M nm_M hown hK hw hS 200 m200 rfl rfl 18 (by decide) (htw _ u_352) (fun _ h9 => h9) rfl (by decide +kernel) rfl rfl (Nat.le_of_ble_eq_true rfl) d_M_sell_35 (fun H locs hw hS => ?_)
    have hw : xw D vwCl B ad (xu w 200 (.inr (5, [.int (σ.2.1 0 0), .int (nI (σ.1 0)), .ref (ad 203), .ref (ad 204), .ref (ad 205), .ref (ad 206), .ref (ad 207), .ref (ad 208), .ref (ad 209), .ref (ad 210), .int (nI (σ.1 1)), .ref (ad 212), .ref (ad 213), .ref (ad 214), .ref (ad 215), .ref (ad 216), .ref (ad 217), .ref (ad 218), .long ((σ.2.2.1 0 0) + (wor σ (σ.2.2.1 (30 + i1)) (σ.2.1 0 0))), .ref (ad 220), .int (σ.2.1 0 1), .int (nI (σ.1 2)), .ref (ad 223), .ref (ad 224), .ref (ad 225), .ref (ad 226)]))) H := hw
    refine lv_iconst (v := 0) hx hb d_M_sell_38 (by decide) ?_
    refine lv_istore (lv' := [(4, .int 0), (2, .long (wor σ (σ.2.2.1 (30 + i1)) (σ.2.1 0 0))), (0, .ref (ad 200)), (1, .int (nI i1))]) hx hb d_M_sell_39 hl (by decide) rfl (fun ls hl => ?_)
    refine lv_iload hx hb d_M_sell_41 (lv_at hl 0 rfl) ?_
    refine lv_iconst (v := 4) hx hb d_M_sell_43 (by decide) ?_
    refine lv_icmp_ge (tgt := 65) hx hb d_M_sell_44 (by decide) (fun c_5 => absurd c_5 (by decide)) (fun c_5 => ?_)
    refine lv_aload_n hx hb d_M_sell_47 rfl (lv_at hl 2 rfl) ?_
    refine xr_get (ci := 5) (v := .ref (ad 215)) (C := R_M) (T := T_M) (N := 26) hx hb htw in_M hown hK hw 200 xu_eq rfl rfl 14 (by decide) (htw _ u_348) (fun _ h9 => h9) rfl d_M_sell_48 ?_
    refine lv_iconst (v := 4) hx hb d_M_sell_51 (by decide) ?_
    refine lv_iload_n hx hb d_M_sell_52 rfl (lv_at hl 3 rfl) ?_
    refine lv_imul hx hb d_M_sell_53 ?_
    refine lv_iload hx hb d_M_sell_54 (lv_at hl 0 rfl) ?_
    refine lv_iadd hx hb d_M_sell_56 ?_
    refine lv_lconst (v := 0) hx hb d_M_sell_57 (by decide) ?_
    refine xr_last (i := (4 * (nI i1)) + 0) hx hb hK hw hS 215 1 ((xu_ne (by omega)).trans (m215)) rfl rfl (xvin (a := 4 * i1) (xadd (a := 4 * i1) (b := 0) (xmul (a := 4) (b := i1) rfl rfl) rfl) (by omega) (by omega)) d_M_sell_58 (fun H locs hw hS => ?_)
    rw [show ((4 * (nI i1)) + 0).toNatClampNeg = 4 * i1 + 0 from (xcl (a := 4 * i1) (xadd (a := 4 * i1) (b := 0) (xmul (a := 4) (b := i1) rfl rfl) rfl) (by omega)).trans (show 4 * i1 = 4 * i1 + 0 by omega)] at hw
    have hw : xw D vwCl B ad (xu (xu w 200 (.inr (5, [.int (σ.2.1 0 0), .int (nI (σ.1 0)), .ref (ad 203), .ref (ad 204), .ref (ad 205), .ref (ad 206), .ref (ad 207), .ref (ad 208), .ref (ad 209), .ref (ad 210), .int (nI (σ.1 1)), .ref (ad 212), .ref (ad 213), .ref (ad 214), .ref (ad 215), .ref (ad 216), .ref (ad 217), .ref (ad 218), .long ((σ.2.2.1 0 0) + (wor σ (σ.2.2.1 (30 + i1)) (σ.2.1 0 0))), .ref (ad 220), .int (σ.2.1 0 1), .int (nI (σ.1 2)), .ref (ad 223), .ref (ad 224), .ref (ad 225), .ref (ad 226)]))) 215 (.inl (K 1, 24, .inr (.inl (vp_updL FS (4 * i1 + 0) 0))))) H := hw
    refine lv_iinc (v := 1) (lv' := [(4, .int 1), (2, .long (wor σ (σ.2.2.1 (30 + i1)) (σ.2.1 0 0))), (0, .ref (ad 200)), (1, .int (nI i1))]) hx hb d_M_sell_59 hl (k := 0) rfl (by decide) (by decide) rfl (fun ls hl => ?_)
    refine lv_goto (tgt := 41) hx hb d_M_sell_62 (by decide) ?_
    refine lv_iload hx hb d_M_sell_41 (lv_at hl 0 rfl) ?_
    refine lv_iconst (v := 4) hx hb d_M_sell_43 (by decide) ?_
    refine lv_icmp_ge (tgt := 65) hx hb d_M_sell_44 (by decide) (fun c_6 => absurd c_6 (by decide)) (fun c_6 => ?_)
    refine lv_aload_n hx hb d_M_sell_47 rfl (lv_at hl 2 rfl) ?_
    refine xr_get (ci := 5) (v := .ref (ad 215)) (C := R_M) (T := T_M) (N := 26) hx hb htw in_M hown hK hw 200 ((xu_ne (by omega)).trans (xu_eq)) rfl rfl 14 (by decide) (htw _ u_348) (fun _ h9 => h9) rfl d_M_sell_48 ?_
    refine lv_iconst (v := 4) hx hb d_M_sell_51 (by decide) ?_
    refine lv_iload_n hx hb d_M_sell_52 rfl (lv_at hl 3 rfl) ?_
    refine lv_imul hx hb d_M_sell_53 ?_
    refine lv_iload hx hb d_M_sell_54 (lv_at hl 0 rfl) ?_
    refine lv_iadd hx hb d_M_sell_56 ?_
    refine lv_lconst (v := 0) hx hb d_M_sell_57 (by decide) ?_
    refine xr_last (i := (4 * (nI i1)) + 1) hx hb hK hw hS 215 1 xu_eq rfl rfl (xvin (a := (4 * i1) + 1) (xadd (a := 4 * i1) (b := 1) (xmul (a := 4) (b := i1) rfl rfl) rfl) (by omega) (by omega)) d_M_sell_58 (fun H locs hw hS => ?_)
    rw [show ((4 * (nI i1)) + 1).toNatClampNeg = 4 * i1 + 1 from (xcl (a := (4 * i1) + 1) (xadd (a := 4 * i1) (b := 1) (xmul (a := 4) (b := i1) rfl rfl) rfl) (by omega)).trans (show (4 * i1) + 1 = 4 * i1 + 1 by omega)] at hw
    have hw : xw D vwCl B ad (xu (xu (xu w 200 (.inr (5, [.int (σ.2.1 0 0), .int (nI (σ.1 0)), .ref (ad 203), .ref (ad 204), .ref (ad 205), .ref (ad 206), .ref (ad 207), .ref (ad 208), .ref (ad 209), .ref (ad 210), .int (nI (σ.1 1)), .ref (ad 212), .ref (ad 213), .ref (ad 214), .ref (ad 215), .ref (ad 216), .ref (ad 217), .ref (ad 218), .long ((σ.2.2.1 0 0) + (wor σ (σ.2.2.1 (30 + i1)) (σ.2.1 0 0))), .ref (ad 220), .int (σ.2.1 0 1), .int (nI (σ.1 2)), .ref (ad 223), .ref (ad 224), .ref (ad 225), .ref (ad 226)]))) 215 (.inl (K 1, 24, .inr (.inl (vp_updL FS (4 * i1 + 0) 0))))) 215 (.inl (K 1, 24, .inr (.inl (vp_updL (vp_updL FS (4 * i1 + 0) 0) (4 * i1 + 1) 0))))) H := hw
    refine lv_iinc (v := 2) (lv' := [(4, .int 2), (2, .long (wor σ (σ.2.2.1 (30 + i1)) (σ.2.1 0 0))), (0, .ref (ad 200)), (1, .int (nI i1))]) hx hb d_M_sell_59 hl (k := 0) rfl (by decide) (by decide) rfl (fun ls hl => ?_)
    refine lv_goto (tgt := 41) hx hb d_M_sell_62 (by decide) ?_
    refine lv_iload hx hb d_M_sell_41 (lv_at hl 0 rfl) ?_
    refine lv_iconst (v := 4) hx hb d_M_sell_43 (by decide) ?_
    refine lv_icmp_ge (tgt := 65) hx hb d_M_sell_44 (by decide) (fun c_7 => absurd c_7 (by decide)) (fun c_7 => ?_)
    refine lv_aload_n hx hb d_M_sell_47 rfl (lv_at hl 2 rfl) ?_
    refine xr_get (ci := 5) (v := .ref (ad 215)) (C := R_M) (T := T_M) (N := 26) hx hb htw in_M hown hK hw 200 ((xu_ne (by omega)).trans ((xu_ne (by omega)).trans (xu_eq))) rfl rfl 14 (by decide) (htw _ u_348) (fun _ h9 => h9) rfl d_M_sell_48 ?_
    refine lv_iconst (v := 4) hx hb d_M_sell_51 (by decide) ?_
    refine lv_iload_n hx hb d_M_sell_52 rfl (lv_at hl 3 rfl) ?_
    refine lv_imul hx hb d_M_sell_53 ?_
    refine lv_iload hx hb d_M_sell_54 (lv_at hl 0 rfl) ?_
    refine lv_iadd hx hb d_M_sell_56 ?_
    refine lv_lconst (v := 0) hx hb d_M_sell_57 (by decide) ?_
    refine xr_last (i := (4 * (nI i1)) + 2) hx hb hK hw hS 215 1 xu_eq rfl rfl (xvin (a := (4 * i1) + 2) (xadd (a := 4 * i1) (b := 2) (xmul (a := 4) (b := i1) rfl rfl) rfl) (by omega) (by omega)) d_M_sell_58 (fun H locs hw hS => ?_)
    rw [show ((4 * (nI i1)) + 2).toNatClampNeg = 4 * i1 + 2 from (xcl (a := (4 * i1) + 2) (xadd (a := 4 * i1) (b := 2) (xmul (a := 4) (b := i1) rfl rfl) rfl) (by omega)).trans (show (4 * i1) + 2 = 4 * i1 + 2 by omega)] at hw
    have hw : xw D vwCl B ad (xu (xu (xu (xu w 200 (.inr (5, [.int (σ.2.1 0 0), .int (nI (σ.1 0)), .ref (ad 203), .ref (ad 204), .ref (ad 205), .ref (ad 206), .ref (ad 207), .ref (ad 208), .ref (ad 209), .ref (ad 210), .int (nI (σ.1 1)), .ref (ad 212), .ref (ad 213), .ref (ad 214), .ref (ad 215), .ref (ad 216), .ref (ad 217), .ref (ad 218), .long ((σ.2.2.1 0 0) + (wor σ (σ.2.2.1 (30 + i1)) (σ.2.1 0 0))), .ref (ad 220), .int (σ.2.1 0 1), .int (nI (σ.1 2)), .ref (ad 223), .ref (ad 224), .ref (ad 225), .ref (ad 226)]))) 215 (.inl (K 1, 24, .inr (.inl (vp_updL FS (4 * i1 + 0) 0))))) 215 (.inl (K 1, 24, .inr (.inl (vp_updL (vp_updL FS (4 * i1 + 0) 0) (4 * i1 + 1) 0))))) 215 (.inl (K 1, 24, .inr (.inl (vp_updL (vp_updL (vp_updL FS (4 * i1 + 0) 0) (4 * i1 + 1) 0) (4 * i1 + 2) 0))))) H := hw
    refine lv_iinc (v := 3) (lv' := [(4, .int 3), (2, .long (wor σ (σ.2.2.1 (30 + i1)) (σ.2.1 0 0))), (0, .ref (ad 200)), (1, .int (nI i1))]) hx hb d_M_sell_59 hl (k := 0) rfl (by decide) (by decide) rfl (fun ls hl => ?_)
    refine lv_goto (tgt := 41) hx hb d_M_sell_62 (by decide) ?_
    refine lv_iload hx hb d_M_sell_41 (lv_at hl 0 rfl) ?_
    refine lv_iconst (v := 4) hx hb d_M_sell_43 (by decide) ?_
    refine lv_icmp_ge (tgt := 65) hx hb d_M_sell_44 (by decide) (fun c_8 => absurd c_8 (by decide)) (fun c_8 => ?_)
    refine lv_aload_n hx hb d_M_sell_47 rfl (lv_at hl 2 rfl) ?_
    refine xr_get (ci := 5) (v := .ref (ad 215)) (C := R_M) (T := T_M) (N := 26) hx hb htw in_M hown hK hw 200 ((xu_ne (by omega)).trans ((xu_ne (by omega)).trans ((xu_ne (by omega)).trans (xu_eq)))) rfl rfl 14 (by decide) (htw _ u_348) (fun _ h9 => h9) rfl d_M_sell_48 ?_
    refine lv_iconst (v := 4) hx hb d_M_sell_51 (by decide) ?_
    refine lv_iload_n hx hb d_M_sell_52 rfl (lv_at hl 3 rfl) ?_
    refine lv_imul hx hb d_M_sell_53 ?_
    refine lv_iload hx hb d_M_sell_54 (lv_at hl 0 rfl) ?_
    refine lv_iadd hx hb d_M_sell_56 ?_
    refine lv_lconst (v := 0) hx hb d_M_sell_57 (by decide) ?_
    refine xr_last (i := (4 * (nI i1)) + 3) hx hb hK hw hS 215 1 xu_eq rfl rfl (xvin (a := (4 * i1) + 3) (xadd (a := 4 * i1) (b := 3) (xmul (a := 4) (b := i1) rfl rfl) rfl) (by omega) (by omega)) d_M_sell_58 (fun H locs hw hS => ?_)
    rw [show ((4 * (nI i1)) + 3).toNatClampNeg = 4 * i1 + 3 from (xcl (a := (4 * i1) + 3) (xadd (a := 4 * i1) (b := 3) (xmul (a := 4) (b := i1) rfl rfl) rfl) (by omega)).trans (show (4 * i1) + 3 = 4 * i1 + 3 by omega)] at hw
    have hw : xw D vwCl B ad (xu (xu (xu (xu (xu w 200 (.inr (5, [.int (σ.2.1 0 0), .int (nI (σ.1 0)), .ref (ad 203), .ref (ad 204), .ref (ad 205), .ref (ad 206), .ref (ad 207), .ref (ad 208), .ref (ad 209), .ref (ad 210), .int (nI (σ.1 1)), .ref (ad 212), .ref (ad 213), .ref (ad 214), .ref (ad 215), .ref (ad 216), .ref (ad 217), .ref (ad 218), .long ((σ.2.2.1 0 0) + (wor σ (σ.2.2.1 (30 + i1)) (σ.2.1 0 0))), .ref (ad 220), .int (σ.2.1 0 1), .int (nI (σ.1 2)), .ref (ad 223), .ref (ad 224), .ref (ad 225), .ref (ad 226)]))) 215 (.inl (K 1, 24, .inr (.inl (vp_updL FS (4 * i1 + 0) 0))))) 215 (.inl (K 1, 24, .inr (.inl (vp_updL (vp_updL FS (4 * i1 + 0) 0) (4 * i1 + 1) 0))))) 215 (.inl (K 1, 24, .inr (.inl (vp_updL (vp_updL (vp_updL FS (4 * i1 + 0) 0) (4 * i1 + 1) 0) (4 * i1 + 2) 0))))) 215 (.inl (K 1, 24, .inr (.inl (vp_updL (vp_updL (vp_updL (vp_updL FS (4 * i1 + 0) 0) (4 * i1 + 1) 0) (4 * i1 + 2) 0) (4 * i1 + 3) 0))))) H := hw
    refine lv_iinc (v := 4) (lv' := [(4, .int 4), (2, .long (wor σ (σ.2.2.1 (30 + i1)) (σ.2.1 0 0))), (0, .ref (ad 200)), (1, .int (nI i1))]) hx hb d_M_sell_59 hl (k := 0) rfl (by decide) (by decide) rfl (fun ls hl => ?_)
    refine lv_goto (tgt := 41) hx hb d_M_sell_62 (by decide) ?_
    refine lv_iload hx hb d_M_sell_41 (lv_at hl 0 rfl) ?_
    refine lv_iconst (v := 4) hx hb d_M_sell_43 (by decide) ?_
    refine lv_icmp_ge (tgt := 65) hx hb d_M_sell_44 (by decide) (fun c_9 => ?_) (fun c_9 => absurd (by decide) c_9)
    refine lv_lload_n hx hb d_M_sell_65 rfl (lv_at hl 1 rfl) ?_
    have hRep : RepM K (pL (pL σ (30 + i1) (fun _ => 0)) 0 (vp_updL (σ.2.2.1 0) 0 (σ.2.2.1 0 0 + wor σ (σ.2.2.1 (30 + i1)) (σ.2.1 0 0)))) ad (xu (xu (xu (xu (xu w 200 (.inr (5, [.int (σ.2.1 0 0), .int (nI (σ.1 0)), .ref (ad 203), .ref (ad 204), .ref (ad 205), .ref (ad 206), .ref (ad 207), .ref (ad 208), .ref (ad 209), .ref (ad 210), .int (nI (σ.1 1)), .ref (ad 212), .ref (ad 213), .ref (ad 214), .ref (ad 215), .ref (ad 216), .ref (ad 217), .ref (ad 218), .long ((σ.2.2.1 0 0) + (wor σ (σ.2.2.1 (30 + i1)) (σ.2.1 0 0))), .ref (ad 220), .int (σ.2.1 0 1), .int (nI (σ.1 2)), .ref (ad 223), .ref (ad 224), .ref (ad 225), .ref (ad 226)]))) 215 (.inl (K 1, 24, .inr (.inl (vp_updL FS (4 * i1 + 0) 0))))) 215 (.inl (K 1, 24, .inr (.inl (vp_updL (vp_updL FS (4 * i1 + 0) 0) (4 * i1 + 1) 0))))) 215 (.inl (K 1, 24, .inr (.inl (vp_updL (vp_updL (vp_updL FS (4 * i1 + 0) 0) (4 * i1 + 1) 0) (4 * i1 + 2) 0))))) 215 (.inl (K 1, 24, .inr (.inl (vp_updL (vp_updL (vp_updL (vp_updL FS (4 * i1 + 0) 0) (4 * i1 + 1) 0) (4 * i1 + 2) 0) (4 * i1 + 3) 0))))) := by
      refine ⟨FA, FT, (vp_updL (vp_updL (vp_updL (vp_updL FS (4 * i1 + 0) 0) (4 * i1 + 1) 0) (4 * i1 + 2) 0) (4 * i1 + 3) 0), FO, ?_, ?_, ?_, ?_, ?_, ?_, ?_, ?_, ?_, ?_, ?_, ?_, ?_, ?_, ?_, ?_, ?_, ?_, ?_, ?_, ?_, ?_, ?_, ?_, ?_⟩
      · simp (disch := omega) only [pN, pI, pL, pZ, row_eq, row_ne, xu_eq, xu_ne, xa_eq, xa_ne, pk_us, pk_un, pk_uLs, pk_uLn, m200]
      · simp (disch := omega) only [pN, pI, pL, pZ, row_eq, row_ne, xu_eq, xu_ne, xa_eq, xa_ne, pk_us, pk_un, pk_uLs, pk_uLn, m203]
      · simp (disch := omega) only [pN, pI, pL, pZ, row_eq, row_ne, xu_eq, xu_ne, xa_eq, xa_ne, pk_us, pk_un, pk_uLs, pk_uLn, m204]
      · simp (disch := omega) only [pN, pI, pL, pZ, row_eq, row_ne, xu_eq, xu_ne, xa_eq, xa_ne, pk_us, pk_un, pk_uLs, pk_uLn, m205]
      · simp (disch := omega) only [pN, pI, pL, pZ, row_eq, row_ne, xu_eq, xu_ne, xa_eq, xa_ne, pk_us, pk_un, pk_uLs, pk_uLn, m206]
      · simp (disch := omega) only [pN, pI, pL, pZ, row_eq, row_ne, xu_eq, xu_ne, xa_eq, xa_ne, pk_us, pk_un, pk_uLs, pk_uLn, m207]
      · simp (disch := omega) only [pN, pI, pL, pZ, row_eq, row_ne, xu_eq, xu_ne, xa_eq, xa_ne, pk_us, pk_un, pk_uLs, pk_uLn, m208]
      · simp (disch := omega) only [pN, pI, pL, pZ, row_eq, row_ne, xu_eq, xu_ne, xa_eq, xa_ne, pk_us, pk_un, pk_uLs, pk_uLn, m209]
      · simp (disch := omega) only [pN, pI, pL, pZ, row_eq, row_ne, xu_eq, xu_ne, xa_eq, xa_ne, pk_us, pk_un, pk_uLs, pk_uLn, m210]
      · simp (disch := omega) only [pN, pI, pL, pZ, row_eq, row_ne, xu_eq, xu_ne, xa_eq, xa_ne, pk_us, pk_un, pk_uLs, pk_uLn, m212]
      · simp (disch := omega) only [pN, pI, pL, pZ, row_eq, row_ne, xu_eq, xu_ne, xa_eq, xa_ne, pk_us, pk_un, pk_uLs, pk_uLn, m213]
      · simp (disch := omega) only [pN, pI, pL, pZ, row_eq, row_ne, xu_eq, xu_ne, xa_eq, xa_ne, pk_us, pk_un, pk_uLs, pk_uLn, m214]
      · simp (disch := omega) only [pN, pI, pL, pZ, row_eq, row_ne, xu_eq, xu_ne, xa_eq, xa_ne, pk_us, pk_un, pk_uLs, pk_uLn, m215]
      · simp (disch := omega) only [pN, pI, pL, pZ, row_eq, row_ne, xu_eq, xu_ne, xa_eq, xa_ne, pk_us, pk_un, pk_uLs, pk_uLn, m216]
      · simp (disch := omega) only [pN, pI, pL, pZ, row_eq, row_ne, xu_eq, xu_ne, xa_eq, xa_ne, pk_us, pk_un, pk_uLs, pk_uLn, m217]
      · simp (disch := omega) only [pN, pI, pL, pZ, row_eq, row_ne, xu_eq, xu_ne, xa_eq, xa_ne, pk_us, pk_un, pk_uLs, pk_uLn, m218]
      · simp (disch := omega) only [pN, pI, pL, pZ, row_eq, row_ne, xu_eq, xu_ne, xa_eq, xa_ne, pk_us, pk_un, pk_uLs, pk_uLn, m220]
      · simp (disch := omega) only [pN, pI, pL, pZ, row_eq, row_ne, xu_eq, xu_ne, xa_eq, xa_ne, pk_us, pk_un, pk_uLs, pk_uLn, m223]
      · simp (disch := omega) only [pN, pI, pL, pZ, row_eq, row_ne, xu_eq, xu_ne, xa_eq, xa_ne, pk_us, pk_un, pk_uLs, pk_uLn, m224]
      · simp (disch := omega) only [pN, pI, pL, pZ, row_eq, row_ne, xu_eq, xu_ne, xa_eq, xa_ne, pk_us, pk_un, pk_uLs, pk_uLn, m225]
      · simp (disch := omega) only [pN, pI, pL, pZ, row_eq, row_ne, xu_eq, xu_ne, xa_eq, xa_ne, pk_us, pk_un, pk_uLs, pk_uLn, m226]
      · intro b q hb hq; simp (disch := omega) only [pN, pI, pL, pZ, row_eq, row_ne, xu_eq, xu_ne, xa_eq, xa_ne, pk_us, pk_un, pk_uLs, pk_uLn]; exact hFA b q hb hq
      · intro b q hb hq; simp (disch := omega) only [pN, pI, pL, pZ, row_eq, row_ne, xu_eq, xu_ne, xa_eq, xa_ne, pk_us, pk_un, pk_uLs, pk_uLn]; exact hFT b q hb hq
      · intro b q hb hq; simp (disch := omega) only [pN, pI, pL, pZ, row_ne]; exact relZ hFS b q hb hq
      · intro b q hb hq; simp (disch := omega) only [pN, pI, pL, pZ, row_eq, row_ne, xu_eq, xu_ne, xa_eq, xa_ne, pk_us, pk_un, pk_uLs, pk_uLn]; exact hFO b q hb hq
    have hf : f_sell σ (nI i1) = (pL (pL σ (30 + i1) (fun _ => 0)) 0 (vp_updL (σ.2.2.1 0) 0 (σ.2.2.1 0 0 + wor σ (σ.2.2.1 (30 + i1)) (σ.2.1 0 0))), wor σ (σ.2.2.1 (30 + i1)) (σ.2.1 0 0)) := by simp [f_sell, opt_n, opt_s, fi1]
    exact W.lret (v := wor σ (σ.2.2.1 (30 + i1)) (σ.2.1 0 0)) hx hb hr (fun t ht _ => ⟨_, rfl, by rw [hf, ht]; exact ⟨rfl, _, hw, hRep, fun t h2 => by simp (disch := omega) only [xu_ne]⟩, hS.F ht⟩) hS.2.2 d_M_sell_66
