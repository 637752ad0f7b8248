set_option maxHeartbeats 4000000 in
set_option maxRecDepth 100000 in
theorem c_M_mix {l : Launch} {D : va_G} {K : Nat → ClassId} {B : Nat} {ad : Nat → Nat} {w : Nat → Option va_E} {H : Heap} {σ : xS} (hR : RepM K σ ad w) (hI : Inv σ) (hw : xw D vwCl B ad w H) (x1 x2 : Int32) : xC l D K B y_M_mix b_M_mix 5 (some .int) rm_M_mix [.ref (ad 200), .int x1, .int x2] H (fun v H1 => v = some (.int (f_mix σ x1 x2).2) ∧ PM D K B ad w (f_mix σ x1 x2).1 H1) := by
  refine Met.ofW (cc := b_M_mix) (maxL := 5) (ret := (some .int)) (by decide) rfl ?_
  intro p e s m args below meth c s₁ B0 hml hv
  obtain ⟨rfl, hsz, hK, hN⟩ := hv
  have hx := B0.exec
  have hb := B0.bytes
  have hr := B0.returns
  have htw : ∀ w ∈ xW0, w.before [.ref (ad 200), .int x1, .int x2].toArray s = true := fun w h => atoms_spec (ws := Cond.code y_M_mix b_M_mix 5 (some .int) :: xW0) B0.pre w (List.mem_cons_of_mem _ h)
  have hown : s.vm.findClass R_M = some m.cls := findClass_of_methodNamed B0.named
  have hlocks := B0.notSynchronized
  subst hsz
  have hS : va_S (fun q => B ≤ q) s.heap s.heap [] := va_S.rf
  have hl := lv_entry ([.ref (ad 200), .int x1, .int x2]) (n := 5) (Nat.le_of_ble_eq_true rfl)
  rw [lg_entry_eq]
  generalize (lg_sl ([.ref (ad 200), .int x1, .int x2]) ++ List.replicate (5 - (lg_sl ([.ref (ad 200), .int x1, .int x2])).length) Slot.unset).toArray = ls at hl ⊢
  have hl : lv_has ls 5 [(0, .ref (ad 200)), (1, .int x1), (2, .int x2)] := hl
  have hH : s.heap = s.heap := rfl
  obtain ⟨FA, FT, FS, FO, m200, m203, m204, m205, m206, m207, m208, m209, m210, m212, m213, m214, m215, m216, m217, m218, m220, m223, m224, m225, m226, hFA, hFT, hFS, hFO⟩ := id hR
  obtain ⟨hnb, hns, hnr, hpc, hst, hto, htl, hrm, hpa, hwt, hdf, hds⟩ := id hI
  refine lv_aload_n hx hb d_M_mix_0 rfl (lv_at hl 0 rfl) ?_
  refine lv_iload_n hx hb d_M_mix_1 rfl (lv_at hl 1 rfl) ?_
  refine xr_call (va_runV (As := [.int x1]) (rest := []) ⟨hx, hb, hml, hown, htw⟩ (c_M_isBatch (ad := ad) hR hI hw x1) (cwV 1 htw (gV u_430 u_432 us_8 u_3 u_433) rfl rfl rfl hd_M_isBatch ⟨Nat.le_of_ble_eq_true rfl, Nat.le_of_ble_eq_true rfl⟩) ⟨xP_blind, hw.recv hK (ci := 5) (t := 200) rfl m200 rfl, xP_of hK hN⟩ rfl rfl hl.1 rfl (lv_room (Nat.le_of_ble_eq_true rfl)) d_M_mix_2 ⟨by decide, by decide⟩) hS (fun v H_ locs hp hS => ?_)
  obtain ⟨hHe, hp⟩ := hp
  rw [hHe] at hS ⊢
  rcases hp with ⟨f2, rfl⟩ | ⟨i1, hi1, rfl, rfl⟩
  · refine W.eq (g2 := F0 m 5 ls [.int 0]) rfl ?_
    refine lv_if_eq (tgt := 63) hx hb d_M_mix_5 (by decide) (fun c_3 => ?_) (fun c_3 => absurd (by decide) c_3)
    refine lv_iconst (v := (-1)) hx hb d_M_mix_63 (by decide) ?_
    have hf : f_mix σ x1 x2 = (σ, (-1)) := by simp [f_mix, opt_n, opt_s, f2, opt_c]
    exact W.iret (v := (-1)) hx hb hr (fun t ht _ => ⟨_, rfl, by rw [hf, ht]; exact ⟨rfl, PM_same hw hR⟩, hS.F ht⟩) hS.2.2 d_M_mix_64
  · have fi1 : xi (σ.1 0) (nI i1) = some i1 := xi_nI hi1 (by omega)
    refine W.eq (g2 := F0 m 5 ls [.int 1]) rfl ?_
    refine lv_if_eq (tgt := 63) hx hb d_M_mix_5 (by decide) (fun c_4 => absurd c_4 (by decide)) (fun c_4 => ?_)
    refine lv_aload_n hx hb d_M_mix_8 rfl (lv_at hl 0 rfl) ?_
    refine lv_iload_n hx hb d_M_mix_9 rfl (lv_at hl 2 rfl) ?_
    refine xr_call (va_runV (As := [.int x2]) (rest := []) ⟨hx, hb, hml, hown, htw⟩ (c_M_isBatch (ad := ad) hR hI hw x2) (cwV 1 htw (gV u_430 u_432 us_8 u_3 u_433) rfl rfl rfl hd_M_isBatch ⟨Nat.le_of_ble_eq_true rfl, Nat.le_of_ble_eq_true rfl⟩) ⟨xP_blind, hw.recv hK (ci := 5) (t := 200) rfl m200 rfl, xP_of hK hN⟩ rfl rfl hl.1 rfl (lv_room (Nat.le_of_ble_eq_true rfl)) d_M_mix_10 ⟨by decide, by decide⟩) hS (fun v H_ locs hp hS => ?_)
    obtain ⟨hHe, hp⟩ := hp
    rw [hHe] at hS ⊢
    rcases hp with ⟨f6, rfl⟩ | ⟨i5, hi5, rfl, rfl⟩
    · refine W.eq (g2 := F0 m 13 ls [.int 0]) rfl ?_
      refine lv_if_eq (tgt := 63) hx hb d_M_mix_13 (by decide) (fun c_7 => ?_) (fun c_7 => absurd (by decide) c_7)
      refine lv_iconst (v := (-1)) hx hb d_M_mix_63 (by decide) ?_
      have hf : f_mix σ (nI i1) x2 = (σ, (-1)) := by simp [f_mix, opt_n, opt_s, fi1, f6, opt_c]
      exact W.iret (v := (-1)) hx hb hr (fun t ht _ => ⟨_, rfl, by rw [hf, ht]; exact ⟨rfl, PM_same hw hR⟩, hS.F ht⟩) hS.2.2 d_M_mix_64
    · have fi5 : xi (σ.1 0) (nI i5) = some i5 := xi_nI hi5 (by omega)
      refine W.eq (g2 := F0 m 13 ls [.int 1]) rfl ?_
      refine lv_if_eq (tgt := 63) hx hb d_M_mix_13 (by decide) (fun c_8 => absurd c_8 (by decide)) (fun c_8 => ?_)
      refine lv_iload_n hx hb d_M_mix_16 rfl (lv_at hl 1 rfl) ?_
      refine lv_iload_n hx hb d_M_mix_17 rfl (lv_at hl 2 rfl) ?_
      refine lv_icmp_eq (tgt := 63) hx hb d_M_mix_18 (by decide) (fun c_9 => ?_) (fun c_9 => ?_)
      · have c_9 : i1 = i5 := (nEQ (a := i1) (b := i5) (by omega) (by omega)).mp c_9
        refine lv_iconst (v := (-1)) hx hb d_M_mix_63 (by decide) ?_
        have hf : f_mix σ (nI i1) (nI i5) = (σ, (-1)) := by simp [f_mix, opt_n, opt_s, fi1, fi5, c_9, opt_c]
        exact W.iret (v := (-1)) hx hb hr (fun t ht _ => ⟨_, rfl, by rw [hf, ht]; exact ⟨rfl, PM_same hw hR⟩, hS.F ht⟩) hS.2.2 d_M_mix_64
      · have c_9 : ¬ i1 = i5 := fun z => c_9 ((nEQ (a := i1) (b := i5) (by omega) (by omega)).mpr z)
        refine lv_aload_n hx hb d_M_mix_21 rfl (lv_at hl 0 rfl) ?_
        refine xr_get (ci := 5) (v := .ref (ad 205)) (C := R_M) (T := T_M) (N := 26) hx hb htw in_M hown hK hw 200 m200 rfl rfl 4 (by decide) (htw _ u_338) (fun _ h9 => h9) rfl d_M_mix_22 ?_
        refine lv_iload_n hx hb d_M_mix_25 rfl (lv_at hl 1 rfl) ?_
        refine xr_zald (i := nI i1) hx hb hK hw 205 5 m205 rfl rfl (xvin (a := i1) rfl (by omega) (by omega)) d_M_mix_26 ?_
        refine lv_topi (fun x_10 ex_10 => ?_)
        obtain rfl : x_10 = bI (σ.2.2.2 2 i1) := ex_10.trans ((congrArg (fun b => bI (σ.2.2.2 2 b)) (xcl (a := i1) rfl (by omega))).trans rfl)
        refine lv_if_ne (tgt := 63) hx hb d_M_mix_27 (by decide) (fun c_11 => ?_) (fun c_11 => ?_)
        · have c_11 : (σ.2.2.2 2 i1) = true := bI_t.mp c_11
          refine lv_iconst (v := (-1)) hx hb d_M_mix_63 (by decide) ?_
          have hf : f_mix σ (nI i1) (nI i5) = (σ, (-1)) := by simp [f_mix, opt_n, opt_s, fi1, fi5, c_9, c_11, opt_c]
          exact W.iret (v := (-1)) hx hb hr (fun t ht _ => ⟨_, rfl, by rw [hf, ht]; exact ⟨rfl, PM_same hw hR⟩, hS.F ht⟩) hS.2.2 d_M_mix_64
        · have c_11 : (σ.2.2.2 2 i1) = false := bI_f.mp c_11
          refine lv_aload_n hx hb d_M_mix_30 rfl (lv_at hl 0 rfl) ?_
          refine xr_get (ci := 5) (v := .ref (ad 205)) (C := R_M) (T := T_M) (N := 26) hx hb htw in_M hown hK hw 200 m200 rfl rfl 4 (by decide) (htw _ u_338) (fun _ h9 => h9) rfl d_M_mix_31 ?_
          refine lv_iload_n hx hb d_M_mix_34 rfl (lv_at hl 2 rfl) ?_
          refine xr_zald (i := nI i5) hx hb hK hw 205 5 m205 rfl rfl (xvin (a := i5) rfl (by omega) (by omega)) d_M_mix_35 ?_
          refine lv_topi (fun x_12 ex_12 => ?_)
          obtain rfl : x_12 = bI (σ.2.2.2 2 i5) := ex_12.trans ((congrArg (fun b => bI (σ.2.2.2 2 b)) (xcl (a := i5) rfl (by omega))).trans rfl)
          refine lv_if_ne (tgt := 63) hx hb d_M_mix_36 (by decide) (fun c_13 => ?_) (fun c_13 => ?_)
          · have c_13 : (σ.2.2.2 2 i5) = true := bI_t.mp c_13
            refine lv_iconst (v := (-1)) hx hb d_M_mix_63 (by decide) ?_
            have hf : f_mix σ (nI i1) (nI i5) = (σ, (-1)) := by simp [f_mix, opt_n, opt_s, fi1, fi5, c_9, c_11, c_13, opt_c]
            exact W.iret (v := (-1)) hx hb hr (fun t ht _ => ⟨_, rfl, by rw [hf, ht]; exact ⟨rfl, PM_same hw hR⟩, hS.F ht⟩) hS.2.2 d_M_mix_64
          · have c_13 : (σ.2.2.2 2 i5) = false := bI_f.mp c_13
            refine lv_aload_n hx hb d_M_mix_39 rfl (lv_at hl 0 rfl) ?_
            refine xr_get (ci := 5) (v := .ref (ad 207)) (C := R_M) (T := T_M) (N := 26) hx hb htw in_M hown hK hw 200 m200 rfl rfl 6 (by decide) (htw _ u_340) (fun _ h9 => h9) rfl d_M_mix_40 ?_
            refine lv_iload_n hx hb d_M_mix_43 rfl (lv_at hl 1 rfl) ?_
            refine xr_zald (i := nI i1) hx hb hK hw 207 5 m207 rfl rfl (xvin (a := i1) rfl (by omega) (by omega)) d_M_mix_44 ?_
            refine lv_topi (fun x_14 ex_14 => ?_)
            obtain rfl : x_14 = bI (σ.2.2.2 1 i1) := ex_14.trans ((congrArg (fun b => bI (σ.2.2.2 1 b)) (xcl (a := i1) rfl (by omega))).trans rfl)
            refine lv_aload_n hx hb d_M_mix_45 rfl (lv_at hl 0 rfl) ?_
            refine xr_get (ci := 5) (v := .ref (ad 207)) (C := R_M) (T := T_M) (N := 26) hx hb htw in_M hown hK hw 200 m200 rfl rfl 6 (by decide) (htw _ u_340) (fun _ h9 => h9) rfl d_M_mix_46 ?_
            refine lv_iload_n hx hb d_M_mix_49 rfl (lv_at hl 2 rfl) ?_
            refine xr_zald (i := nI i5) hx hb hK hw 207 5 m207 rfl rfl (xvin (a := i5) rfl (by omega) (by omega)) d_M_mix_50 ?_
            refine lv_topi (fun x_15 ex_15 => ?_)
            obtain rfl : x_15 = bI (σ.2.2.2 1 i5) := ex_15.trans ((congrArg (fun b => bI (σ.2.2.2 1 b)) (xcl (a := i5) rfl (by omega))).trans rfl)
            refine lv_icmp_ne (tgt := 63) hx hb d_M_mix_51 (by decide) (fun c_16 => ?_) (fun c_16 => ?_)
            · refine lv_iconst (v := (-1)) hx hb d_M_mix_63 (by decide) ?_
              have hf : f_mix σ (nI i1) (nI i5) = (σ, (-1)) := by simp [f_mix, opt_n, opt_s, fi1, fi5, c_9, c_11, c_13, c_16, opt_c]
              exact W.iret (v := (-1)) hx hb hr (fun t ht _ => ⟨_, rfl, by rw [hf, ht]; exact ⟨rfl, PM_same hw hR⟩, hS.F ht⟩) hS.2.2 d_M_mix_64
            · refine lv_aload_n hx hb d_M_mix_54 rfl (lv_at hl 0 rfl) ?_
              refine xr_get (ci := 5) (v := .int (nI (σ.1 0))) (C := R_M) (T := T_M) (N := 26) hx hb htw in_M hown hK hw 200 m200 rfl rfl 1 (by decide) (htw _ u_335) (fun _ h9 => h9) rfl d_M_mix_55 ?_
              refine lv_bipush (v := 8) hx hb d_M_mix_58 (by decide) ?_
              refine lv_icmp_ne (tgt := 65) hx hb d_M_mix_60 (by decide) (fun c_17 => ?_) (fun c_17 => ?_)
              · have c_17 : ¬ (σ.1 0) = 8 := fun z => c_17 ((nEQ (a := σ.1 0) (b := 8) (by omega) (by omega)).mpr z)
                refine lv_aload_n hx hb d_M_mix_65 rfl (lv_at hl 0 rfl) ?_
                refine lv_aload_n hx hb d_M_mix_66 rfl (lv_at hl 0 rfl) ?_
                refine xr_get (ci := 5) (v := .ref (ad 203)) (C := R_M) (T := T_M) (N := 26) hx hb htw in_M hown hK hw 200 m200 rfl rfl 2 (by decide) (htw _ u_336) (fun _ h9 => h9) rfl d_M_mix_67 ?_
                refine lv_iload_n hx hb d_M_mix_70 rfl (lv_at hl 1 rfl) ?_
                refine xr_lald (i := nI i1) hx hb hK hw 203 1 m203 rfl rfl (xvin (a := i1) rfl (by omega) (by omega)) d_M_mix_71 ?_
                refine lv_topl (fun x_18 ex_18 => ?_)
                obtain rfl : x_18 = (σ.2.2.1 1) i1 := ex_18.trans ((congrArg (σ.2.2.1 1) (xcl (a := i1) rfl (by omega))).trans rfl)
                refine lv_aload_n hx hb d_M_mix_72 rfl (lv_at hl 0 rfl) ?_
                refine xr_get (ci := 5) (v := .ref (ad 203)) (C := R_M) (T := T_M) (N := 26) hx hb htw in_M hown hK hw 200 m200 rfl rfl 2 (by decide) (htw _ u_336) (fun _ h9 => h9) rfl d_M_mix_73 ?_
                refine lv_iload_n hx hb d_M_mix_76 rfl (lv_at hl 2 rfl) ?_
                refine xr_lald (i := nI i5) hx hb hK hw 203 1 m203 rfl rfl (xvin (a := i5) rfl (by omega) (by omega)) d_M_mix_77 ?_
                refine lv_topl (fun x_19 ex_19 => ?_)
                obtain rfl : x_19 = (σ.2.2.1 1) i5 := ex_19.trans ((congrArg (σ.2.2.1 1) (xcl (a := i5) rfl (by omega))).trans rfl)
                refine lv_ladd hx hb d_M_mix_78 ?_
                refine lv_aload_n hx hb d_M_mix_79 rfl (lv_at hl 0 rfl) ?_
                refine xr_get (ci := 5) (v := .ref (ad 204)) (C := R_M) (T := T_M) (N := 26) hx hb htw in_M hown hK hw 200 m200 rfl rfl 3 (by decide) (htw _ u_337) (fun _ h9 => h9) rfl d_M_mix_80 ?_
                refine lv_iload_n hx hb d_M_mix_83 rfl (lv_at hl 1 rfl) ?_
                refine xr_iald (i := nI i1) hx hb hK hw 204 0 m204 rfl rfl (xvin (a := i1) rfl (by omega) (by omega)) d_M_mix_84 ?_
                refine lv_topi (fun x_20 ex_20 => ?_)
                obtain rfl : x_20 = (σ.2.1 1) i1 := ex_20.trans ((congrArg (σ.2.1 1) (xcl (a := i1) rfl (by omega))).trans rfl)
                refine lv_aload_n hx hb d_M_mix_85 rfl (lv_at hl 0 rfl) ?_
                refine xr_get (ci := 5) (v := .ref (ad 204)) (C := R_M) (T := T_M) (N := 26) hx hb htw in_M hown hK hw 200 m200 rfl rfl 3 (by decide) (htw _ u_337) (fun _ h9 => h9) rfl d_M_mix_86 ?_
                refine lv_iload_n hx hb d_M_mix_89 rfl (lv_at hl 2 rfl) ?_
                refine xr_iald (i := nI i5) hx hb hK hw 204 0 m204 rfl rfl (xvin (a := i5) rfl (by omega) (by omega)) d_M_mix_90 ?_
                refine lv_topi (fun x_21 ex_21 => ?_)
                obtain rfl : x_21 = (σ.2.1 1) i5 := ex_21.trans ((congrArg (σ.2.1 1) (xcl (a := i5) rfl (by omega))).trans rfl)
                refine xr_call (va_runS (As := [.int ((σ.2.1 1) i1), .int ((σ.2.1 1) i5)]) (rest := [.long (((σ.2.2.1 1) i1) + ((σ.2.2.1 1) i5)), .ref (ad 200)]) ⟨hx, hb, hml, hown, htw⟩ (c_M_greatest ((σ.2.1 1) i1) ((σ.2.1 1) i5)) (va_cwS 2 htw (gS u_513 u_514 u_3 u_515) rfl rfl rfl hd_M_greatest.2 ⟨Nat.le_of_ble_eq_true rfl, Nat.le_of_ble_eq_true rfl⟩) ⟨xP_blind, xP_of hK hN⟩ rfl rfl hl.1 rfl (lv_room (Nat.le_of_ble_eq_true rfl)) d_M_mix_91 ⟨by decide, by decide⟩) hS (fun v H_ locs hp hS => ?_)
                obtain ⟨rfl, hHe⟩ := hp
                rw [hHe] at hS ⊢
                refine W.eq (g2 := F0 m 94 ls [.int (grt ((σ.2.1 1) i1) ((σ.2.1 1) i5)), .long (((σ.2.2.1 1) i1) + ((σ.2.2.1 1) i5)), .ref (ad 200)]) rfl ?_
                refine xr_call (va_runV (As := [.long (((σ.2.2.1 1) i1) + ((σ.2.2.1 1) i5)), .int (grt ((σ.2.1 1) i1) ((σ.2.1 1) i5))]) (rest := []) ⟨hx, hb, hml, hown, htw⟩ (c_M_add (ad := ad) hR hI hw (by omega) (((σ.2.2.1 1) i1) + ((σ.2.2.1 1) i5)) (grt ((σ.2.1 1) i1) ((σ.2.1 1) i5))) (cwV 2 htw (gV u_422 u_424 us_7 u_3 u_425) rfl rfl rfl hd_M_add ⟨Nat.le_of_ble_eq_true rfl, Nat.le_of_ble_eq_true rfl⟩) ⟨xP_blind, hw.recv hK (ci := 5) (t := 200) rfl m200 rfl, xP_of hK hN⟩ rfl rfl hl.1 rfl (lv_room (Nat.le_of_ble_eq_true rfl)) d_M_mix_94 ⟨by decide, by decide⟩) hS (fun v H_ locs hp hS => ?_)
                obtain ⟨rfl, hPM⟩ := hp
                refine W.eq (g2 := F0 m 97 ls [.int (nI (σ.1 0))]) rfl ?_
                obtain ⟨w1, hw, hRn, hfw⟩ := hPM
                generalize H_ = H at hw hS ⊢
                obtain ⟨hd1, hd2, hd3, hd4, hd5, hd6⟩ := hdf (σ.1 0) (Nat.le_refl _) (by omega)
                obtain ⟨FA, FT, FS, FO, m200, m203, m204, m205, m206, m207, m208, m209, m210, m212, m213, m214, m215, m216, m217, m218, m220, m223, m224, m225, m226, hFA, hFT, hFS, hFO⟩ := id hRn
                have m200 : w1 200 = some (.inr (5, [.int (σ.2.1 0 0), .int (nI (σ.1 0 + 1)), .ref (ad 203), .ref (ad 204), .ref (ad 205), .ref (ad 206), .ref (ad 207), .ref (ad 208), .ref (ad 209), .ref (ad 210), .int (nI (σ.1 1)), .ref (ad 212), .ref (ad 213), .ref (ad 214), .ref (ad 215), .ref (ad 216), .ref (ad 217), .ref (ad 218), .long (σ.2.2.1 0 0), .ref (ad 220), .int (σ.2.1 0 1), .int (nI (σ.1 2)), .ref (ad 223), .ref (ad 224), .ref (ad 225), .ref (ad 226)])) := by rw [m200]; simp (disch := omega) only [s_new, pN, pI, pL, pZ, row_eq, row_ne]
                have m203 : w1 203 = some (.inl (K 1, 8, .inr (.inl (vp_updL (σ.2.2.1 1) (σ.1 0) (((σ.2.2.1 1) i1) + ((σ.2.2.1 1) i5)))))) := by rw [m203]; simp (disch := omega) only [s_new, pN, pI, pL, pZ, row_eq, row_ne]
                have m204 : w1 204 = some (.inl (K 0, 8, .inl (upd (σ.2.1 1) (σ.1 0) (grt ((σ.2.1 1) i1) ((σ.2.1 1) i5))))) := by rw [m204]; simp (disch := omega) only [s_new, pN, pI, pL, pZ, row_eq, row_ne]
                have m205 : w1 205 = some (.inl (K 5, 8, .inl (fun b => bI (σ.2.2.2 2 b)))) := by rw [m205]; simp (disch := omega) only [s_new, pN, pI, pL, pZ, row_eq, row_ne]
                have m206 : w1 206 = some (.inl (K 5, 8, .inl (fun b => bI (row (σ.2.2.2 0) (σ.1 0) false b)))) := by rw [m206]; simp (disch := omega) only [s_new, pN, pI, pL, pZ, row_eq, row_ne]
                have m207 : w1 207 = some (.inl (K 5, 8, .inl (fun b => bI (σ.2.2.2 1 b)))) := by rw [m207]; simp (disch := omega) only [s_new, pN, pI, pL, pZ, row_eq, row_ne]
                have m208 : w1 208 = some (.inl (K 0, 8, .inl (upd (σ.2.1 10) (σ.1 0) (-1)))) := by rw [m208]; simp (disch := omega) only [s_new, pN, pI, pL, pZ, row_eq, row_ne]
                have m209 : w1 209 = some (.inl (K 1, 32, .inr (.inl FA))) := m209
                have m210 : w1 210 = some (.inl (K 1, 192, .inr (.inl FT))) := m210
                have m212 : w1 212 = some (.inl (K 0, 6, .inl (σ.2.1 3))) := by rw [m212]; simp (disch := omega) only [s_new, pN, pI, pL, pZ, row_eq, row_ne]
                have m213 : w1 213 = some (.inl (K 0, 6, .inl (σ.2.1 4))) := by rw [m213]; simp (disch := omega) only [s_new, pN, pI, pL, pZ, row_eq, row_ne]
                have m214 : w1 214 = some (.inl (K 0, 6, .inl (σ.2.1 5))) := by rw [m214]; simp (disch := omega) only [s_new, pN, pI, pL, pZ, row_eq, row_ne]
                have m215 : w1 215 = some (.inl (K 1, 24, .inr (.inl FS))) := m215
                have m216 : w1 216 = some (.inl (K 0, 4, .inl (fun k => nI (σ.1 (11 + 2 * k))))) := by rw [m216]; simp (disch := omega) only [s_new, pN, pI, pL, pZ, row_eq, row_ne]
                have m217 : w1 217 = some (.inl (K 0, 24, .inl (σ.2.1 40))) := by rw [m217]; simp (disch := omega) only [s_new, pN, pI, pL, pZ, row_eq, row_ne]
                have m218 : w1 218 = some (.inl (K 1, 24, .inr (.inl (σ.2.2.1 40)))) := by rw [m218]; simp (disch := omega) only [s_new, pN, pI, pL, pZ, row_eq, row_ne]
                have m220 : w1 220 = some (.inl (K 0, 96, .inl FO)) := m220
                have m223 : w1 223 = some (.inl (K 0, 8, .inl (σ.2.1 6))) := by rw [m223]; simp (disch := omega) only [s_new, pN, pI, pL, pZ, row_eq, row_ne]
                have m224 : w1 224 = some (.inl (K 0, 8, .inl (σ.2.1 7))) := by rw [m224]; simp (disch := omega) only [s_new, pN, pI, pL, pZ, row_eq, row_ne]
                have m225 : w1 225 = some (.inl (K 0, 8, .inl (σ.2.1 8))) := by rw [m225]; simp (disch := omega) only [s_new, pN, pI, pL, pZ, row_eq, row_ne]
                have m226 : w1 226 = some (.inl (K 0, 8, .inl (σ.2.1 9))) := by rw [m226]; simp (disch := omega) only [s_new, pN, pI, pL, pZ, row_eq, row_ne]
                have hFA : ∀ b k, b < 8 → k < 4 → FA (4 * b + k) = σ.2.2.1 (10 + b) k := fun b k h1 h2 => (hFA b k h1 h2).trans (by simp (disch := omega) only [s_new, pN, pI, pL, pZ, row_ne])
                refine W.eq (g2 := F0 m 97 ls [.int (nI (σ.1 0))]) rfl ?_
                refine lv_istore_n (lv' := [(3, .int (nI (σ.1 0))), (0, .ref (ad 200)), (1, .int (nI i1)), (2, .int (nI i5))]) hx hb d_M_mix_97 rfl hl (by decide) rfl (fun ls hl => ?_)
                refine lv_iconst (v := 0) hx hb d_M_mix_98 (by decide) ?_
                refine lv_istore (lv' := [(4, .int 0), (3, .int (nI (σ.1 0))), (0, .ref (ad 200)), (1, .int (nI i1)), (2, .int (nI i5))]) hx hb d_M_mix_99 hl (by decide) rfl (fun ls hl => ?_)
                refine lv_iload hx hb d_M_mix_101 (lv_at hl 0 rfl) ?_
                refine lv_iconst (v := 4) hx hb d_M_mix_103 (by decide) ?_
                refine lv_icmp_ge (tgt := 147) hx hb d_M_mix_104 (by decide) (fun c_22 => absurd c_22 (by decide)) (fun c_22 => ?_)
                refine lv_aload_n hx hb d_M_mix_107 rfl (lv_at hl 2 rfl) ?_
                refine xr_get (ci := 5) (v := .ref (ad 209)) (C := R_M) (T := T_M) (N := 26) hx hb htw in_M hown hK hw 200 m200 rfl rfl 8 (by decide) (htw _ u_342) (fun _ h9 => h9) rfl d_M_mix_108 ?_
                refine lv_iconst (v := 4) hx hb d_M_mix_111 (by decide) ?_
                refine lv_iload_n hx hb d_M_mix_112 rfl (lv_at hl 1 rfl) ?_
                refine lv_imul hx hb d_M_mix_113 ?_
                refine lv_iload hx hb d_M_mix_114 (lv_at hl 0 rfl) ?_
                refine lv_iadd hx hb d_M_mix_116 ?_
                refine lv_aload_n hx hb d_M_mix_117 rfl (lv_at hl 2 rfl) ?_
                refine xr_get (ci := 5) (v := .ref (ad 209)) (C := R_M) (T := T_M) (N := 26) hx hb htw in_M hown hK hw 200 m200 rfl rfl 8 (by decide) (htw _ u_342) (fun _ h9 => h9) rfl d_M_mix_118 ?_
                refine lv_iconst (v := 4) hx hb d_M_mix_121 (by decide) ?_
                refine lv_iload_n hx hb d_M_mix_122 rfl (lv_at hl 3 rfl) ?_
                refine lv_imul hx hb d_M_mix_123 ?_
                refine lv_iload hx hb d_M_mix_124 (lv_at hl 0 rfl) ?_
                refine lv_iadd hx hb d_M_mix_126 ?_
                refine xr_lald (i := (4 * (nI i1)) + 0) hx hb hK hw 209 1 m209 rfl rfl (xvin (a := 4 * i1) (xadd (a := 4 * i1) (b := 0) (xmul (a := 4) (b := i1) rfl rfl) rfl) (by omega) (by omega)) d_M_mix_127 ?_
                refine lv_topl (fun x_23 ex_23 => ?_)
                obtain rfl : x_23 = σ.2.2.1 (10 + i1) 0 := ex_23.trans ((congrArg FA ((xcl (a := 4 * i1) (xadd (a := 4 * i1) (b := 0) (xmul (a := 4) (b := i1) rfl rfl) rfl) (by omega)).trans (show 4 * i1 = 4 * i1 + 0 by omega))).trans (hFA i1 0 (by omega) (by omega)))
                refine lv_aload_n hx hb d_M_mix_128 rfl (lv_at hl 2 rfl) ?_
                refine xr_get (ci := 5) (v := .ref (ad 209)) (C := R_M) (T := T_M) (N := 26) hx hb htw in_M hown hK hw 200 m200 rfl rfl 8 (by decide) (htw _ u_342) (fun _ h9 => h9) rfl d_M_mix_129 ?_
                refine lv_iconst (v := 4) hx hb d_M_mix_132 (by decide) ?_
                refine lv_iload_n hx hb d_M_mix_133 rfl (lv_at hl 4 rfl) ?_
                refine lv_imul hx hb d_M_mix_134 ?_
                refine lv_iload hx hb d_M_mix_135 (lv_at hl 0 rfl) ?_
                refine lv_iadd hx hb d_M_mix_137 ?_
                refine xr_lald (i := (4 * (nI i5)) + 0) hx hb hK hw 209 1 m209 rfl rfl (xvin (a := 4 * i5) (xadd (a := 4 * i5) (b := 0) (xmul (a := 4) (b := i5) rfl rfl) rfl) (by omega) (by omega)) d_M_mix_138 ?_
                refine lv_topl (fun x_24 ex_24 => ?_)
                obtain rfl : x_24 = σ.2.2.1 (10 + i5) 0 := ex_24.trans ((congrArg FA ((xcl (a := 4 * i5) (xadd (a := 4 * i5) (b := 0) (xmul (a := 4) (b := i5) rfl rfl) rfl) (by omega)).trans (show 4 * i5 = 4 * i5 + 0 by omega))).trans (hFA i5 0 (by omega) (by omega)))
                refine lv_ladd hx hb d_M_mix_139 ?_
                refine xr_last (i := (4 * (nI (σ.1 0))) + 0) hx hb hK hw hS 209 1 m209 rfl rfl (xvin (a := 4 * (σ.1 0)) (xadd (a := 4 * (σ.1 0)) (b := 0) (xmul (a := 4) (b := σ.1 0) rfl rfl) rfl) (by omega) (by omega)) d_M_mix_140 (fun H locs hw hS => ?_)
                rw [show ((4 * (nI (σ.1 0))) + 0).toNatClampNeg = 4 * σ.1 0 + 0 from (xcl (a := 4 * (σ.1 0)) (xadd (a := 4 * (σ.1 0)) (b := 0) (xmul (a := 4) (b := σ.1 0) rfl rfl) rfl) (by omega)).trans (show 4 * (σ.1 0) = 4 * σ.1 0 + 0 by omega)] at hw
                have hw : xw D vwCl B ad (xu w1 209 (.inl (K 1, 32, .inr (.inl (vp_updL FA (4 * σ.1 0 + 0) ((σ.2.2.1 (10 + i1) 0) + (σ.2.2.1 (10 + i5) 0))))))) H := hw
                refine lv_iinc (v := 1) (lv' := [(4, .int 1), (3, .int (nI (σ.1 0))), (0, .ref (ad 200)), (1, .int (nI i1)), (2, .int (nI i5))]) hx hb d_M_mix_141 hl (k := 0) rfl (by decide) (by decide) rfl (fun ls hl => ?_)
                refine lv_goto (tgt := 101) hx hb d_M_mix_144 (by decide) ?_
                refine lv_iload hx hb d_M_mix_101 (lv_at hl 0 rfl) ?_
                refine lv_iconst (v := 4) hx hb d_M_mix_103 (by decide) ?_
                refine lv_icmp_ge (tgt := 147) hx hb d_M_mix_104 (by decide) (fun c_25 => absurd c_25 (by decide)) (fun c_25 => ?_)
                refine lv_aload_n hx hb d_M_mix_107 rfl (lv_at hl 2 rfl) ?_
                refine xr_get (ci := 5) (v := .ref (ad 209)) (C := R_M) (T := T_M) (N := 26) hx hb htw in_M hown hK hw 200 ((xu_ne (by omega)).trans (m200)) rfl rfl 8 (by decide) (htw _ u_342) (fun _ h9 => h9) rfl d_M_mix_108 ?_
                refine lv_iconst (v := 4) hx hb d_M_mix_111 (by decide) ?_
                refine lv_iload_n hx hb d_M_mix_112 rfl (lv_at hl 1 rfl) ?_
                refine lv_imul hx hb d_M_mix_113 ?_
                refine lv_iload hx hb d_M_mix_114 (lv_at hl 0 rfl) ?_
                refine lv_iadd hx hb d_M_mix_116 ?_
                refine lv_aload_n hx hb d_M_mix_117 rfl (lv_at hl 2 rfl) ?_
                refine xr_get (ci := 5) (v := .ref (ad 209)) (C := R_M) (T := T_M) (N := 26) hx hb htw in_M hown hK hw 200 ((xu_ne (by omega)).trans (m200)) rfl rfl 8 (by decide) (htw _ u_342) (fun _ h9 => h9) rfl d_M_mix_118 ?_
                refine lv_iconst (v := 4) hx hb d_M_mix_121 (by decide) ?_
                refine lv_iload_n hx hb d_M_mix_122 rfl (lv_at hl 3 rfl) ?_
                refine lv_imul hx hb d_M_mix_123 ?_
                refine lv_iload hx hb d_M_mix_124 (lv_at hl 0 rfl) ?_
                refine lv_iadd hx hb d_M_mix_126 ?_
                refine xr_lald (i := (4 * (nI i1)) + 1) hx hb hK hw 209 1 xu_eq rfl rfl (xvin (a := (4 * i1) + 1) (xadd (a := 4 * i1) (b := 1) (xmul (a := 4) (b := i1) rfl rfl) rfl) (by omega) (by omega)) d_M_mix_127 ?_
                refine lv_topl (fun x_26 ex_26 => ?_)
                obtain rfl : x_26 = σ.2.2.1 (10 + i1) 1 := ex_26.trans ((congrArg (vp_updL FA (4 * σ.1 0 + 0) ((σ.2.2.1 (10 + i1) 0) + (σ.2.2.1 (10 + i5) 0))) ((xcl (a := (4 * i1) + 1) (xadd (a := 4 * i1) (b := 1) (xmul (a := 4) (b := i1) rfl rfl) rfl) (by omega)).trans (show (4 * i1) + 1 = 4 * i1 + 1 by omega))).trans ((pk_uLn (show 4 * i1 + 1 ≠ 4 * σ.1 0 + 0 by omega)).trans (hFA i1 1 (by omega) (by omega))))
                refine lv_aload_n hx hb d_M_mix_128 rfl (lv_at hl 2 rfl) ?_
                refine xr_get (ci := 5) (v := .ref (ad 209)) (C := R_M) (T := T_M) (N := 26) hx hb htw in_M hown hK hw 200 ((xu_ne (by omega)).trans (m200)) rfl rfl 8 (by decide) (htw _ u_342) (fun _ h9 => h9) rfl d_M_mix_129 ?_
                refine lv_iconst (v := 4) hx hb d_M_mix_132 (by decide) ?_
                refine lv_iload_n hx hb d_M_mix_133 rfl (lv_at hl 4 rfl) ?_
                refine lv_imul hx hb d_M_mix_134 ?_
                refine lv_iload hx hb d_M_mix_135 (lv_at hl 0 rfl) ?_
                refine lv_iadd hx hb d_M_mix_137 ?_
                refine xr_lald (i := (4 * (nI i5)) + 1) hx hb hK hw 209 1 xu_eq rfl rfl (xvin (a := (4 * i5) + 1) (xadd (a := 4 * i5) (b := 1) (xmul (a := 4) (b := i5) rfl rfl) rfl) (by omega) (by omega)) d_M_mix_138 ?_
                refine lv_topl (fun x_27 ex_27 => ?_)
                obtain rfl : x_27 = σ.2.2.1 (10 + i5) 1 := ex_27.trans ((congrArg (vp_updL FA (4 * σ.1 0 + 0) ((σ.2.2.1 (10 + i1) 0) + (σ.2.2.1 (10 + i5) 0))) ((xcl (a := (4 * i5) + 1) (xadd (a := 4 * i5) (b := 1) (xmul (a := 4) (b := i5) rfl rfl) rfl) (by omega)).trans (show (4 * i5) + 1 = 4 * i5 + 1 by omega))).trans ((pk_uLn (show 4 * i5 + 1 ≠ 4 * σ.1 0 + 0 by omega)).trans (hFA i5 1 (by omega) (by omega))))
                refine lv_ladd hx hb d_M_mix_139 ?_
                refine xr_last (i := (4 * (nI (σ.1 0))) + 1) hx hb hK hw hS 209 1 xu_eq rfl rfl (xvin (a := (4 * (σ.1 0)) + 1) (xadd (a := 4 * (σ.1 0)) (b := 1) (xmul (a := 4) (b := σ.1 0) rfl rfl) rfl) (by omega) (by omega)) d_M_mix_140 (fun H locs hw hS => ?_)
                rw [show ((4 * (nI (σ.1 0))) + 1).toNatClampNeg = 4 * σ.1 0 + 1 from (xcl (a := (4 * (σ.1 0)) + 1) (xadd (a := 4 * (σ.1 0)) (b := 1) (xmul (a := 4) (b := σ.1 0) rfl rfl) rfl) (by omega)).trans (show (4 * (σ.1 0)) + 1 = 4 * σ.1 0 + 1 by omega)] at hw
                have hw : xw D vwCl B ad (xu (xu w1 209 (.inl (K 1, 32, .inr (.inl (vp_updL FA (4 * σ.1 0 + 0) ((σ.2.2.1 (10 + i1) 0) + (σ.2.2.1 (10 + i5) 0))))))) 209 (.inl (K 1, 32, .inr (.inl (vp_updL (vp_updL FA (4 * σ.1 0 + 0) ((σ.2.2.1 (10 + i1) 0) + (σ.2.2.1 (10 + i5) 0))) (4 * σ.1 0 + 1) ((σ.2.2.1 (10 + i1) 1) + (σ.2.2.1 (10 + i5) 1))))))) H := hw
                refine lv_iinc (v := 2) (lv' := [(4, .int 2), (3, .int (nI (σ.1 0))), (0, .ref (ad 200)), (1, .int (nI i1)), (2, .int (nI i5))]) hx hb d_M_mix_141 hl (k := 0) rfl (by decide) (by decide) rfl (fun ls hl => ?_)
                refine lv_goto (tgt := 101) hx hb d_M_mix_144 (by decide) ?_
                refine lv_iload hx hb d_M_mix_101 (lv_at hl 0 rfl) ?_
                refine lv_iconst (v := 4) hx hb d_M_mix_103 (by decide) ?_
                refine lv_icmp_ge (tgt := 147) hx hb d_M_mix_104 (by decide) (fun c_28 => absurd c_28 (by decide)) (fun c_28 => ?_)
                refine lv_aload_n hx hb d_M_mix_107 rfl (lv_at hl 2 rfl) ?_
                refine xr_get (ci := 5) (v := .ref (ad 209)) (C := R_M) (T := T_M) (N := 26) hx hb htw in_M hown hK hw 200 ((xu_ne (by omega)).trans ((xu_ne (by omega)).trans (m200))) rfl rfl 8 (by decide) (htw _ u_342) (fun _ h9 => h9) rfl d_M_mix_108 ?_
                refine lv_iconst (v := 4) hx hb d_M_mix_111 (by decide) ?_
                refine lv_iload_n hx hb d_M_mix_112 rfl (lv_at hl 1 rfl) ?_
                refine lv_imul hx hb d_M_mix_113 ?_
                refine lv_iload hx hb d_M_mix_114 (lv_at hl 0 rfl) ?_
                refine lv_iadd hx hb d_M_mix_116 ?_
                refine lv_aload_n hx hb d_M_mix_117 rfl (lv_at hl 2 rfl) ?_
                refine xr_get (ci := 5) (v := .ref (ad 209)) (C := R_M) (T := T_M) (N := 26) hx hb htw in_M hown hK hw 200 ((xu_ne (by omega)).trans ((xu_ne (by omega)).trans (m200))) rfl rfl 8 (by decide) (htw _ u_342) (fun _ h9 => h9) rfl d_M_mix_118 ?_
                refine lv_iconst (v := 4) hx hb d_M_mix_121 (by decide) ?_
                refine lv_iload_n hx hb d_M_mix_122 rfl (lv_at hl 3 rfl) ?_
                refine lv_imul hx hb d_M_mix_123 ?_
                refine lv_iload hx hb d_M_mix_124 (lv_at hl 0 rfl) ?_
                refine lv_iadd hx hb d_M_mix_126 ?_
                refine xr_lald (i := (4 * (nI i1)) + 2) hx hb hK hw 209 1 xu_eq rfl rfl (xvin (a := (4 * i1) + 2) (xadd (a := 4 * i1) (b := 2) (xmul (a := 4) (b := i1) rfl rfl) rfl) (by omega) (by omega)) d_M_mix_127 ?_
                refine lv_topl (fun x_29 ex_29 => ?_)
                obtain rfl : x_29 = σ.2.2.1 (10 + i1) 2 := ex_29.trans ((congrArg (vp_updL (vp_updL FA (4 * σ.1 0 + 0) ((σ.2.2.1 (10 + i1) 0) + (σ.2.2.1 (10 + i5) 0))) (4 * σ.1 0 + 1) ((σ.2.2.1 (10 + i1) 1) + (σ.2.2.1 (10 + i5) 1))) ((xcl (a := (4 * i1) + 2) (xadd (a := 4 * i1) (b := 2) (xmul (a := 4) (b := i1) rfl rfl) rfl) (by omega)).trans (show (4 * i1) + 2 = 4 * i1 + 2 by omega))).trans ((pk_uLn (show 4 * i1 + 2 ≠ 4 * σ.1 0 + 1 by omega)).trans ((pk_uLn (show 4 * i1 + 2 ≠ 4 * σ.1 0 + 0 by omega)).trans (hFA i1 2 (by omega) (by omega)))))
                refine lv_aload_n hx hb d_M_mix_128 rfl (lv_at hl 2 rfl) ?_
                refine xr_get (ci := 5) (v := .ref (ad 209)) (C := R_M) (T := T_M) (N := 26) hx hb htw in_M hown hK hw 200 ((xu_ne (by omega)).trans ((xu_ne (by omega)).trans (m200))) rfl rfl 8 (by decide) (htw _ u_342) (fun _ h9 => h9) rfl d_M_mix_129 ?_
                refine lv_iconst (v := 4) hx hb d_M_mix_132 (by decide) ?_
                refine lv_iload_n hx hb d_M_mix_133 rfl (lv_at hl 4 rfl) ?_
                refine lv_imul hx hb d_M_mix_134 ?_
                refine lv_iload hx hb d_M_mix_135 (lv_at hl 0 rfl) ?_
                refine lv_iadd hx hb d_M_mix_137 ?_
                refine xr_lald (i := (4 * (nI i5)) + 2) hx hb hK hw 209 1 xu_eq rfl rfl (xvin (a := (4 * i5) + 2) (xadd (a := 4 * i5) (b := 2) (xmul (a := 4) (b := i5) rfl rfl) rfl) (by omega) (by omega)) d_M_mix_138 ?_
                refine lv_topl (fun x_30 ex_30 => ?_)
                obtain rfl : x_30 = σ.2.2.1 (10 + i5) 2 := ex_30.trans ((congrArg (vp_updL (vp_updL FA (4 * σ.1 0 + 0) ((σ.2.2.1 (10 + i1) 0) + (σ.2.2.1 (10 + i5) 0))) (4 * σ.1 0 + 1) ((σ.2.2.1 (10 + i1) 1) + (σ.2.2.1 (10 + i5) 1))) ((xcl (a := (4 * i5) + 2) (xadd (a := 4 * i5) (b := 2) (xmul (a := 4) (b := i5) rfl rfl) rfl) (by omega)).trans (show (4 * i5) + 2 = 4 * i5 + 2 by omega))).trans ((pk_uLn (show 4 * i5 + 2 ≠ 4 * σ.1 0 + 1 by omega)).trans ((pk_uLn (show 4 * i5 + 2 ≠ 4 * σ.1 0 + 0 by omega)).trans (hFA i5 2 (by omega) (by omega)))))
                refine lv_ladd hx hb d_M_mix_139 ?_
                refine xr_last (i := (4 * (nI (σ.1 0))) + 2) hx hb hK hw hS 209 1 xu_eq rfl rfl (xvin (a := (4 * (σ.1 0)) + 2) (xadd (a := 4 * (σ.1 0)) (b := 2) (xmul (a := 4) (b := σ.1 0) rfl rfl) rfl) (by omega) (by omega)) d_M_mix_140 (fun H locs hw hS => ?_)
                rw [show ((4 * (nI (σ.1 0))) + 2).toNatClampNeg = 4 * σ.1 0 + 2 from (xcl (a := (4 * (σ.1 0)) + 2) (xadd (a := 4 * (σ.1 0)) (b := 2) (xmul (a := 4) (b := σ.1 0) rfl rfl) rfl) (by omega)).trans (show (4 * (σ.1 0)) + 2 = 4 * σ.1 0 + 2 by omega)] at hw
                have hw : xw D vwCl B ad (xu (xu (xu w1 209 (.inl (K 1, 32, .inr (.inl (vp_updL FA (4 * σ.1 0 + 0) ((σ.2.2.1 (10 + i1) 0) + (σ.2.2.1 (10 + i5) 0))))))) 209 (.inl (K 1, 32, .inr (.inl (vp_updL (vp_updL FA (4 * σ.1 0 + 0) ((σ.2.2.1 (10 + i1) 0) + (σ.2.2.1 (10 + i5) 0))) (4 * σ.1 0 + 1) ((σ.2.2.1 (10 + i1) 1) + (σ.2.2.1 (10 + i5) 1))))))) 209 (.inl (K 1, 32, .inr (.inl (vp_updL (vp_updL (vp_updL FA (4 * σ.1 0 + 0) ((σ.2.2.1 (10 + i1) 0) + (σ.2.2.1 (10 + i5) 0))) (4 * σ.1 0 + 1) ((σ.2.2.1 (10 + i1) 1) + (σ.2.2.1 (10 + i5) 1))) (4 * σ.1 0 + 2) ((σ.2.2.1 (10 + i1) 2) + (σ.2.2.1 (10 + i5) 2))))))) H := hw
                refine lv_iinc (v := 3) (lv' := [(4, .int 3), (3, .int (nI (σ.1 0))), (0, .ref (ad 200)), (1, .int (nI i1)), (2, .int (nI i5))]) hx hb d_M_mix_141 hl (k := 0) rfl (by decide) (by decide) rfl (fun ls hl => ?_)
                refine lv_goto (tgt := 101) hx hb d_M_mix_144 (by decide) ?_
                refine lv_iload hx hb d_M_mix_101 (lv_at hl 0 rfl) ?_
                refine lv_iconst (v := 4) hx hb d_M_mix_103 (by decide) ?_
                refine lv_icmp_ge (tgt := 147) hx hb d_M_mix_104 (by decide) (fun c_31 => absurd c_31 (by decide)) (fun c_31 => ?_)
                refine lv_aload_n hx hb d_M_mix_107 rfl (lv_at hl 2 rfl) ?_
                refine xr_get (ci := 5) (v := .ref (ad 209)) (C := R_M) (T := T_M) (N := 26) hx hb htw in_M hown hK hw 200 ((xu_ne (by omega)).trans ((xu_ne (by omega)).trans ((xu_ne (by omega)).trans (m200)))) rfl rfl 8 (by decide) (htw _ u_342) (fun _ h9 => h9) rfl d_M_mix_108 ?_
                refine lv_iconst (v := 4) hx hb d_M_mix_111 (by decide) ?_
                refine lv_iload_n hx hb d_M_mix_112 rfl (lv_at hl 1 rfl) ?_
                refine lv_imul hx hb d_M_mix_113 ?_
                refine lv_iload hx hb d_M_mix_114 (lv_at hl 0 rfl) ?_
                refine lv_iadd hx hb d_M_mix_116 ?_
                refine lv_aload_n hx hb d_M_mix_117 rfl (lv_at hl 2 rfl) ?_
                refine xr_get (ci := 5) (v := .ref (ad 209)) (C := R_M) (T := T_M) (N := 26) hx hb htw in_M hown hK hw 200 ((xu_ne (by omega)).trans ((xu_ne (by omega)).trans ((xu_ne (by omega)).trans (m200)))) rfl rfl 8 (by decide) (htw _ u_342) (fun _ h9 => h9) rfl d_M_mix_118 ?_
                refine lv_iconst (v := 4) hx hb d_M_mix_121 (by decide) ?_
                refine lv_iload_n hx hb d_M_mix_122 rfl (lv_at hl 3 rfl) ?_
                refine lv_imul hx hb d_M_mix_123 ?_
                refine lv_iload hx hb d_M_mix_124 (lv_at hl 0 rfl) ?_
                refine lv_iadd hx hb d_M_mix_126 ?_
                refine xr_lald (i := (4 * (nI i1)) + 3) hx hb hK hw 209 1 xu_eq rfl rfl (xvin (a := (4 * i1) + 3) (xadd (a := 4 * i1) (b := 3) (xmul (a := 4) (b := i1) rfl rfl) rfl) (by omega) (by omega)) d_M_mix_127 ?_
                refine lv_topl (fun x_32 ex_32 => ?_)
                obtain rfl : x_32 = σ.2.2.1 (10 + i1) 3 := ex_32.trans ((congrArg (vp_updL (vp_updL (vp_updL FA (4 * σ.1 0 + 0) ((σ.2.2.1 (10 + i1) 0) + (σ.2.2.1 (10 + i5) 0))) (4 * σ.1 0 + 1) ((σ.2.2.1 (10 + i1) 1) + (σ.2.2.1 (10 + i5) 1))) (4 * σ.1 0 + 2) ((σ.2.2.1 (10 + i1) 2) + (σ.2.2.1 (10 + i5) 2))) ((xcl (a := (4 * i1) + 3) (xadd (a := 4 * i1) (b := 3) (xmul (a := 4) (b := i1) rfl rfl) rfl) (by omega)).trans (show (4 * i1) + 3 = 4 * i1 + 3 by omega))).trans ((pk_uLn (show 4 * i1 + 3 ≠ 4 * σ.1 0 + 2 by omega)).trans ((pk_uLn (show 4 * i1 + 3 ≠ 4 * σ.1 0 + 1 by omega)).trans ((pk_uLn (show 4 * i1 + 3 ≠ 4 * σ.1 0 + 0 by omega)).trans (hFA i1 3 (by omega) (by omega))))))
                refine lv_aload_n hx hb d_M_mix_128 rfl (lv_at hl 2 rfl) ?_
                refine xr_get (ci := 5) (v := .ref (ad 209)) (C := R_M) (T := T_M) (N := 26) hx hb htw in_M hown hK hw 200 ((xu_ne (by omega)).trans ((xu_ne (by omega)).trans ((xu_ne (by omega)).trans (m200)))) rfl rfl 8 (by decide) (htw _ u_342) (fun _ h9 => h9) rfl d_M_mix_129 ?_
                refine lv_iconst (v := 4) hx hb d_M_mix_132 (by decide) ?_
                refine lv_iload_n hx hb d_M_mix_133 rfl (lv_at hl 4 rfl) ?_
                refine lv_imul hx hb d_M_mix_134 ?_
                refine lv_iload hx hb d_M_mix_135 (lv_at hl 0 rfl) ?_
                refine lv_iadd hx hb d_M_mix_137 ?_
                refine xr_lald (i := (4 * (nI i5)) + 3) hx hb hK hw 209 1 xu_eq rfl rfl (xvin (a := (4 * i5) + 3) (xadd (a := 4 * i5) (b := 3) (xmul (a := 4) (b := i5) rfl rfl) rfl) (by omega) (by omega)) d_M_mix_138 ?_
                refine lv_topl (fun x_33 ex_33 => ?_)
                obtain rfl : x_33 = σ.2.2.1 (10 + i5) 3 := ex_33.trans ((congrArg (vp_updL (vp_updL (vp_updL FA (4 * σ.1 0 + 0) ((σ.2.2.1 (10 + i1) 0) + (σ.2.2.1 (10 + i5) 0))) (4 * σ.1 0 + 1) ((σ.2.2.1 (10 + i1) 1) + (σ.2.2.1 (10 + i5) 1))) (4 * σ.1 0 + 2) ((σ.2.2.1 (10 + i1) 2) + (σ.2.2.1 (10 + i5) 2))) ((xcl (a := (4 * i5) + 3) (xadd (a := 4 * i5) (b := 3) (xmul (a := 4) (b := i5) rfl rfl) rfl) (by omega)).trans (show (4 * i5) + 3 = 4 * i5 + 3 by omega))).trans ((pk_uLn (show 4 * i5 + 3 ≠ 4 * σ.1 0 + 2 by omega)).trans ((pk_uLn (show 4 * i5 + 3 ≠ 4 * σ.1 0 + 1 by omega)).trans ((pk_uLn (show 4 * i5 + 3 ≠ 4 * σ.1 0 + 0 by omega)).trans (hFA i5 3 (by omega) (by omega))))))
                refine lv_ladd hx hb d_M_mix_139 ?_
                refine xr_last (i := (4 * (nI (σ.1 0))) + 3) hx hb hK hw hS 209 1 xu_eq rfl rfl (xvin (a := (4 * (σ.1 0)) + 3) (xadd (a := 4 * (σ.1 0)) (b := 3) (xmul (a := 4) (b := σ.1 0) rfl rfl) rfl) (by omega) (by omega)) d_M_mix_140 (fun H locs hw hS => ?_)
                rw [show ((4 * (nI (σ.1 0))) + 3).toNatClampNeg = 4 * σ.1 0 + 3 from (xcl (a := (4 * (σ.1 0)) + 3) (xadd (a := 4 * (σ.1 0)) (b := 3) (xmul (a := 4) (b := σ.1 0) rfl rfl) rfl) (by omega)).trans (show (4 * (σ.1 0)) + 3 = 4 * σ.1 0 + 3 by omega)] at hw
                have hw : xw D vwCl B ad (xu (xu (xu (xu w1 209 (.inl (K 1, 32, .inr (.inl (vp_updL FA (4 * σ.1 0 + 0) ((σ.2.2.1 (10 + i1) 0) + (σ.2.2.1 (10 + i5) 0))))))) 209 (.inl (K 1, 32, .inr (.inl (vp_updL (vp_updL FA (4 * σ.1 0 + 0) ((σ.2.2.1 (10 + i1) 0) + (σ.2.2.1 (10 + i5) 0))) (4 * σ.1 0 + 1) ((σ.2.2.1 (10 + i1) 1) + (σ.2.2.1 (10 + i5) 1))))))) 209 (.inl (K 1, 32, .inr (.inl (vp_updL (vp_updL (vp_updL FA (4 * σ.1 0 + 0) ((σ.2.2.1 (10 + i1) 0) + (σ.2.2.1 (10 + i5) 0))) (4 * σ.1 0 + 1) ((σ.2.2.1 (10 + i1) 1) + (σ.2.2.1 (10 + i5) 1))) (4 * σ.1 0 + 2) ((σ.2.2.1 (10 + i1) 2) + (σ.2.2.1 (10 + i5) 2))))))) 209 (.inl (K 1, 32, .inr (.inl (vp_updL (vp_updL (vp_updL (vp_updL FA (4 * σ.1 0 + 0) ((σ.2.2.1 (10 + i1) 0) + (σ.2.2.1 (10 + i5) 0))) (4 * σ.1 0 + 1) ((σ.2.2.1 (10 + i1) 1) + (σ.2.2.1 (10 + i5) 1))) (4 * σ.1 0 + 2) ((σ.2.2.1 (10 + i1) 2) + (σ.2.2.1 (10 + i5) 2))) (4 * σ.1 0 + 3) ((σ.2.2.1 (10 + i1) 3) + (σ.2.2.1 (10 + i5) 3))))))) H := hw
                refine lv_iinc (v := 4) (lv' := [(4, .int 4), (3, .int (nI (σ.1 0))), (0, .ref (ad 200)), (1, .int (nI i1)), (2, .int (nI i5))]) hx hb d_M_mix_141 hl (k := 0) rfl (by decide) (by decide) rfl (fun ls hl => ?_)
                refine lv_goto (tgt := 101) hx hb d_M_mix_144 (by decide) ?_
                refine lv_iload hx hb d_M_mix_101 (lv_at hl 0 rfl) ?_
                refine lv_iconst (v := 4) hx hb d_M_mix_103 (by decide) ?_
                refine lv_icmp_ge (tgt := 147) hx hb d_M_mix_104 (by decide) (fun c_34 => ?_) (fun c_34 => absurd (by decide) c_34)
                refine lv_aload_n hx hb d_M_mix_147 rfl (lv_at hl 2 rfl) ?_
                refine xr_get (ci := 5) (v := .ref (ad 206)) (C := R_M) (T := T_M) (N := 26) hx hb htw in_M hown hK hw 200 ((xu_ne (by omega)).trans ((xu_ne (by omega)).trans ((xu_ne (by omega)).trans ((xu_ne (by omega)).trans (m200))))) rfl rfl 5 (by decide) (htw _ u_339) (fun _ h9 => h9) rfl d_M_mix_148 ?_
                refine lv_iload_n hx hb d_M_mix_151 rfl (lv_at hl 1 rfl) ?_
                refine lv_iconst (v := 1) hx hb d_M_mix_152 (by decide) ?_
                refine xr_zast (i := nI (σ.1 0)) hx hb hK hw hS 206 5 ((xu_ne (by omega)).trans ((xu_ne (by omega)).trans ((xu_ne (by omega)).trans ((xu_ne (by omega)).trans (m206))))) rfl rfl (xvin (a := σ.1 0) rfl (by omega) (by omega)) (by decide) d_M_mix_153 (fun H locs hw hS => ?_)
                rw [show (nI (σ.1 0)).toNatClampNeg = σ.1 0 from xcl (a := σ.1 0) rfl (by omega)] at hw
                have hw : xw D vwCl B ad (xu (xu (xu (xu (xu w1 209 (.inl (K 1, 32, .inr (.inl (vp_updL FA (4 * σ.1 0 + 0) ((σ.2.2.1 (10 + i1) 0) + (σ.2.2.1 (10 + i5) 0))))))) 209 (.inl (K 1, 32, .inr (.inl (vp_updL (vp_updL FA (4 * σ.1 0 + 0) ((σ.2.2.1 (10 + i1) 0) + (σ.2.2.1 (10 + i5) 0))) (4 * σ.1 0 + 1) ((σ.2.2.1 (10 + i1) 1) + (σ.2.2.1 (10 + i5) 1))))))) 209 (.inl (K 1, 32, .inr (.inl (vp_updL (vp_updL (vp_updL FA (4 * σ.1 0 + 0) ((σ.2.2.1 (10 + i1) 0) + (σ.2.2.1 (10 + i5) 0))) (4 * σ.1 0 + 1) ((σ.2.2.1 (10 + i1) 1) + (σ.2.2.1 (10 + i5) 1))) (4 * σ.1 0 + 2) ((σ.2.2.1 (10 + i1) 2) + (σ.2.2.1 (10 + i5) 2))))))) 209 (.inl (K 1, 32, .inr (.inl (vp_updL (vp_updL (vp_updL (vp_updL FA (4 * σ.1 0 + 0) ((σ.2.2.1 (10 + i1) 0) + (σ.2.2.1 (10 + i5) 0))) (4 * σ.1 0 + 1) ((σ.2.2.1 (10 + i1) 1) + (σ.2.2.1 (10 + i5) 1))) (4 * σ.1 0 + 2) ((σ.2.2.1 (10 + i1) 2) + (σ.2.2.1 (10 + i5) 2))) (4 * σ.1 0 + 3) ((σ.2.2.1 (10 + i1) 3) + (σ.2.2.1 (10 + i5) 3))))))) 206 (.inl (K 5, 8, .inl (upd (fun b => bI (row (σ.2.2.2 0) (σ.1 0) false b)) (σ.1 0) 1)))) H := hw
                refine lv_aload_n hx hb d_M_mix_154 rfl (lv_at hl 2 rfl) ?_
                refine xr_get (ci := 5) (v := .ref (ad 207)) (C := R_M) (T := T_M) (N := 26) hx hb htw in_M hown hK hw 200 ((xu_ne (by omega)).trans ((xu_ne (by omega)).trans ((xu_ne (by omega)).trans ((xu_ne (by omega)).trans ((xu_ne (by omega)).trans (m200)))))) rfl rfl 6 (by decide) (htw _ u_340) (fun _ h9 => h9) rfl d_M_mix_155 ?_
                refine lv_iload_n hx hb d_M_mix_158 rfl (lv_at hl 1 rfl) ?_
                refine lv_aload_n hx hb d_M_mix_159 rfl (lv_at hl 2 rfl) ?_
                refine xr_get (ci := 5) (v := .ref (ad 207)) (C := R_M) (T := T_M) (N := 26) hx hb htw in_M hown hK hw 200 ((xu_ne (by omega)).trans ((xu_ne (by omega)).trans ((xu_ne (by omega)).trans ((xu_ne (by omega)).trans ((xu_ne (by omega)).trans (m200)))))) rfl rfl 6 (by decide) (htw _ u_340) (fun _ h9 => h9) rfl d_M_mix_160 ?_
                refine lv_iload_n hx hb d_M_mix_163 rfl (lv_at hl 3 rfl) ?_
                refine xr_zald (i := nI i1) hx hb hK hw 207 5 ((xu_ne (by omega)).trans ((xu_ne (by omega)).trans ((xu_ne (by omega)).trans ((xu_ne (by omega)).trans ((xu_ne (by omega)).trans (m207)))))) rfl rfl (xvin (a := i1) rfl (by omega) (by omega)) d_M_mix_164 ?_
                refine lv_topi (fun x_35 ex_35 => ?_)
                obtain rfl : x_35 = bI (σ.2.2.2 1 i1) := ex_35.trans ((congrArg (fun b => bI (σ.2.2.2 1 b)) (xcl (a := i1) rfl (by omega))).trans rfl)
                refine xr_zast (i := nI (σ.1 0)) hx hb hK hw hS 207 5 ((xu_ne (by omega)).trans ((xu_ne (by omega)).trans ((xu_ne (by omega)).trans ((xu_ne (by omega)).trans ((xu_ne (by omega)).trans (m207)))))) rfl rfl (xvin (a := σ.1 0) rfl (by omega) (by omega)) bI_nar d_M_mix_165 (fun H locs hw hS => ?_)
                rw [show (nI (σ.1 0)).toNatClampNeg = σ.1 0 from xcl (a := σ.1 0) rfl (by omega)] at hw
                have hw : xw D vwCl B ad (xu (xu (xu (xu (xu (xu w1 209 (.inl (K 1, 32, .inr (.inl (vp_updL FA (4 * σ.1 0 + 0) ((σ.2.2.1 (10 + i1) 0) + (σ.2.2.1 (10 + i5) 0))))))) 209 (.inl (K 1, 32, .inr (.inl (vp_updL (vp_updL FA (4 * σ.1 0 + 0) ((σ.2.2.1 (10 + i1) 0) + (σ.2.2.1 (10 + i5) 0))) (4 * σ.1 0 + 1) ((σ.2.2.1 (10 + i1) 1) + (σ.2.2.1 (10 + i5) 1))))))) 209 (.inl (K 1, 32, .inr (.inl (vp_updL (vp_updL (vp_updL FA (4 * σ.1 0 + 0) ((σ.2.2.1 (10 + i1) 0) + (σ.2.2.1 (10 + i5) 0))) (4 * σ.1 0 + 1) ((σ.2.2.1 (10 + i1) 1) + (σ.2.2.1 (10 + i5) 1))) (4 * σ.1 0 + 2) ((σ.2.2.1 (10 + i1) 2) + (σ.2.2.1 (10 + i5) 2))))))) 209 (.inl (K 1, 32, .inr (.inl (vp_updL (vp_updL (vp_updL (vp_updL FA (4 * σ.1 0 + 0) ((σ.2.2.1 (10 + i1) 0) + (σ.2.2.1 (10 + i5) 0))) (4 * σ.1 0 + 1) ((σ.2.2.1 (10 + i1) 1) + (σ.2.2.1 (10 + i5) 1))) (4 * σ.1 0 + 2) ((σ.2.2.1 (10 + i1) 2) + (σ.2.2.1 (10 + i5) 2))) (4 * σ.1 0 + 3) ((σ.2.2.1 (10 + i1) 3) + (σ.2.2.1 (10 + i5) 3))))))) 206 (.inl (K 5, 8, .inl (upd (fun b => bI (row (σ.2.2.2 0) (σ.1 0) false b)) (σ.1 0) 1)))) 207 (.inl (K 5, 8, .inl (upd (fun b => bI (σ.2.2.2 1 b)) (σ.1 0) (bI (σ.2.2.2 1 i1)))))) H := hw
                refine lv_aload_n hx hb d_M_mix_166 rfl (lv_at hl 2 rfl) ?_
                refine xr_get (ci := 5) (v := .ref (ad 205)) (C := R_M) (T := T_M) (N := 26) hx hb htw in_M hown hK hw 200 ((xu_ne (by omega)).trans ((xu_ne (by omega)).trans ((xu_ne (by omega)).trans ((xu_ne (by omega)).trans ((xu_ne (by omega)).trans ((xu_ne (by omega)).trans (m200))))))) rfl rfl 4 (by decide) (htw _ u_338) (fun _ h9 => h9) rfl d_M_mix_167 ?_
                refine lv_iload_n hx hb d_M_mix_170 rfl (lv_at hl 3 rfl) ?_
                refine lv_iconst (v := 1) hx hb d_M_mix_171 (by decide) ?_
                refine xr_zast (i := nI i1) hx hb hK hw hS 205 5 ((xu_ne (by omega)).trans ((xu_ne (by omega)).trans ((xu_ne (by omega)).trans ((xu_ne (by omega)).trans ((xu_ne (by omega)).trans ((xu_ne (by omega)).trans (m205))))))) rfl rfl (xvin (a := i1) rfl (by omega) (by omega)) (by decide) d_M_mix_172 (fun H locs hw hS => ?_)
                rw [show (nI i1).toNatClampNeg = i1 from xcl (a := i1) rfl (by omega)] at hw
                have hw : xw D vwCl B ad (xu (xu (xu (xu (xu (xu (xu w1 209 (.inl (K 1, 32, .inr (.inl (vp_updL FA (4 * σ.1 0 + 0) ((σ.2.2.1 (10 + i1) 0) + (σ.2.2.1 (10 + i5) 0))))))) 209 (.inl (K 1, 32, .inr (.inl (vp_updL (vp_updL FA (4 * σ.1 0 + 0) ((σ.2.2.1 (10 + i1) 0) + (σ.2.2.1 (10 + i5) 0))) (4 * σ.1 0 + 1) ((σ.2.2.1 (10 + i1) 1) + (σ.2.2.1 (10 + i5) 1))))))) 209 (.inl (K 1, 32, .inr (.inl (vp_updL (vp_updL (vp_updL FA (4 * σ.1 0 + 0) ((σ.2.2.1 (10 + i1) 0) + (σ.2.2.1 (10 + i5) 0))) (4 * σ.1 0 + 1) ((σ.2.2.1 (10 + i1) 1) + (σ.2.2.1 (10 + i5) 1))) (4 * σ.1 0 + 2) ((σ.2.2.1 (10 + i1) 2) + (σ.2.2.1 (10 + i5) 2))))))) 209 (.inl (K 1, 32, .inr (.inl (vp_updL (vp_updL (vp_updL (vp_updL FA (4 * σ.1 0 + 0) ((σ.2.2.1 (10 + i1) 0) + (σ.2.2.1 (10 + i5) 0))) (4 * σ.1 0 + 1) ((σ.2.2.1 (10 + i1) 1) + (σ.2.2.1 (10 + i5) 1))) (4 * σ.1 0 + 2) ((σ.2.2.1 (10 + i1) 2) + (σ.2.2.1 (10 + i5) 2))) (4 * σ.1 0 + 3) ((σ.2.2.1 (10 + i1) 3) + (σ.2.2.1 (10 + i5) 3))))))) 206 (.inl (K 5, 8, .inl (upd (fun b => bI (row (σ.2.2.2 0) (σ.1 0) false b)) (σ.1 0) 1)))) 207 (.inl (K 5, 8, .inl (upd (fun b => bI (σ.2.2.2 1 b)) (σ.1 0) (bI (σ.2.2.2 1 i1)))))) 205 (.inl (K 5, 8, .inl (upd (fun b => bI (σ.2.2.2 2 b)) i1 1)))) H := hw
                refine lv_aload_n hx hb d_M_mix_173 rfl (lv_at hl 2 rfl) ?_
                refine xr_get (ci := 5) (v := .ref (ad 205)) (C := R_M) (T := T_M) (N := 26) hx hb htw in_M hown hK hw 200 ((xu_ne (by omega)).trans ((xu_ne (by omega)).trans ((xu_ne (by omega)).trans ((xu_ne (by omega)).trans ((xu_ne (by omega)).trans ((xu_ne (by omega)).trans ((xu_ne (by omega)).trans (m200)))))))) rfl rfl 4 (by decide) (htw _ u_338) (fun _ h9 => h9) rfl d_M_mix_174 ?_
                refine lv_iload_n hx hb d_M_mix_177 rfl (lv_at hl 4 rfl) ?_
                refine lv_iconst (v := 1) hx hb d_M_mix_178 (by decide) ?_
                refine xr_zast (i := nI i5) hx hb hK hw hS 205 5 xu_eq rfl rfl (xvin (a := i5) rfl (by omega) (by omega)) (by decide) d_M_mix_179 (fun H locs hw hS => ?_)
                rw [show (nI i5).toNatClampNeg = i5 from xcl (a := i5) rfl (by omega)] at hw
                have hw : xw D vwCl B ad (xu (xu (xu (xu (xu (xu (xu (xu w1 209 (.inl (K 1, 32, .inr (.inl (vp_updL FA (4 * σ.1 0 + 0) ((σ.2.2.1 (10 + i1) 0) + (σ.2.2.1 (10 + i5) 0))))))) 209 (.inl (K 1, 32, .inr (.inl (vp_updL (vp_updL FA (4 * σ.1 0 + 0) ((σ.2.2.1 (10 + i1) 0) + (σ.2.2.1 (10 + i5) 0))) (4 * σ.1 0 + 1) ((σ.2.2.1 (10 + i1) 1) + (σ.2.2.1 (10 + i5) 1))))))) 209 (.inl (K 1, 32, .inr (.inl (vp_updL (vp_updL (vp_updL FA (4 * σ.1 0 + 0) ((σ.2.2.1 (10 + i1) 0) + (σ.2.2.1 (10 + i5) 0))) (4 * σ.1 0 + 1) ((σ.2.2.1 (10 + i1) 1) + (σ.2.2.1 (10 + i5) 1))) (4 * σ.1 0 + 2) ((σ.2.2.1 (10 + i1) 2) + (σ.2.2.1 (10 + i5) 2))))))) 209 (.inl (K 1, 32, .inr (.inl (vp_updL (vp_updL (vp_updL (vp_updL FA (4 * σ.1 0 + 0) ((σ.2.2.1 (10 + i1) 0) + (σ.2.2.1 (10 + i5) 0))) (4 * σ.1 0 + 1) ((σ.2.2.1 (10 + i1) 1) + (σ.2.2.1 (10 + i5) 1))) (4 * σ.1 0 + 2) ((σ.2.2.1 (10 + i1) 2) + (σ.2.2.1 (10 + i5) 2))) (4 * σ.1 0 + 3) ((σ.2.2.1 (10 + i1) 3) + (σ.2.2.1 (10 + i5) 3))))))) 206 (.inl (K 5, 8, .inl (upd (fun b => bI (row (σ.2.2.2 0) (σ.1 0) false b)) (σ.1 0) 1)))) 207 (.inl (K 5, 8, .inl (upd (fun b => bI (σ.2.2.2 1 b)) (σ.1 0) (bI (σ.2.2.2 1 i1)))))) 205 (.inl (K 5, 8, .inl (upd (fun b => bI (σ.2.2.2 2 b)) i1 1)))) 205 (.inl (K 5, 8, .inl (upd (upd (fun b => bI (σ.2.2.2 2 b)) i1 1) i5 1)))) H := hw
                refine lv_iload_n hx hb d_M_mix_180 rfl (lv_at hl 1 rfl) ?_
                have hzz : (σ.2.2.2 1 i1 && σ.2.2.2 1 i5) = σ.2.2.2 1 i1 := by rw [← bI_inj.mp c_16]; cases σ.2.2.2 1 i1 <;> rfl
                have hz0 := fz_up (f := row (σ.2.2.2 0) (σ.1 0) false) (k := σ.1 0) (b := true) (x := 1) rfl
                have hz1 := fz_up (f := σ.2.2.2 1) (k := σ.1 0) (b := σ.2.2.2 1 i1) rfl
                have hz2 := fz_up (f := σ.2.2.2 2) (k := i1) (b := true) (x := 1) rfl
                have hz3 := fz_up (f := row (σ.2.2.2 2) i1 true) (k := i5) (b := true) (x := 1) rfl
                have hgr : grt (σ.2.1 1 i1) (σ.2.1 1 i5) = mx (σ.2.1 1 i1) (σ.2.1 1 i5) := grt_mx _ _
                have hRep : RepM K (s_mix σ i1 i5) ad (xu (xu (xu (xu (xu (xu (xu (xu w1 209 (.inl (K 1, 32, .inr (.inl (vp_updL FA (4 * σ.1 0 + 0) ((σ.2.2.1 (10 + i1) 0) + (σ.2.2.1 (10 + i5) 0))))))) 209 (.inl (K 1, 32, .inr (.inl (vp_updL (vp_updL FA (4 * σ.1 0 + 0) ((σ.2.2.1 (10 + i1) 0) + (σ.2.2.1 (10 + i5) 0))) (4 * σ.1 0 + 1) ((σ.2.2.1 (10 + i1) 1) + (σ.2.2.1 (10 + i5) 1))))))) 209 (.inl (K 1, 32, .inr (.inl (vp_updL (vp_updL (vp_updL FA (4 * σ.1 0 + 0) ((σ.2.2.1 (10 + i1) 0) + (σ.2.2.1 (10 + i5) 0))) (4 * σ.1 0 + 1) ((σ.2.2.1 (10 + i1) 1) + (σ.2.2.1 (10 + i5) 1))) (4 * σ.1 0 + 2) ((σ.2.2.1 (10 + i1) 2) + (σ.2.2.1 (10 + i5) 2))))))) 209 (.inl (K 1, 32, .inr (.inl (vp_updL (vp_updL (vp_updL (vp_updL FA (4 * σ.1 0 + 0) ((σ.2.2.1 (10 + i1) 0) + (σ.2.2.1 (10 + i5) 0))) (4 * σ.1 0 + 1) ((σ.2.2.1 (10 + i1) 1) + (σ.2.2.1 (10 + i5) 1))) (4 * σ.1 0 + 2) ((σ.2.2.1 (10 + i1) 2) + (σ.2.2.1 (10 + i5) 2))) (4 * σ.1 0 + 3) ((σ.2.2.1 (10 + i1) 3) + (σ.2.2.1 (10 + i5) 3))))))) 206 (.inl (K 5, 8, .inl (upd (fun b => bI (row (σ.2.2.2 0) (σ.1 0) false b)) (σ.1 0) 1)))) 207 (.inl (K 5, 8, .inl (upd (fun b => bI (σ.2.2.2 1 b)) (σ.1 0) (bI (σ.2.2.2 1 i1)))))) 205 (.inl (K 5, 8, .inl (upd (fun b => bI (σ.2.2.2 2 b)) i1 1)))) 205 (.inl (K 5, 8, .inl (upd (upd (fun b => bI (σ.2.2.2 2 b)) i1 1) i5 1)))) := by
                  unfold s_mix s_new
                  refine ⟨(vp_updL (vp_updL (vp_updL (vp_updL FA (4 * σ.1 0 + 0) (σ.2.2.1 (10 + i1) 0 + σ.2.2.1 (10 + i5) 0)) (4 * σ.1 0 + 1) (σ.2.2.1 (10 + i1) 1 + σ.2.2.1 (10 + i5) 1)) (4 * σ.1 0 + 2) (σ.2.2.1 (10 + i1) 2 + σ.2.2.1 (10 + i5) 2)) (4 * σ.1 0 + 3) (σ.2.2.1 (10 + i1) 3 + σ.2.2.1 (10 + i5) 3)), FT, FS, FO, ?_, ?_, ?_, ?_, ?_, ?_, ?_, ?_, ?_, ?_, ?_, ?_, ?_, ?_, ?_, ?_, ?_, ?_, ?_, ?_, ?_, ?_, ?_, ?_, ?_⟩
                  · simp (disch := omega) only [pN, pI, pL, pZ, row_eq, row_ne, xu_eq, xu_ne, xa_eq, xa_ne, pk_us, pk_un, pk_uLs, pk_uLn, hfw, hz0, hz1, hz2, hz3, row_row, hzz, hgr, m200]
                  · simp (disch := omega) only [pN, pI, pL, pZ, row_eq, row_ne, xu_eq, xu_ne, xa_eq, xa_ne, pk_us, pk_un, pk_uLs, pk_uLn, hfw, hz0, hz1, hz2, hz3, row_row, hzz, hgr, m203]
                  · simp (disch := omega) only [pN, pI, pL, pZ, row_eq, row_ne, xu_eq, xu_ne, xa_eq, xa_ne, pk_us, pk_un, pk_uLs, pk_uLn, hfw, hz0, hz1, hz2, hz3, row_row, hzz, hgr, m204]
                  · simp (disch := omega) only [pN, pI, pL, pZ, row_eq, row_ne, xu_eq, xu_ne, xa_eq, xa_ne, pk_us, pk_un, pk_uLs, pk_uLn, hfw, hz0, hz1, hz2, hz3, row_row, hzz, hgr, m205]
                  · simp (disch := omega) only [pN, pI, pL, pZ, row_eq, row_ne, xu_eq, xu_ne, xa_eq, xa_ne, pk_us, pk_un, pk_uLs, pk_uLn, hfw, hz0, hz1, hz2, hz3, row_row, hzz, hgr, m206]
                  · simp (disch := omega) only [pN, pI, pL, pZ, row_eq, row_ne, xu_eq, xu_ne, xa_eq, xa_ne, pk_us, pk_un, pk_uLs, pk_uLn, hfw, hz0, hz1, hz2, hz3, row_row, hzz, hgr, m207]
                  · simp (disch := omega) only [pN, pI, pL, pZ, row_eq, row_ne, xu_eq, xu_ne, xa_eq, xa_ne, pk_us, pk_un, pk_uLs, pk_uLn, hfw, hz0, hz1, hz2, hz3, row_row, hzz, hgr, m208]
                  · simp (disch := omega) only [pN, pI, pL, pZ, row_eq, row_ne, xu_eq, xu_ne, xa_eq, xa_ne, pk_us, pk_un, pk_uLs, pk_uLn, hfw, hz0, hz1, hz2, hz3, row_row, hzz, hgr, m209]
                  · simp (disch := omega) only [pN, pI, pL, pZ, row_eq, row_ne, xu_eq, xu_ne, xa_eq, xa_ne, pk_us, pk_un, pk_uLs, pk_uLn, hfw, hz0, hz1, hz2, hz3, row_row, hzz, hgr, m210]
                  · simp (disch := omega) only [pN, pI, pL, pZ, row_eq, row_ne, xu_eq, xu_ne, xa_eq, xa_ne, pk_us, pk_un, pk_uLs, pk_uLn, hfw, hz0, hz1, hz2, hz3, row_row, hzz, hgr, m212]
                  · simp (disch := omega) only [pN, pI, pL, pZ, row_eq, row_ne, xu_eq, xu_ne, xa_eq, xa_ne, pk_us, pk_un, pk_uLs, pk_uLn, hfw, hz0, hz1, hz2, hz3, row_row, hzz, hgr, m213]
                  · simp (disch := omega) only [pN, pI, pL, pZ, row_eq, row_ne, xu_eq, xu_ne, xa_eq, xa_ne, pk_us, pk_un, pk_uLs, pk_uLn, hfw, hz0, hz1, hz2, hz3, row_row, hzz, hgr, m214]
                  · simp (disch := omega) only [pN, pI, pL, pZ, row_eq, row_ne, xu_eq, xu_ne, xa_eq, xa_ne, pk_us, pk_un, pk_uLs, pk_uLn, hfw, hz0, hz1, hz2, hz3, row_row, hzz, hgr, m215]
                  · simp (disch := omega) only [pN, pI, pL, pZ, row_eq, row_ne, xu_eq, xu_ne, xa_eq, xa_ne, pk_us, pk_un, pk_uLs, pk_uLn, hfw, hz0, hz1, hz2, hz3, row_row, hzz, hgr, m216]
                  · simp (disch := omega) only [pN, pI, pL, pZ, row_eq, row_ne, xu_eq, xu_ne, xa_eq, xa_ne, pk_us, pk_un, pk_uLs, pk_uLn, hfw, hz0, hz1, hz2, hz3, row_row, hzz, hgr, m217]
                  · simp (disch := omega) only [pN, pI, pL, pZ, row_eq, row_ne, xu_eq, xu_ne, xa_eq, xa_ne, pk_us, pk_un, pk_uLs, pk_uLn, hfw, hz0, hz1, hz2, hz3, row_row, hzz, hgr, m218]
                  · simp (disch := omega) only [pN, pI, pL, pZ, row_eq, row_ne, xu_eq, xu_ne, xa_eq, xa_ne, pk_us, pk_un, pk_uLs, pk_uLn, hfw, hz0, hz1, hz2, hz3, row_row, hzz, hgr, m220]
                  · simp (disch := omega) only [pN, pI, pL, pZ, row_eq, row_ne, xu_eq, xu_ne, xa_eq, xa_ne, pk_us, pk_un, pk_uLs, pk_uLn, hfw, hz0, hz1, hz2, hz3, row_row, hzz, hgr, m223]
                  · simp (disch := omega) only [pN, pI, pL, pZ, row_eq, row_ne, xu_eq, xu_ne, xa_eq, xa_ne, pk_us, pk_un, pk_uLs, pk_uLn, hfw, hz0, hz1, hz2, hz3, row_row, hzz, hgr, m224]
                  · simp (disch := omega) only [pN, pI, pL, pZ, row_eq, row_ne, xu_eq, xu_ne, xa_eq, xa_ne, pk_us, pk_un, pk_uLs, pk_uLn, hfw, hz0, hz1, hz2, hz3, row_row, hzz, hgr, m225]
                  · simp (disch := omega) only [pN, pI, pL, pZ, row_eq, row_ne, xu_eq, xu_ne, xa_eq, xa_ne, pk_us, pk_un, pk_uLs, pk_uLn, hfw, hz0, hz1, hz2, hz3, row_row, hzz, hgr, m226]
                  · intro b q hb hq; simp (disch := omega) only [pN, pI, pL, pZ, row_ne, row_in]; rw [rel4 hFA b q hb hq, hd5]
                  · intro b q hb hq; rw [hFT b q hb hq]; simp (disch := omega) only [s_new, pN, pI, pL, pZ, row_ne, row_in, row_eq]
                  · intro b q hb hq; rw [hFS b q hb hq]; simp (disch := omega) only [s_new, pN, pI, pL, pZ, row_ne, row_in, row_eq]
                  · intro b q hb hq; rw [hFO b q hb hq]; simp (disch := omega) only [s_new, pN, pI, pL, pZ, row_ne, row_in, row_eq]
                have hf : f_mix σ (nI i1) (nI i5) = (s_mix σ i1 i5, nI (σ.1 0)) := by simp [f_mix, opt_n, opt_s, fi1, fi5, c_9, c_11, c_13, c_16, show σ.1 0 < 8 by omega]
                exact W.iret (v := nI (σ.1 0)) hx hb hr (fun t ht _ => ⟨_, rfl, by rw [hf, ht]; exact ⟨rfl, _, hw, hRep, fun t h2 => by simp (disch := omega) only [xu_ne, hfw, hz0, hz1, hz2, hz3, row_row, hzz, hgr]⟩, hS.F ht⟩) hS.2.2 d_M_mix_181
              · have c_17 : (σ.1 0) = 8 := (nEQ (a := σ.1 0) (b := 8) (by omega) (by omega)).mp c_17
                refine lv_iconst (v := (-1)) hx hb d_M_mix_63 (by decide) ?_
                have hf : f_mix σ (nI i1) (nI i5) = (σ, (-1)) := by simp [f_mix, opt_n, opt_s, fi1, fi5, c_9, c_11, c_13, c_16, show ¬ σ.1 0 < 8 by omega, opt_c]
                exact W.iret (v := (-1)) hx hb hr (fun t ht _ => ⟨_, rfl, by rw [hf, ht]; exact ⟨rfl, PM_same hw hR⟩, hS.F ht⟩) hS.2.2 d_M_mix_64
