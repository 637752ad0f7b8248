set_option maxHeartbeats 4000000 in
set_option maxRecDepth 100000 in
theorem c_M_run {l : Launch} {D : va_G} {K : Nat → ClassId} {B : Nat} {ad : Nat → Nat} {w : Nat → Option va_E} {H : Heap} {σ : xS} (hR : RepM K σ ad w) (hI : Inv σ) (hw : xw D vwCl B ad w H) (x1 : Int32) : xC l D K B y_M_run b_M_run 9 (some .int) rm_M_run [.ref (ad 200), .int x1] H (fun v H1 => v = some (.int (f_run σ x1).2) ∧ PM D K B ad w (f_run σ x1).1 H1) := by
  refine Met.ofW (cc := b_M_run) (maxL := 9) (ret := (some .int)) (by decide) rfl ?_
  intro p e s m args below meth c s₁ B0 hml hv
  obtain ⟨rfl, hsz, hK, hN⟩ := hv
  have hx := B0.exec
  have hb := B0.bytes
  have hr := B0.returns
  have htw : ∀ w ∈ xW0, w.before [.ref (ad 200), .int x1].toArray s = true := fun w h => atoms_spec (ws := Cond.code y_M_run b_M_run 9 (some .int) :: xW0) B0.pre w (List.mem_cons_of_mem _ h)
  have hown : s.vm.findClass R_M = some m.cls := findClass_of_methodNamed B0.named
  have hlocks := B0.notSynchronized
  subst hsz
  have hS : va_S (fun q => B ≤ q) s.heap s.heap [] := va_S.rf
  have hl := lv_entry ([.ref (ad 200), .int x1]) (n := 9) (Nat.le_of_ble_eq_true rfl)
  rw [lg_entry_eq]
  generalize (lg_sl ([.ref (ad 200), .int x1]) ++ List.replicate (9 - (lg_sl ([.ref (ad 200), .int x1])).length) Slot.unset).toArray = ls at hl ⊢
  have hl : lv_has ls 9 [(0, .ref (ad 200)), (1, .int x1)] := hl
  have hH : s.heap = s.heap := rfl
  obtain ⟨FA, FT, FS, FO, m200, m203, m204, m205, m206, m207, m208, m209, m210, m212, m213, m214, m215, m216, m217, m218, m220, m223, m224, m225, m226, hFA, hFT, hFS, hFO⟩ := id hR
  obtain ⟨hnb, hns, hnr, hpc, hst, hto, htl, hrm, hpa, hwt, hdf, hds⟩ := id hI
  refine lv_aload_n hx hb d_M_run_0 rfl (lv_at hl 0 rfl) ?_
  refine lv_iload_n hx hb d_M_run_1 rfl (lv_at hl 1 rfl) ?_
  refine xr_call (va_runV (As := [.int x1]) (rest := []) ⟨hx, hb, hml, hown, htw⟩ (c_M_isBatch (ad := ad) hR hI hw x1) (cwV 1 htw (gV u_430 u_432 us_8 u_3 u_433) rfl rfl rfl hd_M_isBatch ⟨Nat.le_of_ble_eq_true rfl, Nat.le_of_ble_eq_true rfl⟩) ⟨xP_blind, hw.recv hK (ci := 5) (t := 200) rfl m200 rfl, xP_of hK hN⟩ rfl rfl hl.1 rfl (lv_room (Nat.le_of_ble_eq_true rfl)) d_M_run_2 ⟨by decide, by decide⟩) hS (fun v H_ locs hp hS => ?_)
  obtain ⟨hHe, hp⟩ := hp
  rw [hHe] at hS ⊢
  rcases hp with ⟨f2, rfl⟩ | ⟨i1, hi1, rfl, rfl⟩
  · refine W.eq (g2 := F0 m 5 ls [.int 0]) rfl ?_
    refine lv_if_eq (tgt := 26) hx hb d_M_run_5 (by decide) (fun c_3 => ?_) (fun c_3 => absurd (by decide) c_3)
    refine lv_iconst (v := (-1)) hx hb d_M_run_26 (by decide) ?_
    have hf : f_run σ x1 = (σ, (-1)) := by simp [f_run, opt_n, opt_s, f2, opt_c]
    exact W.iret (v := (-1)) hx hb hr (fun t ht _ => ⟨_, rfl, by rw [hf, ht]; exact ⟨rfl, PM_same hw hR⟩, hS.F ht⟩) hS.2.2 d_M_run_27
  · have fi1 : xi (σ.1 0) (nI i1) = some i1 := xi_nI hi1 (by omega)
    refine W.eq (g2 := F0 m 5 ls [.int 1]) rfl ?_
    refine lv_if_eq (tgt := 26) hx hb d_M_run_5 (by decide) (fun c_4 => absurd c_4 (by decide)) (fun c_4 => ?_)
    refine lv_aload_n hx hb d_M_run_8 rfl (lv_at hl 0 rfl) ?_
    refine xr_get (ci := 5) (v := .ref (ad 205)) (C := R_M) (T := T_M) (N := 26) hx hb htw in_M hown hK hw 200 m200 rfl rfl 4 (by decide) (htw _ u_338) (fun _ h9 => h9) rfl d_M_run_9 ?_
    refine lv_iload_n hx hb d_M_run_12 rfl (lv_at hl 1 rfl) ?_
    refine xr_zald (i := nI i1) hx hb hK hw 205 5 m205 rfl rfl (xvin (a := i1) rfl (by omega) (by omega)) d_M_run_13 ?_
    refine lv_topi (fun x_5 ex_5 => ?_)
    obtain rfl : x_5 = bI (σ.2.2.2 2 i1) := ex_5.trans ((congrArg (fun b => bI (σ.2.2.2 2 b)) (xcl (a := i1) rfl (by omega))).trans rfl)
    refine lv_if_ne (tgt := 26) hx hb d_M_run_14 (by decide) (fun c_6 => ?_) (fun c_6 => ?_)
    · have c_6 : (σ.2.2.2 2 i1) = true := bI_t.mp c_6
      refine lv_iconst (v := (-1)) hx hb d_M_run_26 (by decide) ?_
      have hf : f_run σ (nI i1) = (σ, (-1)) := by simp [f_run, opt_n, opt_s, fi1, c_6, opt_c]
      exact W.iret (v := (-1)) hx hb hr (fun t ht _ => ⟨_, rfl, by rw [hf, ht]; exact ⟨rfl, PM_same hw hR⟩, hS.F ht⟩) hS.2.2 d_M_run_27
    · have c_6 : (σ.2.2.2 2 i1) = false := bI_f.mp c_6
      refine lv_aload_n hx hb d_M_run_17 rfl (lv_at hl 0 rfl) ?_
      refine xr_get (ci := 5) (v := .ref (ad 207)) (C := R_M) (T := T_M) (N := 26) hx hb htw in_M hown hK hw 200 m200 rfl rfl 6 (by decide) (htw _ u_340) (fun _ h9 => h9) rfl d_M_run_18 ?_
      refine lv_iload_n hx hb d_M_run_21 rfl (lv_at hl 1 rfl) ?_
      refine xr_zald (i := nI i1) hx hb hK hw 207 5 m207 rfl rfl (xvin (a := i1) rfl (by omega) (by omega)) d_M_run_22 ?_
      refine lv_topi (fun x_7 ex_7 => ?_)
      obtain rfl : x_7 = bI (σ.2.2.2 1 i1) := ex_7.trans ((congrArg (fun b => bI (σ.2.2.2 1 b)) (xcl (a := i1) rfl (by omega))).trans rfl)
      refine lv_if_eq (tgt := 28) hx hb d_M_run_23 (by decide) (fun c_8 => ?_) (fun c_8 => ?_)
      · have c_8 : (σ.2.2.2 1 i1) = false := bI_f.mp c_8
        refine lv_iconst (v := 0) hx hb d_M_run_28 (by decide) ?_
        refine lv_istore_n (lv' := [(2, .int 0), (0, .ref (ad 200)), (1, .int (nI i1))]) hx hb d_M_run_29 rfl hl (by decide) rfl (fun ls hl => ?_)
        have hw0 := hwt i1 hi1
        refine xloop (σ.1 1) (fun n H locs ls => ∃ (Lt : Nat → Nat → Int64) (w1 : Nat → Option va_E), passN σ i1 n = (σ.1, σ.2.1, Lt, σ.2.2.2) ∧ (0 ≤ (Lt 1 i1).toInt ∧ (Lt 1 i1).toInt ≤ 2 ^ 56 + n * 2 ^ 44) ∧ xw D vwCl B ad w1 H ∧ RepM K (σ.1, σ.2.1, Lt, σ.2.2.2) ad w1 ∧ (∀ t, t < 200 → w1 t = w t) ∧ va_S (fun q => B ≤ q) s.heap H locs ∧ lv_has ls 9 [(2, .int (nI n)), (0, .ref (ad 200)), (1, .int (nI i1))]) 0 (Nat.zero_le _) ⟨σ.2.2.1, w, rfl, ⟨hw0.1, by have := hwt_55 (by omega) hw0.2; omega⟩, hw, hR, fun _ _ => rfl, hS, hl⟩ (fun n H locs ls hn hJ ih => ?_)
        obtain ⟨Lt, w1, hpn, hwb, hw, hRn, hfw, hS, hl⟩ := hJ
        obtain ⟨FA, FT, FS, FO, m200, m203, m204, m205, m206, m207, m208, m209, m210, m212, m213, m214, m215, m216, m217, m218, m220, m223, m224, m225, m226, hFA, hFT, hFS, hFO⟩ := id hRn
        refine lv_iload_n hx hb d_M_run_30 rfl (lv_at hl 0 rfl) ?_
        refine lv_aload_n hx hb d_M_run_31 rfl (lv_at hl 1 rfl) ?_
        refine xr_get (ci := 5) (v := .int (nI (σ.1 1))) (C := R_M) (T := T_M) (N := 26) hx hb htw in_M hown hK hw 200 m200 rfl rfl 10 (by decide) (htw _ u_344) (fun _ h9 => h9) rfl d_M_run_32 ?_
        refine lv_icmp_ge (tgt := 203) hx hb d_M_run_35 (by decide) (fun c_9 => ?_) (fun c_9 => ?_)
        · have c_9 : (σ.1 1) ≤ n := (nLE (a := σ.1 1) (b := n) (by omega) (by omega)).mp c_9
          refine lv_aload_n hx hb d_M_run_203 rfl (lv_at hl 1 rfl) ?_
          refine xr_get (ci := 5) (v := .ref (ad 207)) (C := R_M) (T := T_M) (N := 26) hx hb htw in_M hown hK hw 200 m200 rfl rfl 6 (by decide) (htw _ u_340) (fun _ h9 => h9) rfl d_M_run_204 ?_
          refine lv_iload_n hx hb d_M_run_207 rfl (lv_at hl 2 rfl) ?_
          refine lv_iconst (v := 1) hx hb d_M_run_208 (by decide) ?_
          refine xr_zast (i := nI i1) hx hb hK hw hS 207 5 m207 rfl rfl (xvin (a := i1) rfl (by omega) (by omega)) (by decide) d_M_run_209 (fun H locs hw hS => ?_)
          rw [show (nI i1).toNatClampNeg = i1 from xcl (a := i1) rfl (by omega)] at hw
          have hw : xw D vwCl B ad (xu w1 207 (.inl (K 5, 8, .inl (upd (fun b => bI (σ.2.2.2 1 b)) i1 1)))) H := hw
          refine lv_aload_n hx hb d_M_run_210 rfl (lv_at hl 1 rfl) ?_
          refine xr_get (ci := 5) (v := .ref (ad 208)) (C := R_M) (T := T_M) (N := 26) hx hb htw in_M hown hK hw 200 ((xu_ne (by omega)).trans (m200)) rfl rfl 7 (by decide) (htw _ u_341) (fun _ h9 => h9) rfl d_M_run_211 ?_
          refine lv_iload_n hx hb d_M_run_214 rfl (lv_at hl 2 rfl) ?_
          refine lv_aload_n hx hb d_M_run_215 rfl (lv_at hl 1 rfl) ?_
          refine xr_get (ci := 5) (v := .int (nI (σ.1 1))) (C := R_M) (T := T_M) (N := 26) hx hb htw in_M hown hK hw 200 ((xu_ne (by omega)).trans (m200)) rfl rfl 10 (by decide) (htw _ u_344) (fun _ h9 => h9) rfl d_M_run_216 ?_
          refine xr_iast (i := nI i1) hx hb hK hw hS 208 0 ((xu_ne (by omega)).trans (m208)) rfl rfl (xvin (a := i1) rfl (by omega) (by omega)) d_M_run_219 (fun H locs hw hS => ?_)
          rw [show (nI i1).toNatClampNeg = i1 from xcl (a := i1) rfl (by omega)] at hw
          have hw : xw D vwCl B ad (xu (xu w1 207 (.inl (K 5, 8, .inl (upd (fun b => bI (σ.2.2.2 1 b)) i1 1)))) 208 (.inl (K 0, 8, .inl (upd (σ.2.1 10) i1 (nI (σ.1 1)))))) H := hw
          refine lv_aload_n hx hb d_M_run_220 rfl (lv_at hl 1 rfl) ?_
          refine xr_get (ci := 5) (v := .int (nI (σ.1 1))) (C := R_M) (T := T_M) (N := 26) hx hb htw in_M hown hK hw 200 ((xu_ne (by omega)).trans ((xu_ne (by omega)).trans (m200))) rfl rfl 10 (by decide) (htw _ u_344) (fun _ h9 => h9) rfl d_M_run_221 ?_
          obtain rfl : n = σ.1 1 := by omega
          have hLt : (passN σ i1 (σ.1 1)).2.2.1 = Lt := by rw [hpn]
          have hz1 := fz_up (f := σ.2.2.2 1) (k := i1) (b := true) (x := 1) rfl
          have hRep : RepM K (s_run σ Lt i1) ad (xu (xu w1 207 (.inl (K 5, 8, .inl (upd (fun b => bI (σ.2.2.2 1 b)) i1 1)))) 208 (.inl (K 0, 8, .inl (upd (σ.2.1 10) i1 (nI (σ.1 1)))))) := by
            unfold s_run
            refine ⟨FA, FT, FS, FO, ?_, ?_, ?_, ?_, ?_, ?_, ?_, ?_, ?_, ?_, ?_, ?_, ?_, ?_, ?_, ?_, ?_, ?_, ?_, ?_, ?_, ?_, ?_, ?_, ?_⟩
            · simp (disch := omega) only [pN, pI, pL, pZ, row_eq, row_ne, xu_eq, xu_ne, xa_eq, xa_ne, pk_us, pk_un, pk_uLs, pk_uLn, hfw, hz1, m200]
            · simp (disch := omega) only [pN, pI, pL, pZ, row_eq, row_ne, xu_eq, xu_ne, xa_eq, xa_ne, pk_us, pk_un, pk_uLs, pk_uLn, hfw, hz1, m203]
            · simp (disch := omega) only [pN, pI, pL, pZ, row_eq, row_ne, xu_eq, xu_ne, xa_eq, xa_ne, pk_us, pk_un, pk_uLs, pk_uLn, hfw, hz1, m204]
            · simp (disch := omega) only [pN, pI, pL, pZ, row_eq, row_ne, xu_eq, xu_ne, xa_eq, xa_ne, pk_us, pk_un, pk_uLs, pk_uLn, hfw, hz1, m205]
            · simp (disch := omega) only [pN, pI, pL, pZ, row_eq, row_ne, xu_eq, xu_ne, xa_eq, xa_ne, pk_us, pk_un, pk_uLs, pk_uLn, hfw, hz1, m206]
            · simp (disch := omega) only [pN, pI, pL, pZ, row_eq, row_ne, xu_eq, xu_ne, xa_eq, xa_ne, pk_us, pk_un, pk_uLs, pk_uLn, hfw, hz1, m207]
            · simp (disch := omega) only [pN, pI, pL, pZ, row_eq, row_ne, xu_eq, xu_ne, xa_eq, xa_ne, pk_us, pk_un, pk_uLs, pk_uLn, hfw, hz1, m208]
            · simp (disch := omega) only [pN, pI, pL, pZ, row_eq, row_ne, xu_eq, xu_ne, xa_eq, xa_ne, pk_us, pk_un, pk_uLs, pk_uLn, hfw, hz1, m209]
            · simp (disch := omega) only [pN, pI, pL, pZ, row_eq, row_ne, xu_eq, xu_ne, xa_eq, xa_ne, pk_us, pk_un, pk_uLs, pk_uLn, hfw, hz1, m210]
            · simp (disch := omega) only [pN, pI, pL, pZ, row_eq, row_ne, xu_eq, xu_ne, xa_eq, xa_ne, pk_us, pk_un, pk_uLs, pk_uLn, hfw, hz1, m212]
            · simp (disch := omega) only [pN, pI, pL, pZ, row_eq, row_ne, xu_eq, xu_ne, xa_eq, xa_ne, pk_us, pk_un, pk_uLs, pk_uLn, hfw, hz1, m213]
            · simp (disch := omega) only [pN, pI, pL, pZ, row_eq, row_ne, xu_eq, xu_ne, xa_eq, xa_ne, pk_us, pk_un, pk_uLs, pk_uLn, hfw, hz1, m214]
            · simp (disch := omega) only [pN, pI, pL, pZ, row_eq, row_ne, xu_eq, xu_ne, xa_eq, xa_ne, pk_us, pk_un, pk_uLs, pk_uLn, hfw, hz1, m215]
            · simp (disch := omega) only [pN, pI, pL, pZ, row_eq, row_ne, xu_eq, xu_ne, xa_eq, xa_ne, pk_us, pk_un, pk_uLs, pk_uLn, hfw, hz1, m216]
            · simp (disch := omega) only [pN, pI, pL, pZ, row_eq, row_ne, xu_eq, xu_ne, xa_eq, xa_ne, pk_us, pk_un, pk_uLs, pk_uLn, hfw, hz1, m217]
            · simp (disch := omega) only [pN, pI, pL, pZ, row_eq, row_ne, xu_eq, xu_ne, xa_eq, xa_ne, pk_us, pk_un, pk_uLs, pk_uLn, hfw, hz1, m218]
            · simp (disch := omega) only [pN, pI, pL, pZ, row_eq, row_ne, xu_eq, xu_ne, xa_eq, xa_ne, pk_us, pk_un, pk_uLs, pk_uLn, hfw, hz1, m220]
            · simp (disch := omega) only [pN, pI, pL, pZ, row_eq, row_ne, xu_eq, xu_ne, xa_eq, xa_ne, pk_us, pk_un, pk_uLs, pk_uLn, hfw, hz1, m223]
            · simp (disch := omega) only [pN, pI, pL, pZ, row_eq, row_ne, xu_eq, xu_ne, xa_eq, xa_ne, pk_us, pk_un, pk_uLs, pk_uLn, hfw, hz1, m224]
            · simp (disch := omega) only [pN, pI, pL, pZ, row_eq, row_ne, xu_eq, xu_ne, xa_eq, xa_ne, pk_us, pk_un, pk_uLs, pk_uLn, hfw, hz1, m225]
            · simp (disch := omega) only [pN, pI, pL, pZ, row_eq, row_ne, xu_eq, xu_ne, xa_eq, xa_ne, pk_us, pk_un, pk_uLs, pk_uLn, hfw, hz1, m226]
            · exact hFA
            · exact hFT
            · exact hFS
            · intro b q hb hq; simp (disch := omega) only [pN, pI, pL, pZ, row_eq, row_ne, xu_eq, xu_ne, xa_eq, xa_ne, pk_us, pk_un, pk_uLs, pk_uLn, hfw, hz1]; exact hFO b q hb hq
          have hf : f_run σ (nI i1) = (s_run σ Lt i1, nI (σ.1 1)) := by simp [f_run, opt_n, opt_s, fi1, c_6, c_8, c_9, hLt]
          exact W.iret (v := nI (σ.1 1)) hx hb hr (fun t ht _ => ⟨_, rfl, by rw [hf, ht]; exact ⟨rfl, _, hw, hRep, fun t h2 => by simp (disch := omega) only [xu_ne, hfw, hz1]⟩, hS.F ht⟩) hS.2.2 d_M_run_224
        · have c_9 : ¬ (σ.1 1) ≤ n := fun z => c_9 ((nLE (a := σ.1 1) (b := n) (by omega) (by omega)).mpr z)
          refine lv_lconst (v := 0) hx hb d_M_run_38 (by decide) ?_
          refine lv_lstore_n (lv' := [(3, .long 0), (2, .int (nI n)), (0, .ref (ad 200)), (1, .int (nI i1))]) hx hb d_M_run_39 rfl hl (by decide) rfl (fun ls hl => ?_)
          refine lv_iconst (v := 0) hx hb d_M_run_40 (by decide) ?_
          refine lv_istore (lv' := [(5, .int 0), (3, .long 0), (2, .int (nI n)), (0, .ref (ad 200)), (1, .int (nI i1))]) hx hb d_M_run_41 hl (by decide) rfl (fun ls hl => ?_)
          refine lv_iload hx hb d_M_run_43 (lv_at hl 0 rfl) ?_
          refine lv_iconst (v := 4) hx hb d_M_run_45 (by decide) ?_
          refine lv_icmp_ge (tgt := 159) hx hb d_M_run_46 (by decide) (fun c_10 => absurd c_10 (by decide)) (fun c_10 => ?_)
          refine xjoin 75 [.int (thou σ n 0)] ?_ (fun hj => ?_)
          · refine lv_istore (lv' := [(6, .int (thou σ n 0)), (5, .int 0), (3, .long 0), (2, .int (nI n)), (0, .ref (ad 200)), (1, .int (nI i1))]) hx hb d_M_run_75 hl (by decide) rfl (fun ls hl => ?_)
            refine lv_aload_n hx hb d_M_run_77 rfl (lv_at hl 4 rfl) ?_
            refine xr_get (ci := 5) (v := .ref (ad 209)) (C := R_M) (T := T_M) (N := 26) hx hb htw in_M hown hK hw 200 m200 rfl rfl 8 (by decide) (htw _ u_342) (fun _ h9 => h9) rfl d_M_run_78 ?_
            refine lv_iconst (v := 4) hx hb d_M_run_81 (by decide) ?_
            refine lv_iload_n hx hb d_M_run_82 rfl (lv_at hl 5 rfl) ?_
            refine lv_imul hx hb d_M_run_83 ?_
            refine lv_iload hx hb d_M_run_84 (lv_at hl 1 rfl) ?_
            refine lv_iadd hx hb d_M_run_86 ?_
            refine xr_lald (i := (4 * (nI i1)) + 0) hx hb hK hw 209 1 m209 rfl rfl (xvin (a := 4 * i1) (xadd (a := 4 * i1) (b := 0) (xmul (a := 4) (b := i1) rfl rfl) rfl) (by omega) (by omega)) d_M_run_87 ?_
            refine lv_topl (fun x_11 ex_11 => ?_)
            obtain rfl : x_11 = Lt (10 + i1) 0 := ex_11.trans ((congrArg FA ((xcl (a := 4 * i1) (xadd (a := 4 * i1) (b := 0) (xmul (a := 4) (b := i1) rfl rfl) rfl) (by omega)).trans (show 4 * i1 = 4 * i1 + 0 by omega))).trans (hFA i1 0 (by omega) (by omega)))
            refine lv_iload hx hb d_M_run_88 (lv_at hl 0 rfl) ?_
            refine lv_i2l hx hb d_M_run_90 rfl ?_
            refine lv_lmul hx hb d_M_run_91 ?_
            refine lv_ldc2 (v := 1000) hx hb hown (htw _ u_456) d_M_run_92 ?_
            refine lv_ldiv hx hb d_M_run_95 (by decide) ?_
            refine lv_topl (fun x_12 ex_12 => ?_)
            obtain rfl : x_12 = pt (σ.1, σ.2.1, Lt, σ.2.2.2) i1 n 0 0 := ex_12
            refine lv_lstore (lv' := [(7, .long (pt (σ.1, σ.2.1, Lt, σ.2.2.2) i1 n 0 0)), (6, .int (thou σ n 0)), (5, .int 0), (3, .long 0), (2, .int (nI n)), (0, .ref (ad 200)), (1, .int (nI i1))]) hx hb d_M_run_96 hl (by decide) rfl (fun ls hl => ?_)
            refine lv_aload_n hx hb d_M_run_98 rfl (lv_at hl 5 rfl) ?_
            refine xr_get (ci := 5) (v := .ref (ad 209)) (C := R_M) (T := T_M) (N := 26) hx hb htw in_M hown hK hw 200 m200 rfl rfl 8 (by decide) (htw _ u_342) (fun _ h9 => h9) rfl d_M_run_99 ?_
            refine lv_iconst (v := 4) hx hb d_M_run_102 (by decide) ?_
            refine lv_iload_n hx hb d_M_run_103 rfl (lv_at hl 6 rfl) ?_
            refine lv_imul hx hb d_M_run_104 ?_
            refine lv_iload hx hb d_M_run_105 (lv_at hl 2 rfl) ?_
            refine lv_iadd hx hb d_M_run_107 ?_
            refine lv_dup2_11 hx hb d_M_run_108 rfl rfl ?_
            refine xr_lald (i := (4 * (nI i1)) + 0) hx hb hK hw 209 1 m209 rfl rfl (xvin (a := 4 * i1) (xadd (a := 4 * i1) (b := 0) (xmul (a := 4) (b := i1) rfl rfl) rfl) (by omega) (by omega)) d_M_run_109 ?_
            refine lv_topl (fun x_13 ex_13 => ?_)
            obtain rfl : x_13 = Lt (10 + i1) 0 := ex_13.trans ((congrArg FA ((xcl (a := 4 * i1) (xadd (a := 4 * i1) (b := 0) (xmul (a := 4) (b := i1) rfl rfl) rfl) (by omega)).trans (show 4 * i1 = 4 * i1 + 0 by omega))).trans (hFA i1 0 (by omega) (by omega)))
            refine lv_lload hx hb d_M_run_110 (lv_at hl 0 rfl) ?_
            refine lv_lsub hx hb d_M_run_112 ?_
            refine xr_last (i := (4 * (nI i1)) + 0) hx hb hK hw hS 209 1 m209 rfl rfl (xvin (a := 4 * i1) (xadd (a := 4 * i1) (b := 0) (xmul (a := 4) (b := i1) rfl rfl) rfl) (by omega) (by omega)) d_M_run_113 (fun H locs hw hS => ?_)
            rw [show ((4 * (nI i1)) + 0).toNatClampNeg = 4 * i1 + 0 from (xcl (a := 4 * i1) (xadd (a := 4 * i1) (b := 0) (xmul (a := 4) (b := i1) rfl rfl) rfl) (by omega)).trans (show 4 * i1 = 4 * i1 + 0 by omega)] at hw
            have hw : xw D vwCl B ad (xu w1 209 (.inl (K 1, 32, .inr (.inl (vp_updL FA (4 * i1 + 0) ((Lt (10 + i1) 0) - (pt (σ.1, σ.2.1, Lt, σ.2.2.2) i1 n 0 0))))))) H := hw
            refine lv_aload_n hx hb d_M_run_114 rfl (lv_at hl 5 rfl) ?_
            refine xr_get (ci := 5) (v := .ref (ad 210)) (C := R_M) (T := T_M) (N := 26) hx hb htw in_M hown hK hw 200 ((xu_ne (by omega)).trans (m200)) rfl rfl 9 (by decide) (htw _ u_343) (fun _ h9 => h9) rfl d_M_run_115 ?_
            refine lv_bipush (v := 24) hx hb d_M_run_118 (by decide) ?_
            refine lv_iload_n hx hb d_M_run_120 rfl (lv_at hl 6 rfl) ?_
            refine lv_imul hx hb d_M_run_121 ?_
            refine lv_iconst (v := 4) hx hb d_M_run_122 (by decide) ?_
            refine lv_iload_n hx hb d_M_run_123 rfl (lv_at hl 4 rfl) ?_
            refine lv_imul hx hb d_M_run_124 ?_
            refine lv_iadd hx hb d_M_run_125 ?_
            refine lv_iload hx hb d_M_run_126 (lv_at hl 2 rfl) ?_
            refine lv_iadd hx hb d_M_run_128 ?_
            refine lv_lload hx hb d_M_run_129 (lv_at hl 0 rfl) ?_
            refine xr_last (i := ((24 * (nI i1)) + (4 * (nI n))) + 0) hx hb hK hw hS 210 1 ((xu_ne (by omega)).trans (m210)) rfl rfl (xvin (a := (24 * i1) + (4 * n)) (xadd (a := (24 * i1) + (4 * n)) (b := 0) (xadd (a := 24 * i1) (b := 4 * n) (xmul (a := 24) (b := i1) rfl rfl) (xmul (a := 4) (b := n) rfl rfl)) rfl) (by omega) (by omega)) d_M_run_131 (fun H locs hw hS => ?_)
            rw [show (((24 * (nI i1)) + (4 * (nI n))) + 0).toNatClampNeg = 24 * i1 + (n * 4 + 0) from (xcl (a := (24 * i1) + (4 * n)) (xadd (a := (24 * i1) + (4 * n)) (b := 0) (xadd (a := 24 * i1) (b := 4 * n) (xmul (a := 24) (b := i1) rfl rfl) (xmul (a := 4) (b := n) rfl rfl)) rfl) (by omega)).trans (show (24 * i1) + (4 * n) = 24 * i1 + (n * 4 + 0) by omega)] at hw
            have hw : xw D vwCl B ad (xu (xu w1 209 (.inl (K 1, 32, .inr (.inl (vp_updL FA (4 * i1 + 0) ((Lt (10 + i1) 0) - (pt (σ.1, σ.2.1, Lt, σ.2.2.2) i1 n 0 0))))))) 210 (.inl (K 1, 192, .inr (.inl (vp_updL FT (24 * i1 + (n * 4 + 0)) (pt (σ.1, σ.2.1, Lt, σ.2.2.2) i1 n 0 0)))))) H := hw
            refine lv_aload_n hx hb d_M_run_132 rfl (lv_at hl 5 rfl) ?_
            refine xr_get (ci := 5) (v := .ref (ad 215)) (C := R_M) (T := T_M) (N := 26) hx hb htw in_M hown hK hw 200 ((xu_ne (by omega)).trans ((xu_ne (by omega)).trans (m200))) rfl rfl 14 (by decide) (htw _ u_348) (fun _ h9 => h9) rfl d_M_run_133 ?_
            refine lv_iconst (v := 4) hx hb d_M_run_136 (by decide) ?_
            refine lv_iload_n hx hb d_M_run_137 rfl (lv_at hl 4 rfl) ?_
            refine lv_imul hx hb d_M_run_138 ?_
            refine lv_iload hx hb d_M_run_139 (lv_at hl 2 rfl) ?_
            refine lv_iadd hx hb d_M_run_141 ?_
            refine lv_dup2_11 hx hb d_M_run_142 rfl rfl ?_
            refine xr_lald (i := (4 * (nI n)) + 0) hx hb hK hw 215 1 ((xu_ne (by omega)).trans ((xu_ne (by omega)).trans (m215))) rfl rfl (xvin (a := 4 * n) (xadd (a := 4 * n) (b := 0) (xmul (a := 4) (b := n) rfl rfl) rfl) (by omega) (by omega)) d_M_run_143 ?_
            refine lv_topl (fun x_14 ex_14 => ?_)
            obtain rfl : x_14 = Lt (30 + n) 0 := ex_14.trans ((congrArg FS ((xcl (a := 4 * n) (xadd (a := 4 * n) (b := 0) (xmul (a := 4) (b := n) rfl rfl) rfl) (by omega)).trans (show 4 * n = 4 * n + 0 by omega))).trans (hFS n 0 (by omega) (by omega)))
            refine lv_lload hx hb d_M_run_144 (lv_at hl 0 rfl) ?_
            refine lv_ladd hx hb d_M_run_146 ?_
            refine xr_last (i := (4 * (nI n)) + 0) hx hb hK hw hS 215 1 ((xu_ne (by omega)).trans ((xu_ne (by omega)).trans (m215))) rfl rfl (xvin (a := 4 * n) (xadd (a := 4 * n) (b := 0) (xmul (a := 4) (b := n) rfl rfl) rfl) (by omega) (by omega)) d_M_run_147 (fun H locs hw hS => ?_)
            rw [show ((4 * (nI n)) + 0).toNatClampNeg = 4 * n + 0 from (xcl (a := 4 * n) (xadd (a := 4 * n) (b := 0) (xmul (a := 4) (b := n) rfl rfl) rfl) (by omega)).trans (show 4 * n = 4 * n + 0 by omega)] at hw
            have hw : xw D vwCl B ad (xu (xu (xu w1 209 (.inl (K 1, 32, .inr (.inl (vp_updL FA (4 * i1 + 0) ((Lt (10 + i1) 0) - (pt (σ.1, σ.2.1, Lt, σ.2.2.2) i1 n 0 0))))))) 210 (.inl (K 1, 192, .inr (.inl (vp_updL FT (24 * i1 + (n * 4 + 0)) (pt (σ.1, σ.2.1, Lt, σ.2.2.2) i1 n 0 0)))))) 215 (.inl (K 1, 24, .inr (.inl (vp_updL FS (4 * n + 0) ((Lt (30 + n) 0) + (pt (σ.1, σ.2.1, Lt, σ.2.2.2) i1 n 0 0))))))) H := hw
            refine lv_lload_n hx hb d_M_run_148 rfl (lv_at hl 3 rfl) ?_
            refine lv_lload hx hb d_M_run_149 (lv_at hl 0 rfl) ?_
            refine lv_ladd hx hb d_M_run_151 ?_
            refine lv_lstore_n (lv' := [(3, .long (0 + (pt (σ.1, σ.2.1, Lt, σ.2.2.2) i1 n 0 0))), (7, .long (pt (σ.1, σ.2.1, Lt, σ.2.2.2) i1 n 0 0)), (6, .int (thou σ n 0)), (5, .int 0), (2, .int (nI n)), (0, .ref (ad 200)), (1, .int (nI i1))]) hx hb d_M_run_152 rfl hl (by decide) rfl (fun ls hl => ?_)
            refine lv_iinc (v := 1) (lv' := [(5, .int 1), (3, .long (0 + (pt (σ.1, σ.2.1, Lt, σ.2.2.2) i1 n 0 0))), (7, .long (pt (σ.1, σ.2.1, Lt, σ.2.2.2) i1 n 0 0)), (6, .int (thou σ n 0)), (2, .int (nI n)), (0, .ref (ad 200)), (1, .int (nI i1))]) hx hb d_M_run_153 hl (k := 3) rfl (by decide) (by decide) rfl (fun ls hl => ?_)
            refine lv_goto (tgt := 43) hx hb d_M_run_156 (by decide) ?_
            refine lv_iload hx hb d_M_run_43 (lv_at hl 0 rfl) ?_
            refine lv_iconst (v := 4) hx hb d_M_run_45 (by decide) ?_
            refine lv_icmp_ge (tgt := 159) hx hb d_M_run_46 (by decide) (fun c_15 => absurd c_15 (by decide)) (fun c_15 => ?_)
            refine xjoin 75 [.int (thou σ n 1)] ?_ (fun hj => ?_)
            · refine lv_istore (lv' := [(6, .int (thou σ n 1)), (5, .int 1), (3, .long (0 + (pt (σ.1, σ.2.1, Lt, σ.2.2.2) i1 n 0 0))), (7, .long (pt (σ.1, σ.2.1, Lt, σ.2.2.2) i1 n 0 0)), (2, .int (nI n)), (0, .ref (ad 200)), (1, .int (nI i1))]) hx hb d_M_run_75 hl (by decide) rfl (fun ls hl => ?_)
              refine lv_aload_n hx hb d_M_run_77 rfl (lv_at hl 5 rfl) ?_
              refine xr_get (ci := 5) (v := .ref (ad 209)) (C := R_M) (T := T_M) (N := 26) hx hb htw in_M hown hK hw 200 ((xu_ne (by omega)).trans ((xu_ne (by omega)).trans ((xu_ne (by omega)).trans (m200)))) rfl rfl 8 (by decide) (htw _ u_342) (fun _ h9 => h9) rfl d_M_run_78 ?_
              refine lv_iconst (v := 4) hx hb d_M_run_81 (by decide) ?_
              refine lv_iload_n hx hb d_M_run_82 rfl (lv_at hl 6 rfl) ?_
              refine lv_imul hx hb d_M_run_83 ?_
              refine lv_iload hx hb d_M_run_84 (lv_at hl 1 rfl) ?_
              refine lv_iadd hx hb d_M_run_86 ?_
              refine xr_lald (i := (4 * (nI i1)) + 1) hx hb hK hw 209 1 ((xu_ne (by omega)).trans ((xu_ne (by omega)).trans (xu_eq))) rfl rfl (xvin (a := (4 * i1) + 1) (xadd (a := 4 * i1) (b := 1) (xmul (a := 4) (b := i1) rfl rfl) rfl) (by omega) (by omega)) d_M_run_87 ?_
              refine lv_topl (fun x_16 ex_16 => ?_)
              obtain rfl : x_16 = Lt (10 + i1) 1 := ex_16.trans ((congrArg (vp_updL FA (4 * i1 + 0) ((Lt (10 + i1) 0) - (pt (σ.1, σ.2.1, Lt, σ.2.2.2) i1 n 0 0))) ((xcl (a := (4 * i1) + 1) (xadd (a := 4 * i1) (b := 1) (xmul (a := 4) (b := i1) rfl rfl) rfl) (by omega)).trans (show (4 * i1) + 1 = 4 * i1 + 1 by omega))).trans ((pk_uLn (show 4 * i1 + 1 ≠ 4 * i1 + 0 by omega)).trans (hFA i1 1 (by omega) (by omega))))
              refine lv_iload hx hb d_M_run_88 (lv_at hl 0 rfl) ?_
              refine lv_i2l hx hb d_M_run_90 rfl ?_
              refine lv_lmul hx hb d_M_run_91 ?_
              refine lv_ldc2 (v := 1000) hx hb hown (htw _ u_456) d_M_run_92 ?_
              refine lv_ldiv hx hb d_M_run_95 (by decide) ?_
              refine lv_topl (fun x_17 ex_17 => ?_)
              obtain rfl : x_17 = pt (σ.1, σ.2.1, Lt, σ.2.2.2) i1 n 1 1 := ex_17
              refine lv_lstore (lv' := [(7, .long (pt (σ.1, σ.2.1, Lt, σ.2.2.2) i1 n 1 1)), (6, .int (thou σ n 1)), (5, .int 1), (3, .long (0 + (pt (σ.1, σ.2.1, Lt, σ.2.2.2) i1 n 0 0))), (2, .int (nI n)), (0, .ref (ad 200)), (1, .int (nI i1))]) hx hb d_M_run_96 hl (by decide) rfl (fun ls hl => ?_)
              refine lv_aload_n hx hb d_M_run_98 rfl (lv_at hl 5 rfl) ?_
              refine xr_get (ci := 5) (v := .ref (ad 209)) (C := R_M) (T := T_M) (N := 26) hx hb htw in_M hown hK hw 200 ((xu_ne (by omega)).trans ((xu_ne (by omega)).trans ((xu_ne (by omega)).trans (m200)))) rfl rfl 8 (by decide) (htw _ u_342) (fun _ h9 => h9) rfl d_M_run_99 ?_
              refine lv_iconst (v := 4) hx hb d_M_run_102 (by decide) ?_
              refine lv_iload_n hx hb d_M_run_103 rfl (lv_at hl 6 rfl) ?_
              refine lv_imul hx hb d_M_run_104 ?_
              refine lv_iload hx hb d_M_run_105 (lv_at hl 2 rfl) ?_
              refine lv_iadd hx hb d_M_run_107 ?_
              refine lv_dup2_11 hx hb d_M_run_108 rfl rfl ?_
              refine xr_lald (i := (4 * (nI i1)) + 1) hx hb hK hw 209 1 ((xu_ne (by omega)).trans ((xu_ne (by omega)).trans (xu_eq))) rfl rfl (xvin (a := (4 * i1) + 1) (xadd (a := 4 * i1) (b := 1) (xmul (a := 4) (b := i1) rfl rfl) rfl) (by omega) (by omega)) d_M_run_109 ?_
              refine lv_topl (fun x_18 ex_18 => ?_)
              obtain rfl : x_18 = Lt (10 + i1) 1 := ex_18.trans ((congrArg (vp_updL FA (4 * i1 + 0) ((Lt (10 + i1) 0) - (pt (σ.1, σ.2.1, Lt, σ.2.2.2) i1 n 0 0))) ((xcl (a := (4 * i1) + 1) (xadd (a := 4 * i1) (b := 1) (xmul (a := 4) (b := i1) rfl rfl) rfl) (by omega)).trans (show (4 * i1) + 1 = 4 * i1 + 1 by omega))).trans ((pk_uLn (show 4 * i1 + 1 ≠ 4 * i1 + 0 by omega)).trans (hFA i1 1 (by omega) (by omega))))
              refine lv_lload hx hb d_M_run_110 (lv_at hl 0 rfl) ?_
              refine lv_lsub hx hb d_M_run_112 ?_
              refine xr_last (i := (4 * (nI i1)) + 1) hx hb hK hw hS 209 1 ((xu_ne (by omega)).trans ((xu_ne (by omega)).trans (xu_eq))) rfl rfl (xvin (a := (4 * i1) + 1) (xadd (a := 4 * i1) (b := 1) (xmul (a := 4) (b := i1) rfl rfl) rfl) (by omega) (by omega)) d_M_run_113 (fun H locs hw hS => ?_)
              rw [show ((4 * (nI i1)) + 1).toNatClampNeg = 4 * i1 + 1 from (xcl (a := (4 * i1) + 1) (xadd (a := 4 * i1) (b := 1) (xmul (a := 4) (b := i1) rfl rfl) rfl) (by omega)).trans (show (4 * i1) + 1 = 4 * i1 + 1 by omega)] at hw
              have hw : xw D vwCl B ad (xu (xu (xu (xu w1 209 (.inl (K 1, 32, .inr (.inl (vp_updL FA (4 * i1 + 0) ((Lt (10 + i1) 0) - (pt (σ.1, σ.2.1, Lt, σ.2.2.2) i1 n 0 0))))))) 210 (.inl (K 1, 192, .inr (.inl (vp_updL FT (24 * i1 + (n * 4 + 0)) (pt (σ.1, σ.2.1, Lt, σ.2.2.2) i1 n 0 0)))))) 215 (.inl (K 1, 24, .inr (.inl (vp_updL FS (4 * n + 0) ((Lt (30 + n) 0) + (pt (σ.1, σ.2.1, Lt, σ.2.2.2) i1 n 0 0))))))) 209 (.inl (K 1, 32, .inr (.inl (vp_updL (vp_updL FA (4 * i1 + 0) ((Lt (10 + i1) 0) - (pt (σ.1, σ.2.1, Lt, σ.2.2.2) i1 n 0 0))) (4 * i1 + 1) ((Lt (10 + i1) 1) - (pt (σ.1, σ.2.1, Lt, σ.2.2.2) i1 n 1 1))))))) H := hw
              refine lv_aload_n hx hb d_M_run_114 rfl (lv_at hl 5 rfl) ?_
              refine xr_get (ci := 5) (v := .ref (ad 210)) (C := R_M) (T := T_M) (N := 26) hx hb htw in_M hown hK hw 200 ((xu_ne (by omega)).trans ((xu_ne (by omega)).trans ((xu_ne (by omega)).trans ((xu_ne (by omega)).trans (m200))))) rfl rfl 9 (by decide) (htw _ u_343) (fun _ h9 => h9) rfl d_M_run_115 ?_
              refine lv_bipush (v := 24) hx hb d_M_run_118 (by decide) ?_
              refine lv_iload_n hx hb d_M_run_120 rfl (lv_at hl 6 rfl) ?_
              refine lv_imul hx hb d_M_run_121 ?_
              refine lv_iconst (v := 4) hx hb d_M_run_122 (by decide) ?_
              refine lv_iload_n hx hb d_M_run_123 rfl (lv_at hl 4 rfl) ?_
              refine lv_imul hx hb d_M_run_124 ?_
              refine lv_iadd hx hb d_M_run_125 ?_
              refine lv_iload hx hb d_M_run_126 (lv_at hl 2 rfl) ?_
              refine lv_iadd hx hb d_M_run_128 ?_
              refine lv_lload hx hb d_M_run_129 (lv_at hl 0 rfl) ?_
              refine xr_last (i := ((24 * (nI i1)) + (4 * (nI n))) + 1) hx hb hK hw hS 210 1 ((xu_ne (by omega)).trans ((xu_ne (by omega)).trans (xu_eq))) rfl rfl (xvin (a := ((24 * i1) + (4 * n)) + 1) (xadd (a := (24 * i1) + (4 * n)) (b := 1) (xadd (a := 24 * i1) (b := 4 * n) (xmul (a := 24) (b := i1) rfl rfl) (xmul (a := 4) (b := n) rfl rfl)) rfl) (by omega) (by omega)) d_M_run_131 (fun H locs hw hS => ?_)
              rw [show (((24 * (nI i1)) + (4 * (nI n))) + 1).toNatClampNeg = 24 * i1 + (n * 4 + 1) from (xcl (a := ((24 * i1) + (4 * n)) + 1) (xadd (a := (24 * i1) + (4 * n)) (b := 1) (xadd (a := 24 * i1) (b := 4 * n) (xmul (a := 24) (b := i1) rfl rfl) (xmul (a := 4) (b := n) rfl rfl)) rfl) (by omega)).trans (show ((24 * i1) + (4 * n)) + 1 = 24 * i1 + (n * 4 + 1) by omega)] at hw
              have hw : xw D vwCl B ad (xu (xu (xu (xu (xu w1 209 (.inl (K 1, 32, .inr (.inl (vp_updL FA (4 * i1 + 0) ((Lt (10 + i1) 0) - (pt (σ.1, σ.2.1, Lt, σ.2.2.2) i1 n 0 0))))))) 210 (.inl (K 1, 192, .inr (.inl (vp_updL FT (24 * i1 + (n * 4 + 0)) (pt (σ.1, σ.2.1, Lt, σ.2.2.2) i1 n 0 0)))))) 215 (.inl (K 1, 24, .inr (.inl (vp_updL FS (4 * n + 0) ((Lt (30 + n) 0) + (pt (σ.1, σ.2.1, Lt, σ.2.2.2) i1 n 0 0))))))) 209 (.inl (K 1, 32, .inr (.inl (vp_updL (vp_updL FA (4 * i1 + 0) ((Lt (10 + i1) 0) - (pt (σ.1, σ.2.1, Lt, σ.2.2.2) i1 n 0 0))) (4 * i1 + 1) ((Lt (10 + i1) 1) - (pt (σ.1, σ.2.1, Lt, σ.2.2.2) i1 n 1 1))))))) 210 (.inl (K 1, 192, .inr (.inl (vp_updL (vp_updL FT (24 * i1 + (n * 4 + 0)) (pt (σ.1, σ.2.1, Lt, σ.2.2.2) i1 n 0 0)) (24 * i1 + (n * 4 + 1)) (pt (σ.1, σ.2.1, Lt, σ.2.2.2) i1 n 1 1)))))) H := hw
              refine lv_aload_n hx hb d_M_run_132 rfl (lv_at hl 5 rfl) ?_
              refine xr_get (ci := 5) (v := .ref (ad 215)) (C := R_M) (T := T_M) (N := 26) hx hb htw in_M hown hK hw 200 ((xu_ne (by omega)).trans ((xu_ne (by omega)).trans ((xu_ne (by omega)).trans ((xu_ne (by omega)).trans ((xu_ne (by omega)).trans (m200)))))) rfl rfl 14 (by decide) (htw _ u_348) (fun _ h9 => h9) rfl d_M_run_133 ?_
              refine lv_iconst (v := 4) hx hb d_M_run_136 (by decide) ?_
              refine lv_iload_n hx hb d_M_run_137 rfl (lv_at hl 4 rfl) ?_
              refine lv_imul hx hb d_M_run_138 ?_
              refine lv_iload hx hb d_M_run_139 (lv_at hl 2 rfl) ?_
              refine lv_iadd hx hb d_M_run_141 ?_
              refine lv_dup2_11 hx hb d_M_run_142 rfl rfl ?_
              refine xr_lald (i := (4 * (nI n)) + 1) hx hb hK hw 215 1 ((xu_ne (by omega)).trans ((xu_ne (by omega)).trans (xu_eq))) rfl rfl (xvin (a := (4 * n) + 1) (xadd (a := 4 * n) (b := 1) (xmul (a := 4) (b := n) rfl rfl) rfl) (by omega) (by omega)) d_M_run_143 ?_
              refine lv_topl (fun x_19 ex_19 => ?_)
              obtain rfl : x_19 = Lt (30 + n) 1 := ex_19.trans ((congrArg (vp_updL FS (4 * n + 0) ((Lt (30 + n) 0) + (pt (σ.1, σ.2.1, Lt, σ.2.2.2) i1 n 0 0))) ((xcl (a := (4 * n) + 1) (xadd (a := 4 * n) (b := 1) (xmul (a := 4) (b := n) rfl rfl) rfl) (by omega)).trans (show (4 * n) + 1 = 4 * n + 1 by omega))).trans ((pk_uLn (show 4 * n + 1 ≠ 4 * n + 0 by omega)).trans (hFS n 1 (by omega) (by omega))))
              refine lv_lload hx hb d_M_run_144 (lv_at hl 0 rfl) ?_
              refine lv_ladd hx hb d_M_run_146 ?_
              refine xr_last (i := (4 * (nI n)) + 1) hx hb hK hw hS 215 1 ((xu_ne (by omega)).trans ((xu_ne (by omega)).trans (xu_eq))) rfl rfl (xvin (a := (4 * n) + 1) (xadd (a := 4 * n) (b := 1) (xmul (a := 4) (b := n) rfl rfl) rfl) (by omega) (by omega)) d_M_run_147 (fun H locs hw hS => ?_)
              rw [show ((4 * (nI n)) + 1).toNatClampNeg = 4 * n + 1 from (xcl (a := (4 * n) + 1) (xadd (a := 4 * n) (b := 1) (xmul (a := 4) (b := n) rfl rfl) rfl) (by omega)).trans (show (4 * n) + 1 = 4 * n + 1 by omega)] at hw
              have hw : xw D vwCl B ad (xu (xu (xu (xu (xu (xu w1 209 (.inl (K 1, 32, .inr (.inl (vp_updL FA (4 * i1 + 0) ((Lt (10 + i1) 0) - (pt (σ.1, σ.2.1, Lt, σ.2.2.2) i1 n 0 0))))))) 210 (.inl (K 1, 192, .inr (.inl (vp_updL FT (24 * i1 + (n * 4 + 0)) (pt (σ.1, σ.2.1, Lt, σ.2.2.2) i1 n 0 0)))))) 215 (.inl (K 1, 24, .inr (.inl (vp_updL FS (4 * n + 0) ((Lt (30 + n) 0) + (pt (σ.1, σ.2.1, Lt, σ.2.2.2) i1 n 0 0))))))) 209 (.inl (K 1, 32, .inr (.inl (vp_updL (vp_updL FA (4 * i1 + 0) ((Lt (10 + i1) 0) - (pt (σ.1, σ.2.1, Lt, σ.2.2.2) i1 n 0 0))) (4 * i1 + 1) ((Lt (10 + i1) 1) - (pt (σ.1, σ.2.1, Lt, σ.2.2.2) i1 n 1 1))))))) 210 (.inl (K 1, 192, .inr (.inl (vp_updL (vp_updL FT (24 * i1 + (n * 4 + 0)) (pt (σ.1, σ.2.1, Lt, σ.2.2.2) i1 n 0 0)) (24 * i1 + (n * 4 + 1)) (pt (σ.1, σ.2.1, Lt, σ.2.2.2) i1 n 1 1)))))) 215 (.inl (K 1, 24, .inr (.inl (vp_updL (vp_updL FS (4 * n + 0) ((Lt (30 + n) 0) + (pt (σ.1, σ.2.1, Lt, σ.2.2.2) i1 n 0 0))) (4 * n + 1) ((Lt (30 + n) 1) + (pt (σ.1, σ.2.1, Lt, σ.2.2.2) i1 n 1 1))))))) H := hw
              refine lv_lload_n hx hb d_M_run_148 rfl (lv_at hl 3 rfl) ?_
              refine lv_lload hx hb d_M_run_149 (lv_at hl 0 rfl) ?_
              refine lv_ladd hx hb d_M_run_151 ?_
              refine lv_lstore_n (lv' := [(3, .long ((0 + (pt (σ.1, σ.2.1, Lt, σ.2.2.2) i1 n 0 0)) + (pt (σ.1, σ.2.1, Lt, σ.2.2.2) i1 n 1 1))), (7, .long (pt (σ.1, σ.2.1, Lt, σ.2.2.2) i1 n 1 1)), (6, .int (thou σ n 1)), (5, .int 1), (2, .int (nI n)), (0, .ref (ad 200)), (1, .int (nI i1))]) hx hb d_M_run_152 rfl hl (by decide) rfl (fun ls hl => ?_)
              refine lv_iinc (v := 2) (lv' := [(5, .int 2), (3, .long ((0 + (pt (σ.1, σ.2.1, Lt, σ.2.2.2) i1 n 0 0)) + (pt (σ.1, σ.2.1, Lt, σ.2.2.2) i1 n 1 1))), (7, .long (pt (σ.1, σ.2.1, Lt, σ.2.2.2) i1 n 1 1)), (6, .int (thou σ n 1)), (2, .int (nI n)), (0, .ref (ad 200)), (1, .int (nI i1))]) hx hb d_M_run_153 hl (k := 3) rfl (by decide) (by decide) rfl (fun ls hl => ?_)
              refine lv_goto (tgt := 43) hx hb d_M_run_156 (by decide) ?_
              refine lv_iload hx hb d_M_run_43 (lv_at hl 0 rfl) ?_
              refine lv_iconst (v := 4) hx hb d_M_run_45 (by decide) ?_
              refine lv_icmp_ge (tgt := 159) hx hb d_M_run_46 (by decide) (fun c_20 => absurd c_20 (by decide)) (fun c_20 => ?_)
              refine xjoin 75 [.int (thou σ n 2)] ?_ (fun hj => ?_)
              · refine lv_istore (lv' := [(6, .int (thou σ n 2)), (5, .int 2), (3, .long ((0 + (pt (σ.1, σ.2.1, Lt, σ.2.2.2) i1 n 0 0)) + (pt (σ.1, σ.2.1, Lt, σ.2.2.2) i1 n 1 1))), (7, .long (pt (σ.1, σ.2.1, Lt, σ.2.2.2) i1 n 1 1)), (2, .int (nI n)), (0, .ref (ad 200)), (1, .int (nI i1))]) hx hb d_M_run_75 hl (by decide) rfl (fun ls hl => ?_)
                refine lv_aload_n hx hb d_M_run_77 rfl (lv_at hl 5 rfl) ?_
                refine xr_get (ci := 5) (v := .ref (ad 209)) (C := R_M) (T := T_M) (N := 26) hx hb htw in_M hown hK hw 200 ((xu_ne (by omega)).trans ((xu_ne (by omega)).trans ((xu_ne (by omega)).trans ((xu_ne (by omega)).trans ((xu_ne (by omega)).trans ((xu_ne (by omega)).trans (m200))))))) rfl rfl 8 (by decide) (htw _ u_342) (fun _ h9 => h9) rfl d_M_run_78 ?_
                refine lv_iconst (v := 4) hx hb d_M_run_81 (by decide) ?_
                refine lv_iload_n hx hb d_M_run_82 rfl (lv_at hl 6 rfl) ?_
                refine lv_imul hx hb d_M_run_83 ?_
                refine lv_iload hx hb d_M_run_84 (lv_at hl 1 rfl) ?_
                refine lv_iadd hx hb d_M_run_86 ?_
                refine xr_lald (i := (4 * (nI i1)) + 2) hx hb hK hw 209 1 ((xu_ne (by omega)).trans ((xu_ne (by omega)).trans (xu_eq))) rfl rfl (xvin (a := (4 * i1) + 2) (xadd (a := 4 * i1) (b := 2) (xmul (a := 4) (b := i1) rfl rfl) rfl) (by omega) (by omega)) d_M_run_87 ?_
                refine lv_topl (fun x_21 ex_21 => ?_)
                obtain rfl : x_21 = Lt (10 + i1) 2 := ex_21.trans ((congrArg (vp_updL (vp_updL FA (4 * i1 + 0) ((Lt (10 + i1) 0) - (pt (σ.1, σ.2.1, Lt, σ.2.2.2) i1 n 0 0))) (4 * i1 + 1) ((Lt (10 + i1) 1) - (pt (σ.1, σ.2.1, Lt, σ.2.2.2) i1 n 1 1))) ((xcl (a := (4 * i1) + 2) (xadd (a := 4 * i1) (b := 2) (xmul (a := 4) (b := i1) rfl rfl) rfl) (by omega)).trans (show (4 * i1) + 2 = 4 * i1 + 2 by omega))).trans ((pk_uLn (show 4 * i1 + 2 ≠ 4 * i1 + 1 by omega)).trans ((pk_uLn (show 4 * i1 + 2 ≠ 4 * i1 + 0 by omega)).trans (hFA i1 2 (by omega) (by omega)))))
                refine lv_iload hx hb d_M_run_88 (lv_at hl 0 rfl) ?_
                refine lv_i2l hx hb d_M_run_90 rfl ?_
                refine lv_lmul hx hb d_M_run_91 ?_
                refine lv_ldc2 (v := 1000) hx hb hown (htw _ u_456) d_M_run_92 ?_
                refine lv_ldiv hx hb d_M_run_95 (by decide) ?_
                refine lv_topl (fun x_22 ex_22 => ?_)
                obtain rfl : x_22 = pt (σ.1, σ.2.1, Lt, σ.2.2.2) i1 n 2 2 := ex_22
                refine lv_lstore (lv' := [(7, .long (pt (σ.1, σ.2.1, Lt, σ.2.2.2) i1 n 2 2)), (6, .int (thou σ n 2)), (5, .int 2), (3, .long ((0 + (pt (σ.1, σ.2.1, Lt, σ.2.2.2) i1 n 0 0)) + (pt (σ.1, σ.2.1, Lt, σ.2.2.2) i1 n 1 1))), (2, .int (nI n)), (0, .ref (ad 200)), (1, .int (nI i1))]) hx hb d_M_run_96 hl (by decide) rfl (fun ls hl => ?_)
                refine lv_aload_n hx hb d_M_run_98 rfl (lv_at hl 5 rfl) ?_
                refine xr_get (ci := 5) (v := .ref (ad 209)) (C := R_M) (T := T_M) (N := 26) hx hb htw in_M hown hK hw 200 ((xu_ne (by omega)).trans ((xu_ne (by omega)).trans ((xu_ne (by omega)).trans ((xu_ne (by omega)).trans ((xu_ne (by omega)).trans ((xu_ne (by omega)).trans (m200))))))) rfl rfl 8 (by decide) (htw _ u_342) (fun _ h9 => h9) rfl d_M_run_99 ?_
                refine lv_iconst (v := 4) hx hb d_M_run_102 (by decide) ?_
                refine lv_iload_n hx hb d_M_run_103 rfl (lv_at hl 6 rfl) ?_
                refine lv_imul hx hb d_M_run_104 ?_
                refine lv_iload hx hb d_M_run_105 (lv_at hl 2 rfl) ?_
                refine lv_iadd hx hb d_M_run_107 ?_
                refine lv_dup2_11 hx hb d_M_run_108 rfl rfl ?_
                refine xr_lald (i := (4 * (nI i1)) + 2) hx hb hK hw 209 1 ((xu_ne (by omega)).trans ((xu_ne (by omega)).trans (xu_eq))) rfl rfl (xvin (a := (4 * i1) + 2) (xadd (a := 4 * i1) (b := 2) (xmul (a := 4) (b := i1) rfl rfl) rfl) (by omega) (by omega)) d_M_run_109 ?_
                refine lv_topl (fun x_23 ex_23 => ?_)
                obtain rfl : x_23 = Lt (10 + i1) 2 := ex_23.trans ((congrArg (vp_updL (vp_updL FA (4 * i1 + 0) ((Lt (10 + i1) 0) - (pt (σ.1, σ.2.1, Lt, σ.2.2.2) i1 n 0 0))) (4 * i1 + 1) ((Lt (10 + i1) 1) - (pt (σ.1, σ.2.1, Lt, σ.2.2.2) i1 n 1 1))) ((xcl (a := (4 * i1) + 2) (xadd (a := 4 * i1) (b := 2) (xmul (a := 4) (b := i1) rfl rfl) rfl) (by omega)).trans (show (4 * i1) + 2 = 4 * i1 + 2 by omega))).trans ((pk_uLn (show 4 * i1 + 2 ≠ 4 * i1 + 1 by omega)).trans ((pk_uLn (show 4 * i1 + 2 ≠ 4 * i1 + 0 by omega)).trans (hFA i1 2 (by omega) (by omega)))))
                refine lv_lload hx hb d_M_run_110 (lv_at hl 0 rfl) ?_
                refine lv_lsub hx hb d_M_run_112 ?_
                refine xr_last (i := (4 * (nI i1)) + 2) hx hb hK hw hS 209 1 ((xu_ne (by omega)).trans ((xu_ne (by omega)).trans (xu_eq))) rfl rfl (xvin (a := (4 * i1) + 2) (xadd (a := 4 * i1) (b := 2) (xmul (a := 4) (b := i1) rfl rfl) rfl) (by omega) (by omega)) d_M_run_113 (fun H locs hw hS => ?_)
                rw [show ((4 * (nI i1)) + 2).toNatClampNeg = 4 * i1 + 2 from (xcl (a := (4 * i1) + 2) (xadd (a := 4 * i1) (b := 2) (xmul (a := 4) (b := i1) rfl rfl) rfl) (by omega)).trans (show (4 * i1) + 2 = 4 * i1 + 2 by omega)] at hw
                have hw : xw D vwCl B ad (xu (xu (xu (xu (xu (xu (xu w1 209 (.inl (K 1, 32, .inr (.inl (vp_updL FA (4 * i1 + 0) ((Lt (10 + i1) 0) - (pt (σ.1, σ.2.1, Lt, σ.2.2.2) i1 n 0 0))))))) 210 (.inl (K 1, 192, .inr (.inl (vp_updL FT (24 * i1 + (n * 4 + 0)) (pt (σ.1, σ.2.1, Lt, σ.2.2.2) i1 n 0 0)))))) 215 (.inl (K 1, 24, .inr (.inl (vp_updL FS (4 * n + 0) ((Lt (30 + n) 0) + (pt (σ.1, σ.2.1, Lt, σ.2.2.2) i1 n 0 0))))))) 209 (.inl (K 1, 32, .inr (.inl (vp_updL (vp_updL FA (4 * i1 + 0) ((Lt (10 + i1) 0) - (pt (σ.1, σ.2.1, Lt, σ.2.2.2) i1 n 0 0))) (4 * i1 + 1) ((Lt (10 + i1) 1) - (pt (σ.1, σ.2.1, Lt, σ.2.2.2) i1 n 1 1))))))) 210 (.inl (K 1, 192, .inr (.inl (vp_updL (vp_updL FT (24 * i1 + (n * 4 + 0)) (pt (σ.1, σ.2.1, Lt, σ.2.2.2) i1 n 0 0)) (24 * i1 + (n * 4 + 1)) (pt (σ.1, σ.2.1, Lt, σ.2.2.2) i1 n 1 1)))))) 215 (.inl (K 1, 24, .inr (.inl (vp_updL (vp_updL FS (4 * n + 0) ((Lt (30 + n) 0) + (pt (σ.1, σ.2.1, Lt, σ.2.2.2) i1 n 0 0))) (4 * n + 1) ((Lt (30 + n) 1) + (pt (σ.1, σ.2.1, Lt, σ.2.2.2) i1 n 1 1))))))) 209 (.inl (K 1, 32, .inr (.inl (vp_updL (vp_updL (vp_updL FA (4 * i1 + 0) ((Lt (10 + i1) 0) - (pt (σ.1, σ.2.1, Lt, σ.2.2.2) i1 n 0 0))) (4 * i1 + 1) ((Lt (10 + i1) 1) - (pt (σ.1, σ.2.1, Lt, σ.2.2.2) i1 n 1 1))) (4 * i1 + 2) ((Lt (10 + i1) 2) - (pt (σ.1, σ.2.1, Lt, σ.2.2.2) i1 n 2 2))))))) H := hw
                refine lv_aload_n hx hb d_M_run_114 rfl (lv_at hl 5 rfl) ?_
                refine xr_get (ci := 5) (v := .ref (ad 210)) (C := R_M) (T := T_M) (N := 26) hx hb htw in_M hown hK hw 200 ((xu_ne (by omega)).trans ((xu_ne (by omega)).trans ((xu_ne (by omega)).trans ((xu_ne (by omega)).trans ((xu_ne (by omega)).trans ((xu_ne (by omega)).trans ((xu_ne (by omega)).trans (m200)))))))) rfl rfl 9 (by decide) (htw _ u_343) (fun _ h9 => h9) rfl d_M_run_115 ?_
                refine lv_bipush (v := 24) hx hb d_M_run_118 (by decide) ?_
                refine lv_iload_n hx hb d_M_run_120 rfl (lv_at hl 6 rfl) ?_
                refine lv_imul hx hb d_M_run_121 ?_
                refine lv_iconst (v := 4) hx hb d_M_run_122 (by decide) ?_
                refine lv_iload_n hx hb d_M_run_123 rfl (lv_at hl 4 rfl) ?_
                refine lv_imul hx hb d_M_run_124 ?_
                refine lv_iadd hx hb d_M_run_125 ?_
                refine lv_iload hx hb d_M_run_126 (lv_at hl 2 rfl) ?_
                refine lv_iadd hx hb d_M_run_128 ?_
                refine lv_lload hx hb d_M_run_129 (lv_at hl 0 rfl) ?_
                refine xr_last (i := ((24 * (nI i1)) + (4 * (nI n))) + 2) hx hb hK hw hS 210 1 ((xu_ne (by omega)).trans ((xu_ne (by omega)).trans (xu_eq))) rfl rfl (xvin (a := ((24 * i1) + (4 * n)) + 2) (xadd (a := (24 * i1) + (4 * n)) (b := 2) (xadd (a := 24 * i1) (b := 4 * n) (xmul (a := 24) (b := i1) rfl rfl) (xmul (a := 4) (b := n) rfl rfl)) rfl) (by omega) (by omega)) d_M_run_131 (fun H locs hw hS => ?_)
                rw [show (((24 * (nI i1)) + (4 * (nI n))) + 2).toNatClampNeg = 24 * i1 + (n * 4 + 2) from (xcl (a := ((24 * i1) + (4 * n)) + 2) (xadd (a := (24 * i1) + (4 * n)) (b := 2) (xadd (a := 24 * i1) (b := 4 * n) (xmul (a := 24) (b := i1) rfl rfl) (xmul (a := 4) (b := n) rfl rfl)) rfl) (by omega)).trans (show ((24 * i1) + (4 * n)) + 2 = 24 * i1 + (n * 4 + 2) by omega)] at hw
                have hw : xw D vwCl B ad (xu (xu (xu (xu (xu (xu (xu (xu w1 209 (.inl (K 1, 32, .inr (.inl (vp_updL FA (4 * i1 + 0) ((Lt (10 + i1) 0) - (pt (σ.1, σ.2.1, Lt, σ.2.2.2) i1 n 0 0))))))) 210 (.inl (K 1, 192, .inr (.inl (vp_updL FT (24 * i1 + (n * 4 + 0)) (pt (σ.1, σ.2.1, Lt, σ.2.2.2) i1 n 0 0)))))) 215 (.inl (K 1, 24, .inr (.inl (vp_updL FS (4 * n + 0) ((Lt (30 + n) 0) + (pt (σ.1, σ.2.1, Lt, σ.2.2.2) i1 n 0 0))))))) 209 (.inl (K 1, 32, .inr (.inl (vp_updL (vp_updL FA (4 * i1 + 0) ((Lt (10 + i1) 0) - (pt (σ.1, σ.2.1, Lt, σ.2.2.2) i1 n 0 0))) (4 * i1 + 1) ((Lt (10 + i1) 1) - (pt (σ.1, σ.2.1, Lt, σ.2.2.2) i1 n 1 1))))))) 210 (.inl (K 1, 192, .inr (.inl (vp_updL (vp_updL FT (24 * i1 + (n * 4 + 0)) (pt (σ.1, σ.2.1, Lt, σ.2.2.2) i1 n 0 0)) (24 * i1 + (n * 4 + 1)) (pt (σ.1, σ.2.1, Lt, σ.2.2.2) i1 n 1 1)))))) 215 (.inl (K 1, 24, .inr (.inl (vp_updL (vp_updL FS (4 * n + 0) ((Lt (30 + n) 0) + (pt (σ.1, σ.2.1, Lt, σ.2.2.2) i1 n 0 0))) (4 * n + 1) ((Lt (30 + n) 1) + (pt (σ.1, σ.2.1, Lt, σ.2.2.2) i1 n 1 1))))))) 209 (.inl (K 1, 32, .inr (.inl (vp_updL (vp_updL (vp_updL FA (4 * i1 + 0) ((Lt (10 + i1) 0) - (pt (σ.1, σ.2.1, Lt, σ.2.2.2) i1 n 0 0))) (4 * i1 + 1) ((Lt (10 + i1) 1) - (pt (σ.1, σ.2.1, Lt, σ.2.2.2) i1 n 1 1))) (4 * i1 + 2) ((Lt (10 + i1) 2) - (pt (σ.1, σ.2.1, Lt, σ.2.2.2) i1 n 2 2))))))) 210 (.inl (K 1, 192, .inr (.inl (vp_updL (vp_updL (vp_updL FT (24 * i1 + (n * 4 + 0)) (pt (σ.1, σ.2.1, Lt, σ.2.2.2) i1 n 0 0)) (24 * i1 + (n * 4 + 1)) (pt (σ.1, σ.2.1, Lt, σ.2.2.2) i1 n 1 1)) (24 * i1 + (n * 4 + 2)) (pt (σ.1, σ.2.1, Lt, σ.2.2.2) i1 n 2 2)))))) H := hw
                refine lv_aload_n hx hb d_M_run_132 rfl (lv_at hl 5 rfl) ?_
                refine xr_get (ci := 5) (v := .ref (ad 215)) (C := R_M) (T := T_M) (N := 26) hx hb htw in_M hown hK hw 200 ((xu_ne (by omega)).trans ((xu_ne (by omega)).trans ((xu_ne (by omega)).trans ((xu_ne (by omega)).trans ((xu_ne (by omega)).trans ((xu_ne (by omega)).trans ((xu_ne (by omega)).trans ((xu_ne (by omega)).trans (m200))))))))) rfl rfl 14 (by decide) (htw _ u_348) (fun _ h9 => h9) rfl d_M_run_133 ?_
                refine lv_iconst (v := 4) hx hb d_M_run_136 (by decide) ?_
                refine lv_iload_n hx hb d_M_run_137 rfl (lv_at hl 4 rfl) ?_
                refine lv_imul hx hb d_M_run_138 ?_
                refine lv_iload hx hb d_M_run_139 (lv_at hl 2 rfl) ?_
                refine lv_iadd hx hb d_M_run_141 ?_
                refine lv_dup2_11 hx hb d_M_run_142 rfl rfl ?_
                refine xr_lald (i := (4 * (nI n)) + 2) hx hb hK hw 215 1 ((xu_ne (by omega)).trans ((xu_ne (by omega)).trans (xu_eq))) rfl rfl (xvin (a := (4 * n) + 2) (xadd (a := 4 * n) (b := 2) (xmul (a := 4) (b := n) rfl rfl) rfl) (by omega) (by omega)) d_M_run_143 ?_
                refine lv_topl (fun x_24 ex_24 => ?_)
                obtain rfl : x_24 = Lt (30 + n) 2 := ex_24.trans ((congrArg (vp_updL (vp_updL FS (4 * n + 0) ((Lt (30 + n) 0) + (pt (σ.1, σ.2.1, Lt, σ.2.2.2) i1 n 0 0))) (4 * n + 1) ((Lt (30 + n) 1) + (pt (σ.1, σ.2.1, Lt, σ.2.2.2) i1 n 1 1))) ((xcl (a := (4 * n) + 2) (xadd (a := 4 * n) (b := 2) (xmul (a := 4) (b := n) rfl rfl) rfl) (by omega)).trans (show (4 * n) + 2 = 4 * n + 2 by omega))).trans ((pk_uLn (show 4 * n + 2 ≠ 4 * n + 1 by omega)).trans ((pk_uLn (show 4 * n + 2 ≠ 4 * n + 0 by omega)).trans (hFS n 2 (by omega) (by omega)))))
                refine lv_lload hx hb d_M_run_144 (lv_at hl 0 rfl) ?_
                refine lv_ladd hx hb d_M_run_146 ?_
                refine xr_last (i := (4 * (nI n)) + 2) hx hb hK hw hS 215 1 ((xu_ne (by omega)).trans ((xu_ne (by omega)).trans (xu_eq))) rfl rfl (xvin (a := (4 * n) + 2) (xadd (a := 4 * n) (b := 2) (xmul (a := 4) (b := n) rfl rfl) rfl) (by omega) (by omega)) d_M_run_147 (fun H locs hw hS => ?_)
                rw [show ((4 * (nI n)) + 2).toNatClampNeg = 4 * n + 2 from (xcl (a := (4 * n) + 2) (xadd (a := 4 * n) (b := 2) (xmul (a := 4) (b := n) rfl rfl) rfl) (by omega)).trans (show (4 * n) + 2 = 4 * n + 2 by omega)] at hw
                have hw : xw D vwCl B ad (xu (xu (xu (xu (xu (xu (xu (xu (xu w1 209 (.inl (K 1, 32, .inr (.inl (vp_updL FA (4 * i1 + 0) ((Lt (10 + i1) 0) - (pt (σ.1, σ.2.1, Lt, σ.2.2.2) i1 n 0 0))))))) 210 (.inl (K 1, 192, .inr (.inl (vp_updL FT (24 * i1 + (n * 4 + 0)) (pt (σ.1, σ.2.1, Lt, σ.2.2.2) i1 n 0 0)))))) 215 (.inl (K 1, 24, .inr (.inl (vp_updL FS (4 * n + 0) ((Lt (30 + n) 0) + (pt (σ.1, σ.2.1, Lt, σ.2.2.2) i1 n 0 0))))))) 209 (.inl (K 1, 32, .inr (.inl (vp_updL (vp_updL FA (4 * i1 + 0) ((Lt (10 + i1) 0) - (pt (σ.1, σ.2.1, Lt, σ.2.2.2) i1 n 0 0))) (4 * i1 + 1) ((Lt (10 + i1) 1) - (pt (σ.1, σ.2.1, Lt, σ.2.2.2) i1 n 1 1))))))) 210 (.inl (K 1, 192, .inr (.inl (vp_updL (vp_updL FT (24 * i1 + (n * 4 + 0)) (pt (σ.1, σ.2.1, Lt, σ.2.2.2) i1 n 0 0)) (24 * i1 + (n * 4 + 1)) (pt (σ.1, σ.2.1, Lt, σ.2.2.2) i1 n 1 1)))))) 215 (.inl (K 1, 24, .inr (.inl (vp_updL (vp_updL FS (4 * n + 0) ((Lt (30 + n) 0) + (pt (σ.1, σ.2.1, Lt, σ.2.2.2) i1 n 0 0))) (4 * n + 1) ((Lt (30 + n) 1) + (pt (σ.1, σ.2.1, Lt, σ.2.2.2) i1 n 1 1))))))) 209 (.inl (K 1, 32, .inr (.inl (vp_updL (vp_updL (vp_updL FA (4 * i1 + 0) ((Lt (10 + i1) 0) - (pt (σ.1, σ.2.1, Lt, σ.2.2.2) i1 n 0 0))) (4 * i1 + 1) ((Lt (10 + i1) 1) - (pt (σ.1, σ.2.1, Lt, σ.2.2.2) i1 n 1 1))) (4 * i1 + 2) ((Lt (10 + i1) 2) - (pt (σ.1, σ.2.1, Lt, σ.2.2.2) i1 n 2 2))))))) 210 (.inl (K 1, 192, .inr (.inl (vp_updL (vp_updL (vp_updL FT (24 * i1 + (n * 4 + 0)) (pt (σ.1, σ.2.1, Lt, σ.2.2.2) i1 n 0 0)) (24 * i1 + (n * 4 + 1)) (pt (σ.1, σ.2.1, Lt, σ.2.2.2) i1 n 1 1)) (24 * i1 + (n * 4 + 2)) (pt (σ.1, σ.2.1, Lt, σ.2.2.2) i1 n 2 2)))))) 215 (.inl (K 1, 24, .inr (.inl (vp_updL (vp_updL (vp_updL FS (4 * n + 0) ((Lt (30 + n) 0) + (pt (σ.1, σ.2.1, Lt, σ.2.2.2) i1 n 0 0))) (4 * n + 1) ((Lt (30 + n) 1) + (pt (σ.1, σ.2.1, Lt, σ.2.2.2) i1 n 1 1))) (4 * n + 2) ((Lt (30 + n) 2) + (pt (σ.1, σ.2.1, Lt, σ.2.2.2) i1 n 2 2))))))) H := hw
                refine lv_lload_n hx hb d_M_run_148 rfl (lv_at hl 3 rfl) ?_
                refine lv_lload hx hb d_M_run_149 (lv_at hl 0 rfl) ?_
                refine lv_ladd hx hb d_M_run_151 ?_
                refine lv_lstore_n (lv' := [(3, .long (((0 + (pt (σ.1, σ.2.1, Lt, σ.2.2.2) i1 n 0 0)) + (pt (σ.1, σ.2.1, Lt, σ.2.2.2) i1 n 1 1)) + (pt (σ.1, σ.2.1, Lt, σ.2.2.2) i1 n 2 2))), (7, .long (pt (σ.1, σ.2.1, Lt, σ.2.2.2) i1 n 2 2)), (6, .int (thou σ n 2)), (5, .int 2), (2, .int (nI n)), (0, .ref (ad 200)), (1, .int (nI i1))]) hx hb d_M_run_152 rfl hl (by decide) rfl (fun ls hl => ?_)
                refine lv_iinc (v := 3) (lv' := [(5, .int 3), (3, .long (((0 + (pt (σ.1, σ.2.1, Lt, σ.2.2.2) i1 n 0 0)) + (pt (σ.1, σ.2.1, Lt, σ.2.2.2) i1 n 1 1)) + (pt (σ.1, σ.2.1, Lt, σ.2.2.2) i1 n 2 2))), (7, .long (pt (σ.1, σ.2.1, Lt, σ.2.2.2) i1 n 2 2)), (6, .int (thou σ n 2)), (2, .int (nI n)), (0, .ref (ad 200)), (1, .int (nI i1))]) hx hb d_M_run_153 hl (k := 3) rfl (by decide) (by decide) rfl (fun ls hl => ?_)
                refine lv_goto (tgt := 43) hx hb d_M_run_156 (by decide) ?_
                refine lv_iload hx hb d_M_run_43 (lv_at hl 0 rfl) ?_
                refine lv_iconst (v := 4) hx hb d_M_run_45 (by decide) ?_
                refine lv_icmp_ge (tgt := 159) hx hb d_M_run_46 (by decide) (fun c_25 => absurd c_25 (by decide)) (fun c_25 => ?_)
                refine xjoin 75 [.int (thou σ n 3)] ?_ (fun hj => ?_)
                · refine lv_istore (lv' := [(6, .int (thou σ n 3)), (5, .int 3), (3, .long (((0 + (pt (σ.1, σ.2.1, Lt, σ.2.2.2) i1 n 0 0)) + (pt (σ.1, σ.2.1, Lt, σ.2.2.2) i1 n 1 1)) + (pt (σ.1, σ.2.1, Lt, σ.2.2.2) i1 n 2 2))), (7, .long (pt (σ.1, σ.2.1, Lt, σ.2.2.2) i1 n 2 2)), (2, .int (nI n)), (0, .ref (ad 200)), (1, .int (nI i1))]) hx hb d_M_run_75 hl (by decide) rfl (fun ls hl => ?_)
                  refine lv_aload_n hx hb d_M_run_77 rfl (lv_at hl 5 rfl) ?_
                  refine xr_get (ci := 5) (v := .ref (ad 209)) (C := R_M) (T := T_M) (N := 26) hx hb htw in_M hown hK hw 200 ((xu_ne (by omega)).trans ((xu_ne (by omega)).trans ((xu_ne (by omega)).trans ((xu_ne (by omega)).trans ((xu_ne (by omega)).trans ((xu_ne (by omega)).trans ((xu_ne (by omega)).trans ((xu_ne (by omega)).trans ((xu_ne (by omega)).trans (m200)))))))))) rfl rfl 8 (by decide) (htw _ u_342) (fun _ h9 => h9) rfl d_M_run_78 ?_
                  refine lv_iconst (v := 4) hx hb d_M_run_81 (by decide) ?_
                  refine lv_iload_n hx hb d_M_run_82 rfl (lv_at hl 6 rfl) ?_
                  refine lv_imul hx hb d_M_run_83 ?_
                  refine lv_iload hx hb d_M_run_84 (lv_at hl 1 rfl) ?_
                  refine lv_iadd hx hb d_M_run_86 ?_
                  refine xr_lald (i := (4 * (nI i1)) + 3) hx hb hK hw 209 1 ((xu_ne (by omega)).trans ((xu_ne (by omega)).trans (xu_eq))) rfl rfl (xvin (a := (4 * i1) + 3) (xadd (a := 4 * i1) (b := 3) (xmul (a := 4) (b := i1) rfl rfl) rfl) (by omega) (by omega)) d_M_run_87 ?_
                  refine lv_topl (fun x_26 ex_26 => ?_)
                  obtain rfl : x_26 = Lt (10 + i1) 3 := ex_26.trans ((congrArg (vp_updL (vp_updL (vp_updL FA (4 * i1 + 0) ((Lt (10 + i1) 0) - (pt (σ.1, σ.2.1, Lt, σ.2.2.2) i1 n 0 0))) (4 * i1 + 1) ((Lt (10 + i1) 1) - (pt (σ.1, σ.2.1, Lt, σ.2.2.2) i1 n 1 1))) (4 * i1 + 2) ((Lt (10 + i1) 2) - (pt (σ.1, σ.2.1, Lt, σ.2.2.2) i1 n 2 2))) ((xcl (a := (4 * i1) + 3) (xadd (a := 4 * i1) (b := 3) (xmul (a := 4) (b := i1) rfl rfl) rfl) (by omega)).trans (show (4 * i1) + 3 = 4 * i1 + 3 by omega))).trans ((pk_uLn (show 4 * i1 + 3 ≠ 4 * i1 + 2 by omega)).trans ((pk_uLn (show 4 * i1 + 3 ≠ 4 * i1 + 1 by omega)).trans ((pk_uLn (show 4 * i1 + 3 ≠ 4 * i1 + 0 by omega)).trans (hFA i1 3 (by omega) (by omega))))))
                  refine lv_iload hx hb d_M_run_88 (lv_at hl 0 rfl) ?_
                  refine lv_i2l hx hb d_M_run_90 rfl ?_
                  refine lv_lmul hx hb d_M_run_91 ?_
                  refine lv_ldc2 (v := 1000) hx hb hown (htw _ u_456) d_M_run_92 ?_
                  refine lv_ldiv hx hb d_M_run_95 (by decide) ?_
                  refine lv_topl (fun x_27 ex_27 => ?_)
                  obtain rfl : x_27 = pt (σ.1, σ.2.1, Lt, σ.2.2.2) i1 n 3 3 := ex_27
                  refine lv_lstore (lv' := [(7, .long (pt (σ.1, σ.2.1, Lt, σ.2.2.2) i1 n 3 3)), (6, .int (thou σ n 3)), (5, .int 3), (3, .long (((0 + (pt (σ.1, σ.2.1, Lt, σ.2.2.2) i1 n 0 0)) + (pt (σ.1, σ.2.1, Lt, σ.2.2.2) i1 n 1 1)) + (pt (σ.1, σ.2.1, Lt, σ.2.2.2) i1 n 2 2))), (2, .int (nI n)), (0, .ref (ad 200)), (1, .int (nI i1))]) hx hb d_M_run_96 hl (by decide) rfl (fun ls hl => ?_)
                  refine lv_aload_n hx hb d_M_run_98 rfl (lv_at hl 5 rfl) ?_
                  refine xr_get (ci := 5) (v := .ref (ad 209)) (C := R_M) (T := T_M) (N := 26) hx hb htw in_M hown hK hw 200 ((xu_ne (by omega)).trans ((xu_ne (by omega)).trans ((xu_ne (by omega)).trans ((xu_ne (by omega)).trans ((xu_ne (by omega)).trans ((xu_ne (by omega)).trans ((xu_ne (by omega)).trans ((xu_ne (by omega)).trans ((xu_ne (by omega)).trans (m200)))))))))) rfl rfl 8 (by decide) (htw _ u_342) (fun _ h9 => h9) rfl d_M_run_99 ?_
                  refine lv_iconst (v := 4) hx hb d_M_run_102 (by decide) ?_
                  refine lv_iload_n hx hb d_M_run_103 rfl (lv_at hl 6 rfl) ?_
                  refine lv_imul hx hb d_M_run_104 ?_
                  refine lv_iload hx hb d_M_run_105 (lv_at hl 2 rfl) ?_
                  refine lv_iadd hx hb d_M_run_107 ?_
                  refine lv_dup2_11 hx hb d_M_run_108 rfl rfl ?_
                  refine xr_lald (i := (4 * (nI i1)) + 3) hx hb hK hw 209 1 ((xu_ne (by omega)).trans ((xu_ne (by omega)).trans (xu_eq))) rfl rfl (xvin (a := (4 * i1) + 3) (xadd (a := 4 * i1) (b := 3) (xmul (a := 4) (b := i1) rfl rfl) rfl) (by omega) (by omega)) d_M_run_109 ?_
                  refine lv_topl (fun x_28 ex_28 => ?_)
                  obtain rfl : x_28 = Lt (10 + i1) 3 := ex_28.trans ((congrArg (vp_updL (vp_updL (vp_updL FA (4 * i1 + 0) ((Lt (10 + i1) 0) - (pt (σ.1, σ.2.1, Lt, σ.2.2.2) i1 n 0 0))) (4 * i1 + 1) ((Lt (10 + i1) 1) - (pt (σ.1, σ.2.1, Lt, σ.2.2.2) i1 n 1 1))) (4 * i1 + 2) ((Lt (10 + i1) 2) - (pt (σ.1, σ.2.1, Lt, σ.2.2.2) i1 n 2 2))) ((xcl (a := (4 * i1) + 3) (xadd (a := 4 * i1) (b := 3) (xmul (a := 4) (b := i1) rfl rfl) rfl) (by omega)).trans (show (4 * i1) + 3 = 4 * i1 + 3 by omega))).trans ((pk_uLn (show 4 * i1 + 3 ≠ 4 * i1 + 2 by omega)).trans ((pk_uLn (show 4 * i1 + 3 ≠ 4 * i1 + 1 by omega)).trans ((pk_uLn (show 4 * i1 + 3 ≠ 4 * i1 + 0 by omega)).trans (hFA i1 3 (by omega) (by omega))))))
                  refine lv_lload hx hb d_M_run_110 (lv_at hl 0 rfl) ?_
                  refine lv_lsub hx hb d_M_run_112 ?_
                  refine xr_last (i := (4 * (nI i1)) + 3) hx hb hK hw hS 209 1 ((xu_ne (by omega)).trans ((xu_ne (by omega)).trans (xu_eq))) rfl rfl (xvin (a := (4 * i1) + 3) (xadd (a := 4 * i1) (b := 3) (xmul (a := 4) (b := i1) rfl rfl) rfl) (by omega) (by omega)) d_M_run_113 (fun H locs hw hS => ?_)
                  rw [show ((4 * (nI i1)) + 3).toNatClampNeg = 4 * i1 + 3 from (xcl (a := (4 * i1) + 3) (xadd (a := 4 * i1) (b := 3) (xmul (a := 4) (b := i1) rfl rfl) rfl) (by omega)).trans (show (4 * i1) + 3 = 4 * i1 + 3 by omega)] at hw
                  have hw : xw D vwCl B ad (xu (xu (xu (xu (xu (xu (xu (xu (xu (xu w1 209 (.inl (K 1, 32, .inr (.inl (vp_updL FA (4 * i1 + 0) ((Lt (10 + i1) 0) - (pt (σ.1, σ.2.1, Lt, σ.2.2.2) i1 n 0 0))))))) 210 (.inl (K 1, 192, .inr (.inl (vp_updL FT (24 * i1 + (n * 4 + 0)) (pt (σ.1, σ.2.1, Lt, σ.2.2.2) i1 n 0 0)))))) 215 (.inl (K 1, 24, .inr (.inl (vp_updL FS (4 * n + 0) ((Lt (30 + n) 0) + (pt (σ.1, σ.2.1, Lt, σ.2.2.2) i1 n 0 0))))))) 209 (.inl (K 1, 32, .inr (.inl (vp_updL (vp_updL FA (4 * i1 + 0) ((Lt (10 + i1) 0) - (pt (σ.1, σ.2.1, Lt, σ.2.2.2) i1 n 0 0))) (4 * i1 + 1) ((Lt (10 + i1) 1) - (pt (σ.1, σ.2.1, Lt, σ.2.2.2) i1 n 1 1))))))) 210 (.inl (K 1, 192, .inr (.inl (vp_updL (vp_updL FT (24 * i1 + (n * 4 + 0)) (pt (σ.1, σ.2.1, Lt, σ.2.2.2) i1 n 0 0)) (24 * i1 + (n * 4 + 1)) (pt (σ.1, σ.2.1, Lt, σ.2.2.2) i1 n 1 1)))))) 215 (.inl (K 1, 24, .inr (.inl (vp_updL (vp_updL FS (4 * n + 0) ((Lt (30 + n) 0) + (pt (σ.1, σ.2.1, Lt, σ.2.2.2) i1 n 0 0))) (4 * n + 1) ((Lt (30 + n) 1) + (pt (σ.1, σ.2.1, Lt, σ.2.2.2) i1 n 1 1))))))) 209 (.inl (K 1, 32, .inr (.inl (vp_updL (vp_updL (vp_updL FA (4 * i1 + 0) ((Lt (10 + i1) 0) - (pt (σ.1, σ.2.1, Lt, σ.2.2.2) i1 n 0 0))) (4 * i1 + 1) ((Lt (10 + i1) 1) - (pt (σ.1, σ.2.1, Lt, σ.2.2.2) i1 n 1 1))) (4 * i1 + 2) ((Lt (10 + i1) 2) - (pt (σ.1, σ.2.1, Lt, σ.2.2.2) i1 n 2 2))))))) 210 (.inl (K 1, 192, .inr (.inl (vp_updL (vp_updL (vp_updL FT (24 * i1 + (n * 4 + 0)) (pt (σ.1, σ.2.1, Lt, σ.2.2.2) i1 n 0 0)) (24 * i1 + (n * 4 + 1)) (pt (σ.1, σ.2.1, Lt, σ.2.2.2) i1 n 1 1)) (24 * i1 + (n * 4 + 2)) (pt (σ.1, σ.2.1, Lt, σ.2.2.2) i1 n 2 2)))))) 215 (.inl (K 1, 24, .inr (.inl (vp_updL (vp_updL (vp_updL FS (4 * n + 0) ((Lt (30 + n) 0) + (pt (σ.1, σ.2.1, Lt, σ.2.2.2) i1 n 0 0))) (4 * n + 1) ((Lt (30 + n) 1) + (pt (σ.1, σ.2.1, Lt, σ.2.2.2) i1 n 1 1))) (4 * n + 2) ((Lt (30 + n) 2) + (pt (σ.1, σ.2.1, Lt, σ.2.2.2) i1 n 2 2))))))) 209 (.inl (K 1, 32, .inr (.inl (vp_updL (vp_updL (vp_updL (vp_updL FA (4 * i1 + 0) ((Lt (10 + i1) 0) - (pt (σ.1, σ.2.1, Lt, σ.2.2.2) i1 n 0 0))) (4 * i1 + 1) ((Lt (10 + i1) 1) - (pt (σ.1, σ.2.1, Lt, σ.2.2.2) i1 n 1 1))) (4 * i1 + 2) ((Lt (10 + i1) 2) - (pt (σ.1, σ.2.1, Lt, σ.2.2.2) i1 n 2 2))) (4 * i1 + 3) ((Lt (10 + i1) 3) - (pt (σ.1, σ.2.1, Lt, σ.2.2.2) i1 n 3 3))))))) H := hw
                  refine lv_aload_n hx hb d_M_run_114 rfl (lv_at hl 5 rfl) ?_
                  refine xr_get (ci := 5) (v := .ref (ad 210)) (C := R_M) (T := T_M) (N := 26) hx hb htw in_M hown hK hw 200 ((xu_ne (by omega)).trans ((xu_ne (by omega)).trans ((xu_ne (by omega)).trans ((xu_ne (by omega)).trans ((xu_ne (by omega)).trans ((xu_ne (by omega)).trans ((xu_ne (by omega)).trans ((xu_ne (by omega)).trans ((xu_ne (by omega)).trans ((xu_ne (by omega)).trans (m200))))))))))) rfl rfl 9 (by decide) (htw _ u_343) (fun _ h9 => h9) rfl d_M_run_115 ?_
                  refine lv_bipush (v := 24) hx hb d_M_run_118 (by decide) ?_
                  refine lv_iload_n hx hb d_M_run_120 rfl (lv_at hl 6 rfl) ?_
                  refine lv_imul hx hb d_M_run_121 ?_
                  refine lv_iconst (v := 4) hx hb d_M_run_122 (by decide) ?_
                  refine lv_iload_n hx hb d_M_run_123 rfl (lv_at hl 4 rfl) ?_
                  refine lv_imul hx hb d_M_run_124 ?_
                  refine lv_iadd hx hb d_M_run_125 ?_
                  refine lv_iload hx hb d_M_run_126 (lv_at hl 2 rfl) ?_
                  refine lv_iadd hx hb d_M_run_128 ?_
                  refine lv_lload hx hb d_M_run_129 (lv_at hl 0 rfl) ?_
                  refine xr_last (i := ((24 * (nI i1)) + (4 * (nI n))) + 3) hx hb hK hw hS 210 1 ((xu_ne (by omega)).trans ((xu_ne (by omega)).trans (xu_eq))) rfl rfl (xvin (a := ((24 * i1) + (4 * n)) + 3) (xadd (a := (24 * i1) + (4 * n)) (b := 3) (xadd (a := 24 * i1) (b := 4 * n) (xmul (a := 24) (b := i1) rfl rfl) (xmul (a := 4) (b := n) rfl rfl)) rfl) (by omega) (by omega)) d_M_run_131 (fun H locs hw hS => ?_)
                  rw [show (((24 * (nI i1)) + (4 * (nI n))) + 3).toNatClampNeg = 24 * i1 + (n * 4 + 3) from (xcl (a := ((24 * i1) + (4 * n)) + 3) (xadd (a := (24 * i1) + (4 * n)) (b := 3) (xadd (a := 24 * i1) (b := 4 * n) (xmul (a := 24) (b := i1) rfl rfl) (xmul (a := 4) (b := n) rfl rfl)) rfl) (by omega)).trans (show ((24 * i1) + (4 * n)) + 3 = 24 * i1 + (n * 4 + 3) by omega)] at hw
                  have hw : xw D vwCl B ad (xu (xu (xu (xu (xu (xu (xu (xu (xu (xu (xu w1 209 (.inl (K 1, 32, .inr (.inl (vp_updL FA (4 * i1 + 0) ((Lt (10 + i1) 0) - (pt (σ.1, σ.2.1, Lt, σ.2.2.2) i1 n 0 0))))))) 210 (.inl (K 1, 192, .inr (.inl (vp_updL FT (24 * i1 + (n * 4 + 0)) (pt (σ.1, σ.2.1, Lt, σ.2.2.2) i1 n 0 0)))))) 215 (.inl (K 1, 24, .inr (.inl (vp_updL FS (4 * n + 0) ((Lt (30 + n) 0) + (pt (σ.1, σ.2.1, Lt, σ.2.2.2) i1 n 0 0))))))) 209 (.inl (K 1, 32, .inr (.inl (vp_updL (vp_updL FA (4 * i1 + 0) ((Lt (10 + i1) 0) - (pt (σ.1, σ.2.1, Lt, σ.2.2.2) i1 n 0 0))) (4 * i1 + 1) ((Lt (10 + i1) 1) - (pt (σ.1, σ.2.1, Lt, σ.2.2.2) i1 n 1 1))))))) 210 (.inl (K 1, 192, .inr (.inl (vp_updL (vp_updL FT (24 * i1 + (n * 4 + 0)) (pt (σ.1, σ.2.1, Lt, σ.2.2.2) i1 n 0 0)) (24 * i1 + (n * 4 + 1)) (pt (σ.1, σ.2.1, Lt, σ.2.2.2) i1 n 1 1)))))) 215 (.inl (K 1, 24, .inr (.inl (vp_updL (vp_updL FS (4 * n + 0) ((Lt (30 + n) 0) + (pt (σ.1, σ.2.1, Lt, σ.2.2.2) i1 n 0 0))) (4 * n + 1) ((Lt (30 + n) 1) + (pt (σ.1, σ.2.1, Lt, σ.2.2.2) i1 n 1 1))))))) 209 (.inl (K 1, 32, .inr (.inl (vp_updL (vp_updL (vp_updL FA (4 * i1 + 0) ((Lt (10 + i1) 0) - (pt (σ.1, σ.2.1, Lt, σ.2.2.2) i1 n 0 0))) (4 * i1 + 1) ((Lt (10 + i1) 1) - (pt (σ.1, σ.2.1, Lt, σ.2.2.2) i1 n 1 1))) (4 * i1 + 2) ((Lt (10 + i1) 2) - (pt (σ.1, σ.2.1, Lt, σ.2.2.2) i1 n 2 2))))))) 210 (.inl (K 1, 192, .inr (.inl (vp_updL (vp_updL (vp_updL FT (24 * i1 + (n * 4 + 0)) (pt (σ.1, σ.2.1, Lt, σ.2.2.2) i1 n 0 0)) (24 * i1 + (n * 4 + 1)) (pt (σ.1, σ.2.1, Lt, σ.2.2.2) i1 n 1 1)) (24 * i1 + (n * 4 + 2)) (pt (σ.1, σ.2.1, Lt, σ.2.2.2) i1 n 2 2)))))) 215 (.inl (K 1, 24, .inr (.inl (vp_updL (vp_updL (vp_updL FS (4 * n + 0) ((Lt (30 + n) 0) + (pt (σ.1, σ.2.1, Lt, σ.2.2.2) i1 n 0 0))) (4 * n + 1) ((Lt (30 + n) 1) + (pt (σ.1, σ.2.1, Lt, σ.2.2.2) i1 n 1 1))) (4 * n + 2) ((Lt (30 + n) 2) + (pt (σ.1, σ.2.1, Lt, σ.2.2.2) i1 n 2 2))))))) 209 (.inl (K 1, 32, .inr (.inl (vp_updL (vp_updL (vp_updL (vp_updL FA (4 * i1 + 0) ((Lt (10 + i1) 0) - (pt (σ.1, σ.2.1, Lt, σ.2.2.2) i1 n 0 0))) (4 * i1 + 1) ((Lt (10 + i1) 1) - (pt (σ.1, σ.2.1, Lt, σ.2.2.2) i1 n 1 1))) (4 * i1 + 2) ((Lt (10 + i1) 2) - (pt (σ.1, σ.2.1, Lt, σ.2.2.2) i1 n 2 2))) (4 * i1 + 3) ((Lt (10 + i1) 3) - (pt (σ.1, σ.2.1, Lt, σ.2.2.2) i1 n 3 3))))))) 210 (.inl (K 1, 192, .inr (.inl (vp_updL (vp_updL (vp_updL (vp_updL FT (24 * i1 + (n * 4 + 0)) (pt (σ.1, σ.2.1, Lt, σ.2.2.2) i1 n 0 0)) (24 * i1 + (n * 4 + 1)) (pt (σ.1, σ.2.1, Lt, σ.2.2.2) i1 n 1 1)) (24 * i1 + (n * 4 + 2)) (pt (σ.1, σ.2.1, Lt, σ.2.2.2) i1 n 2 2)) (24 * i1 + (n * 4 + 3)) (pt (σ.1, σ.2.1, Lt, σ.2.2.2) i1 n 3 3)))))) H := hw
                  refine lv_aload_n hx hb d_M_run_132 rfl (lv_at hl 5 rfl) ?_
                  refine xr_get (ci := 5) (v := .ref (ad 215)) (C := R_M) (T := T_M) (N := 26) hx hb htw in_M hown hK hw 200 ((xu_ne (by omega)).trans ((xu_ne (by omega)).trans ((xu_ne (by omega)).trans ((xu_ne (by omega)).trans ((xu_ne (by omega)).trans ((xu_ne (by omega)).trans ((xu_ne (by omega)).trans ((xu_ne (by omega)).trans ((xu_ne (by omega)).trans ((xu_ne (by omega)).trans ((xu_ne (by omega)).trans (m200)))))))))))) rfl rfl 14 (by decide) (htw _ u_348) (fun _ h9 => h9) rfl d_M_run_133 ?_
                  refine lv_iconst (v := 4) hx hb d_M_run_136 (by decide) ?_
                  refine lv_iload_n hx hb d_M_run_137 rfl (lv_at hl 4 rfl) ?_
                  refine lv_imul hx hb d_M_run_138 ?_
                  refine lv_iload hx hb d_M_run_139 (lv_at hl 2 rfl) ?_
                  refine lv_iadd hx hb d_M_run_141 ?_
                  refine lv_dup2_11 hx hb d_M_run_142 rfl rfl ?_
                  refine xr_lald (i := (4 * (nI n)) + 3) hx hb hK hw 215 1 ((xu_ne (by omega)).trans ((xu_ne (by omega)).trans (xu_eq))) rfl rfl (xvin (a := (4 * n) + 3) (xadd (a := 4 * n) (b := 3) (xmul (a := 4) (b := n) rfl rfl) rfl) (by omega) (by omega)) d_M_run_143 ?_
                  refine lv_topl (fun x_29 ex_29 => ?_)
                  obtain rfl : x_29 = Lt (30 + n) 3 := ex_29.trans ((congrArg (vp_updL (vp_updL (vp_updL FS (4 * n + 0) ((Lt (30 + n) 0) + (pt (σ.1, σ.2.1, Lt, σ.2.2.2) i1 n 0 0))) (4 * n + 1) ((Lt (30 + n) 1) + (pt (σ.1, σ.2.1, Lt, σ.2.2.2) i1 n 1 1))) (4 * n + 2) ((Lt (30 + n) 2) + (pt (σ.1, σ.2.1, Lt, σ.2.2.2) i1 n 2 2))) ((xcl (a := (4 * n) + 3) (xadd (a := 4 * n) (b := 3) (xmul (a := 4) (b := n) rfl rfl) rfl) (by omega)).trans (show (4 * n) + 3 = 4 * n + 3 by omega))).trans ((pk_uLn (show 4 * n + 3 ≠ 4 * n + 2 by omega)).trans ((pk_uLn (show 4 * n + 3 ≠ 4 * n + 1 by omega)).trans ((pk_uLn (show 4 * n + 3 ≠ 4 * n + 0 by omega)).trans (hFS n 3 (by omega) (by omega))))))
                  refine lv_lload hx hb d_M_run_144 (lv_at hl 0 rfl) ?_
                  refine lv_ladd hx hb d_M_run_146 ?_
                  refine xr_last (i := (4 * (nI n)) + 3) hx hb hK hw hS 215 1 ((xu_ne (by omega)).trans ((xu_ne (by omega)).trans (xu_eq))) rfl rfl (xvin (a := (4 * n) + 3) (xadd (a := 4 * n) (b := 3) (xmul (a := 4) (b := n) rfl rfl) rfl) (by omega) (by omega)) d_M_run_147 (fun H locs hw hS => ?_)
                  rw [show ((4 * (nI n)) + 3).toNatClampNeg = 4 * n + 3 from (xcl (a := (4 * n) + 3) (xadd (a := 4 * n) (b := 3) (xmul (a := 4) (b := n) rfl rfl) rfl) (by omega)).trans (show (4 * n) + 3 = 4 * n + 3 by omega)] at hw
                  have hw : xw D vwCl B ad (xu (xu (xu (xu (xu (xu (xu (xu (xu (xu (xu (xu w1 209 (.inl (K 1, 32, .inr (.inl (vp_updL FA (4 * i1 + 0) ((Lt (10 + i1) 0) - (pt (σ.1, σ.2.1, Lt, σ.2.2.2) i1 n 0 0))))))) 210 (.inl (K 1, 192, .inr (.inl (vp_updL FT (24 * i1 + (n * 4 + 0)) (pt (σ.1, σ.2.1, Lt, σ.2.2.2) i1 n 0 0)))))) 215 (.inl (K 1, 24, .inr (.inl (vp_updL FS (4 * n + 0) ((Lt (30 + n) 0) + (pt (σ.1, σ.2.1, Lt, σ.2.2.2) i1 n 0 0))))))) 209 (.inl (K 1, 32, .inr (.inl (vp_updL (vp_updL FA (4 * i1 + 0) ((Lt (10 + i1) 0) - (pt (σ.1, σ.2.1, Lt, σ.2.2.2) i1 n 0 0))) (4 * i1 + 1) ((Lt (10 + i1) 1) - (pt (σ.1, σ.2.1, Lt, σ.2.2.2) i1 n 1 1))))))) 210 (.inl (K 1, 192, .inr (.inl (vp_updL (vp_updL FT (24 * i1 + (n * 4 + 0)) (pt (σ.1, σ.2.1, Lt, σ.2.2.2) i1 n 0 0)) (24 * i1 + (n * 4 + 1)) (pt (σ.1, σ.2.1, Lt, σ.2.2.2) i1 n 1 1)))))) 215 (.inl (K 1, 24, .inr (.inl (vp_updL (vp_updL FS (4 * n + 0) ((Lt (30 + n) 0) + (pt (σ.1, σ.2.1, Lt, σ.2.2.2) i1 n 0 0))) (4 * n + 1) ((Lt (30 + n) 1) + (pt (σ.1, σ.2.1, Lt, σ.2.2.2) i1 n 1 1))))))) 209 (.inl (K 1, 32, .inr (.inl (vp_updL (vp_updL (vp_updL FA (4 * i1 + 0) ((Lt (10 + i1) 0) - (pt (σ.1, σ.2.1, Lt, σ.2.2.2) i1 n 0 0))) (4 * i1 + 1) ((Lt (10 + i1) 1) - (pt (σ.1, σ.2.1, Lt, σ.2.2.2) i1 n 1 1))) (4 * i1 + 2) ((Lt (10 + i1) 2) - (pt (σ.1, σ.2.1, Lt, σ.2.2.2) i1 n 2 2))))))) 210 (.inl (K 1, 192, .inr (.inl (vp_updL (vp_updL (vp_updL FT (24 * i1 + (n * 4 + 0)) (pt (σ.1, σ.2.1, Lt, σ.2.2.2) i1 n 0 0)) (24 * i1 + (n * 4 + 1)) (pt (σ.1, σ.2.1, Lt, σ.2.2.2) i1 n 1 1)) (24 * i1 + (n * 4 + 2)) (pt (σ.1, σ.2.1, Lt, σ.2.2.2) i1 n 2 2)))))) 215 (.inl (K 1, 24, .inr (.inl (vp_updL (vp_updL (vp_updL FS (4 * n + 0) ((Lt (30 + n) 0) + (pt (σ.1, σ.2.1, Lt, σ.2.2.2) i1 n 0 0))) (4 * n + 1) ((Lt (30 + n) 1) + (pt (σ.1, σ.2.1, Lt, σ.2.2.2) i1 n 1 1))) (4 * n + 2) ((Lt (30 + n) 2) + (pt (σ.1, σ.2.1, Lt, σ.2.2.2) i1 n 2 2))))))) 209 (.inl (K 1, 32, .inr (.inl (vp_updL (vp_updL (vp_updL (vp_updL FA (4 * i1 + 0) ((Lt (10 + i1) 0) - (pt (σ.1, σ.2.1, Lt, σ.2.2.2) i1 n 0 0))) (4 * i1 + 1) ((Lt (10 + i1) 1) - (pt (σ.1, σ.2.1, Lt, σ.2.2.2) i1 n 1 1))) (4 * i1 + 2) ((Lt (10 + i1) 2) - (pt (σ.1, σ.2.1, Lt, σ.2.2.2) i1 n 2 2))) (4 * i1 + 3) ((Lt (10 + i1) 3) - (pt (σ.1, σ.2.1, Lt, σ.2.2.2) i1 n 3 3))))))) 210 (.inl (K 1, 192, .inr (.inl (vp_updL (vp_updL (vp_updL (vp_updL FT (24 * i1 + (n * 4 + 0)) (pt (σ.1, σ.2.1, Lt, σ.2.2.2) i1 n 0 0)) (24 * i1 + (n * 4 + 1)) (pt (σ.1, σ.2.1, Lt, σ.2.2.2) i1 n 1 1)) (24 * i1 + (n * 4 + 2)) (pt (σ.1, σ.2.1, Lt, σ.2.2.2) i1 n 2 2)) (24 * i1 + (n * 4 + 3)) (pt (σ.1, σ.2.1, Lt, σ.2.2.2) i1 n 3 3)))))) 215 (.inl (K 1, 24, .inr (.inl (vp_updL (vp_updL (vp_updL (vp_updL FS (4 * n + 0) ((Lt (30 + n) 0) + (pt (σ.1, σ.2.1, Lt, σ.2.2.2) i1 n 0 0))) (4 * n + 1) ((Lt (30 + n) 1) + (pt (σ.1, σ.2.1, Lt, σ.2.2.2) i1 n 1 1))) (4 * n + 2) ((Lt (30 + n) 2) + (pt (σ.1, σ.2.1, Lt, σ.2.2.2) i1 n 2 2))) (4 * n + 3) ((Lt (30 + n) 3) + (pt (σ.1, σ.2.1, Lt, σ.2.2.2) i1 n 3 3))))))) H := hw
                  refine lv_lload_n hx hb d_M_run_148 rfl (lv_at hl 3 rfl) ?_
                  refine lv_lload hx hb d_M_run_149 (lv_at hl 0 rfl) ?_
                  refine lv_ladd hx hb d_M_run_151 ?_
                  refine lv_lstore_n (lv' := [(3, .long ((((0 + (pt (σ.1, σ.2.1, Lt, σ.2.2.2) i1 n 0 0)) + (pt (σ.1, σ.2.1, Lt, σ.2.2.2) i1 n 1 1)) + (pt (σ.1, σ.2.1, Lt, σ.2.2.2) i1 n 2 2)) + (pt (σ.1, σ.2.1, Lt, σ.2.2.2) i1 n 3 3))), (7, .long (pt (σ.1, σ.2.1, Lt, σ.2.2.2) i1 n 3 3)), (6, .int (thou σ n 3)), (5, .int 3), (2, .int (nI n)), (0, .ref (ad 200)), (1, .int (nI i1))]) hx hb d_M_run_152 rfl hl (by decide) rfl (fun ls hl => ?_)
                  refine lv_iinc (v := 4) (lv' := [(5, .int 4), (3, .long ((((0 + (pt (σ.1, σ.2.1, Lt, σ.2.2.2) i1 n 0 0)) + (pt (σ.1, σ.2.1, Lt, σ.2.2.2) i1 n 1 1)) + (pt (σ.1, σ.2.1, Lt, σ.2.2.2) i1 n 2 2)) + (pt (σ.1, σ.2.1, Lt, σ.2.2.2) i1 n 3 3))), (7, .long (pt (σ.1, σ.2.1, Lt, σ.2.2.2) i1 n 3 3)), (6, .int (thou σ n 3)), (2, .int (nI n)), (0, .ref (ad 200)), (1, .int (nI i1))]) hx hb d_M_run_153 hl (k := 3) rfl (by decide) (by decide) rfl (fun ls hl => ?_)
                  refine lv_goto (tgt := 43) hx hb d_M_run_156 (by decide) ?_
                  refine lv_iload hx hb d_M_run_43 (lv_at hl 0 rfl) ?_
                  refine lv_iconst (v := 4) hx hb d_M_run_45 (by decide) ?_
                  refine lv_icmp_ge (tgt := 159) hx hb d_M_run_46 (by decide) (fun c_30 => ?_) (fun c_30 => absurd (by decide) c_30)
                  refine lv_lload_n hx hb d_M_run_159 rfl (lv_at hl 1 rfl) ?_
                  refine lv_ldc2 (v := 1000000) hx hb hown (htw _ u_437) d_M_run_160 ?_
                  refine lv_ldiv hx hb d_M_run_163 (by decide) ?_
                  refine lv_topl (fun x_31 ex_31 => ?_)
                  obtain rfl : x_31 = tog (σ.1, σ.2.1, Lt, σ.2.2.2) i1 n / 1000000 := ex_31
                  refine lv_lstore (lv' := [(5, .long (tog (σ.1, σ.2.1, Lt, σ.2.2.2) i1 n / 1000000)), (3, .long ((((0 + (pt (σ.1, σ.2.1, Lt, σ.2.2.2) i1 n 0 0)) + (pt (σ.1, σ.2.1, Lt, σ.2.2.2) i1 n 1 1)) + (pt (σ.1, σ.2.1, Lt, σ.2.2.2) i1 n 2 2)) + (pt (σ.1, σ.2.1, Lt, σ.2.2.2) i1 n 3 3))), (7, .long (pt (σ.1, σ.2.1, Lt, σ.2.2.2) i1 n 3 3)), (2, .int (nI n)), (0, .ref (ad 200)), (1, .int (nI i1))]) hx hb d_M_run_164 hl (by decide) rfl (fun ls hl => ?_)
                  refine lv_aload_n hx hb d_M_run_166 rfl (lv_at hl 4 rfl) ?_
                  refine xr_get (ci := 5) (v := .ref (ad 203)) (C := R_M) (T := T_M) (N := 26) hx hb htw in_M hown hK hw 200 ((xu_ne (by omega)).trans ((xu_ne (by omega)).trans ((xu_ne (by omega)).trans ((xu_ne (by omega)).trans ((xu_ne (by omega)).trans ((xu_ne (by omega)).trans ((xu_ne (by omega)).trans ((xu_ne (by omega)).trans ((xu_ne (by omega)).trans ((xu_ne (by omega)).trans ((xu_ne (by omega)).trans ((xu_ne (by omega)).trans (m200))))))))))))) rfl rfl 2 (by decide) (htw _ u_336) (fun _ h9 => h9) rfl d_M_run_167 ?_
                  refine lv_iload_n hx hb d_M_run_170 rfl (lv_at hl 5 rfl) ?_
                  refine xjoin 196 [.long (mxL 0 (Lt 1 i1 - tog (σ.1, σ.2.1, Lt, σ.2.2.2) i1 n / 1000000)), .int (nI i1), .ref (ad 203)] ?_ (fun hj => ?_)
                  · refine xr_last (i := nI i1) hx hb hK hw hS 203 1 ((xu_ne (by omega)).trans ((xu_ne (by omega)).trans ((xu_ne (by omega)).trans ((xu_ne (by omega)).trans ((xu_ne (by omega)).trans ((xu_ne (by omega)).trans ((xu_ne (by omega)).trans ((xu_ne (by omega)).trans ((xu_ne (by omega)).trans ((xu_ne (by omega)).trans ((xu_ne (by omega)).trans ((xu_ne (by omega)).trans (m203))))))))))))) rfl rfl (xvin (a := i1) rfl (by omega) (by omega)) d_M_run_196 (fun H locs hw hS => ?_)
                    rw [show (nI i1).toNatClampNeg = i1 from xcl (a := i1) rfl (by omega)] at hw
                    have hw : xw D vwCl B ad (xu (xu (xu (xu (xu (xu (xu (xu (xu (xu (xu (xu (xu w1 209 (.inl (K 1, 32, .inr (.inl (vp_updL FA (4 * i1 + 0) ((Lt (10 + i1) 0) - (pt (σ.1, σ.2.1, Lt, σ.2.2.2) i1 n 0 0))))))) 210 (.inl (K 1, 192, .inr (.inl (vp_updL FT (24 * i1 + (n * 4 + 0)) (pt (σ.1, σ.2.1, Lt, σ.2.2.2) i1 n 0 0)))))) 215 (.inl (K 1, 24, .inr (.inl (vp_updL FS (4 * n + 0) ((Lt (30 + n) 0) + (pt (σ.1, σ.2.1, Lt, σ.2.2.2) i1 n 0 0))))))) 209 (.inl (K 1, 32, .inr (.inl (vp_updL (vp_updL FA (4 * i1 + 0) ((Lt (10 + i1) 0) - (pt (σ.1, σ.2.1, Lt, σ.2.2.2) i1 n 0 0))) (4 * i1 + 1) ((Lt (10 + i1) 1) - (pt (σ.1, σ.2.1, Lt, σ.2.2.2) i1 n 1 1))))))) 210 (.inl (K 1, 192, .inr (.inl (vp_updL (vp_updL FT (24 * i1 + (n * 4 + 0)) (pt (σ.1, σ.2.1, Lt, σ.2.2.2) i1 n 0 0)) (24 * i1 + (n * 4 + 1)) (pt (σ.1, σ.2.1, Lt, σ.2.2.2) i1 n 1 1)))))) 215 (.inl (K 1, 24, .inr (.inl (vp_updL (vp_updL FS (4 * n + 0) ((Lt (30 + n) 0) + (pt (σ.1, σ.2.1, Lt, σ.2.2.2) i1 n 0 0))) (4 * n + 1) ((Lt (30 + n) 1) + (pt (σ.1, σ.2.1, Lt, σ.2.2.2) i1 n 1 1))))))) 209 (.inl (K 1, 32, .inr (.inl (vp_updL (vp_updL (vp_updL FA (4 * i1 + 0) ((Lt (10 + i1) 0) - (pt (σ.1, σ.2.1, Lt, σ.2.2.2) i1 n 0 0))) (4 * i1 + 1) ((Lt (10 + i1) 1) - (pt (σ.1, σ.2.1, Lt, σ.2.2.2) i1 n 1 1))) (4 * i1 + 2) ((Lt (10 + i1) 2) - (pt (σ.1, σ.2.1, Lt, σ.2.2.2) i1 n 2 2))))))) 210 (.inl (K 1, 192, .inr (.inl (vp_updL (vp_updL (vp_updL FT (24 * i1 + (n * 4 + 0)) (pt (σ.1, σ.2.1, Lt, σ.2.2.2) i1 n 0 0)) (24 * i1 + (n * 4 + 1)) (pt (σ.1, σ.2.1, Lt, σ.2.2.2) i1 n 1 1)) (24 * i1 + (n * 4 + 2)) (pt (σ.1, σ.2.1, Lt, σ.2.2.2) i1 n 2 2)))))) 215 (.inl (K 1, 24, .inr (.inl (vp_updL (vp_updL (vp_updL FS (4 * n + 0) ((Lt (30 + n) 0) + (pt (σ.1, σ.2.1, Lt, σ.2.2.2) i1 n 0 0))) (4 * n + 1) ((Lt (30 + n) 1) + (pt (σ.1, σ.2.1, Lt, σ.2.2.2) i1 n 1 1))) (4 * n + 2) ((Lt (30 + n) 2) + (pt (σ.1, σ.2.1, Lt, σ.2.2.2) i1 n 2 2))))))) 209 (.inl (K 1, 32, .inr (.inl (vp_updL (vp_updL (vp_updL (vp_updL FA (4 * i1 + 0) ((Lt (10 + i1) 0) - (pt (σ.1, σ.2.1, Lt, σ.2.2.2) i1 n 0 0))) (4 * i1 + 1) ((Lt (10 + i1) 1) - (pt (σ.1, σ.2.1, Lt, σ.2.2.2) i1 n 1 1))) (4 * i1 + 2) ((Lt (10 + i1) 2) - (pt (σ.1, σ.2.1, Lt, σ.2.2.2) i1 n 2 2))) (4 * i1 + 3) ((Lt (10 + i1) 3) - (pt (σ.1, σ.2.1, Lt, σ.2.2.2) i1 n 3 3))))))) 210 (.inl (K 1, 192, .inr (.inl (vp_updL (vp_updL (vp_updL (vp_updL FT (24 * i1 + (n * 4 + 0)) (pt (σ.1, σ.2.1, Lt, σ.2.2.2) i1 n 0 0)) (24 * i1 + (n * 4 + 1)) (pt (σ.1, σ.2.1, Lt, σ.2.2.2) i1 n 1 1)) (24 * i1 + (n * 4 + 2)) (pt (σ.1, σ.2.1, Lt, σ.2.2.2) i1 n 2 2)) (24 * i1 + (n * 4 + 3)) (pt (σ.1, σ.2.1, Lt, σ.2.2.2) i1 n 3 3)))))) 215 (.inl (K 1, 24, .inr (.inl (vp_updL (vp_updL (vp_updL (vp_updL FS (4 * n + 0) ((Lt (30 + n) 0) + (pt (σ.1, σ.2.1, Lt, σ.2.2.2) i1 n 0 0))) (4 * n + 1) ((Lt (30 + n) 1) + (pt (σ.1, σ.2.1, Lt, σ.2.2.2) i1 n 1 1))) (4 * n + 2) ((Lt (30 + n) 2) + (pt (σ.1, σ.2.1, Lt, σ.2.2.2) i1 n 2 2))) (4 * n + 3) ((Lt (30 + n) 3) + (pt (σ.1, σ.2.1, Lt, σ.2.2.2) i1 n 3 3))))))) 203 (.inl (K 1, 8, .inr (.inl (vp_updL (Lt 1) i1 (mxL 0 (Lt 1 i1 - tog (σ.1, σ.2.1, Lt, σ.2.2.2) i1 n / 1000000))))))) H := hw
                    refine lv_iinc (v := nI n + 1) (lv' := [(2, .int (nI n + 1)), (5, .long (tog (σ.1, σ.2.1, Lt, σ.2.2.2) i1 n / 1000000)), (3, .long ((((0 + (pt (σ.1, σ.2.1, Lt, σ.2.2.2) i1 n 0 0)) + (pt (σ.1, σ.2.1, Lt, σ.2.2.2) i1 n 1 1)) + (pt (σ.1, σ.2.1, Lt, σ.2.2.2) i1 n 2 2)) + (pt (σ.1, σ.2.1, Lt, σ.2.2.2) i1 n 3 3))), (7, .long (pt (σ.1, σ.2.1, Lt, σ.2.2.2) i1 n 3 3)), (0, .ref (ad 200)), (1, .int (nI i1))]) hx hb d_M_run_197 hl (k := 3) rfl rfl (by decide) rfl (fun ls hl => ?_)
                    refine lv_goto (tgt := 30) hx hb d_M_run_200 (by decide) ?_
                    have hRep : RepM K (s_pass (σ.1, σ.2.1, Lt, σ.2.2.2) i1 n) ad (xu (xu (xu (xu (xu (xu (xu (xu (xu (xu (xu (xu (xu w1 209 (.inl (K 1, 32, .inr (.inl (vp_updL FA (4 * i1 + 0) ((Lt (10 + i1) 0) - (pt (σ.1, σ.2.1, Lt, σ.2.2.2) i1 n 0 0))))))) 210 (.inl (K 1, 192, .inr (.inl (vp_updL FT (24 * i1 + (n * 4 + 0)) (pt (σ.1, σ.2.1, Lt, σ.2.2.2) i1 n 0 0)))))) 215 (.inl (K 1, 24, .inr (.inl (vp_updL FS (4 * n + 0) ((Lt (30 + n) 0) + (pt (σ.1, σ.2.1, Lt, σ.2.2.2) i1 n 0 0))))))) 209 (.inl (K 1, 32, .inr (.inl (vp_updL (vp_updL FA (4 * i1 + 0) ((Lt (10 + i1) 0) - (pt (σ.1, σ.2.1, Lt, σ.2.2.2) i1 n 0 0))) (4 * i1 + 1) ((Lt (10 + i1) 1) - (pt (σ.1, σ.2.1, Lt, σ.2.2.2) i1 n 1 1))))))) 210 (.inl (K 1, 192, .inr (.inl (vp_updL (vp_updL FT (24 * i1 + (n * 4 + 0)) (pt (σ.1, σ.2.1, Lt, σ.2.2.2) i1 n 0 0)) (24 * i1 + (n * 4 + 1)) (pt (σ.1, σ.2.1, Lt, σ.2.2.2) i1 n 1 1)))))) 215 (.inl (K 1, 24, .inr (.inl (vp_updL (vp_updL FS (4 * n + 0) ((Lt (30 + n) 0) + (pt (σ.1, σ.2.1, Lt, σ.2.2.2) i1 n 0 0))) (4 * n + 1) ((Lt (30 + n) 1) + (pt (σ.1, σ.2.1, Lt, σ.2.2.2) i1 n 1 1))))))) 209 (.inl (K 1, 32, .inr (.inl (vp_updL (vp_updL (vp_updL FA (4 * i1 + 0) ((Lt (10 + i1) 0) - (pt (σ.1, σ.2.1, Lt, σ.2.2.2) i1 n 0 0))) (4 * i1 + 1) ((Lt (10 + i1) 1) - (pt (σ.1, σ.2.1, Lt, σ.2.2.2) i1 n 1 1))) (4 * i1 + 2) ((Lt (10 + i1) 2) - (pt (σ.1, σ.2.1, Lt, σ.2.2.2) i1 n 2 2))))))) 210 (.inl (K 1, 192, .inr (.inl (vp_updL (vp_updL (vp_updL FT (24 * i1 + (n * 4 + 0)) (pt (σ.1, σ.2.1, Lt, σ.2.2.2) i1 n 0 0)) (24 * i1 + (n * 4 + 1)) (pt (σ.1, σ.2.1, Lt, σ.2.2.2) i1 n 1 1)) (24 * i1 + (n * 4 + 2)) (pt (σ.1, σ.2.1, Lt, σ.2.2.2) i1 n 2 2)))))) 215 (.inl (K 1, 24, .inr (.inl (vp_updL (vp_updL (vp_updL FS (4 * n + 0) ((Lt (30 + n) 0) + (pt (σ.1, σ.2.1, Lt, σ.2.2.2) i1 n 0 0))) (4 * n + 1) ((Lt (30 + n) 1) + (pt (σ.1, σ.2.1, Lt, σ.2.2.2) i1 n 1 1))) (4 * n + 2) ((Lt (30 + n) 2) + (pt (σ.1, σ.2.1, Lt, σ.2.2.2) i1 n 2 2))))))) 209 (.inl (K 1, 32, .inr (.inl (vp_updL (vp_updL (vp_updL (vp_updL FA (4 * i1 + 0) ((Lt (10 + i1) 0) - (pt (σ.1, σ.2.1, Lt, σ.2.2.2) i1 n 0 0))) (4 * i1 + 1) ((Lt (10 + i1) 1) - (pt (σ.1, σ.2.1, Lt, σ.2.2.2) i1 n 1 1))) (4 * i1 + 2) ((Lt (10 + i1) 2) - (pt (σ.1, σ.2.1, Lt, σ.2.2.2) i1 n 2 2))) (4 * i1 + 3) ((Lt (10 + i1) 3) - (pt (σ.1, σ.2.1, Lt, σ.2.2.2) i1 n 3 3))))))) 210 (.inl (K 1, 192, .inr (.inl (vp_updL (vp_updL (vp_updL (vp_updL FT (24 * i1 + (n * 4 + 0)) (pt (σ.1, σ.2.1, Lt, σ.2.2.2) i1 n 0 0)) (24 * i1 + (n * 4 + 1)) (pt (σ.1, σ.2.1, Lt, σ.2.2.2) i1 n 1 1)) (24 * i1 + (n * 4 + 2)) (pt (σ.1, σ.2.1, Lt, σ.2.2.2) i1 n 2 2)) (24 * i1 + (n * 4 + 3)) (pt (σ.1, σ.2.1, Lt, σ.2.2.2) i1 n 3 3)))))) 215 (.inl (K 1, 24, .inr (.inl (vp_updL (vp_updL (vp_updL (vp_updL FS (4 * n + 0) ((Lt (30 + n) 0) + (pt (σ.1, σ.2.1, Lt, σ.2.2.2) i1 n 0 0))) (4 * n + 1) ((Lt (30 + n) 1) + (pt (σ.1, σ.2.1, Lt, σ.2.2.2) i1 n 1 1))) (4 * n + 2) ((Lt (30 + n) 2) + (pt (σ.1, σ.2.1, Lt, σ.2.2.2) i1 n 2 2))) (4 * n + 3) ((Lt (30 + n) 3) + (pt (σ.1, σ.2.1, Lt, σ.2.2.2) i1 n 3 3))))))) 203 (.inl (K 1, 8, .inr (.inl (vp_updL (Lt 1) i1 (mxL 0 (Lt 1 i1 - tog (σ.1, σ.2.1, Lt, σ.2.2.2) i1 n / 1000000))))))) := by
                      unfold s_pass
                      refine ⟨(vp_updL (vp_updL (vp_updL (vp_updL FA (4 * i1 + 0) (Lt (10 + i1) 0 - pt (σ.1, σ.2.1, Lt, σ.2.2.2) i1 n 0 0)) (4 * i1 + 1) (Lt (10 + i1) 1 - pt (σ.1, σ.2.1, Lt, σ.2.2.2) i1 n 1 1)) (4 * i1 + 2) (Lt (10 + i1) 2 - pt (σ.1, σ.2.1, Lt, σ.2.2.2) i1 n 2 2)) (4 * i1 + 3) (Lt (10 + i1) 3 - pt (σ.1, σ.2.1, Lt, σ.2.2.2) i1 n 3 3)), (vp_updL (vp_updL (vp_updL (vp_updL FT (24 * i1 + (n * 4 + 0)) (pt (σ.1, σ.2.1, Lt, σ.2.2.2) i1 n 0 0)) (24 * i1 + (n * 4 + 1)) (pt (σ.1, σ.2.1, Lt, σ.2.2.2) i1 n 1 1)) (24 * i1 + (n * 4 + 2)) (pt (σ.1, σ.2.1, Lt, σ.2.2.2) i1 n 2 2)) (24 * i1 + (n * 4 + 3)) (pt (σ.1, σ.2.1, Lt, σ.2.2.2) i1 n 3 3)), (vp_updL (vp_updL (vp_updL (vp_updL FS (4 * n + 0) (Lt (30 + n) 0 + pt (σ.1, σ.2.1, Lt, σ.2.2.2) i1 n 0 0)) (4 * n + 1) (Lt (30 + n) 1 + pt (σ.1, σ.2.1, Lt, σ.2.2.2) i1 n 1 1)) (4 * n + 2) (Lt (30 + n) 2 + pt (σ.1, σ.2.1, Lt, σ.2.2.2) i1 n 2 2)) (4 * n + 3) (Lt (30 + n) 3 + pt (σ.1, σ.2.1, Lt, σ.2.2.2) i1 n 3 3)), FO, ?_, ?_, ?_, ?_, ?_, ?_, ?_, ?_, ?_, ?_, ?_, ?_, ?_, ?_, ?_, ?_, ?_, ?_, ?_, ?_, ?_, ?_, ?_, ?_, ?_⟩
                      · simp (disch := omega) only [pN, pI, pL, pZ, row_eq, row_ne, xu_eq, xu_ne, xa_eq, xa_ne, pk_us, pk_un, pk_uLs, pk_uLn, m200]
                      · simp (disch := omega) only [pN, pI, pL, pZ, row_eq, row_ne, xu_eq, xu_ne, xa_eq, xa_ne, pk_us, pk_un, pk_uLs, pk_uLn, m203]
                      · simp (disch := omega) only [pN, pI, pL, pZ, row_eq, row_ne, xu_eq, xu_ne, xa_eq, xa_ne, pk_us, pk_un, pk_uLs, pk_uLn, m204]
                      · simp (disch := omega) only [pN, pI, pL, pZ, row_eq, row_ne, xu_eq, xu_ne, xa_eq, xa_ne, pk_us, pk_un, pk_uLs, pk_uLn, m205]
                      · simp (disch := omega) only [pN, pI, pL, pZ, row_eq, row_ne, xu_eq, xu_ne, xa_eq, xa_ne, pk_us, pk_un, pk_uLs, pk_uLn, m206]
                      · simp (disch := omega) only [pN, pI, pL, pZ, row_eq, row_ne, xu_eq, xu_ne, xa_eq, xa_ne, pk_us, pk_un, pk_uLs, pk_uLn, m207]
                      · simp (disch := omega) only [pN, pI, pL, pZ, row_eq, row_ne, xu_eq, xu_ne, xa_eq, xa_ne, pk_us, pk_un, pk_uLs, pk_uLn, m208]
                      · simp (disch := omega) only [pN, pI, pL, pZ, row_eq, row_ne, xu_eq, xu_ne, xa_eq, xa_ne, pk_us, pk_un, pk_uLs, pk_uLn, m209]
                      · simp (disch := omega) only [pN, pI, pL, pZ, row_eq, row_ne, xu_eq, xu_ne, xa_eq, xa_ne, pk_us, pk_un, pk_uLs, pk_uLn, m210]
                      · simp (disch := omega) only [pN, pI, pL, pZ, row_eq, row_ne, xu_eq, xu_ne, xa_eq, xa_ne, pk_us, pk_un, pk_uLs, pk_uLn, m212]
                      · simp (disch := omega) only [pN, pI, pL, pZ, row_eq, row_ne, xu_eq, xu_ne, xa_eq, xa_ne, pk_us, pk_un, pk_uLs, pk_uLn, m213]
                      · simp (disch := omega) only [pN, pI, pL, pZ, row_eq, row_ne, xu_eq, xu_ne, xa_eq, xa_ne, pk_us, pk_un, pk_uLs, pk_uLn, m214]
                      · simp (disch := omega) only [pN, pI, pL, pZ, row_eq, row_ne, xu_eq, xu_ne, xa_eq, xa_ne, pk_us, pk_un, pk_uLs, pk_uLn, m215]
                      · simp (disch := omega) only [pN, pI, pL, pZ, row_eq, row_ne, xu_eq, xu_ne, xa_eq, xa_ne, pk_us, pk_un, pk_uLs, pk_uLn, m216]
                      · simp (disch := omega) only [pN, pI, pL, pZ, row_eq, row_ne, xu_eq, xu_ne, xa_eq, xa_ne, pk_us, pk_un, pk_uLs, pk_uLn, m217]
                      · simp (disch := omega) only [pN, pI, pL, pZ, row_eq, row_ne, xu_eq, xu_ne, xa_eq, xa_ne, pk_us, pk_un, pk_uLs, pk_uLn, m218]
                      · simp (disch := omega) only [pN, pI, pL, pZ, row_eq, row_ne, xu_eq, xu_ne, xa_eq, xa_ne, pk_us, pk_un, pk_uLs, pk_uLn, m220]
                      · simp (disch := omega) only [pN, pI, pL, pZ, row_eq, row_ne, xu_eq, xu_ne, xa_eq, xa_ne, pk_us, pk_un, pk_uLs, pk_uLn, m223]
                      · simp (disch := omega) only [pN, pI, pL, pZ, row_eq, row_ne, xu_eq, xu_ne, xa_eq, xa_ne, pk_us, pk_un, pk_uLs, pk_uLn, m224]
                      · simp (disch := omega) only [pN, pI, pL, pZ, row_eq, row_ne, xu_eq, xu_ne, xa_eq, xa_ne, pk_us, pk_un, pk_uLs, pk_uLn, m225]
                      · simp (disch := omega) only [pN, pI, pL, pZ, row_eq, row_ne, xu_eq, xu_ne, xa_eq, xa_ne, pk_us, pk_un, pk_uLs, pk_uLn, m226]
                      · intro b q hb hq; simp (disch := omega) only [pN, pI, pL, pZ, row_ne, row_in]; exact rel4 hFA b q hb hq
                      · intro b q hb hq; simp (disch := omega) only [pN, pI, pL, pZ, row_ne, row_in]; exact relT4 (by omega) hFT b q hb hq
                      · intro b q hb hq; simp (disch := omega) only [pN, pI, pL, pZ, row_ne, row_in]; exact rel4 hFS b q hb hq
                      · intro b q hb hq; simp (disch := omega) only [pN, pI, pL, pZ, row_eq, row_ne, xu_eq, xu_ne, xa_eq, xa_ne, pk_us, pk_un, pk_uLs, pk_uLn]; exact hFO b q hb hq
                    have hp2 : passN σ i1 (n + 1) = (σ.1, σ.2.1, (s_pass (σ.1, σ.2.1, Lt, σ.2.2.2) i1 n).2.2.1, σ.2.2.2) := by rw [passN, hpn]; rfl
                    have hmb := mxs_b (w := Lt 1 i1) (T := tog (σ.1, σ.2.1, Lt, σ.2.2.2) i1 n / 1000000) hwb.1 (by omega) (div_b _)
                    have he : (s_pass (σ.1, σ.2.1, Lt, σ.2.2.2) i1 n).2.2.1 1 i1 = mxL 0 (Lt 1 i1 - tog (σ.1, σ.2.1, Lt, σ.2.2.2) i1 n / 1000000) := by simp (disch := omega) only [s_pass, pL, row_eq, pk_uLs]
                    refine ih (by omega) _ _ _ ⟨_, _, hp2, by rw [he]; omega, hw, hRep, fun t h2 => by simp (disch := omega) only [xu_ne, hfw], hS, ?_⟩
                    rw [show nI (n + 1) = nI n + 1 from nI_succ n]; exact lv_sub hl [0, 4, 5] rfl
                  · refine lv_lload hx hb d_M_run_171 (lv_at hl 0 rfl) ?_
                    refine lv_aload_n hx hb d_M_run_173 rfl (lv_at hl 4 rfl) ?_
                    refine xr_get (ci := 5) (v := .ref (ad 203)) (C := R_M) (T := T_M) (N := 26) hx hb htw in_M hown hK hw 200 ((xu_ne (by omega)).trans ((xu_ne (by omega)).trans ((xu_ne (by omega)).trans ((xu_ne (by omega)).trans ((xu_ne (by omega)).trans ((xu_ne (by omega)).trans ((xu_ne (by omega)).trans ((xu_ne (by omega)).trans ((xu_ne (by omega)).trans ((xu_ne (by omega)).trans ((xu_ne (by omega)).trans ((xu_ne (by omega)).trans (m200))))))))))))) rfl rfl 2 (by decide) (htw _ u_336) (fun _ h9 => h9) rfl d_M_run_174 ?_
                    refine lv_iload_n hx hb d_M_run_177 rfl (lv_at hl 5 rfl) ?_
                    refine xr_lald (i := nI i1) hx hb hK hw 203 1 ((xu_ne (by omega)).trans ((xu_ne (by omega)).trans ((xu_ne (by omega)).trans ((xu_ne (by omega)).trans ((xu_ne (by omega)).trans ((xu_ne (by omega)).trans ((xu_ne (by omega)).trans ((xu_ne (by omega)).trans ((xu_ne (by omega)).trans ((xu_ne (by omega)).trans ((xu_ne (by omega)).trans ((xu_ne (by omega)).trans (m203))))))))))))) rfl rfl (xvin (a := i1) rfl (by omega) (by omega)) d_M_run_178 ?_
                    refine lv_topl (fun x_32 ex_32 => ?_)
                    obtain rfl : x_32 = (Lt 1) i1 := ex_32.trans ((congrArg (Lt 1) (xcl (a := i1) rfl (by omega))).trans rfl)
                    refine xr_lc_le (tgt := 187) hx hb d_M_run_179 d_M_run_180 (by decide) (fun c_33 => ?_) (fun c_33 => ?_)
                    · refine lv_aload_n hx hb d_M_run_187 rfl (lv_at hl 4 rfl) ?_
                      refine xr_get (ci := 5) (v := .ref (ad 203)) (C := R_M) (T := T_M) (N := 26) hx hb htw in_M hown hK hw 200 ((xu_ne (by omega)).trans ((xu_ne (by omega)).trans ((xu_ne (by omega)).trans ((xu_ne (by omega)).trans ((xu_ne (by omega)).trans ((xu_ne (by omega)).trans ((xu_ne (by omega)).trans ((xu_ne (by omega)).trans ((xu_ne (by omega)).trans ((xu_ne (by omega)).trans ((xu_ne (by omega)).trans ((xu_ne (by omega)).trans (m200))))))))))))) rfl rfl 2 (by decide) (htw _ u_336) (fun _ h9 => h9) rfl d_M_run_188 ?_
                      refine lv_iload_n hx hb d_M_run_191 rfl (lv_at hl 5 rfl) ?_
                      refine xr_lald (i := nI i1) hx hb hK hw 203 1 ((xu_ne (by omega)).trans ((xu_ne (by omega)).trans ((xu_ne (by omega)).trans ((xu_ne (by omega)).trans ((xu_ne (by omega)).trans ((xu_ne (by omega)).trans ((xu_ne (by omega)).trans ((xu_ne (by omega)).trans ((xu_ne (by omega)).trans ((xu_ne (by omega)).trans ((xu_ne (by omega)).trans ((xu_ne (by omega)).trans (m203))))))))))))) rfl rfl (xvin (a := i1) rfl (by omega) (by omega)) d_M_run_192 ?_
                      refine lv_topl (fun x_34 ex_34 => ?_)
                      obtain rfl : x_34 = (Lt 1) i1 := ex_34.trans ((congrArg (Lt 1) (xcl (a := i1) rfl (by omega))).trans rfl)
                      refine lv_lload hx hb d_M_run_193 (lv_at hl 0 rfl) ?_
                      refine lv_lsub hx hb d_M_run_195 ?_
                      exact W.eq (g2 := F0 m 196 ls [.long (mxL 0 (Lt 1 i1 - tog (σ.1, σ.2.1, Lt, σ.2.2.2) i1 n / 1000000)), .int (nI i1), .ref (ad 203)]) (congrArg (fun z => F0 m 196 ls (Value.long z :: [.int (nI i1), .ref (ad 203)])) (show (((Lt 1) i1) - (tog (σ.1, σ.2.1, Lt, σ.2.2.2) i1 n / 1000000) : Int64) = mxL 0 (Lt 1 i1 - tog (σ.1, σ.2.1, Lt, σ.2.2.2) i1 n / 1000000) from (mxs (w := Lt 1 i1) (T := tog (σ.1, σ.2.1, Lt, σ.2.2.2) i1 n / 1000000) hwb.1 (by omega) (div_b _)).1 c_33)) hj
                    · refine lv_lconst (v := 0) hx hb d_M_run_183 (by decide) ?_
                      refine lv_goto (tgt := 196) hx hb d_M_run_184 (by decide) ?_
                      exact W.eq (g2 := F0 m 196 ls [.long (mxL 0 (Lt 1 i1 - tog (σ.1, σ.2.1, Lt, σ.2.2.2) i1 n / 1000000)), .int (nI i1), .ref (ad 203)]) (congrArg (fun z => F0 m 196 ls (Value.long z :: [.int (nI i1), .ref (ad 203)])) (show (0 : Int64) = mxL 0 (Lt 1 i1 - tog (σ.1, σ.2.1, Lt, σ.2.2.2) i1 n / 1000000) from (mxs (w := Lt 1 i1) (T := tog (σ.1, σ.2.1, Lt, σ.2.2.2) i1 n / 1000000) hwb.1 (by omega) (div_b _)).2 c_33)) hj
                · refine lv_iload hx hb d_M_run_49 (lv_at hl 0 rfl) ?_
                  refine lv_aload_n hx hb d_M_run_51 rfl (lv_at hl 5 rfl) ?_
                  refine xr_get (ci := 5) (v := .ref (ad 212)) (C := R_M) (T := T_M) (N := 26) hx hb htw in_M hown hK hw 200 ((xu_ne (by omega)).trans ((xu_ne (by omega)).trans ((xu_ne (by omega)).trans ((xu_ne (by omega)).trans ((xu_ne (by omega)).trans ((xu_ne (by omega)).trans ((xu_ne (by omega)).trans ((xu_ne (by omega)).trans ((xu_ne (by omega)).trans (m200)))))))))) rfl rfl 11 (by decide) (htw _ u_345) (fun _ h9 => h9) rfl d_M_run_52 ?_
                  refine lv_iload_n hx hb d_M_run_55 rfl (lv_at hl 4 rfl) ?_
                  refine xr_iald (i := nI n) hx hb hK hw 212 0 ((xu_ne (by omega)).trans ((xu_ne (by omega)).trans ((xu_ne (by omega)).trans ((xu_ne (by omega)).trans ((xu_ne (by omega)).trans ((xu_ne (by omega)).trans ((xu_ne (by omega)).trans ((xu_ne (by omega)).trans ((xu_ne (by omega)).trans (m212)))))))))) rfl rfl (xvin (a := n) rfl (by omega) (by omega)) d_M_run_56 ?_
                  refine lv_topi (fun x_35 ex_35 => ?_)
                  obtain rfl : x_35 = (σ.2.1 3) n := ex_35.trans ((congrArg (σ.2.1 3) (xcl (a := n) rfl (by omega))).trans rfl)
                  refine lv_icmp_ne (tgt := 69) hx hb d_M_run_57 (by decide) (fun c_36 => ?_) (fun c_36 => ?_)
                  · refine lv_aload_n hx hb d_M_run_69 rfl (lv_at hl 5 rfl) ?_
                    refine xr_get (ci := 5) (v := .ref (ad 214)) (C := R_M) (T := T_M) (N := 26) hx hb htw in_M hown hK hw 200 ((xu_ne (by omega)).trans ((xu_ne (by omega)).trans ((xu_ne (by omega)).trans ((xu_ne (by omega)).trans ((xu_ne (by omega)).trans ((xu_ne (by omega)).trans ((xu_ne (by omega)).trans ((xu_ne (by omega)).trans ((xu_ne (by omega)).trans (m200)))))))))) rfl rfl 13 (by decide) (htw _ u_347) (fun _ h9 => h9) rfl d_M_run_70 ?_
                    refine lv_iload_n hx hb d_M_run_73 rfl (lv_at hl 4 rfl) ?_
                    refine xr_iald (i := nI n) hx hb hK hw 214 0 ((xu_ne (by omega)).trans ((xu_ne (by omega)).trans ((xu_ne (by omega)).trans ((xu_ne (by omega)).trans ((xu_ne (by omega)).trans ((xu_ne (by omega)).trans ((xu_ne (by omega)).trans ((xu_ne (by omega)).trans ((xu_ne (by omega)).trans (m214)))))))))) rfl rfl (xvin (a := n) rfl (by omega) (by omega)) d_M_run_74 ?_
                    refine lv_topi (fun x_37 ex_37 => ?_)
                    obtain rfl : x_37 = (σ.2.1 5) n := ex_37.trans ((congrArg (σ.2.1 5) (xcl (a := n) rfl (by omega))).trans rfl)
                    exact W.eq (g2 := F0 m 75 ls [.int (thou σ n 3)]) (congrArg (fun z => F0 m 75 ls (Value.int z :: [])) (show ((σ.2.1 5) n : Int32) = thou σ n 3 from by simp [thou, c_36])) hj
                  · refine lv_aload_n hx hb d_M_run_60 rfl (lv_at hl 5 rfl) ?_
                    refine xr_get (ci := 5) (v := .ref (ad 213)) (C := R_M) (T := T_M) (N := 26) hx hb htw in_M hown hK hw 200 ((xu_ne (by omega)).trans ((xu_ne (by omega)).trans ((xu_ne (by omega)).trans ((xu_ne (by omega)).trans ((xu_ne (by omega)).trans ((xu_ne (by omega)).trans ((xu_ne (by omega)).trans ((xu_ne (by omega)).trans ((xu_ne (by omega)).trans (m200)))))))))) rfl rfl 12 (by decide) (htw _ u_346) (fun _ h9 => h9) rfl d_M_run_61 ?_
                    refine lv_iload_n hx hb d_M_run_64 rfl (lv_at hl 4 rfl) ?_
                    refine xr_iald (i := nI n) hx hb hK hw 213 0 ((xu_ne (by omega)).trans ((xu_ne (by omega)).trans ((xu_ne (by omega)).trans ((xu_ne (by omega)).trans ((xu_ne (by omega)).trans ((xu_ne (by omega)).trans ((xu_ne (by omega)).trans ((xu_ne (by omega)).trans ((xu_ne (by omega)).trans (m213)))))))))) rfl rfl (xvin (a := n) rfl (by omega) (by omega)) d_M_run_65 ?_
                    refine lv_topi (fun x_38 ex_38 => ?_)
                    obtain rfl : x_38 = (σ.2.1 4) n := ex_38.trans ((congrArg (σ.2.1 4) (xcl (a := n) rfl (by omega))).trans rfl)
                    refine lv_goto (tgt := 75) hx hb d_M_run_66 (by decide) ?_
                    exact W.eq (g2 := F0 m 75 ls [.int (thou σ n 3)]) (congrArg (fun z => F0 m 75 ls (Value.int z :: [])) (show ((σ.2.1 4) n : Int32) = thou σ n 3 from by simp [thou, c_36])) hj
              · refine lv_iload hx hb d_M_run_49 (lv_at hl 0 rfl) ?_
                refine lv_aload_n hx hb d_M_run_51 rfl (lv_at hl 5 rfl) ?_
                refine xr_get (ci := 5) (v := .ref (ad 212)) (C := R_M) (T := T_M) (N := 26) hx hb htw in_M hown hK hw 200 ((xu_ne (by omega)).trans ((xu_ne (by omega)).trans ((xu_ne (by omega)).trans ((xu_ne (by omega)).trans ((xu_ne (by omega)).trans ((xu_ne (by omega)).trans (m200))))))) rfl rfl 11 (by decide) (htw _ u_345) (fun _ h9 => h9) rfl d_M_run_52 ?_
                refine lv_iload_n hx hb d_M_run_55 rfl (lv_at hl 4 rfl) ?_
                refine xr_iald (i := nI n) hx hb hK hw 212 0 ((xu_ne (by omega)).trans ((xu_ne (by omega)).trans ((xu_ne (by omega)).trans ((xu_ne (by omega)).trans ((xu_ne (by omega)).trans ((xu_ne (by omega)).trans (m212))))))) rfl rfl (xvin (a := n) rfl (by omega) (by omega)) d_M_run_56 ?_
                refine lv_topi (fun x_39 ex_39 => ?_)
                obtain rfl : x_39 = (σ.2.1 3) n := ex_39.trans ((congrArg (σ.2.1 3) (xcl (a := n) rfl (by omega))).trans rfl)
                refine lv_icmp_ne (tgt := 69) hx hb d_M_run_57 (by decide) (fun c_40 => ?_) (fun c_40 => ?_)
                · refine lv_aload_n hx hb d_M_run_69 rfl (lv_at hl 5 rfl) ?_
                  refine xr_get (ci := 5) (v := .ref (ad 214)) (C := R_M) (T := T_M) (N := 26) hx hb htw in_M hown hK hw 200 ((xu_ne (by omega)).trans ((xu_ne (by omega)).trans ((xu_ne (by omega)).trans ((xu_ne (by omega)).trans ((xu_ne (by omega)).trans ((xu_ne (by omega)).trans (m200))))))) rfl rfl 13 (by decide) (htw _ u_347) (fun _ h9 => h9) rfl d_M_run_70 ?_
                  refine lv_iload_n hx hb d_M_run_73 rfl (lv_at hl 4 rfl) ?_
                  refine xr_iald (i := nI n) hx hb hK hw 214 0 ((xu_ne (by omega)).trans ((xu_ne (by omega)).trans ((xu_ne (by omega)).trans ((xu_ne (by omega)).trans ((xu_ne (by omega)).trans ((xu_ne (by omega)).trans (m214))))))) rfl rfl (xvin (a := n) rfl (by omega) (by omega)) d_M_run_74 ?_
                  refine lv_topi (fun x_41 ex_41 => ?_)
                  obtain rfl : x_41 = (σ.2.1 5) n := ex_41.trans ((congrArg (σ.2.1 5) (xcl (a := n) rfl (by omega))).trans rfl)
                  exact W.eq (g2 := F0 m 75 ls [.int (thou σ n 2)]) (congrArg (fun z => F0 m 75 ls (Value.int z :: [])) (show ((σ.2.1 5) n : Int32) = thou σ n 2 from by simp [thou, c_40])) hj
                · refine lv_aload_n hx hb d_M_run_60 rfl (lv_at hl 5 rfl) ?_
                  refine xr_get (ci := 5) (v := .ref (ad 213)) (C := R_M) (T := T_M) (N := 26) hx hb htw in_M hown hK hw 200 ((xu_ne (by omega)).trans ((xu_ne (by omega)).trans ((xu_ne (by omega)).trans ((xu_ne (by omega)).trans ((xu_ne (by omega)).trans ((xu_ne (by omega)).trans (m200))))))) rfl rfl 12 (by decide) (htw _ u_346) (fun _ h9 => h9) rfl d_M_run_61 ?_
                  refine lv_iload_n hx hb d_M_run_64 rfl (lv_at hl 4 rfl) ?_
                  refine xr_iald (i := nI n) hx hb hK hw 213 0 ((xu_ne (by omega)).trans ((xu_ne (by omega)).trans ((xu_ne (by omega)).trans ((xu_ne (by omega)).trans ((xu_ne (by omega)).trans ((xu_ne (by omega)).trans (m213))))))) rfl rfl (xvin (a := n) rfl (by omega) (by omega)) d_M_run_65 ?_
                  refine lv_topi (fun x_42 ex_42 => ?_)
                  obtain rfl : x_42 = (σ.2.1 4) n := ex_42.trans ((congrArg (σ.2.1 4) (xcl (a := n) rfl (by omega))).trans rfl)
                  refine lv_goto (tgt := 75) hx hb d_M_run_66 (by decide) ?_
                  exact W.eq (g2 := F0 m 75 ls [.int (thou σ n 2)]) (congrArg (fun z => F0 m 75 ls (Value.int z :: [])) (show ((σ.2.1 4) n : Int32) = thou σ n 2 from by simp [thou, c_40])) hj
            · refine lv_iload hx hb d_M_run_49 (lv_at hl 0 rfl) ?_
              refine lv_aload_n hx hb d_M_run_51 rfl (lv_at hl 5 rfl) ?_
              refine xr_get (ci := 5) (v := .ref (ad 212)) (C := R_M) (T := T_M) (N := 26) hx hb htw in_M hown hK hw 200 ((xu_ne (by omega)).trans ((xu_ne (by omega)).trans ((xu_ne (by omega)).trans (m200)))) rfl rfl 11 (by decide) (htw _ u_345) (fun _ h9 => h9) rfl d_M_run_52 ?_
              refine lv_iload_n hx hb d_M_run_55 rfl (lv_at hl 4 rfl) ?_
              refine xr_iald (i := nI n) hx hb hK hw 212 0 ((xu_ne (by omega)).trans ((xu_ne (by omega)).trans ((xu_ne (by omega)).trans (m212)))) rfl rfl (xvin (a := n) rfl (by omega) (by omega)) d_M_run_56 ?_
              refine lv_topi (fun x_43 ex_43 => ?_)
              obtain rfl : x_43 = (σ.2.1 3) n := ex_43.trans ((congrArg (σ.2.1 3) (xcl (a := n) rfl (by omega))).trans rfl)
              refine lv_icmp_ne (tgt := 69) hx hb d_M_run_57 (by decide) (fun c_44 => ?_) (fun c_44 => ?_)
              · refine lv_aload_n hx hb d_M_run_69 rfl (lv_at hl 5 rfl) ?_
                refine xr_get (ci := 5) (v := .ref (ad 214)) (C := R_M) (T := T_M) (N := 26) hx hb htw in_M hown hK hw 200 ((xu_ne (by omega)).trans ((xu_ne (by omega)).trans ((xu_ne (by omega)).trans (m200)))) rfl rfl 13 (by decide) (htw _ u_347) (fun _ h9 => h9) rfl d_M_run_70 ?_
                refine lv_iload_n hx hb d_M_run_73 rfl (lv_at hl 4 rfl) ?_
                refine xr_iald (i := nI n) hx hb hK hw 214 0 ((xu_ne (by omega)).trans ((xu_ne (by omega)).trans ((xu_ne (by omega)).trans (m214)))) rfl rfl (xvin (a := n) rfl (by omega) (by omega)) d_M_run_74 ?_
                refine lv_topi (fun x_45 ex_45 => ?_)
                obtain rfl : x_45 = (σ.2.1 5) n := ex_45.trans ((congrArg (σ.2.1 5) (xcl (a := n) rfl (by omega))).trans rfl)
                exact W.eq (g2 := F0 m 75 ls [.int (thou σ n 1)]) (congrArg (fun z => F0 m 75 ls (Value.int z :: [])) (show ((σ.2.1 5) n : Int32) = thou σ n 1 from by simp [thou, c_44])) hj
              · refine lv_aload_n hx hb d_M_run_60 rfl (lv_at hl 5 rfl) ?_
                refine xr_get (ci := 5) (v := .ref (ad 213)) (C := R_M) (T := T_M) (N := 26) hx hb htw in_M hown hK hw 200 ((xu_ne (by omega)).trans ((xu_ne (by omega)).trans ((xu_ne (by omega)).trans (m200)))) rfl rfl 12 (by decide) (htw _ u_346) (fun _ h9 => h9) rfl d_M_run_61 ?_
                refine lv_iload_n hx hb d_M_run_64 rfl (lv_at hl 4 rfl) ?_
                refine xr_iald (i := nI n) hx hb hK hw 213 0 ((xu_ne (by omega)).trans ((xu_ne (by omega)).trans ((xu_ne (by omega)).trans (m213)))) rfl rfl (xvin (a := n) rfl (by omega) (by omega)) d_M_run_65 ?_
                refine lv_topi (fun x_46 ex_46 => ?_)
                obtain rfl : x_46 = (σ.2.1 4) n := ex_46.trans ((congrArg (σ.2.1 4) (xcl (a := n) rfl (by omega))).trans rfl)
                refine lv_goto (tgt := 75) hx hb d_M_run_66 (by decide) ?_
                exact W.eq (g2 := F0 m 75 ls [.int (thou σ n 1)]) (congrArg (fun z => F0 m 75 ls (Value.int z :: [])) (show ((σ.2.1 4) n : Int32) = thou σ n 1 from by simp [thou, c_44])) hj
          · refine lv_iload hx hb d_M_run_49 (lv_at hl 0 rfl) ?_
            refine lv_aload_n hx hb d_M_run_51 rfl (lv_at hl 3 rfl) ?_
            refine xr_get (ci := 5) (v := .ref (ad 212)) (C := R_M) (T := T_M) (N := 26) hx hb htw in_M hown hK hw 200 m200 rfl rfl 11 (by decide) (htw _ u_345) (fun _ h9 => h9) rfl d_M_run_52 ?_
            refine lv_iload_n hx hb d_M_run_55 rfl (lv_at hl 2 rfl) ?_
            refine xr_iald (i := nI n) hx hb hK hw 212 0 m212 rfl rfl (xvin (a := n) rfl (by omega) (by omega)) d_M_run_56 ?_
            refine lv_topi (fun x_47 ex_47 => ?_)
            obtain rfl : x_47 = (σ.2.1 3) n := ex_47.trans ((congrArg (σ.2.1 3) (xcl (a := n) rfl (by omega))).trans rfl)
            refine lv_icmp_ne (tgt := 69) hx hb d_M_run_57 (by decide) (fun c_48 => ?_) (fun c_48 => ?_)
            · refine lv_aload_n hx hb d_M_run_69 rfl (lv_at hl 3 rfl) ?_
              refine xr_get (ci := 5) (v := .ref (ad 214)) (C := R_M) (T := T_M) (N := 26) hx hb htw in_M hown hK hw 200 m200 rfl rfl 13 (by decide) (htw _ u_347) (fun _ h9 => h9) rfl d_M_run_70 ?_
              refine lv_iload_n hx hb d_M_run_73 rfl (lv_at hl 2 rfl) ?_
              refine xr_iald (i := nI n) hx hb hK hw 214 0 m214 rfl rfl (xvin (a := n) rfl (by omega) (by omega)) d_M_run_74 ?_
              refine lv_topi (fun x_49 ex_49 => ?_)
              obtain rfl : x_49 = (σ.2.1 5) n := ex_49.trans ((congrArg (σ.2.1 5) (xcl (a := n) rfl (by omega))).trans rfl)
              exact W.eq (g2 := F0 m 75 ls [.int (thou σ n 0)]) (congrArg (fun z => F0 m 75 ls (Value.int z :: [])) (show ((σ.2.1 5) n : Int32) = thou σ n 0 from by simp [thou, c_48])) hj
            · refine lv_aload_n hx hb d_M_run_60 rfl (lv_at hl 3 rfl) ?_
              refine xr_get (ci := 5) (v := .ref (ad 213)) (C := R_M) (T := T_M) (N := 26) hx hb htw in_M hown hK hw 200 m200 rfl rfl 12 (by decide) (htw _ u_346) (fun _ h9 => h9) rfl d_M_run_61 ?_
              refine lv_iload_n hx hb d_M_run_64 rfl (lv_at hl 2 rfl) ?_
              refine xr_iald (i := nI n) hx hb hK hw 213 0 m213 rfl rfl (xvin (a := n) rfl (by omega) (by omega)) d_M_run_65 ?_
              refine lv_topi (fun x_50 ex_50 => ?_)
              obtain rfl : x_50 = (σ.2.1 4) n := ex_50.trans ((congrArg (σ.2.1 4) (xcl (a := n) rfl (by omega))).trans rfl)
              refine lv_goto (tgt := 75) hx hb d_M_run_66 (by decide) ?_
              exact W.eq (g2 := F0 m 75 ls [.int (thou σ n 0)]) (congrArg (fun z => F0 m 75 ls (Value.int z :: [])) (show ((σ.2.1 4) n : Int32) = thou σ n 0 from by simp [thou, c_48])) hj
      · have c_8 : (σ.2.2.2 1 i1) = true := bI_t.mp c_8
        refine lv_iconst (v := (-1)) hx hb d_M_run_26 (by decide) ?_
        have hf : f_run σ (nI i1) = (σ, (-1)) := by simp [f_run, opt_n, opt_s, fi1, c_6, c_8, opt_c]
        exact W.iret (v := (-1)) hx hb hr (fun t ht _ => ⟨_, rfl, by rw [hf, ht]; exact ⟨rfl, PM_same hw hR⟩, hS.F ht⟩) hS.2.2 d_M_run_27
