set_option maxHeartbeats 4000000 in
set_option maxRecDepth 100000 in
theorem c_A_stage {l : Launch} {D : va_G} {K : Nat → ClassId} {B : Nat} {ad : Nat → Nat} {w : Nat → Option va_E} {H : Heap} {σ : xS} (hR : RepX K σ ad w) (hI : Inv σ) (hw : xw D vwCl B ad w H) (hB : B ≤ H.size) (x1 x2 x3 : Int32) : xC l D K B y_A_stage b_A_stage 4 (some .int) rm_A_stage [.ref (ad 0), .int x1, .int x2, .int x3] H (fun v H1 => v = some (.int (f_stage σ x1 x2 x3).2) ∧ PX D K B ad w (f_stage σ x1 x2 x3).1 H1) := by
  refine Met.ofW (cc := b_A_stage) (maxL := 4) (ret := (some .int)) (by decide) rfl ?_
  intro p e s m args below meth c s₁ B0 hml hv
  obtain ⟨rfl, hsz, hK, hN⟩ := hv
  have hx := B0.exec
  have hb := B0.bytes
  have hr := B0.returns
  have htw : ∀ w ∈ xW0, w.before [.ref (ad 0), .int x1, .int x2, .int x3].toArray s = true := fun w h => atoms_spec (ws := Cond.code y_A_stage b_A_stage 4 (some .int) :: xW0) B0.pre w (List.mem_cons_of_mem _ h)
  have hown : s.vm.findClass R_A = some m.cls := findClass_of_methodNamed B0.named
  have hlocks := B0.notSynchronized
  subst hsz
  have hS : va_S (fun q => B ≤ q) s.heap s.heap [] := va_S.rf
  have hl := lv_entry ([.ref (ad 0), .int x1, .int x2, .int x3]) (n := 4) (Nat.le_of_ble_eq_true rfl)
  rw [lg_entry_eq]
  generalize (lg_sl ([.ref (ad 0), .int x1, .int x2, .int x3]) ++ List.replicate (4 - (lg_sl ([.ref (ad 0), .int x1, .int x2, .int x3])).length) Slot.unset).toArray = ls at hl ⊢
  have hl : lv_has ls 4 [(0, .ref (ad 0)), (1, .int x1), (2, .int x2), (3, .int x3)] := hl
  have hH : s.heap = s.heap := rfl
  obtain ⟨r0, r1, r2, r3, r4, r5, r6, r7, rb, rba, rbt, rbo, rs, rss, rr⟩ := id hR
  obtain ⟨hnb, hns, hnr, hpc, hst, hto, htl, hrm, hpa, hwt, hdf, hds⟩ := id hI
  refine lv_iload_n hx hb d_A_stage_0 rfl (lv_at hl 1 rfl) ?_
  refine xr_call (va_runS (As := [.int x1]) (rest := []) ⟨hx, hb, hml, hown, htw⟩ (c_A_isMetal x1) (va_cwS 1 htw (gS u_135 u_136 u_1 u_137) rfl rfl rfl hd_A_isMetal.2 ⟨Nat.le_of_ble_eq_true rfl, Nat.le_of_ble_eq_true rfl⟩) ⟨xP_blind, xP_of hK hN⟩ rfl rfl hl.1 rfl (lv_room (Nat.le_of_ble_eq_true rfl)) d_A_stage_1 ⟨by decide, by decide⟩) hS (fun v H_ locs hp hS => ?_)
  obtain ⟨rfl, hHe⟩ := hp
  rw [hHe] at hS ⊢
  refine W.eq (g2 := F0 m 4 ls [.int (bI (xm x1))]) rfl ?_
  refine lv_if_eq (tgt := 16) hx hb d_A_stage_4 (by decide) (fun c_1 => ?_) (fun c_1 => ?_)
  · have c_1 : (xm x1) = false := bI_f.mp c_1
    refine lv_iconst (v := (-1)) hx hb d_A_stage_16 (by decide) ?_
    have hf : f_stage σ x1 x2 x3 = (σ, (-1)) := by simp [f_stage, opt_n, opt_s, c_1]
    refine W.widen (k := 2) (n := 8) (by decide) (by decide) ?_
    exact W.iret (v := (-1)) hx hb hr (fun t ht _ => ⟨_, rfl, by rw [hf, ht]; exact ⟨rfl, PX_same hw hR⟩, hS.F ht⟩) hS.2.2 d_A_stage_17
  · have c_1 : (xm x1) = true := bI_t.mp c_1
    refine lv_aload_n hx hb d_A_stage_7 rfl (lv_at hl 0 rfl) ?_
    refine xr_get (ci := 0) (v := .int (nI (σ.1 1))) (C := R_A) (T := T_A) (N := 10) hx hb htw in_A hown hK hw 0 r0 rfl rfl 3 (by decide) (htw _ u_44) (fun _ h9 => h9) rfl d_A_stage_8 ?_
    refine lv_bipush (v := 6) hx hb d_A_stage_11 (by decide) ?_
    refine lv_icmp_lt (tgt := 18) hx hb d_A_stage_13 (by decide) (fun c_2 => ?_) (fun c_2 => ?_)
    · have c_2 : (σ.1 1) < 6 := (nLT (a := σ.1 1) (b := 6) (by omega) (by omega)).mp c_2
      refine lv_iload_n hx hb d_A_stage_18 rfl (lv_at hl 2 rfl) ?_
      refine lv_i2l hx hb d_A_stage_19 rfl ?_
      refine lv_lconst (v := 0) hx hb d_A_stage_20 (by decide) ?_
      refine lv_ldc2 (v := 1000) hx hb hown (htw _ u_148) d_A_stage_21 ?_
      refine xr_call (va_runS (As := [.long x2.toInt64, .long 0, .long 1000]) (rest := []) ⟨hx, hb, hml, hown, htw⟩ (c_A_isWithin x2.toInt64 0 1000) (va_cwS 3 htw (gS u_77 u_78 u_1 u_79) rfl rfl rfl hd_A_isWithin.2 ⟨Nat.le_of_ble_eq_true rfl, Nat.le_of_ble_eq_true rfl⟩) ⟨xP_blind, xP_of hK hN⟩ rfl rfl hl.1 rfl (lv_room (Nat.le_of_ble_eq_true rfl)) d_A_stage_24 ⟨by decide, by decide⟩) hS (fun v H_ locs hp hS => ?_)
      obtain ⟨rfl, hHe⟩ := hp
      rw [hHe] at hS ⊢
      refine W.eq (g2 := F0 m 27 ls [.int (bI (xin x2.toInt64 0 1000))]) rfl ?_
      refine lv_if_eq (tgt := 42) hx hb d_A_stage_27 (by decide) (fun c_3 => ?_) (fun c_3 => ?_)
      · have c_3 : (xin x2.toInt64 0 1000) = false := bI_f.mp c_3
        refine lv_iconst (v := (-1)) hx hb d_A_stage_42 (by decide) ?_
        have hf : f_stage σ x1 x2 x3 = (σ, (-1)) := by simp [f_stage, opt_n, opt_s, c_1, c_2, c_3]
        refine W.widen (k := 2) (n := 8) (by decide) (by decide) ?_
        exact W.iret (v := (-1)) hx hb hr (fun t ht _ => ⟨_, rfl, by rw [hf, ht]; exact ⟨rfl, PX_same hw hR⟩, hS.F ht⟩) hS.2.2 d_A_stage_43
      · have c_3 : (xin x2.toInt64 0 1000) = true := bI_t.mp c_3
        refine lv_iload_n hx hb d_A_stage_30 rfl (lv_at hl 3 rfl) ?_
        refine lv_i2l hx hb d_A_stage_31 rfl ?_
        refine lv_lconst (v := 0) hx hb d_A_stage_32 (by decide) ?_
        refine lv_ldc2 (v := 1000) hx hb hown (htw _ u_148) d_A_stage_33 ?_
        refine xr_call (va_runS (As := [.long x3.toInt64, .long 0, .long 1000]) (rest := []) ⟨hx, hb, hml, hown, htw⟩ (c_A_isWithin x3.toInt64 0 1000) (va_cwS 3 htw (gS u_77 u_78 u_1 u_79) rfl rfl rfl hd_A_isWithin.2 ⟨Nat.le_of_ble_eq_true rfl, Nat.le_of_ble_eq_true rfl⟩) ⟨xP_blind, xP_of hK hN⟩ rfl rfl hl.1 rfl (lv_room (Nat.le_of_ble_eq_true rfl)) d_A_stage_36 ⟨by decide, by decide⟩) hS (fun v H_ locs hp hS => ?_)
        obtain ⟨rfl, hHe⟩ := hp
        rw [hHe] at hS ⊢
        refine W.eq (g2 := F0 m 39 ls [.int (bI (xin x3.toInt64 0 1000))]) rfl ?_
        refine lv_if_ne (tgt := 44) hx hb d_A_stage_39 (by decide) (fun c_4 => ?_) (fun c_4 => ?_)
        · have c_4 : (xin x3.toInt64 0 1000) = true := bI_t.mp c_4
          refine lv_aload_n hx hb d_A_stage_44 rfl (lv_at hl 0 rfl) ?_
          refine xr_get (ci := 0) (v := .ref (ad 2)) (C := R_A) (T := T_A) (N := 10) hx hb htw in_A hown hK hw 0 r0 rfl rfl 2 (by decide) (htw _ u_43) (fun _ h9 => h9) rfl d_A_stage_45 ?_
          refine lv_aload_n hx hb d_A_stage_48 rfl (lv_at hl 0 rfl) ?_
          refine xr_get (ci := 0) (v := .int (nI (σ.1 1))) (C := R_A) (T := T_A) (N := 10) hx hb htw in_A hown hK hw 0 r0 rfl rfl 3 (by decide) (htw _ u_44) (fun _ h9 => h9) rfl d_A_stage_49 ?_
          refine xr_new (ci := 2) (fs := [.int 0, .int 0, .int 0, .null]) (C := R_S) (T := T_S) (N := 4) hx hb htw in_S ty_S tk_S hown (htw _ u_19) (htw _ u_149) (htw _ u_6) hK hw hS hB (140 + σ.1 1) rfl (fun j hj => by rcases (show j = 0 ∨ j = 1 ∨ j = 2 ∨ j = 3 by omega) with rfl | rfl | rfl | rfl <;> rfl) (by decide) (by decide) d_A_stage_52 (fun H ad_6 q_5 eq_5 lq_5 hw hS => ?_)
          have hw : xw D vwCl B ad_6 (xu w (140 + σ.1 1) (.inr (2, [.int 0, .int 0, .int 0, .null]))) H := hw
          have aq_5 : ad_6 (140 + σ.1 1) = q_5 := by rw [eq_5]; exact xa_eq
          refine lv_dup hx hb d_A_stage_55 rfl ?_
          refine lv_iload_n hx hb d_A_stage_56 rfl (lv_at hl 1 rfl) ?_
          refine lv_iload_n hx hb d_A_stage_57 rfl (lv_at hl 2 rfl) ?_
          refine lv_iload_n hx hb d_A_stage_58 rfl (lv_at hl 3 rfl) ?_
          refine xr_call (va_runI (As := [.int x1, .int x2, .int x3]) (rest := [.ref q_5, .int (nI (σ.1 1)), .ref (ad 2)]) ⟨hx, hb, hml, hown, htw⟩ (c_S_init (ad := ad_6) hw (140 + σ.1 1) (150 + σ.1 1) x1 x2 x3 (by omega) xu_eq (Nat.le_trans hB hS.1) q_5 aq_5) (cwI 3 htw (gC u_152) rfl rfl rfl (htw _ u_6) (htw _ u_150) (htw _ u_151) rfl hd_S_init.2 ⟨Nat.le_of_ble_eq_true rfl, Nat.le_of_ble_eq_true rfl⟩) ⟨xP_blind, xP_of hK hN⟩ rfl rfl hl.1 rfl (lv_room (Nat.le_of_ble_eq_true rfl)) d_A_stage_59 ⟨by decide, by decide⟩) hS (fun v H_ locs hp hS => ?_)
          obtain ⟨rfl, ad_7, w_7, hw, y7_0, y7_1, z7, hfr⟩ := hp
          generalize H_ = H at hw hS ⊢
          have hfw_7 : ∀ u, u ≠ 140 + σ.1 1 → u ≠ 150 + σ.1 1 → w_7 u = (xu w (140 + σ.1 1) (.inr (2, [.int 0, .int 0, .int 0, .null]))) u := fun u h0 h1 => (hfr u (by simp only [List.mem_cons, List.not_mem_nil, or_false, not_or]; exact ⟨h0, h1⟩)).1
          have hfa_7 : ∀ u, u ≠ 140 + σ.1 1 → u ≠ 150 + σ.1 1 → ad_7 u = ad_6 u := fun u h0 h1 => (hfr u (by simp only [List.mem_cons, List.not_mem_nil, or_false, not_or]; exact ⟨h0, h1⟩)).2
          refine W.eq (g2 := F0 m 62 ls [.ref q_5, .int (nI (σ.1 1)), .ref (ad 2)]) rfl ?_
          refine xr_astq (r := (R_S, T_S, 4)) hx hb hK hw hS 2 3 (140 + σ.1 1) 2 ((hfw_7 2 (by omega) (by omega)).trans ((xu_ne (by omega)).trans (r2))) ((hfa_7 2 (by omega) (by omega)).trans ((show ad_6 2 = ad 2 by rw [eq_5]; exact xa_ne (by omega)).trans rfl)) rfl y7_0 ((z7).trans aq_5) rfl (xvin (a := σ.1 1) rfl (by omega) (by omega)) d_A_stage_62 (fun H locs hw hS => ?_)
          rw [show (nI (σ.1 1)).toNatClampNeg = σ.1 1 from xcl (a := σ.1 1) rfl (by omega)] at hw
          have hw : xw D vwCl B ad_7 (xu w_7 2 (.inl (K 3, 6, .inr (.inr (.inr (.inr (va_up (fun i => if i < σ.1 1 then some (ad (140 + i)) else none) (σ.1 1) (some q_5)))))))) H := hw
          refine lv_aload_n hx hb d_A_stage_63 rfl (lv_at hl 0 rfl) ?_
          refine lv_dup hx hb d_A_stage_64 rfl ?_
          refine xr_get (ci := 0) (v := .int (nI (σ.1 1))) (C := R_A) (T := T_A) (N := 10) hx hb htw in_A hown hK hw 0 ((xu_ne (by omega)).trans ((hfw_7 0 (by omega) (by omega)).trans ((xu_ne (by omega)).trans (r0)))) ((hfa_7 0 (by omega) (by omega)).trans ((show ad_6 0 = ad 0 by rw [eq_5]; exact xa_ne (by omega)).trans rfl)) rfl 3 (by decide) (htw _ u_44) (fun _ h9 => h9) rfl d_A_stage_65 ?_
          refine lv_iconst (v := 1) hx hb d_A_stage_68 (by decide) ?_
          refine lv_iadd hx hb d_A_stage_69 ?_
          refine xr_put (ci := 0) (v := .int ((nI (σ.1 1)) + 1)) (ty := .int) (C := R_A) (T := T_A) (N := 10) hx hb htw in_A ty_A tk_A nm_A hown hK hw hS 0 ((xu_ne (by omega)).trans ((hfw_7 0 (by omega) (by omega)).trans ((xu_ne (by omega)).trans (r0)))) ((hfa_7 0 (by omega) (by omega)).trans ((show ad_6 0 = ad 0 by rw [eq_5]; exact xa_ne (by omega)).trans rfl)) rfl 3 (by decide) (htw _ u_44) (fun _ h9 => h9) rfl (by decide +kernel) rfl rfl (Nat.le_of_ble_eq_true rfl) d_A_stage_70 (fun H locs hw hS => ?_)
          have hw : xw D vwCl B ad_7 (xu (xu w_7 2 (.inl (K 3, 6, .inr (.inr (.inr (.inr (va_up (fun i => if i < σ.1 1 then some (ad (140 + i)) else none) (σ.1 1) (some q_5)))))))) 0 (.inr (0, [.ref (ad 1), .int (nI (σ.1 0)), .ref (ad 2), .int ((nI (σ.1 1)) + 1), .ref (ad 3), .int (nI (σ.1 2)), .ref (ad 4), .int (σ.2.1 0 0), .int (σ.2.1 0 1), .long (σ.2.2.1 0 0)]))) H := hw
          refine lv_aload_n hx hb d_A_stage_73 rfl (lv_at hl 0 rfl) ?_
          refine xr_get (ci := 0) (v := .int ((nI (σ.1 1)) + 1)) (C := R_A) (T := T_A) (N := 10) hx hb htw in_A hown hK hw 0 xu_eq ((hfa_7 0 (by omega) (by omega)).trans ((show ad_6 0 = ad 0 by rw [eq_5]; exact xa_ne (by omega)).trans rfl)) rfl 3 (by decide) (htw _ u_44) (fun _ h9 => h9) rfl d_A_stage_74 ?_
          refine lv_iconst (v := 1) hx hb d_A_stage_77 (by decide) ?_
          refine lv_isub hx hb d_A_stage_78 ?_
          have hq : ad_7 (140 + σ.1 1) = q_5 := (z7).trans aq_5
          have hpu := fq_push (n := σ.1 1) (ad := ad) (ad1 := ad_7) (b := 140) (q := q_5) hq (fun i hi => by simp (disch := omega) only [xa_ne, eq_5, hfw_7, hfa_7, z7, y7_0, y7_1])
          have hd0 := hds (σ.1 1) (Nat.le_refl _) (by omega)
          have hRep : RepX K (s_stage σ x1 x2 x3) ad_7 (xu (xu w_7 2 (.inl (K 3, 6, .inr (.inr (.inr (.inr (va_up (fun i => if i < σ.1 1 then some (ad (140 + i)) else none) (σ.1 1) (some q_5)))))))) 0 (.inr (0, [.ref (ad 1), .int (nI (σ.1 0)), .ref (ad 2), .int ((nI (σ.1 1)) + 1), .ref (ad 3), .int (nI (σ.1 2)), .ref (ad 4), .int (σ.2.1 0 0), .int (σ.2.1 0 1), .long (σ.2.2.1 0 0)]))) := by
            unfold s_stage
            refine ⟨?_, ?_, ?_, ?_, ?_, ?_, ?_, ?_, ?_, ?_, ?_, ?_, ?_, ?_, ?_⟩
            · simp (disch := omega) only [pN, pI, pL, pZ, row_eq, row_ne, xu_eq, xu_ne, xa_eq, xa_ne, pk_us, pk_un, pk_uLs, pk_uLn, eq_5, hfw_7, hfa_7, z7, y7_0, y7_1, hd0, nI_succ, r0]
            · simp (disch := omega) only [pN, pI, pL, pZ, row_eq, row_ne, xu_eq, xu_ne, xa_eq, xa_ne, pk_us, pk_un, pk_uLs, pk_uLn, eq_5, hfw_7, hfa_7, z7, y7_0, y7_1, hd0, nI_succ, r1]; try rfl
            · simp (disch := omega) only [pN, pI, pL, pZ, row_eq, row_ne, xu_eq, xu_ne, xa_eq, xa_ne, pk_us, pk_un, pk_uLs, pk_uLn, eq_5, hfw_7, hfa_7, z7, y7_0, y7_1, hpu]; try rfl
            · simp (disch := omega) only [pN, pI, pL, pZ, row_eq, row_ne, xu_eq, xu_ne, xa_eq, xa_ne, pk_us, pk_un, pk_uLs, pk_uLn, eq_5, hfw_7, hfa_7, z7, y7_0, y7_1, hd0, nI_succ, r3]; try rfl
            · simp (disch := omega) only [pN, pI, pL, pZ, row_eq, row_ne, xu_eq, xu_ne, xa_eq, xa_ne, pk_us, pk_un, pk_uLs, pk_uLn, eq_5, hfw_7, hfa_7, z7, y7_0, y7_1, hd0, nI_succ, r4]
            · simp (disch := omega) only [pN, pI, pL, pZ, row_eq, row_ne, xu_eq, xu_ne, xa_eq, xa_ne, pk_us, pk_un, pk_uLs, pk_uLn, eq_5, hfw_7, hfa_7, z7, y7_0, y7_1, hd0, nI_succ, r5]
            · simp (disch := omega) only [pN, pI, pL, pZ, row_eq, row_ne, xu_eq, xu_ne, xa_eq, xa_ne, pk_us, pk_un, pk_uLs, pk_uLn, eq_5, hfw_7, hfa_7, z7, y7_0, y7_1, hd0, nI_succ, r6]
            · simp (disch := omega) only [pN, pI, pL, pZ, row_eq, row_ne, xu_eq, xu_ne, xa_eq, xa_ne, pk_us, pk_un, pk_uLs, pk_uLn, eq_5, hfw_7, hfa_7, z7, y7_0, y7_1, hd0, nI_succ, r7]
            · intro jj hj
              have hj : jj < σ.1 0 := by first | exact hj | simpa (disch := omega) only [pN, pI, pL, pZ, row_eq, row_ne, xu_eq, xu_ne, xa_eq, xa_ne, pk_us, pk_un, pk_uLs, pk_uLn, eq_5, hfw_7, hfa_7, z7, y7_0, y7_1, hd0, nI_succ] using hj
              simp (disch := omega) only [pN, pI, pL, pZ, row_eq, row_ne, xu_eq, xu_ne, xa_eq, xa_ne, pk_us, pk_un, pk_uLs, pk_uLn, eq_5, hfw_7, hfa_7, z7, y7_0, y7_1, hd0, nI_succ, rb jj hj]
            · intro jj hj
              have hj : jj < σ.1 0 := by first | exact hj | simpa (disch := omega) only [pN, pI, pL, pZ, row_eq, row_ne, xu_eq, xu_ne, xa_eq, xa_ne, pk_us, pk_un, pk_uLs, pk_uLn, eq_5, hfw_7, hfa_7, z7, y7_0, y7_1, hd0, nI_succ] using hj
              simp (disch := omega) only [pN, pI, pL, pZ, row_eq, row_ne, xu_eq, xu_ne, xa_eq, xa_ne, pk_us, pk_un, pk_uLs, pk_uLn, eq_5, hfw_7, hfa_7, z7, y7_0, y7_1, hd0, nI_succ, rba jj hj]
            · intro jj hj
              have hj : jj < σ.1 0 := by first | exact hj | simpa (disch := omega) only [pN, pI, pL, pZ, row_eq, row_ne, xu_eq, xu_ne, xa_eq, xa_ne, pk_us, pk_un, pk_uLs, pk_uLn, eq_5, hfw_7, hfa_7, z7, y7_0, y7_1, hd0, nI_succ] using hj
              simp (disch := omega) only [pN, pI, pL, pZ, row_eq, row_ne, xu_eq, xu_ne, xa_eq, xa_ne, pk_us, pk_un, pk_uLs, pk_uLn, eq_5, hfw_7, hfa_7, z7, y7_0, y7_1, hd0, nI_succ, rbt jj hj]
            · intro jj hj
              have hj : jj < σ.1 0 := by first | exact hj | simpa (disch := omega) only [pN, pI, pL, pZ, row_eq, row_ne, xu_eq, xu_ne, xa_eq, xa_ne, pk_us, pk_un, pk_uLs, pk_uLn, eq_5, hfw_7, hfa_7, z7, y7_0, y7_1, hd0, nI_succ] using hj
              simp (disch := omega) only [pN, pI, pL, pZ, row_eq, row_ne, xu_eq, xu_ne, xa_eq, xa_ne, pk_us, pk_un, pk_uLs, pk_uLn, eq_5, hfw_7, hfa_7, z7, y7_0, y7_1, hd0, nI_succ, rbo jj hj]
            · intro jj hj
              have hj : jj < σ.1 1 + 1 := by simpa (disch := omega) only [pN, pI, pL, pZ, row_eq, row_ne, xu_eq, xu_ne, xa_eq, xa_ne, pk_us, pk_un, pk_uLs, pk_uLn, eq_5, hfw_7, hfa_7, z7, y7_0, y7_1, hd0, nI_succ] using hj
              by_cases ej : jj = σ.1 1
              · rw [ej]; simp (disch := omega) only [pN, pI, pL, pZ, row_eq, row_ne, xu_eq, xu_ne, xa_eq, xa_ne, pk_us, pk_un, pk_uLs, pk_uLn, eq_5, hfw_7, hfa_7, z7, y7_0, y7_1, hd0, nI_succ]
              · simp (disch := omega) only [pN, pI, pL, pZ, row_eq, row_ne, xu_eq, xu_ne, xa_eq, xa_ne, pk_us, pk_un, pk_uLs, pk_uLn, eq_5, hfw_7, hfa_7, z7, y7_0, y7_1, hd0, nI_succ, rs jj (by omega)]
            · intro jj hj
              have hj : jj < σ.1 1 + 1 := by simpa (disch := omega) only [pN, pI, pL, pZ, row_eq, row_ne, xu_eq, xu_ne, xa_eq, xa_ne, pk_us, pk_un, pk_uLs, pk_uLn, eq_5, hfw_7, hfa_7, z7, y7_0, y7_1, hd0, nI_succ] using hj
              by_cases ej : jj = σ.1 1
              · rw [ej]; simp (disch := omega) only [pN, pI, pL, pZ, row_eq, row_ne, xu_eq, xu_ne, xa_eq, xa_ne, pk_us, pk_un, pk_uLs, pk_uLn, eq_5, hfw_7, hfa_7, z7, y7_0, y7_1, hd0, nI_succ]
              · simp (disch := omega) only [pN, pI, pL, pZ, row_eq, row_ne, xu_eq, xu_ne, xa_eq, xa_ne, pk_us, pk_un, pk_uLs, pk_uLn, eq_5, hfw_7, hfa_7, z7, y7_0, y7_1, hd0, nI_succ, rss jj (by omega)]
            · intro jj hj
              have hj : jj < σ.1 2 := by first | exact hj | simpa (disch := omega) only [pN, pI, pL, pZ, row_eq, row_ne, xu_eq, xu_ne, xa_eq, xa_ne, pk_us, pk_un, pk_uLs, pk_uLn, eq_5, hfw_7, hfa_7, z7, y7_0, y7_1, hd0, nI_succ] using hj
              simp (disch := omega) only [pN, pI, pL, pZ, row_eq, row_ne, xu_eq, xu_ne, xa_eq, xa_ne, pk_us, pk_un, pk_uLs, pk_uLn, eq_5, hfw_7, hfa_7, z7, y7_0, y7_1, hd0, nI_succ, rr jj hj]
          have hf : f_stage σ x1 x2 x3 = (s_stage σ x1 x2 x3, nI (σ.1 1)) := by simp [f_stage, opt_n, opt_s, c_1, c_2, c_3, c_4]
          exact W.iret (v := ((nI (σ.1 1)) + 1) - 1) hx hb hr (fun t ht _ => ⟨_, rfl, by rw [hf, ht]; exact ⟨congrArg (fun z => some (Value.int z)) (nI_back _), _, _, hw, hRep, by simp (disch := omega) only [xu_ne, xa_ne, eq_5, hfw_7, hfa_7, z7, y7_0, y7_1, hd0, nI_succ], fun t h2 => ⟨by simp (disch := omega) only [xu_ne, xa_ne, eq_5, hfw_7, hfa_7, z7, y7_0, y7_1, hd0, nI_succ], by simp (disch := omega) only [xu_ne, xa_ne, eq_5, hfw_7, hfa_7, z7, y7_0, y7_1, hd0, nI_succ]⟩⟩, hS.F ht⟩) hS.2.2 d_A_stage_79
        · have c_4 : (xin x3.toInt64 0 1000) = false := bI_f.mp c_4
          refine lv_iconst (v := (-1)) hx hb d_A_stage_42 (by decide) ?_
          have hf : f_stage σ x1 x2 x3 = (σ, (-1)) := by simp [f_stage, opt_n, opt_s, c_1, c_2, c_3, c_4]
          refine W.widen (k := 2) (n := 8) (by decide) (by decide) ?_
          exact W.iret (v := (-1)) hx hb hr (fun t ht _ => ⟨_, rfl, by rw [hf, ht]; exact ⟨rfl, PX_same hw hR⟩, hS.F ht⟩) hS.2.2 d_A_stage_43
    · have c_2 : ¬ (σ.1 1) < 6 := fun z => c_2 ((nLT (a := σ.1 1) (b := 6) (by omega) (by omega)).mpr z)
      refine lv_iconst (v := (-1)) hx hb d_A_stage_16 (by decide) ?_
      have hf : f_stage σ x1 x2 x3 = (σ, (-1)) := by simp [f_stage, opt_n, opt_s, c_1, c_2]
      refine W.widen (k := 2) (n := 8) (by decide) (by decide) ?_
      exact W.iret (v := (-1)) hx hb hr (fun t ht _ => ⟨_, rfl, by rw [hf, ht]; exact ⟨rfl, PX_same hw hR⟩, hS.F ht⟩) hS.2.2 d_A_stage_17
set_option maxHeartbeats 4000000 in
set_option maxRecDepth 100000 in
theorem c_A_rule {l : Launch} {D : va_G} {K : Nat → ClassId} {B : Nat} {ad : Nat → Nat} {w : Nat → Option va_E} {H : Heap} {σ : xS} (hR : RepX K σ ad w) (hI : Inv σ) (hw : xw D vwCl B ad w H) (hB : B ≤ H.size) (x1 x2 x3 x4 : Int32) : xC l D K B y_A_rule b_A_rule 5 (some .int) rm_A_rule [.ref (ad 0), .int x1, .int x2, .int x3, .int x4] H (fun v H1 => v = some (.int (f_rule σ x1 x2 x3 x4).2) ∧ PX D K B ad w (f_rule σ x1 x2 x3 x4).1 H1) := by
  refine Met.ofW (cc := b_A_rule) (maxL := 5) (ret := (some .int)) (by decide) rfl ?_
  intro p e s m args below meth c s₁ B0 hml hv
  obtain ⟨rfl, hsz, hK, hN⟩ := hv
  have hx := B0.exec
  have hb := B0.bytes
  have hr := B0.returns
  have htw : ∀ w ∈ xW0, w.before [.ref (ad 0), .int x1, .int x2, .int x3, .int x4].toArray s = true := fun w h => atoms_spec (ws := Cond.code y_A_rule b_A_rule 5 (some .int) :: xW0) B0.pre w (List.mem_cons_of_mem _ h)
  have hown : s.vm.findClass R_A = some m.cls := findClass_of_methodNamed B0.named
  have hlocks := B0.notSynchronized
  subst hsz
  have hS : va_S (fun q => B ≤ q) s.heap s.heap [] := va_S.rf
  have hl := lv_entry ([.ref (ad 0), .int x1, .int x2, .int x3, .int x4]) (n := 5) (Nat.le_of_ble_eq_true rfl)
  rw [lg_entry_eq]
  generalize (lg_sl ([.ref (ad 0), .int x1, .int x2, .int x3, .int x4]) ++ List.replicate (5 - (lg_sl ([.ref (ad 0), .int x1, .int x2, .int x3, .int x4])).length) Slot.unset).toArray = ls at hl ⊢
  have hl : lv_has ls 5 [(0, .ref (ad 0)), (1, .int x1), (2, .int x2), (3, .int x3), (4, .int x4)] := hl
  have hH : s.heap = s.heap := rfl
  obtain ⟨r0, r1, r2, r3, r4, r5, r6, r7, rb, rba, rbt, rbo, rs, rss, rr⟩ := id hR
  obtain ⟨hnb, hns, hnr, hpc, hst, hto, htl, hrm, hpa, hwt, hdf, hds⟩ := id hI
  refine lv_iload_n hx hb d_A_rule_0 rfl (lv_at hl 1 rfl) ?_
  refine lv_i2l hx hb d_A_rule_1 rfl ?_
  refine lv_lconst (v := 0) hx hb d_A_rule_2 (by decide) ?_
  refine lv_ldc2 (v := 9) hx hb hown (htw _ u_281) d_A_rule_3 ?_
  refine xr_call (va_runS (As := [.long x1.toInt64, .long 0, .long 9]) (rest := []) ⟨hx, hb, hml, hown, htw⟩ (c_A_isWithin x1.toInt64 0 9) (va_cwS 3 htw (gS u_77 u_78 u_1 u_79) rfl rfl rfl hd_A_isWithin.2 ⟨Nat.le_of_ble_eq_true rfl, Nat.le_of_ble_eq_true rfl⟩) ⟨xP_blind, xP_of hK hN⟩ rfl rfl hl.1 rfl (lv_room (Nat.le_of_ble_eq_true rfl)) d_A_rule_6 ⟨by decide, by decide⟩) hS (fun v H_ locs hp hS => ?_)
  obtain ⟨rfl, hHe⟩ := hp
  rw [hHe] at hS ⊢
  refine W.eq (g2 := F0 m 9 ls [.int (bI (xin x1.toInt64 0 9))]) rfl ?_
  refine lv_if_eq (tgt := 28) hx hb d_A_rule_9 (by decide) (fun c_1 => ?_) (fun c_1 => ?_)
  · have c_1 : (xin x1.toInt64 0 9) = false := bI_f.mp c_1
    refine lv_iconst (v := (-1)) hx hb d_A_rule_28 (by decide) ?_
    have hf : f_rule σ x1 x2 x3 x4 = (σ, (-1)) := by simp [f_rule, opt_n, opt_s, c_1]
    refine W.widen (k := 1) (n := 4) (by decide) (by decide) ?_
    exact W.iret (v := (-1)) hx hb hr (fun t ht _ => ⟨_, rfl, by rw [hf, ht]; exact ⟨rfl, PX_same hw hR⟩, hS.F ht⟩) hS.2.2 d_A_rule_29
  · have c_1 : (xin x1.toInt64 0 9) = true := bI_t.mp c_1
    refine lv_iload_n hx hb d_A_rule_12 rfl (lv_at hl 2 rfl) ?_
    refine xr_call (va_runS (As := [.int x2]) (rest := []) ⟨hx, hb, hml, hown, htw⟩ (c_A_isMetal x2) (va_cwS 1 htw (gS u_135 u_136 u_1 u_137) rfl rfl rfl hd_A_isMetal.2 ⟨Nat.le_of_ble_eq_true rfl, Nat.le_of_ble_eq_true rfl⟩) ⟨xP_blind, xP_of hK hN⟩ rfl rfl hl.1 rfl (lv_room (Nat.le_of_ble_eq_true rfl)) d_A_rule_13 ⟨by decide, by decide⟩) hS (fun v H_ locs hp hS => ?_)
    obtain ⟨rfl, hHe⟩ := hp
    rw [hHe] at hS ⊢
    refine W.eq (g2 := F0 m 16 ls [.int (bI (xm x2))]) rfl ?_
    refine lv_if_eq (tgt := 28) hx hb d_A_rule_16 (by decide) (fun c_2 => ?_) (fun c_2 => ?_)
    · have c_2 : (xm x2) = false := bI_f.mp c_2
      refine lv_iconst (v := (-1)) hx hb d_A_rule_28 (by decide) ?_
      have hf : f_rule σ x1 x2 x3 x4 = (σ, (-1)) := by simp [f_rule, opt_n, opt_s, c_1, c_2]
      refine W.widen (k := 1) (n := 4) (by decide) (by decide) ?_
      exact W.iret (v := (-1)) hx hb hr (fun t ht _ => ⟨_, rfl, by rw [hf, ht]; exact ⟨rfl, PX_same hw hR⟩, hS.F ht⟩) hS.2.2 d_A_rule_29
    · have c_2 : (xm x2) = true := bI_t.mp c_2
      refine lv_aload_n hx hb d_A_rule_19 rfl (lv_at hl 0 rfl) ?_
      refine xr_get (ci := 0) (v := .int (nI (σ.1 2))) (C := R_A) (T := T_A) (N := 10) hx hb htw in_A hown hK hw 0 r0 rfl rfl 5 (by decide) (htw _ u_46) (fun _ h9 => h9) rfl d_A_rule_20 ?_
      refine lv_bipush (v := 8) hx hb d_A_rule_23 (by decide) ?_
      refine lv_icmp_lt (tgt := 30) hx hb d_A_rule_25 (by decide) (fun c_3 => ?_) (fun c_3 => ?_)
      · have c_3 : (σ.1 2) < 8 := (nLT (a := σ.1 2) (b := 8) (by omega) (by omega)).mp c_3
        refine lv_iload_n hx hb d_A_rule_30 rfl (lv_at hl 3 rfl) ?_
        refine lv_i2l hx hb d_A_rule_31 rfl ?_
        refine lv_lconst (v := 0) hx hb d_A_rule_32 (by decide) ?_
        refine lv_ldc2 (v := 1000000) hx hb hown (htw _ u_138) d_A_rule_33 ?_
        refine xr_call (va_runS (As := [.long x3.toInt64, .long 0, .long 1000000]) (rest := []) ⟨hx, hb, hml, hown, htw⟩ (c_A_isWithin x3.toInt64 0 1000000) (va_cwS 3 htw (gS u_77 u_78 u_1 u_79) rfl rfl rfl hd_A_isWithin.2 ⟨Nat.le_of_ble_eq_true rfl, Nat.le_of_ble_eq_true rfl⟩) ⟨xP_blind, xP_of hK hN⟩ rfl rfl hl.1 rfl (lv_room (Nat.le_of_ble_eq_true rfl)) d_A_rule_36 ⟨by decide, by decide⟩) hS (fun v H_ locs hp hS => ?_)
        obtain ⟨rfl, hHe⟩ := hp
        rw [hHe] at hS ⊢
        refine W.eq (g2 := F0 m 39 ls [.int (bI (xin x3.toInt64 0 1000000))]) rfl ?_
        refine lv_if_eq (tgt := 55) hx hb d_A_rule_39 (by decide) (fun c_4 => ?_) (fun c_4 => ?_)
        · have c_4 : (xin x3.toInt64 0 1000000) = false := bI_f.mp c_4
          refine lv_iconst (v := (-1)) hx hb d_A_rule_55 (by decide) ?_
          have hf : f_rule σ x1 x2 x3 x4 = (σ, (-1)) := by simp [f_rule, opt_n, opt_s, c_1, c_2, c_3, c_4]
          refine W.widen (k := 1) (n := 4) (by decide) (by decide) ?_
          exact W.iret (v := (-1)) hx hb hr (fun t ht _ => ⟨_, rfl, by rw [hf, ht]; exact ⟨rfl, PX_same hw hR⟩, hS.F ht⟩) hS.2.2 d_A_rule_56
        · have c_4 : (xin x3.toInt64 0 1000000) = true := bI_t.mp c_4
          refine lv_iload hx hb d_A_rule_42 (lv_at hl 4 rfl) ?_
          refine lv_i2l hx hb d_A_rule_44 rfl ?_
          refine lv_lconst (v := 0) hx hb d_A_rule_45 (by decide) ?_
          refine lv_ldc2 (v := 100000) hx hb hown (htw _ u_143) d_A_rule_46 ?_
          refine xr_call (va_runS (As := [.long x4.toInt64, .long 0, .long 100000]) (rest := []) ⟨hx, hb, hml, hown, htw⟩ (c_A_isWithin x4.toInt64 0 100000) (va_cwS 3 htw (gS u_77 u_78 u_1 u_79) rfl rfl rfl hd_A_isWithin.2 ⟨Nat.le_of_ble_eq_true rfl, Nat.le_of_ble_eq_true rfl⟩) ⟨xP_blind, xP_of hK hN⟩ rfl rfl hl.1 rfl (lv_room (Nat.le_of_ble_eq_true rfl)) d_A_rule_49 ⟨by decide, by decide⟩) hS (fun v H_ locs hp hS => ?_)
          obtain ⟨rfl, hHe⟩ := hp
          rw [hHe] at hS ⊢
          refine W.eq (g2 := F0 m 52 ls [.int (bI (xin x4.toInt64 0 100000))]) rfl ?_
          refine lv_if_ne (tgt := 57) hx hb d_A_rule_52 (by decide) (fun c_5 => ?_) (fun c_5 => ?_)
          · have c_5 : (xin x4.toInt64 0 100000) = true := bI_t.mp c_5
            refine lv_aload_n hx hb d_A_rule_57 rfl (lv_at hl 0 rfl) ?_
            refine xr_get (ci := 0) (v := .ref (ad 3)) (C := R_A) (T := T_A) (N := 10) hx hb htw in_A hown hK hw 0 r0 rfl rfl 4 (by decide) (htw _ u_45) (fun _ h9 => h9) rfl d_A_rule_58 ?_
            refine lv_aload_n hx hb d_A_rule_61 rfl (lv_at hl 0 rfl) ?_
            refine xr_get (ci := 0) (v := .int (nI (σ.1 2))) (C := R_A) (T := T_A) (N := 10) hx hb htw in_A hown hK hw 0 r0 rfl rfl 5 (by decide) (htw _ u_46) (fun _ h9 => h9) rfl d_A_rule_62 ?_
            refine xr_new (ci := 3) (fs := [.int 0, .int 0, .int 0, .int 0]) (C := R_R) (T := T_R) (N := 4) hx hb htw in_R ty_R tk_R hown (htw _ u_21) (htw _ u_282) (htw _ u_8) hK hw hS hB (160 + σ.1 2) rfl (fun j hj => by rcases (show j = 0 ∨ j = 1 ∨ j = 2 ∨ j = 3 by omega) with rfl | rfl | rfl | rfl <;> rfl) (by decide) (by decide) d_A_rule_65 (fun H ad_7 q_6 eq_6 lq_6 hw hS => ?_)
            have hw : xw D vwCl B ad_7 (xu w (160 + σ.1 2) (.inr (3, [.int 0, .int 0, .int 0, .int 0]))) H := hw
            have aq_6 : ad_7 (160 + σ.1 2) = q_6 := by rw [eq_6]; exact xa_eq
            refine lv_dup hx hb d_A_rule_68 rfl ?_
            refine lv_iload_n hx hb d_A_rule_69 rfl (lv_at hl 1 rfl) ?_
            refine lv_iload_n hx hb d_A_rule_70 rfl (lv_at hl 2 rfl) ?_
            refine lv_iload_n hx hb d_A_rule_71 rfl (lv_at hl 3 rfl) ?_
            refine lv_iload hx hb d_A_rule_72 (lv_at hl 4 rfl) ?_
            refine xr_call (va_runI (As := [.int x1, .int x2, .int x3, .int x4]) (rest := [.ref q_6, .int (nI (σ.1 2)), .ref (ad 3)]) ⟨hx, hb, hml, hown, htw⟩ (c_R_init (ad := ad_7) hw (160 + σ.1 2) x1 x2 x3 x4 xu_eq q_6 aq_6) (cwI 4 htw (gC u_285) rfl rfl rfl (htw _ u_8) (htw _ u_283) (htw _ u_284) rfl hd_R_init.2 ⟨Nat.le_of_ble_eq_true rfl, Nat.le_of_ble_eq_true rfl⟩) ⟨xP_blind, xP_of hK hN⟩ rfl rfl hl.1 rfl (lv_room (Nat.le_of_ble_eq_true rfl)) d_A_rule_74 ⟨by decide, by decide⟩) hS (fun v H_ locs hp hS => ?_)
            obtain ⟨rfl, ad_8, w_8, hw, y8_0, z8, hfr⟩ := hp
            generalize H_ = H at hw hS ⊢
            have hfw_8 : ∀ u, u ≠ 160 + σ.1 2 → w_8 u = (xu w (160 + σ.1 2) (.inr (3, [.int 0, .int 0, .int 0, .int 0]))) u := fun u h0 => (hfr u (by simp only [List.mem_cons, List.not_mem_nil, or_false, not_or]; exact h0)).1
            have hfa_8 : ∀ u, u ≠ 160 + σ.1 2 → ad_8 u = ad_7 u := fun u h0 => (hfr u (by simp only [List.mem_cons, List.not_mem_nil, or_false, not_or]; exact h0)).2
            refine W.eq (g2 := F0 m 77 ls [.ref q_6, .int (nI (σ.1 2)), .ref (ad 3)]) rfl ?_
            refine xr_astq (r := (R_R, T_R, 4)) hx hb hK hw hS 3 4 (160 + σ.1 2) 3 ((hfw_8 3 (by omega)).trans ((xu_ne (by omega)).trans (r3))) ((hfa_8 3 (by omega)).trans ((show ad_7 3 = ad 3 by rw [eq_6]; exact xa_ne (by omega)).trans rfl)) rfl y8_0 ((z8).trans aq_6) rfl (xvin (a := σ.1 2) rfl (by omega) (by omega)) d_A_rule_77 (fun H locs hw hS => ?_)
            rw [show (nI (σ.1 2)).toNatClampNeg = σ.1 2 from xcl (a := σ.1 2) rfl (by omega)] at hw
            have hw : xw D vwCl B ad_8 (xu w_8 3 (.inl (K 4, 8, .inr (.inr (.inr (.inr (va_up (fun i => if i < σ.1 2 then some (ad (160 + i)) else none) (σ.1 2) (some q_6)))))))) H := hw
            refine lv_aload_n hx hb d_A_rule_78 rfl (lv_at hl 0 rfl) ?_
            refine lv_dup hx hb d_A_rule_79 rfl ?_
            refine xr_get (ci := 0) (v := .int (nI (σ.1 2))) (C := R_A) (T := T_A) (N := 10) hx hb htw in_A hown hK hw 0 ((xu_ne (by omega)).trans ((hfw_8 0 (by omega)).trans ((xu_ne (by omega)).trans (r0)))) ((hfa_8 0 (by omega)).trans ((show ad_7 0 = ad 0 by rw [eq_6]; exact xa_ne (by omega)).trans rfl)) rfl 5 (by decide) (htw _ u_46) (fun _ h9 => h9) rfl d_A_rule_80 ?_
            refine lv_iconst (v := 1) hx hb d_A_rule_83 (by decide) ?_
            refine lv_iadd hx hb d_A_rule_84 ?_
            refine xr_put (ci := 0) (v := .int ((nI (σ.1 2)) + 1)) (ty := .int) (C := R_A) (T := T_A) (N := 10) hx hb htw in_A ty_A tk_A nm_A hown hK hw hS 0 ((xu_ne (by omega)).trans ((hfw_8 0 (by omega)).trans ((xu_ne (by omega)).trans (r0)))) ((hfa_8 0 (by omega)).trans ((show ad_7 0 = ad 0 by rw [eq_6]; exact xa_ne (by omega)).trans rfl)) rfl 5 (by decide) (htw _ u_46) (fun _ h9 => h9) rfl (by decide +kernel) rfl rfl (Nat.le_of_ble_eq_true rfl) d_A_rule_85 (fun H locs hw hS => ?_)
            have hw : xw D vwCl B ad_8 (xu (xu w_8 3 (.inl (K 4, 8, .inr (.inr (.inr (.inr (va_up (fun i => if i < σ.1 2 then some (ad (160 + i)) else none) (σ.1 2) (some q_6)))))))) 0 (.inr (0, [.ref (ad 1), .int (nI (σ.1 0)), .ref (ad 2), .int (nI (σ.1 1)), .ref (ad 3), .int ((nI (σ.1 2)) + 1), .ref (ad 4), .int (σ.2.1 0 0), .int (σ.2.1 0 1), .long (σ.2.2.1 0 0)]))) H := hw
            refine lv_aload_n hx hb d_A_rule_88 rfl (lv_at hl 0 rfl) ?_
            refine xr_get (ci := 0) (v := .int ((nI (σ.1 2)) + 1)) (C := R_A) (T := T_A) (N := 10) hx hb htw in_A hown hK hw 0 xu_eq ((hfa_8 0 (by omega)).trans ((show ad_7 0 = ad 0 by rw [eq_6]; exact xa_ne (by omega)).trans rfl)) rfl 5 (by decide) (htw _ u_46) (fun _ h9 => h9) rfl d_A_rule_89 ?_
            refine lv_iconst (v := 1) hx hb d_A_rule_92 (by decide) ?_
            refine lv_isub hx hb d_A_rule_93 ?_
            have hq : ad_8 (160 + σ.1 2) = q_6 := (z8).trans aq_6
            have hpu := fq_push (n := σ.1 2) (ad := ad) (ad1 := ad_8) (b := 160) (q := q_6) hq (fun i hi => by simp (disch := omega) only [xa_ne, eq_6, hfw_8, hfa_8, z8, y8_0])
            have hRep : RepX K (s_rule σ x1 x2 x3 x4) ad_8 (xu (xu w_8 3 (.inl (K 4, 8, .inr (.inr (.inr (.inr (va_up (fun i => if i < σ.1 2 then some (ad (160 + i)) else none) (σ.1 2) (some q_6)))))))) 0 (.inr (0, [.ref (ad 1), .int (nI (σ.1 0)), .ref (ad 2), .int (nI (σ.1 1)), .ref (ad 3), .int ((nI (σ.1 2)) + 1), .ref (ad 4), .int (σ.2.1 0 0), .int (σ.2.1 0 1), .long (σ.2.2.1 0 0)]))) := by
              unfold s_rule
              refine ⟨?_, ?_, ?_, ?_, ?_, ?_, ?_, ?_, ?_, ?_, ?_, ?_, ?_, ?_, ?_⟩
              · simp (disch := omega) only [pN, pI, pL, pZ, row_eq, row_ne, xu_eq, xu_ne, xa_eq, xa_ne, pk_us, pk_un, pk_uLs, pk_uLn, eq_6, hfw_8, hfa_8, z8, y8_0, nI_succ, r0]
              · simp (disch := omega) only [pN, pI, pL, pZ, row_eq, row_ne, xu_eq, xu_ne, xa_eq, xa_ne, pk_us, pk_un, pk_uLs, pk_uLn, eq_6, hfw_8, hfa_8, z8, y8_0, nI_succ, r1]; try rfl
              · simp (disch := omega) only [pN, pI, pL, pZ, row_eq, row_ne, xu_eq, xu_ne, xa_eq, xa_ne, pk_us, pk_un, pk_uLs, pk_uLn, eq_6, hfw_8, hfa_8, z8, y8_0, nI_succ, r2]; try rfl
              · simp (disch := omega) only [pN, pI, pL, pZ, row_eq, row_ne, xu_eq, xu_ne, xa_eq, xa_ne, pk_us, pk_un, pk_uLs, pk_uLn, eq_6, hfw_8, hfa_8, z8, y8_0, hpu]; try rfl
              · simp (disch := omega) only [pN, pI, pL, pZ, row_eq, row_ne, xu_eq, xu_ne, xa_eq, xa_ne, pk_us, pk_un, pk_uLs, pk_uLn, eq_6, hfw_8, hfa_8, z8, y8_0, nI_succ, r4]
              · simp (disch := omega) only [pN, pI, pL, pZ, row_eq, row_ne, xu_eq, xu_ne, xa_eq, xa_ne, pk_us, pk_un, pk_uLs, pk_uLn, eq_6, hfw_8, hfa_8, z8, y8_0, nI_succ, r5]
              · simp (disch := omega) only [pN, pI, pL, pZ, row_eq, row_ne, xu_eq, xu_ne, xa_eq, xa_ne, pk_us, pk_un, pk_uLs, pk_uLn, eq_6, hfw_8, hfa_8, z8, y8_0, nI_succ, r6]
              · simp (disch := omega) only [pN, pI, pL, pZ, row_eq, row_ne, xu_eq, xu_ne, xa_eq, xa_ne, pk_us, pk_un, pk_uLs, pk_uLn, eq_6, hfw_8, hfa_8, z8, y8_0, nI_succ, r7]
              · intro jj hj
                have hj : jj < σ.1 0 := by first | exact hj | simpa (disch := omega) only [pN, pI, pL, pZ, row_eq, row_ne, xu_eq, xu_ne, xa_eq, xa_ne, pk_us, pk_un, pk_uLs, pk_uLn, eq_6, hfw_8, hfa_8, z8, y8_0, nI_succ] using hj
                simp (disch := omega) only [pN, pI, pL, pZ, row_eq, row_ne, xu_eq, xu_ne, xa_eq, xa_ne, pk_us, pk_un, pk_uLs, pk_uLn, eq_6, hfw_8, hfa_8, z8, y8_0, nI_succ, rb jj hj]
              · intro jj hj
                have hj : jj < σ.1 0 := by first | exact hj | simpa (disch := omega) only [pN, pI, pL, pZ, row_eq, row_ne, xu_eq, xu_ne, xa_eq, xa_ne, pk_us, pk_un, pk_uLs, pk_uLn, eq_6, hfw_8, hfa_8, z8, y8_0, nI_succ] using hj
                simp (disch := omega) only [pN, pI, pL, pZ, row_eq, row_ne, xu_eq, xu_ne, xa_eq, xa_ne, pk_us, pk_un, pk_uLs, pk_uLn, eq_6, hfw_8, hfa_8, z8, y8_0, nI_succ, rba jj hj]
              · intro jj hj
                have hj : jj < σ.1 0 := by first | exact hj | simpa (disch := omega) only [pN, pI, pL, pZ, row_eq, row_ne, xu_eq, xu_ne, xa_eq, xa_ne, pk_us, pk_un, pk_uLs, pk_uLn, eq_6, hfw_8, hfa_8, z8, y8_0, nI_succ] using hj
                simp (disch := omega) only [pN, pI, pL, pZ, row_eq, row_ne, xu_eq, xu_ne, xa_eq, xa_ne, pk_us, pk_un, pk_uLs, pk_uLn, eq_6, hfw_8, hfa_8, z8, y8_0, nI_succ, rbt jj hj]
              · intro jj hj
                have hj : jj < σ.1 0 := by first | exact hj | simpa (disch := omega) only [pN, pI, pL, pZ, row_eq, row_ne, xu_eq, xu_ne, xa_eq, xa_ne, pk_us, pk_un, pk_uLs, pk_uLn, eq_6, hfw_8, hfa_8, z8, y8_0, nI_succ] using hj
                simp (disch := omega) only [pN, pI, pL, pZ, row_eq, row_ne, xu_eq, xu_ne, xa_eq, xa_ne, pk_us, pk_un, pk_uLs, pk_uLn, eq_6, hfw_8, hfa_8, z8, y8_0, nI_succ, rbo jj hj]
              · intro jj hj
                have hj : jj < σ.1 1 := by first | exact hj | simpa (disch := omega) only [pN, pI, pL, pZ, row_eq, row_ne, xu_eq, xu_ne, xa_eq, xa_ne, pk_us, pk_un, pk_uLs, pk_uLn, eq_6, hfw_8, hfa_8, z8, y8_0, nI_succ] using hj
                simp (disch := omega) only [pN, pI, pL, pZ, row_eq, row_ne, xu_eq, xu_ne, xa_eq, xa_ne, pk_us, pk_un, pk_uLs, pk_uLn, eq_6, hfw_8, hfa_8, z8, y8_0, nI_succ, rs jj hj]
              · intro jj hj
                have hj : jj < σ.1 1 := by first | exact hj | simpa (disch := omega) only [pN, pI, pL, pZ, row_eq, row_ne, xu_eq, xu_ne, xa_eq, xa_ne, pk_us, pk_un, pk_uLs, pk_uLn, eq_6, hfw_8, hfa_8, z8, y8_0, nI_succ] using hj
                simp (disch := omega) only [pN, pI, pL, pZ, row_eq, row_ne, xu_eq, xu_ne, xa_eq, xa_ne, pk_us, pk_un, pk_uLs, pk_uLn, eq_6, hfw_8, hfa_8, z8, y8_0, nI_succ, rss jj hj]
              · intro jj hj
                have hj : jj < σ.1 2 + 1 := by simpa (disch := omega) only [pN, pI, pL, pZ, row_eq, row_ne, xu_eq, xu_ne, xa_eq, xa_ne, pk_us, pk_un, pk_uLs, pk_uLn, eq_6, hfw_8, hfa_8, z8, y8_0, nI_succ] using hj
                by_cases ej : jj = σ.1 2
                · rw [ej]; simp (disch := omega) only [pN, pI, pL, pZ, row_eq, row_ne, xu_eq, xu_ne, xa_eq, xa_ne, pk_us, pk_un, pk_uLs, pk_uLn, eq_6, hfw_8, hfa_8, z8, y8_0, nI_succ]
                · simp (disch := omega) only [pN, pI, pL, pZ, row_eq, row_ne, xu_eq, xu_ne, xa_eq, xa_ne, pk_us, pk_un, pk_uLs, pk_uLn, eq_6, hfw_8, hfa_8, z8, y8_0, nI_succ, rr jj (by omega)]
            have hf : f_rule σ x1 x2 x3 x4 = (s_rule σ x1 x2 x3 x4, nI (σ.1 2)) := by simp [f_rule, opt_n, opt_s, c_1, c_2, c_3, c_4, c_5]
            exact W.iret (v := ((nI (σ.1 2)) + 1) - 1) hx hb hr (fun t ht _ => ⟨_, rfl, by rw [hf, ht]; exact ⟨congrArg (fun z => some (Value.int z)) (nI_back _), _, _, hw, hRep, by simp (disch := omega) only [xu_ne, xa_ne, eq_6, hfw_8, hfa_8, z8, y8_0, nI_succ], fun t h2 => ⟨by simp (disch := omega) only [xu_ne, xa_ne, eq_6, hfw_8, hfa_8, z8, y8_0, nI_succ], by simp (disch := omega) only [xu_ne, xa_ne, eq_6, hfw_8, hfa_8, z8, y8_0, nI_succ]⟩⟩, hS.F ht⟩) hS.2.2 d_A_rule_94
          · have c_5 : (xin x4.toInt64 0 100000) = false := bI_f.mp c_5
            refine lv_iconst (v := (-1)) hx hb d_A_rule_55 (by decide) ?_
            have hf : f_rule σ x1 x2 x3 x4 = (σ, (-1)) := by simp [f_rule, opt_n, opt_s, c_1, c_2, c_3, c_4, c_5]
            refine W.widen (k := 1) (n := 4) (by decide) (by decide) ?_
            exact W.iret (v := (-1)) hx hb hr (fun t ht _ => ⟨_, rfl, by rw [hf, ht]; exact ⟨rfl, PX_same hw hR⟩, hS.F ht⟩) hS.2.2 d_A_rule_56
      · have c_3 : ¬ (σ.1 2) < 8 := fun z => c_3 ((nLT (a := σ.1 2) (b := 8) (by omega) (by omega)).mpr z)
        refine lv_iconst (v := (-1)) hx hb d_A_rule_28 (by decide) ?_
        have hf : f_rule σ x1 x2 x3 x4 = (σ, (-1)) := by simp [f_rule, opt_n, opt_s, c_1, c_2, c_3]
        refine W.widen (k := 1) (n := 4) (by decide) (by decide) ?_
        exact W.iret (v := (-1)) hx hb hr (fun t ht _ => ⟨_, rfl, by rw [hf, ht]; exact ⟨rfl, PX_same hw hR⟩, hS.F ht⟩) hS.2.2 d_A_rule_29
set_option maxHeartbeats 4000000 in
set_option maxRecDepth 100000 in
theorem c_A_keepBatch {l : Launch} {D : va_G} {K : Nat → ClassId} {B : Nat} {ad : Nat → Nat} {w : Nat → Option va_E} {H : Heap} (hw : xw D vwCl B ad w H) (n : Nat) (hn : n < 8) (a1 : Nat) (ha1 : ad 1 = a1) (v2 v3 v4 v5 v6 v7 v8 v9 : Value) (fB : Nat → Option Nat) (h0 : w 0 = some (.inr (0, [.ref a1, .int (nI n), v2, v3, v4, v5, v6, v7, v8, v9]))) (h1 : w 1 = some (.inl (K 2, 8, .inr (.inr (.inr (.inr fB)))))) (t : Nat) (bs : List Value) (ht1 : t ≠ 1) (hb0 : w t = some (.inr (1, bs))) (a : Nat) (ha : ad t = a) (a0 : Nat) (ha0 : ad 0 = a0) : xC l D K B y_A_keepBatch b_A_keepBatch 2 (some .int) rm_A_keepBatch [.ref a0, .ref a] H (fun v H1 => v = some (.int (nI n)) ∧ xw D vwCl B ad (xu (xu w 1 (.inl (K 2, 8, .inr (.inr (.inr (.inr (va_up fB n (some a)))))))) 0 (.inr (0, [.ref a1, .int (nI n + 1), v2, v3, v4, v5, v6, v7, v8, v9]))) H1) := by
  refine Met.ofW (cc := b_A_keepBatch) (maxL := 2) (ret := (some .int)) (by decide) rfl ?_
  intro p e s m args below meth c s₁ B0 hml hv
  obtain ⟨rfl, hsz, hK, hN⟩ := hv
  have hx := B0.exec
  have hb := B0.bytes
  have hr := B0.returns
  have htw : ∀ w ∈ xW0, w.before [.ref a0, .ref a].toArray s = true := fun w h => atoms_spec (ws := Cond.code y_A_keepBatch b_A_keepBatch 2 (some .int) :: xW0) B0.pre w (List.mem_cons_of_mem _ h)
  have hown : s.vm.findClass R_A = some m.cls := findClass_of_methodNamed B0.named
  have hlocks := B0.notSynchronized
  subst hsz
  have hS : va_S (fun q => B ≤ q) s.heap s.heap [] := va_S.rf
  have hl := lv_entry ([.ref a0, .ref a]) (n := 2) (Nat.le_of_ble_eq_true rfl)
  rw [lg_entry_eq]
  generalize (lg_sl ([.ref a0, .ref a]) ++ List.replicate (2 - (lg_sl ([.ref a0, .ref a])).length) Slot.unset).toArray = ls at hl ⊢
  have hl : lv_has ls 2 [(0, .ref a0), (1, .ref a)] := hl
  have hH : s.heap = s.heap := rfl
  refine lv_aload_n hx hb d_A_keepBatch_0 rfl (lv_at hl 0 rfl) ?_
  refine xr_get (ci := 0) (v := .int (nI n)) (C := R_A) (T := T_A) (N := 10) hx hb htw in_A hown hK hw 0 h0 ha0 rfl 1 (by decide) (htw _ u_42) (fun _ h9 => h9) rfl d_A_keepBatch_1 ?_
  refine lv_bipush (v := 8) hx hb d_A_keepBatch_4 (by decide) ?_
  refine lv_icmp_lt (tgt := 11) hx hb d_A_keepBatch_6 (by decide) (fun c_1 => ?_) (fun c_1 => absurd ((nLT (a := n) (b := 8) (by omega) (by decide)).mpr hn) c_1)
  have c_1 : n < 8 := (nLT (a := n) (b := 8) (by omega) (by omega)).mp c_1
  refine lv_aload_n hx hb d_A_keepBatch_11 rfl (lv_at hl 0 rfl) ?_
  refine xr_get (ci := 0) (v := .ref a1) (C := R_A) (T := T_A) (N := 10) hx hb htw in_A hown hK hw 0 h0 ha0 rfl 0 (by decide) (htw _ u_41) (fun _ h9 => h9) rfl d_A_keepBatch_12 ?_
  refine lv_aload_n hx hb d_A_keepBatch_15 rfl (lv_at hl 0 rfl) ?_
  refine xr_get (ci := 0) (v := .int (nI n)) (C := R_A) (T := T_A) (N := 10) hx hb htw in_A hown hK hw 0 h0 ha0 rfl 1 (by decide) (htw _ u_42) (fun _ h9 => h9) rfl d_A_keepBatch_16 ?_
  refine lv_aload_n hx hb d_A_keepBatch_19 rfl (lv_at hl 1 rfl) ?_
  refine xr_astq (r := (R_B, T_B, 9)) hx hb hK hw hS 1 2 t 1 h1 ha1 rfl hb0 ha rfl (xvin (a := n) rfl (by omega) (by omega)) d_A_keepBatch_20 (fun H locs hw hS => ?_)
  rw [show (nI n).toNatClampNeg = n from xcl (a := n) rfl (by omega)] at hw
  have hw : xw D vwCl B ad (xu w 1 (.inl (K 2, 8, .inr (.inr (.inr (.inr (va_up fB n (some a)))))))) H := hw
  refine lv_aload_n hx hb d_A_keepBatch_21 rfl (lv_at hl 0 rfl) ?_
  refine lv_dup hx hb d_A_keepBatch_22 rfl ?_
  refine xr_get (ci := 0) (v := .int (nI n)) (C := R_A) (T := T_A) (N := 10) hx hb htw in_A hown hK hw 0 ((xu_ne (by omega)).trans (h0)) ha0 rfl 1 (by decide) (htw _ u_42) (fun _ h9 => h9) rfl d_A_keepBatch_23 ?_
  refine lv_iconst (v := 1) hx hb d_A_keepBatch_26 (by decide) ?_
  refine lv_iadd hx hb d_A_keepBatch_27 ?_
  refine xr_put (ci := 0) (v := .int ((nI n) + 1)) (ty := .int) (C := R_A) (T := T_A) (N := 10) hx hb htw in_A ty_A tk_A nm_A hown hK hw hS 0 ((xu_ne (by omega)).trans (h0)) ha0 rfl 1 (by decide) (htw _ u_42) (fun _ h9 => h9) rfl (by decide +kernel) rfl rfl (Nat.le_of_ble_eq_true rfl) d_A_keepBatch_28 (fun H locs hw hS => ?_)
  have hw : xw D vwCl B ad (xu (xu w 1 (.inl (K 2, 8, .inr (.inr (.inr (.inr (va_up fB n (some a)))))))) 0 (.inr (0, [.ref a1, .int ((nI n) + 1), v2, v3, v4, v5, v6, v7, v8, v9]))) H := hw
  refine lv_aload_n hx hb d_A_keepBatch_31 rfl (lv_at hl 0 rfl) ?_
  refine xr_get (ci := 0) (v := .int ((nI n) + 1)) (C := R_A) (T := T_A) (N := 10) hx hb htw in_A hown hK hw 0 xu_eq ha0 rfl 1 (by decide) (htw _ u_42) (fun _ h9 => h9) rfl d_A_keepBatch_32 ?_
  refine lv_iconst (v := 1) hx hb d_A_keepBatch_35 (by decide) ?_
  refine lv_isub hx hb d_A_keepBatch_36 ?_
  exact W.iret (v := ((nI n) + 1) - 1) hx hb hr (fun t ht _ => ⟨_, rfl, ⟨congrArg (fun z => some (Value.int z)) (nI_back _), by rw [ht]; exact hw⟩, hS.F ht⟩) hS.2.2 d_A_keepBatch_37
set_option maxHeartbeats 4000000 in
set_option maxRecDepth 100000 in
theorem c_A_batch {l : Launch} {D : va_G} {K : Nat → ClassId} {B : Nat} {ad : Nat → Nat} {w : Nat → Option va_E} {H : Heap} {σ : xS} (hR : RepX K σ ad w) (hI : Inv σ) (hw : xw D vwCl B ad w H) (hB : B ≤ H.size) (x1 : Int64) : xC l D K B y_A_batch b_A_batch 3 (some .int) rm_A_batch [.ref (ad 0), .long x1] H (fun v H1 => v = some (.int (f_batch σ x1).2) ∧ PX D K B ad w (f_batch σ x1).1 H1) := by
  refine Met.ofW (cc := b_A_batch) (maxL := 3) (ret := (some .int)) (by decide) rfl ?_
  intro p e s m args below meth c s₁ B0 hml hv
  obtain ⟨rfl, hsz, hK, hN⟩ := hv
  have hx := B0.exec
  have hb := B0.bytes
  have hr := B0.returns
  have htw : ∀ w ∈ xW0, w.before [.ref (ad 0), .long x1].toArray s = true := fun w h => atoms_spec (ws := Cond.code y_A_batch b_A_batch 3 (some .int) :: xW0) B0.pre w (List.mem_cons_of_mem _ h)
  have hown : s.vm.findClass R_A = some m.cls := findClass_of_methodNamed B0.named
  have hlocks := B0.notSynchronized
  subst hsz
  have hS : va_S (fun q => B ≤ q) s.heap s.heap [] := va_S.rf
  have hl := lv_entry ([.ref (ad 0), .long x1]) (n := 3) (Nat.le_of_ble_eq_true rfl)
  rw [lg_entry_eq]
  generalize (lg_sl ([.ref (ad 0), .long x1]) ++ List.replicate (3 - (lg_sl ([.ref (ad 0), .long x1])).length) Slot.unset).toArray = ls at hl ⊢
  have hl : lv_has ls 3 [(0, .ref (ad 0)), (1, .long x1)] := hl
  have hH : s.heap = s.heap := rfl
  obtain ⟨r0, r1, r2, r3, r4, r5, r6, r7, rb, rba, rbt, rbo, rs, rss, rr⟩ := id hR
  obtain ⟨hnb, hns, hnr, hpc, hst, hto, htl, hrm, hpa, hwt, hdf, hds⟩ := id hI
  refine lv_lload_n hx hb d_A_batch_0 rfl (lv_at hl 1 rfl) ?_
  refine lv_lconst (v := 1) hx hb d_A_batch_1 (by decide) ?_
  refine lv_ldc2 (v := 1000000000) hx hb hown (htw _ u_76) d_A_batch_2 ?_
  refine xr_call (va_runS (As := [.long x1, .long 1, .long 1000000000]) (rest := []) ⟨hx, hb, hml, hown, htw⟩ (c_A_isWithin x1 1 1000000000) (va_cwS 3 htw (gS u_77 u_78 u_1 u_79) rfl rfl rfl hd_A_isWithin.2 ⟨Nat.le_of_ble_eq_true rfl, Nat.le_of_ble_eq_true rfl⟩) ⟨xP_blind, xP_of hK hN⟩ rfl rfl hl.1 rfl (lv_room (Nat.le_of_ble_eq_true rfl)) d_A_batch_5 ⟨by decide, by decide⟩) hS (fun v H_ locs hp hS => ?_)
  obtain ⟨rfl, hHe⟩ := hp
  rw [hHe] at hS ⊢
  refine W.eq (g2 := F0 m 8 ls [.int (bI (xin x1 1 1000000000))]) rfl ?_
  refine lv_if_eq (tgt := 20) hx hb d_A_batch_8 (by decide) (fun c_1 => ?_) (fun c_1 => ?_)
  · have c_1 : (xin x1 1 1000000000) = false := bI_f.mp c_1
    refine lv_iconst (v := (-1)) hx hb d_A_batch_20 (by decide) ?_
    have hf : f_batch σ x1 = (σ, (-1)) := by simp [f_batch, opt_n, opt_s, c_1]
    refine W.widen (k := 4) (n := 49) (by decide) (by decide) ?_
    exact W.iret (v := (-1)) hx hb hr (fun t ht _ => ⟨_, rfl, by rw [hf, ht]; exact ⟨rfl, PX_same hw hR⟩, hS.F ht⟩) hS.2.2 d_A_batch_21
  · have c_1 : (xin x1 1 1000000000) = true := bI_t.mp c_1
    refine lv_aload_n hx hb d_A_batch_11 rfl (lv_at hl 0 rfl) ?_
    refine xr_get (ci := 0) (v := .int (nI (σ.1 0))) (C := R_A) (T := T_A) (N := 10) hx hb htw in_A hown hK hw 0 r0 rfl rfl 1 (by decide) (htw _ u_42) (fun _ h9 => h9) rfl d_A_batch_12 ?_
    refine lv_bipush (v := 8) hx hb d_A_batch_15 (by decide) ?_
    refine lv_icmp_lt (tgt := 22) hx hb d_A_batch_17 (by decide) (fun c_2 => ?_) (fun c_2 => ?_)
    · have c_2 : (σ.1 0) < 8 := (nLT (a := σ.1 0) (b := 8) (by omega) (by omega)).mp c_2
      refine lv_aload_n hx hb d_A_batch_22 rfl (lv_at hl 0 rfl) ?_
      refine xr_new (ci := 1) (fs := [.int 0, .int 0, .null, .null, .null, .long 0, .int 0, .int 0, .int 0]) (C := R_B) (T := T_B) (N := 9) hx hb htw in_B ty_B tk_B hown (htw _ u_17) (htw _ u_80) (htw _ u_4) hK hw hS hB (100 + σ.1 0) rfl (fun j hj => by rcases (show j = 0 ∨ j = 1 ∨ j = 2 ∨ j = 3 ∨ j = 4 ∨ j = 5 ∨ j = 6 ∨ j = 7 ∨ j = 8 by omega) with rfl | rfl | rfl | rfl | rfl | rfl | rfl | rfl | rfl <;> rfl) (by decide) (by decide) d_A_batch_23 (fun H ad_4 q_3 eq_3 lq_3 hw hS => ?_)
      have hw : xw D vwCl B ad_4 (xu w (100 + σ.1 0) (.inr (1, [.int 0, .int 0, .null, .null, .null, .long 0, .int 0, .int 0, .int 0]))) H := hw
      have aq_3 : ad_4 (100 + σ.1 0) = q_3 := by rw [eq_3]; exact xa_eq
      refine lv_dup hx hb d_A_batch_26 rfl ?_
      refine lv_lload_n hx hb d_A_batch_27 rfl (lv_at hl 1 rfl) ?_
      refine lv_aload_n hx hb d_A_batch_28 rfl (lv_at hl 0 rfl) ?_
      refine xr_get (ci := 0) (v := .int (σ.2.1 0 0)) (C := R_A) (T := T_A) (N := 10) hx hb htw in_A hown hK hw 0 ((xu_ne (by omega)).trans (r0)) ((show ad_4 0 = ad 0 by rw [eq_3]; exact xa_ne (by omega)).trans rfl) rfl 7 (by decide) (htw _ u_48) (fun _ h9 => h9) rfl d_A_batch_29 ?_
      refine lv_iconst (v := 0) hx hb d_A_batch_32 (by decide) ?_
      refine xr_call (va_runI (As := [.long x1, .int (σ.2.1 0 0), .int 0]) (rest := [.ref q_3, .ref (ad 0)]) ⟨hx, hb, hml, hown, htw⟩ (c_B_init (ad := ad_4) hw (100 + σ.1 0) (110 + σ.1 0) (120 + σ.1 0) (130 + σ.1 0) x1 (σ.2.1 0 0) false (by omega) xu_eq (Nat.le_trans hB hS.1) q_3 aq_3) (cwI 3 htw (gC u_83) rfl rfl rfl (htw _ u_4) (htw _ u_81) (htw _ u_82) rfl hd_B_init.2 ⟨Nat.le_of_ble_eq_true rfl, Nat.le_of_ble_eq_true rfl⟩) ⟨xP_blind, xP_of hK hN⟩ rfl rfl hl.1 rfl (lv_room (Nat.le_of_ble_eq_true rfl)) d_A_batch_33 ⟨by decide, by decide⟩) hS (fun v H_ locs hp hS => ?_)
      obtain ⟨rfl, ad_5, w_5, hw, y5_0, y5_1, y5_2, y5_3, z5, hfr⟩ := hp
      generalize H_ = H at hw hS ⊢
      have hfw_5 : ∀ u, u ≠ 100 + σ.1 0 → u ≠ 110 + σ.1 0 → u ≠ 120 + σ.1 0 → u ≠ 130 + σ.1 0 → w_5 u = (xu w (100 + σ.1 0) (.inr (1, [.int 0, .int 0, .null, .null, .null, .long 0, .int 0, .int 0, .int 0]))) u := fun u h0 h1 h2 h3 => (hfr u (by simp only [List.mem_cons, List.not_mem_nil, or_false, not_or]; exact ⟨h0, h1, h2, h3⟩)).1
      have hfa_5 : ∀ u, u ≠ 100 + σ.1 0 → u ≠ 110 + σ.1 0 → u ≠ 120 + σ.1 0 → u ≠ 130 + σ.1 0 → ad_5 u = ad_4 u := fun u h0 h1 h2 h3 => (hfr u (by simp only [List.mem_cons, List.not_mem_nil, or_false, not_or]; exact ⟨h0, h1, h2, h3⟩)).2
      refine W.eq (g2 := F0 m 36 ls [.ref q_3, .ref (ad 0)]) rfl ?_
      refine xr_call (va_runV (As := [.ref q_3]) (rest := []) ⟨hx, hb, hml, hown, htw⟩ (c_A_keepBatch (ad := ad_5) hw (σ.1 0) (by omega) (ad 1) ((hfa_5 1 (by omega) (by omega) (by omega) (by omega)).trans ((show ad_4 1 = ad 1 by rw [eq_3]; exact xa_ne (by omega)).trans rfl)) (.ref (ad 2)) (.int (nI (σ.1 1))) (.ref (ad 3)) (.int (nI (σ.1 2))) (.ref (ad 4)) (.int (σ.2.1 0 0)) (.int (σ.2.1 0 1)) (.long (σ.2.2.1 0 0)) (fun i => if i < σ.1 0 then some (ad (100 + i)) else none) ((hfw_5 0 (by omega) (by omega) (by omega) (by omega)).trans ((xu_ne (by omega)).trans (r0))) ((hfw_5 1 (by omega) (by omega) (by omega) (by omega)).trans ((xu_ne (by omega)).trans (r1))) (100 + σ.1 0) _ (by omega) y5_0 q_3 ((z5).trans aq_3) (ad 0) ((hfa_5 0 (by omega) (by omega) (by omega) (by omega)).trans ((show ad_4 0 = ad 0 by rw [eq_3]; exact xa_ne (by omega)).trans rfl))) (cwV 1 htw (gV u_123 u_125 us_0 u_1 u_126) rfl rfl rfl hd_A_keepBatch ⟨Nat.le_of_ble_eq_true rfl, Nat.le_of_ble_eq_true rfl⟩) ⟨xP_blind, hw.recv hK (ci := 0) (t := 0) rfl ((hfw_5 0 (by omega) (by omega) (by omega) (by omega)).trans ((xu_ne (by omega)).trans (r0))) ((hfa_5 0 (by omega) (by omega) (by omega) (by omega)).trans ((show ad_4 0 = ad 0 by rw [eq_3]; exact xa_ne (by omega)).trans rfl)), xP_of hK hN⟩ rfl rfl hl.1 rfl (lv_room (Nat.le_of_ble_eq_true rfl)) d_A_batch_36 ⟨by decide, by decide⟩) hS (fun v H_ locs hp hS => ?_)
      obtain ⟨rfl, hw⟩ := hp
      generalize H_ = H at hw hS ⊢
      have hw : xw D vwCl B ad_5 (xu (xu w_5 1 (.inl (K 2, 8, .inr (.inr (.inr (.inr (va_up (fun i => if i < σ.1 0 then some (ad (100 + i)) else none) (σ.1 0) (some q_3)))))))) 0 (.inr (0, [.ref (ad 1), .int (nI (σ.1 0) + 1), .ref (ad 2), .int (nI (σ.1 1)), .ref (ad 3), .int (nI (σ.1 2)), .ref (ad 4), .int (σ.2.1 0 0), .int (σ.2.1 0 1), .long (σ.2.2.1 0 0)]))) H := hw
      refine W.eq (g2 := F0 m 39 ls [.int (nI (σ.1 0))]) rfl ?_
      have hq : ad_5 (100 + σ.1 0) = q_3 := (z5).trans aq_3
      have hpu := fq_push (n := σ.1 0) (ad := ad) (ad1 := ad_5) (b := 100) (q := q_3) hq (fun i hi => by simp (disch := omega) only [xa_ne, eq_3, hfw_5, hfa_5, z5, y5_0, y5_1, y5_2, y5_3])
      obtain ⟨hd1, hd2, hd3, hd4, hd5, hd6⟩ := hdf (σ.1 0) (Nat.le_refl _) (by omega)
      have hRep : RepX K (s_new σ x1 (σ.2.1 0 0) false) ad_5 (xu (xu w_5 1 (.inl (K 2, 8, .inr (.inr (.inr (.inr (va_up (fun i => if i < σ.1 0 then some (ad (100 + i)) else none) (σ.1 0) (some q_3)))))))) 0 (.inr (0, [.ref (ad 1), .int (nI (σ.1 0) + 1), .ref (ad 2), .int (nI (σ.1 1)), .ref (ad 3), .int (nI (σ.1 2)), .ref (ad 4), .int (σ.2.1 0 0), .int (σ.2.1 0 1), .long (σ.2.2.1 0 0)]))) := by
        unfold s_new
        refine ⟨?_, ?_, ?_, ?_, ?_, ?_, ?_, ?_, ?_, ?_, ?_, ?_, ?_, ?_, ?_⟩
        · simp (disch := omega) only [pN, pI, pL, pZ, row_eq, row_ne, xu_eq, xu_ne, xa_eq, xa_ne, pk_us, pk_un, pk_uLs, pk_uLn, eq_3, hfw_5, hfa_5, z5, y5_0, y5_1, y5_2, y5_3, hd1, hd2, hd3, hd4, hd5, hd6, nI_succ, bI_ff, bI_tt, nI_0, r0]
        · simp (disch := omega) only [pN, pI, pL, pZ, row_eq, row_ne, xu_eq, xu_ne, xa_eq, xa_ne, pk_us, pk_un, pk_uLs, pk_uLn, eq_3, hfw_5, hfa_5, z5, y5_0, y5_1, y5_2, y5_3, hpu]; try rfl
        · simp (disch := omega) only [pN, pI, pL, pZ, row_eq, row_ne, xu_eq, xu_ne, xa_eq, xa_ne, pk_us, pk_un, pk_uLs, pk_uLn, eq_3, hfw_5, hfa_5, z5, y5_0, y5_1, y5_2, y5_3, hd1, hd2, hd3, hd4, hd5, hd6, nI_succ, bI_ff, bI_tt, nI_0, r2]; try rfl
        · simp (disch := omega) only [pN, pI, pL, pZ, row_eq, row_ne, xu_eq, xu_ne, xa_eq, xa_ne, pk_us, pk_un, pk_uLs, pk_uLn, eq_3, hfw_5, hfa_5, z5, y5_0, y5_1, y5_2, y5_3, hd1, hd2, hd3, hd4, hd5, hd6, nI_succ, bI_ff, bI_tt, nI_0, r3]; try rfl
        · simp (disch := omega) only [pN, pI, pL, pZ, row_eq, row_ne, xu_eq, xu_ne, xa_eq, xa_ne, pk_us, pk_un, pk_uLs, pk_uLn, eq_3, hfw_5, hfa_5, z5, y5_0, y5_1, y5_2, y5_3, hd1, hd2, hd3, hd4, hd5, hd6, nI_succ, bI_ff, bI_tt, nI_0, r4]
        · simp (disch := omega) only [pN, pI, pL, pZ, row_eq, row_ne, xu_eq, xu_ne, xa_eq, xa_ne, pk_us, pk_un, pk_uLs, pk_uLn, eq_3, hfw_5, hfa_5, z5, y5_0, y5_1, y5_2, y5_3, hd1, hd2, hd3, hd4, hd5, hd6, nI_succ, bI_ff, bI_tt, nI_0, r5]
        · simp (disch := omega) only [pN, pI, pL, pZ, row_eq, row_ne, xu_eq, xu_ne, xa_eq, xa_ne, pk_us, pk_un, pk_uLs, pk_uLn, eq_3, hfw_5, hfa_5, z5, y5_0, y5_1, y5_2, y5_3, hd1, hd2, hd3, hd4, hd5, hd6, nI_succ, bI_ff, bI_tt, nI_0, r6]
        · simp (disch := omega) only [pN, pI, pL, pZ, row_eq, row_ne, xu_eq, xu_ne, xa_eq, xa_ne, pk_us, pk_un, pk_uLs, pk_uLn, eq_3, hfw_5, hfa_5, z5, y5_0, y5_1, y5_2, y5_3, hd1, hd2, hd3, hd4, hd5, hd6, nI_succ, bI_ff, bI_tt, nI_0, r7]
        · intro jj hj
          have hj : jj < σ.1 0 + 1 := by simpa (disch := omega) only [pN, pI, pL, pZ, row_eq, row_ne, xu_eq, xu_ne, xa_eq, xa_ne, pk_us, pk_un, pk_uLs, pk_uLn, eq_3, hfw_5, hfa_5, z5, y5_0, y5_1, y5_2, y5_3, hd1, hd2, hd3, hd4, hd5, hd6, nI_succ, bI_ff, bI_tt, nI_0] using hj
          by_cases ej : jj = σ.1 0
          · rw [ej]; simp (disch := omega) only [pN, pI, pL, pZ, row_eq, row_ne, xu_eq, xu_ne, xa_eq, xa_ne, pk_us, pk_un, pk_uLs, pk_uLn, eq_3, hfw_5, hfa_5, z5, y5_0, y5_1, y5_2, y5_3, hd1, hd2, hd3, hd4, hd5, hd6, nI_succ, bI_ff, bI_tt, nI_0]
          · simp (disch := omega) only [pN, pI, pL, pZ, row_eq, row_ne, xu_eq, xu_ne, xa_eq, xa_ne, pk_us, pk_un, pk_uLs, pk_uLn, eq_3, hfw_5, hfa_5, z5, y5_0, y5_1, y5_2, y5_3, hd1, hd2, hd3, hd4, hd5, hd6, nI_succ, bI_ff, bI_tt, nI_0, rb jj (by omega)]
        · intro jj hj
          have hj : jj < σ.1 0 + 1 := by simpa (disch := omega) only [pN, pI, pL, pZ, row_eq, row_ne, xu_eq, xu_ne, xa_eq, xa_ne, pk_us, pk_un, pk_uLs, pk_uLn, eq_3, hfw_5, hfa_5, z5, y5_0, y5_1, y5_2, y5_3, hd1, hd2, hd3, hd4, hd5, hd6, nI_succ, bI_ff, bI_tt, nI_0] using hj
          by_cases ej : jj = σ.1 0
          · rw [ej]; simp (disch := omega) only [pN, pI, pL, pZ, row_eq, row_ne, xu_eq, xu_ne, xa_eq, xa_ne, pk_us, pk_un, pk_uLs, pk_uLn, eq_3, hfw_5, hfa_5, z5, y5_0, y5_1, y5_2, y5_3, hd1, hd2, hd3, hd4, hd5, hd6, nI_succ, bI_ff, bI_tt, nI_0]
          · simp (disch := omega) only [pN, pI, pL, pZ, row_eq, row_ne, xu_eq, xu_ne, xa_eq, xa_ne, pk_us, pk_un, pk_uLs, pk_uLn, eq_3, hfw_5, hfa_5, z5, y5_0, y5_1, y5_2, y5_3, hd1, hd2, hd3, hd4, hd5, hd6, nI_succ, bI_ff, bI_tt, nI_0, rba jj (by omega)]
        · intro jj hj
          have hj : jj < σ.1 0 + 1 := by simpa (disch := omega) only [pN, pI, pL, pZ, row_eq, row_ne, xu_eq, xu_ne, xa_eq, xa_ne, pk_us, pk_un, pk_uLs, pk_uLn, eq_3, hfw_5, hfa_5, z5, y5_0, y5_1, y5_2, y5_3, hd1, hd2, hd3, hd4, hd5, hd6, nI_succ, bI_ff, bI_tt, nI_0] using hj
          by_cases ej : jj = σ.1 0
          · rw [ej]; simp (disch := omega) only [pN, pI, pL, pZ, row_eq, row_ne, xu_eq, xu_ne, xa_eq, xa_ne, pk_us, pk_un, pk_uLs, pk_uLn, eq_3, hfw_5, hfa_5, z5, y5_0, y5_1, y5_2, y5_3, hd1, hd2, hd3, hd4, hd5, hd6, nI_succ, bI_ff, bI_tt, nI_0]
          · simp (disch := omega) only [pN, pI, pL, pZ, row_eq, row_ne, xu_eq, xu_ne, xa_eq, xa_ne, pk_us, pk_un, pk_uLs, pk_uLn, eq_3, hfw_5, hfa_5, z5, y5_0, y5_1, y5_2, y5_3, hd1, hd2, hd3, hd4, hd5, hd6, nI_succ, bI_ff, bI_tt, nI_0, rbt jj (by omega)]
        · intro jj hj
          have hj : jj < σ.1 0 + 1 := by simpa (disch := omega) only [pN, pI, pL, pZ, row_eq, row_ne, xu_eq, xu_ne, xa_eq, xa_ne, pk_us, pk_un, pk_uLs, pk_uLn, eq_3, hfw_5, hfa_5, z5, y5_0, y5_1, y5_2, y5_3, hd1, hd2, hd3, hd4, hd5, hd6, nI_succ, bI_ff, bI_tt, nI_0] using hj
          by_cases ej : jj = σ.1 0
          · rw [ej]; simp (disch := omega) only [pN, pI, pL, pZ, row_eq, row_ne, xu_eq, xu_ne, xa_eq, xa_ne, pk_us, pk_un, pk_uLs, pk_uLn, eq_3, hfw_5, hfa_5, z5, y5_0, y5_1, y5_2, y5_3, hd1, hd2, hd3, hd4, hd5, hd6, nI_succ, bI_ff, bI_tt, nI_0]
          · simp (disch := omega) only [pN, pI, pL, pZ, row_eq, row_ne, xu_eq, xu_ne, xa_eq, xa_ne, pk_us, pk_un, pk_uLs, pk_uLn, eq_3, hfw_5, hfa_5, z5, y5_0, y5_1, y5_2, y5_3, hd1, hd2, hd3, hd4, hd5, hd6, nI_succ, bI_ff, bI_tt, nI_0, rbo jj (by omega)]
        · intro jj hj
          have hj : jj < σ.1 1 := by first | exact hj | simpa (disch := omega) only [pN, pI, pL, pZ, row_eq, row_ne, xu_eq, xu_ne, xa_eq, xa_ne, pk_us, pk_un, pk_uLs, pk_uLn, eq_3, hfw_5, hfa_5, z5, y5_0, y5_1, y5_2, y5_3, hd1, hd2, hd3, hd4, hd5, hd6, nI_succ, bI_ff, bI_tt, nI_0] using hj
          simp (disch := omega) only [pN, pI, pL, pZ, row_eq, row_ne, xu_eq, xu_ne, xa_eq, xa_ne, pk_us, pk_un, pk_uLs, pk_uLn, eq_3, hfw_5, hfa_5, z5, y5_0, y5_1, y5_2, y5_3, hd1, hd2, hd3, hd4, hd5, hd6, nI_succ, bI_ff, bI_tt, nI_0, rs jj hj]
        · intro jj hj
          have hj : jj < σ.1 1 := by first | exact hj | simpa (disch := omega) only [pN, pI, pL, pZ, row_eq, row_ne, xu_eq, xu_ne, xa_eq, xa_ne, pk_us, pk_un, pk_uLs, pk_uLn, eq_3, hfw_5, hfa_5, z5, y5_0, y5_1, y5_2, y5_3, hd1, hd2, hd3, hd4, hd5, hd6, nI_succ, bI_ff, bI_tt, nI_0] using hj
          simp (disch := omega) only [pN, pI, pL, pZ, row_eq, row_ne, xu_eq, xu_ne, xa_eq, xa_ne, pk_us, pk_un, pk_uLs, pk_uLn, eq_3, hfw_5, hfa_5, z5, y5_0, y5_1, y5_2, y5_3, hd1, hd2, hd3, hd4, hd5, hd6, nI_succ, bI_ff, bI_tt, nI_0, rss jj hj]
        · intro jj hj
          have hj : jj < σ.1 2 := by first | exact hj | simpa (disch := omega) only [pN, pI, pL, pZ, row_eq, row_ne, xu_eq, xu_ne, xa_eq, xa_ne, pk_us, pk_un, pk_uLs, pk_uLn, eq_3, hfw_5, hfa_5, z5, y5_0, y5_1, y5_2, y5_3, hd1, hd2, hd3, hd4, hd5, hd6, nI_succ, bI_ff, bI_tt, nI_0] using hj
          simp (disch := omega) only [pN, pI, pL, pZ, row_eq, row_ne, xu_eq, xu_ne, xa_eq, xa_ne, pk_us, pk_un, pk_uLs, pk_uLn, eq_3, hfw_5, hfa_5, z5, y5_0, y5_1, y5_2, y5_3, hd1, hd2, hd3, hd4, hd5, hd6, nI_succ, bI_ff, bI_tt, nI_0, rr jj hj]
      have hf : f_batch σ x1 = (s_new σ x1 (σ.2.1 0 0) false, nI (σ.1 0)) := by simp [f_batch, opt_n, opt_s, c_1, c_2]
      exact W.iret (v := nI (σ.1 0)) hx hb hr (fun t ht _ => ⟨_, rfl, by rw [hf, ht]; exact ⟨rfl, _, _, hw, hRep, by simp (disch := omega) only [xu_ne, xa_ne, eq_3, hfw_5, hfa_5, z5, y5_0, y5_1, y5_2, y5_3, hd1, hd2, hd3, hd4, hd5, hd6, nI_succ, bI_ff, bI_tt, nI_0], fun t h2 => ⟨by simp (disch := omega) only [xu_ne, xa_ne, eq_3, hfw_5, hfa_5, z5, y5_0, y5_1, y5_2, y5_3, hd1, hd2, hd3, hd4, hd5, hd6, nI_succ, bI_ff, bI_tt, nI_0], by simp (disch := omega) only [xu_ne, xa_ne, eq_3, hfw_5, hfa_5, z5, y5_0, y5_1, y5_2, y5_3, hd1, hd2, hd3, hd4, hd5, hd6, nI_succ, bI_ff, bI_tt, nI_0]⟩⟩, hS.F ht⟩) hS.2.2 d_A_batch_39
    · have c_2 : ¬ (σ.1 0) < 8 := fun z => c_2 ((nLT (a := σ.1 0) (b := 8) (by omega) (by omega)).mpr z)
      refine lv_iconst (v := (-1)) hx hb d_A_batch_20 (by decide) ?_
      have hf : f_batch σ x1 = (σ, (-1)) := by simp [f_batch, opt_n, opt_s, c_1, c_2]
      refine W.widen (k := 4) (n := 49) (by decide) (by decide) ?_
      exact W.iret (v := (-1)) hx hb hr (fun t ht _ => ⟨_, rfl, by rw [hf, ht]; exact ⟨rfl, PX_same hw hR⟩, hS.F ht⟩) hS.2.2 d_A_batch_21
