set_option maxHeartbeats 4000000 in
set_option maxRecDepth 100000 in
theorem c_A_mix {l : Launch} {D : va_G} {K : Nat → ClassId} {B : Nat} {ad : Nat → Nat} {w : Nat → Option va_E} {H : Heap} {σ : xS} (hR : RepX K σ ad w) (hI : Inv σ) (hw : xw D vwCl B ad w H) (hB : B ≤ H.size) (x1 x2 : Int32) : xC l D K B y_A_mix b_A_mix 5 (some .int) rm_A_mix [.ref (ad 0), .int x1, .int x2] H (fun v H1 => v = some (.int (f_mix σ x1 x2).2) ∧ PX D K B ad w (f_mix σ x1 x2).1 H1) := by
  refine Met.ofW (cc := b_A_mix) (maxL := 5) (ret := (some .int)) (by decide) rfl ?_
  intro p e s m args below meth c s₁ B0 hml hv
  obtain ⟨rfl, hsz, hK, hN⟩ := hv
  have hx := B0.exec
  have hb := B0.bytes
  have hr := B0.returns
  have htw : ∀ w ∈ xW0, w.before [.ref (ad 0), .int x1, .int x2].toArray s = true := fun w h => atoms_spec (ws := Cond.code y_A_mix b_A_mix 5 (some .int) :: xW0) B0.pre w (List.mem_cons_of_mem _ h)
  have hown : s.vm.findClass R_A = some m.cls := findClass_of_methodNamed B0.named
  have hlocks := B0.notSynchronized
  subst hsz
  have hS : va_S (fun q => B ≤ q) s.heap s.heap [] := va_S.rf
  have hl := lv_entry ([.ref (ad 0), .int x1, .int x2]) (n := 5) (Nat.le_of_ble_eq_true rfl)
  rw [lg_entry_eq]
  generalize (lg_sl ([.ref (ad 0), .int x1, .int x2]) ++ List.replicate (5 - (lg_sl ([.ref (ad 0), .int x1, .int x2])).length) Slot.unset).toArray = ls at hl ⊢
  have hl : lv_has ls 5 [(0, .ref (ad 0)), (1, .int x1), (2, .int x2)] := hl
  have hH : s.heap = s.heap := rfl
  obtain ⟨r0, r1, r2, r3, r4, r5, r6, r7, rb, rba, rbt, rbo, rs, rss, rr⟩ := id hR
  obtain ⟨hnb, hns, hnr, hpc, hst, hto, htl, hrm, hpa, hwt, hdf, hds⟩ := id hI
  refine lv_aload_n hx hb d_A_mix_0 rfl (lv_at hl 0 rfl) ?_
  refine lv_iload_n hx hb d_A_mix_1 rfl (lv_at hl 1 rfl) ?_
  refine xr_call (va_runV (As := [.int x1]) (rest := []) ⟨hx, hb, hml, hown, htw⟩ (c_A_batchAt (ad := ad) hR hnb hns hw x1) (cwV 1 htw (gV u_131 u_133 us_1 u_1 u_134) rfl rfl rfl hd_A_batchAt ⟨Nat.le_of_ble_eq_true rfl, Nat.le_of_ble_eq_true rfl⟩) ⟨xP_blind, hw.recv hK (ci := 0) (t := 0) rfl r0 rfl, xP_of hK hN⟩ rfl rfl hl.1 rfl (lv_room (Nat.le_of_ble_eq_true rfl)) d_A_mix_2 ⟨by decide, by decide⟩) hS (fun v H_ locs hp hS => ?_)
  obtain ⟨hHe, hp⟩ := hp
  rw [hHe] at hS ⊢
  rcases hp with ⟨f2, rfl⟩ | ⟨i1, hi1, rfl, rfl⟩
  · refine W.eq (g2 := F0 m 5 ls [.null]) rfl ?_
    refine lv_astore_nN (lv' := [(3, .null), (0, .ref (ad 0)), (1, .int x1), (2, .int x2)]) hx hb d_A_mix_5 rfl hl (by decide) rfl (fun ls hl => ?_)
    refine lv_aload_n hx hb d_A_mix_6 rfl (lv_at hl 1 rfl) ?_
    refine lv_iload_n hx hb d_A_mix_7 rfl (lv_at hl 3 rfl) ?_
    refine xr_call (va_runV (As := [.int x2]) (rest := []) ⟨hx, hb, hml, hown, htw⟩ (c_A_batchAt (ad := ad) hR hnb hns hw x2) (cwV 1 htw (gV u_131 u_133 us_1 u_1 u_134) rfl rfl rfl hd_A_batchAt ⟨Nat.le_of_ble_eq_true rfl, Nat.le_of_ble_eq_true rfl⟩) ⟨xP_blind, hw.recv hK (ci := 0) (t := 0) rfl r0 rfl, xP_of hK hN⟩ rfl rfl hl.1 rfl (lv_room (Nat.le_of_ble_eq_true rfl)) d_A_mix_8 ⟨by decide, by decide⟩) hS (fun v H_ locs hp hS => ?_)
    obtain ⟨hHe, hp⟩ := hp
    rw [hHe] at hS ⊢
    rcases hp with ⟨f4, rfl⟩ | ⟨i3, hi3, rfl, rfl⟩
    · refine W.eq (g2 := F0 m 11 ls [.null]) rfl ?_
      refine lv_astoreN (lv' := [(4, .null), (3, .null), (0, .ref (ad 0)), (1, .int x1), (2, .int x2)]) hx hb d_A_mix_11 hl (by decide) rfl (fun ls hl => ?_)
      refine lv_aload_nN hx hb d_A_mix_13 rfl (lv_at hl 1 rfl) ?_
      refine lv_ifnullN (tgt := 36) hx hb d_A_mix_14 (by decide) ?_
      refine lv_iconst (v := (-1)) hx hb d_A_mix_36 (by decide) ?_
      have hf : f_mix σ x1 x2 = (σ, (-1)) := by simp [f_mix, opt_n, opt_s, f2, f4]
      refine W.widen (k := 4) (n := 49) (by decide) (by decide) ?_
      exact W.iret (v := (-1)) hx hb hr (fun t ht _ => ⟨_, rfl, by rw [hf, ht]; exact ⟨rfl, PX_same hw hR⟩, hS.F ht⟩) hS.2.2 d_A_mix_37
    · have fi3 : xi (σ.1 0) (nI i3) = some i3 := xi_nI hi3 (by omega)
      refine W.eq (g2 := F0 m 11 ls [.ref (ad (100 + i3))]) rfl ?_
      refine lv_astore (lv' := [(4, .ref (ad (100 + i3))), (3, .null), (0, .ref (ad 0)), (1, .int x1), (2, .int (nI i3))]) hx hb d_A_mix_11 hl (by decide) rfl (fun ls hl => ?_)
      refine lv_aload_nN hx hb d_A_mix_13 rfl (lv_at hl 1 rfl) ?_
      refine lv_ifnullN (tgt := 36) hx hb d_A_mix_14 (by decide) ?_
      refine lv_iconst (v := (-1)) hx hb d_A_mix_36 (by decide) ?_
      have hf : f_mix σ x1 (nI i3) = (σ, (-1)) := by simp [f_mix, opt_n, opt_s, f2, fi3]
      refine W.widen (k := 4) (n := 49) (by decide) (by decide) ?_
      exact W.iret (v := (-1)) hx hb hr (fun t ht _ => ⟨_, rfl, by rw [hf, ht]; exact ⟨rfl, PX_same hw hR⟩, hS.F ht⟩) hS.2.2 d_A_mix_37
  · have fi1 : xi (σ.1 0) (nI i1) = some i1 := xi_nI hi1 (by omega)
    refine W.eq (g2 := F0 m 5 ls [.ref (ad (100 + i1))]) rfl ?_
    refine lv_astore_n (lv' := [(3, .ref (ad (100 + i1))), (0, .ref (ad 0)), (1, .int (nI i1)), (2, .int x2)]) hx hb d_A_mix_5 rfl hl (by decide) rfl (fun ls hl => ?_)
    refine lv_aload_n hx hb d_A_mix_6 rfl (lv_at hl 1 rfl) ?_
    refine lv_iload_n hx hb d_A_mix_7 rfl (lv_at hl 3 rfl) ?_
    refine xr_call (va_runV (As := [.int x2]) (rest := []) ⟨hx, hb, hml, hown, htw⟩ (c_A_batchAt (ad := ad) hR hnb hns hw x2) (cwV 1 htw (gV u_131 u_133 us_1 u_1 u_134) rfl rfl rfl hd_A_batchAt ⟨Nat.le_of_ble_eq_true rfl, Nat.le_of_ble_eq_true rfl⟩) ⟨xP_blind, hw.recv hK (ci := 0) (t := 0) rfl r0 rfl, xP_of hK hN⟩ rfl rfl hl.1 rfl (lv_room (Nat.le_of_ble_eq_true rfl)) d_A_mix_8 ⟨by decide, by decide⟩) hS (fun v H_ locs hp hS => ?_)
    obtain ⟨hHe, hp⟩ := hp
    rw [hHe] at hS ⊢
    rcases hp with ⟨f6, rfl⟩ | ⟨i5, hi5, rfl, rfl⟩
    · refine W.eq (g2 := F0 m 11 ls [.null]) rfl ?_
      refine lv_astoreN (lv' := [(4, .null), (3, .ref (ad (100 + i1))), (0, .ref (ad 0)), (1, .int (nI i1)), (2, .int x2)]) hx hb d_A_mix_11 hl (by decide) rfl (fun ls hl => ?_)
      refine lv_aload_n hx hb d_A_mix_13 rfl (lv_at hl 1 rfl) ?_
      refine lv_ifnull hx hb d_A_mix_14 ?_
      refine lv_aloadN hx hb d_A_mix_17 (lv_at hl 0 rfl) ?_
      refine lv_ifnullN (tgt := 36) hx hb d_A_mix_19 (by decide) ?_
      refine lv_iconst (v := (-1)) hx hb d_A_mix_36 (by decide) ?_
      have hf : f_mix σ (nI i1) x2 = (σ, (-1)) := by simp [f_mix, opt_n, opt_s, fi1, f6]
      refine W.widen (k := 4) (n := 49) (by decide) (by decide) ?_
      exact W.iret (v := (-1)) hx hb hr (fun t ht _ => ⟨_, rfl, by rw [hf, ht]; exact ⟨rfl, PX_same hw hR⟩, hS.F ht⟩) hS.2.2 d_A_mix_37
    · have fi5 : xi (σ.1 0) (nI i5) = some i5 := xi_nI hi5 (by omega)
      refine W.eq (g2 := F0 m 11 ls [.ref (ad (100 + i5))]) rfl ?_
      refine lv_astore (lv' := [(4, .ref (ad (100 + i5))), (3, .ref (ad (100 + i1))), (0, .ref (ad 0)), (1, .int (nI i1)), (2, .int (nI i5))]) hx hb d_A_mix_11 hl (by decide) rfl (fun ls hl => ?_)
      refine lv_aload_n hx hb d_A_mix_13 rfl (lv_at hl 1 rfl) ?_
      refine lv_ifnull hx hb d_A_mix_14 ?_
      refine lv_aload hx hb d_A_mix_17 (lv_at hl 0 rfl) ?_
      refine lv_ifnull hx hb d_A_mix_19 ?_
      refine lv_iload_n hx hb d_A_mix_22 rfl (lv_at hl 3 rfl) ?_
      refine lv_iload_n hx hb d_A_mix_23 rfl (lv_at hl 4 rfl) ?_
      refine lv_icmp_eq (tgt := 36) hx hb d_A_mix_24 (by decide) (fun c_7 => ?_) (fun c_7 => ?_)
      · have c_7 : i1 = i5 := (nEQ (a := i1) (b := i5) (by omega) (by omega)).mp c_7
        refine lv_iconst (v := (-1)) hx hb d_A_mix_36 (by decide) ?_
        have hf : f_mix σ (nI i1) (nI i5) = (σ, (-1)) := by simp [f_mix, opt_n, opt_s, fi1, fi5, c_7]
        refine W.widen (k := 4) (n := 49) (by decide) (by decide) ?_
        exact W.iret (v := (-1)) hx hb hr (fun t ht _ => ⟨_, rfl, by rw [hf, ht]; exact ⟨rfl, PX_same hw hR⟩, hS.F ht⟩) hS.2.2 d_A_mix_37
      · have c_7 : ¬ i1 = i5 := fun z => c_7 ((nEQ (a := i1) (b := i5) (by omega) (by omega)).mpr z)
        refine lv_aload_n hx hb d_A_mix_27 rfl (lv_at hl 2 rfl) ?_
        refine xr_get (ci := 0) (v := .int (nI (σ.1 0))) (C := R_A) (T := T_A) (N := 10) hx hb htw in_A hown hK hw 0 r0 rfl rfl 1 (by decide) (htw _ u_42) (fun _ h9 => h9) rfl d_A_mix_28 ?_
        refine lv_bipush (v := 8) hx hb d_A_mix_31 (by decide) ?_
        refine lv_icmp_lt (tgt := 38) hx hb d_A_mix_33 (by decide) (fun c_8 => ?_) (fun c_8 => ?_)
        · have c_8 : (σ.1 0) < 8 := (nLT (a := σ.1 0) (b := 8) (by omega) (by omega)).mp c_8
          refine lv_aload_n hx hb d_A_mix_38 rfl (lv_at hl 1 rfl) ?_
          refine xr_get (ci := 1) (v := .int (bI (σ.2.2.2 2 i1))) (C := R_B) (T := T_B) (N := 9) hx hb htw in_B hown hK hw (100 + i1) (rb i1 hi1) rfl rfl 7 (by decide) (htw _ u_102) (fun _ h9 => h9) rfl d_A_mix_39 ?_
          refine lv_if_ne (tgt := 65) hx hb d_A_mix_42 (by decide) (fun c_9 => ?_) (fun c_9 => ?_)
          · have c_9 : (σ.2.2.2 2 i1) = true := bI_t.mp c_9
            refine lv_iconst (v := (-1)) hx hb d_A_mix_65 (by decide) ?_
            have hf : f_mix σ (nI i1) (nI i5) = (σ, (-1)) := by simp [f_mix, opt_n, opt_s, fi1, fi5, c_7, c_8, c_9]
            refine W.widen (k := 4) (n := 49) (by decide) (by decide) ?_
            exact W.iret (v := (-1)) hx hb hr (fun t ht _ => ⟨_, rfl, by rw [hf, ht]; exact ⟨rfl, PX_same hw hR⟩, hS.F ht⟩) hS.2.2 d_A_mix_66
          · have c_9 : (σ.2.2.2 2 i1) = false := bI_f.mp c_9
            refine lv_aload hx hb d_A_mix_45 (lv_at hl 0 rfl) ?_
            refine xr_get (ci := 1) (v := .int (bI (σ.2.2.2 2 i5))) (C := R_B) (T := T_B) (N := 9) hx hb htw in_B hown hK hw (100 + i5) (rb i5 hi5) rfl rfl 7 (by decide) (htw _ u_102) (fun _ h9 => h9) rfl d_A_mix_47 ?_
            refine lv_if_ne (tgt := 65) hx hb d_A_mix_50 (by decide) (fun c_10 => ?_) (fun c_10 => ?_)
            · have c_10 : (σ.2.2.2 2 i5) = true := bI_t.mp c_10
              refine lv_iconst (v := (-1)) hx hb d_A_mix_65 (by decide) ?_
              have hf : f_mix σ (nI i1) (nI i5) = (σ, (-1)) := by simp [f_mix, opt_n, opt_s, fi1, fi5, c_7, c_8, c_9, c_10]
              refine W.widen (k := 4) (n := 49) (by decide) (by decide) ?_
              exact W.iret (v := (-1)) hx hb hr (fun t ht _ => ⟨_, rfl, by rw [hf, ht]; exact ⟨rfl, PX_same hw hR⟩, hS.F ht⟩) hS.2.2 d_A_mix_66
            · have c_10 : (σ.2.2.2 2 i5) = false := bI_f.mp c_10
              refine lv_aload_n hx hb d_A_mix_53 rfl (lv_at hl 1 rfl) ?_
              refine xr_get (ci := 1) (v := .int (bI (σ.2.2.2 1 i1))) (C := R_B) (T := T_B) (N := 9) hx hb htw in_B hown hK hw (100 + i1) (rb i1 hi1) rfl rfl 6 (by decide) (htw _ u_101) (fun _ h9 => h9) rfl d_A_mix_54 ?_
              refine lv_aload hx hb d_A_mix_57 (lv_at hl 0 rfl) ?_
              refine xr_get (ci := 1) (v := .int (bI (σ.2.2.2 1 i5))) (C := R_B) (T := T_B) (N := 9) hx hb htw in_B hown hK hw (100 + i5) (rb i5 hi5) rfl rfl 6 (by decide) (htw _ u_101) (fun _ h9 => h9) rfl d_A_mix_59 ?_
              refine lv_icmp_eq (tgt := 67) hx hb d_A_mix_62 (by decide) (fun c_11 => ?_) (fun c_11 => ?_)
              · refine lv_aload_n hx hb d_A_mix_67 rfl (lv_at hl 1 rfl) ?_
                refine lv_iconst (v := 1) hx hb d_A_mix_68 (by decide) ?_
                refine xr_put (ci := 1) (v := .int 1) (ty := .boolean) (C := R_B) (T := T_B) (N := 9) hx hb htw in_B ty_B tk_B nm_B hown hK hw hS (100 + i1) (rb i1 hi1) rfl rfl 7 (by decide) (htw _ u_102) (fun _ h9 => h9) rfl (by decide +kernel) (by decide) (by decide) (Nat.le_of_ble_eq_true rfl) d_A_mix_69 (fun H locs hw hS => ?_)
                have hw : xw D vwCl B ad (xu w (100 + i1) (.inr (1, [.int (σ.2.1 1 i1), .int (bI (σ.2.2.2 0 i1)), .ref (ad (110 + i1)), .ref (ad (120 + i1)), .ref (ad (130 + i1)), .long (σ.2.2.1 1 i1), .int (bI (σ.2.2.2 1 i1)), .int 1, .int (nI (σ.1 (10 + 2 * i1)))]))) H := hw
                refine lv_aload hx hb d_A_mix_72 (lv_at hl 0 rfl) ?_
                refine lv_iconst (v := 1) hx hb d_A_mix_74 (by decide) ?_
                refine xr_put (ci := 1) (v := .int 1) (ty := .boolean) (C := R_B) (T := T_B) (N := 9) hx hb htw in_B ty_B tk_B nm_B hown hK hw hS (100 + i5) ((xu_ne (by omega)).trans (rb i5 hi5)) rfl rfl 7 (by decide) (htw _ u_102) (fun _ h9 => h9) rfl (by decide +kernel) (by decide) (by decide) (Nat.le_of_ble_eq_true rfl) d_A_mix_75 (fun H locs hw hS => ?_)
                have hw : xw D vwCl B ad (xu (xu w (100 + i1) (.inr (1, [.int (σ.2.1 1 i1), .int (bI (σ.2.2.2 0 i1)), .ref (ad (110 + i1)), .ref (ad (120 + i1)), .ref (ad (130 + i1)), .long (σ.2.2.1 1 i1), .int (bI (σ.2.2.2 1 i1)), .int 1, .int (nI (σ.1 (10 + 2 * i1)))]))) (100 + i5) (.inr (1, [.int (σ.2.1 1 i5), .int (bI (σ.2.2.2 0 i5)), .ref (ad (110 + i5)), .ref (ad (120 + i5)), .ref (ad (130 + i5)), .long (σ.2.2.1 1 i5), .int (bI (σ.2.2.2 1 i5)), .int 1, .int (nI (σ.1 (10 + 2 * i5)))]))) H := hw
                refine lv_aload_n hx hb d_A_mix_78 rfl (lv_at hl 2 rfl) ?_
                refine lv_aload_n hx hb d_A_mix_79 rfl (lv_at hl 1 rfl) ?_
                refine lv_aload hx hb d_A_mix_80 (lv_at hl 0 rfl) ?_
                refine xr_call (va_runS (As := [.ref (ad (100 + i1)), .ref (ad (100 + i5))]) (rest := [.ref (ad 0)]) ⟨hx, hb, hml, hown, htw⟩ (c_A_mixtureOf (ad := ad) hw (Nat.le_trans hB hS.1) i1 i5 (σ.1 0) (by omega) (by omega) (by omega) (σ.2.1 1 i1) (.int (bI (σ.2.2.2 0 i1))) (.ref (ad (120 + i1))) (.ref (ad (130 + i1))) (.int 1) (.int (nI (σ.1 (10 + 2 * i1)))) (ad (110 + i1)) (σ.2.2.1 1 i1) (σ.2.2.2 1 i1) (σ.2.2.1 (10 + i1)) ((xu_ne (by omega)).trans (xu_eq)) ((xu_ne (by omega)).trans ((xu_ne (by omega)).trans (rba i1 hi1))) rfl (ad (100 + i1)) rfl (σ.2.1 1 i5) (.int (bI (σ.2.2.2 0 i5))) (.ref (ad (120 + i5))) (.ref (ad (130 + i5))) (.int 1) (.int (nI (σ.1 (10 + 2 * i5)))) (ad (110 + i5)) (σ.2.2.1 1 i5) (σ.2.2.2 1 i5) (σ.2.2.1 (10 + i5)) xu_eq ((xu_ne (by omega)).trans ((xu_ne (by omega)).trans (rba i5 hi5))) rfl (ad (100 + i5)) rfl) (va_cwS 2 htw (gS u_315 u_316 u_1 u_317) rfl rfl rfl hd_A_mixtureOf.2 ⟨Nat.le_of_ble_eq_true rfl, Nat.le_of_ble_eq_true rfl⟩) ⟨xP_blind, xP_of hK hN⟩ rfl rfl hl.1 rfl (lv_room (Nat.le_of_ble_eq_true rfl)) d_A_mix_82 ⟨by decide, by decide⟩) hS (fun v H_ locs hp hS => ?_)
                obtain ⟨ad_12, w_12, rfl, hw, y12_0, y12_1, y12_2, y12_3, hfr⟩ := hp
                generalize H_ = H at hw hS ⊢
                have hfw_12 : ∀ u, u ≠ 100 + σ.1 0 → u ≠ 110 + σ.1 0 → u ≠ 120 + σ.1 0 → u ≠ 130 + σ.1 0 → w_12 u = (xu (xu w (100 + i1) (.inr (1, [.int (σ.2.1 1 i1), .int (bI (σ.2.2.2 0 i1)), .ref (ad (110 + i1)), .ref (ad (120 + i1)), .ref (ad (130 + i1)), .long (σ.2.2.1 1 i1), .int (bI (σ.2.2.2 1 i1)), .int 1, .int (nI (σ.1 (10 + 2 * i1)))]))) (100 + i5) (.inr (1, [.int (σ.2.1 1 i5), .int (bI (σ.2.2.2 0 i5)), .ref (ad (110 + i5)), .ref (ad (120 + i5)), .ref (ad (130 + i5)), .long (σ.2.2.1 1 i5), .int (bI (σ.2.2.2 1 i5)), .int 1, .int (nI (σ.1 (10 + 2 * i5)))]))) u := fun u h0 h1 h2 h3 => (hfr u (by simp only [List.mem_cons, List.not_mem_nil, or_false, not_or]; exact ⟨h0, h1, h2, h3⟩)).1
                have hfa_12 : ∀ u, u ≠ 100 + σ.1 0 → u ≠ 110 + σ.1 0 → u ≠ 120 + σ.1 0 → u ≠ 130 + σ.1 0 → ad_12 u = ad u := fun u h0 h1 h2 h3 => (hfr u (by simp only [List.mem_cons, List.not_mem_nil, or_false, not_or]; exact ⟨h0, h1, h2, h3⟩)).2
                refine W.eq (g2 := F0 m 85 ls [.ref (ad_12 (100 + σ.1 0)), .ref (ad 0)]) rfl ?_
                refine xr_call (va_runV (As := [.ref (ad_12 (100 + σ.1 0))]) (rest := []) ⟨hx, hb, hml, hown, htw⟩ (c_A_keepBatch (ad := ad_12) hw (σ.1 0) (by omega) (ad 1) ((hfa_12 1 (by omega) (by omega) (by omega) (by omega)).trans rfl) (.ref (ad 2)) (.int (nI (σ.1 1))) (.ref (ad 3)) (.int (nI (σ.1 2))) (.ref (ad 4)) (.int (σ.2.1 0 0)) (.int (σ.2.1 0 1)) (.long (σ.2.2.1 0 0)) (fun i => if i < σ.1 0 then some (ad (100 + i)) else none) ((hfw_12 0 (by omega) (by omega) (by omega) (by omega)).trans ((xu_ne (by omega)).trans ((xu_ne (by omega)).trans (r0)))) ((hfw_12 1 (by omega) (by omega) (by omega) (by omega)).trans ((xu_ne (by omega)).trans ((xu_ne (by omega)).trans (r1)))) (100 + σ.1 0) _ (by omega) y12_0 (ad_12 (100 + σ.1 0)) rfl (ad 0) ((hfa_12 0 (by omega) (by omega) (by omega) (by omega)).trans rfl)) (cwV 1 htw (gV u_123 u_125 us_0 u_1 u_126) rfl rfl rfl hd_A_keepBatch ⟨Nat.le_of_ble_eq_true rfl, Nat.le_of_ble_eq_true rfl⟩) ⟨xP_blind, hw.recv hK (ci := 0) (t := 0) rfl ((hfw_12 0 (by omega) (by omega) (by omega) (by omega)).trans ((xu_ne (by omega)).trans ((xu_ne (by omega)).trans (r0)))) ((hfa_12 0 (by omega) (by omega) (by omega) (by omega)).trans rfl), xP_of hK hN⟩ rfl rfl hl.1 rfl (lv_room (Nat.le_of_ble_eq_true rfl)) d_A_mix_85 ⟨by decide, by decide⟩) hS (fun v H_ locs hp hS => ?_)
                obtain ⟨rfl, hw⟩ := hp
                generalize H_ = H at hw hS ⊢
                have hw : xw D vwCl B ad_12 (xu (xu w_12 1 (.inl (K 2, 8, .inr (.inr (.inr (.inr (va_up (fun i => if i < σ.1 0 then some (ad (100 + i)) else none) (σ.1 0) (some (ad_12 (100 + σ.1 0)))))))))) 0 (.inr (0, [.ref (ad 1), .int (nI (σ.1 0) + 1), .ref (ad 2), .int (nI (σ.1 1)), .ref (ad 3), .int (nI (σ.1 2)), .ref (ad 4), .int (σ.2.1 0 0), .int (σ.2.1 0 1), .long (σ.2.2.1 0 0)]))) H := hw
                refine W.eq (g2 := F0 m 88 ls [.int (nI (σ.1 0))]) rfl ?_
                have hq : ad_12 (100 + σ.1 0) = ad_12 (100 + σ.1 0) := rfl
                have hpu := fq_push (n := σ.1 0) (ad := ad) (ad1 := ad_12) (b := 100) (q := ad_12 (100 + σ.1 0)) hq (fun i hi => by simp (disch := omega) only [xa_ne, hfw_12, hfa_12, y12_0, y12_1, y12_2, y12_3])
                obtain ⟨hd1, hd2, hd3, hd4, hd5, hd6⟩ := hdf (σ.1 0) (Nat.le_refl _) (by omega)
                have hRep : RepX K (s_mix σ i1 i5) ad_12 (xu (xu w_12 1 (.inl (K 2, 8, .inr (.inr (.inr (.inr (va_up (fun i => if i < σ.1 0 then some (ad (100 + i)) else none) (σ.1 0) (some (ad_12 (100 + σ.1 0)))))))))) 0 (.inr (0, [.ref (ad 1), .int (nI (σ.1 0) + 1), .ref (ad 2), .int (nI (σ.1 1)), .ref (ad 3), .int (nI (σ.1 2)), .ref (ad 4), .int (σ.2.1 0 0), .int (σ.2.1 0 1), .long (σ.2.2.1 0 0)]))) := by
                  unfold s_mix s_new
                  refine ⟨?_, ?_, ?_, ?_, ?_, ?_, ?_, ?_, ?_, ?_, ?_, ?_, ?_, ?_, ?_⟩
                  · simp (disch := omega) only [pN, pI, pL, pZ, row_eq, row_ne, xu_eq, xu_ne, xa_eq, xa_ne, pk_us, pk_un, pk_uLs, pk_uLn, hfw_12, hfa_12, y12_0, y12_1, y12_2, y12_3, hd1, hd2, hd3, hd4, hd5, hd6, nI_succ, bI_ff, bI_tt, nI_0, r0]
                  · simp (disch := omega) only [pN, pI, pL, pZ, row_eq, row_ne, xu_eq, xu_ne, xa_eq, xa_ne, pk_us, pk_un, pk_uLs, pk_uLn, hfw_12, hfa_12, y12_0, y12_1, y12_2, y12_3, hpu]; try rfl
                  · simp (disch := omega) only [pN, pI, pL, pZ, row_eq, row_ne, xu_eq, xu_ne, xa_eq, xa_ne, pk_us, pk_un, pk_uLs, pk_uLn, hfw_12, hfa_12, y12_0, y12_1, y12_2, y12_3, hd1, hd2, hd3, hd4, hd5, hd6, nI_succ, bI_ff, bI_tt, nI_0, r2]; try rfl
                  · simp (disch := omega) only [pN, pI, pL, pZ, row_eq, row_ne, xu_eq, xu_ne, xa_eq, xa_ne, pk_us, pk_un, pk_uLs, pk_uLn, hfw_12, hfa_12, y12_0, y12_1, y12_2, y12_3, hd1, hd2, hd3, hd4, hd5, hd6, nI_succ, bI_ff, bI_tt, nI_0, r3]; try rfl
                  · simp (disch := omega) only [pN, pI, pL, pZ, row_eq, row_ne, xu_eq, xu_ne, xa_eq, xa_ne, pk_us, pk_un, pk_uLs, pk_uLn, hfw_12, hfa_12, y12_0, y12_1, y12_2, y12_3, hd1, hd2, hd3, hd4, hd5, hd6, nI_succ, bI_ff, bI_tt, nI_0, r4]
                  · simp (disch := omega) only [pN, pI, pL, pZ, row_eq, row_ne, xu_eq, xu_ne, xa_eq, xa_ne, pk_us, pk_un, pk_uLs, pk_uLn, hfw_12, hfa_12, y12_0, y12_1, y12_2, y12_3, hd1, hd2, hd3, hd4, hd5, hd6, nI_succ, bI_ff, bI_tt, nI_0, r5]
                  · simp (disch := omega) only [pN, pI, pL, pZ, row_eq, row_ne, xu_eq, xu_ne, xa_eq, xa_ne, pk_us, pk_un, pk_uLs, pk_uLn, hfw_12, hfa_12, y12_0, y12_1, y12_2, y12_3, hd1, hd2, hd3, hd4, hd5, hd6, nI_succ, bI_ff, bI_tt, nI_0, r6]
                  · simp (disch := omega) only [pN, pI, pL, pZ, row_eq, row_ne, xu_eq, xu_ne, xa_eq, xa_ne, pk_us, pk_un, pk_uLs, pk_uLn, hfw_12, hfa_12, y12_0, y12_1, y12_2, y12_3, hd1, hd2, hd3, hd4, hd5, hd6, nI_succ, bI_ff, bI_tt, nI_0, r7]
                  · intro jj hj
                    have hj : jj < σ.1 0 + 1 := by simpa (disch := omega) only [pN, pI, pL, pZ, row_eq, row_ne, xu_eq, xu_ne, xa_eq, xa_ne, pk_us, pk_un, pk_uLs, pk_uLn, hfw_12, hfa_12, y12_0, y12_1, y12_2, y12_3, hd1, hd2, hd3, hd4, hd5, hd6, nI_succ, bI_ff, bI_tt, nI_0] using hj
                    by_cases ej : jj = σ.1 0
                    · rw [ej]; simp (disch := omega) only [pN, pI, pL, pZ, row_eq, row_ne, xu_eq, xu_ne, xa_eq, xa_ne, pk_us, pk_un, pk_uLs, pk_uLn, hfw_12, hfa_12, y12_0, y12_1, y12_2, y12_3, hd1, hd2, hd3, hd4, hd5, hd6, nI_succ, bI_ff, bI_tt, nI_0]
                    · by_cases ej0 : jj = i1
                      · rw [ej0]; simp (disch := omega) only [pN, pI, pL, pZ, row_eq, row_ne, xu_eq, xu_ne, xa_eq, xa_ne, pk_us, pk_un, pk_uLs, pk_uLn, hfw_12, hfa_12, y12_0, y12_1, y12_2, y12_3, hd1, hd2, hd3, hd4, hd5, hd6, nI_succ, bI_ff, bI_tt, nI_0, rb i1 (by omega)]
                      · by_cases ej1 : jj = i5
                        · rw [ej1]; simp (disch := omega) only [pN, pI, pL, pZ, row_eq, row_ne, xu_eq, xu_ne, xa_eq, xa_ne, pk_us, pk_un, pk_uLs, pk_uLn, hfw_12, hfa_12, y12_0, y12_1, y12_2, y12_3, hd1, hd2, hd3, hd4, hd5, hd6, nI_succ, bI_ff, bI_tt, nI_0, rb i5 (by omega)]
                        · simp (disch := omega) only [pN, pI, pL, pZ, row_eq, row_ne, xu_eq, xu_ne, xa_eq, xa_ne, pk_us, pk_un, pk_uLs, pk_uLn, hfw_12, hfa_12, y12_0, y12_1, y12_2, y12_3, hd1, hd2, hd3, hd4, hd5, hd6, nI_succ, bI_ff, bI_tt, nI_0, rb jj (by omega)]
                  · intro jj hj
                    have hj : jj < σ.1 0 + 1 := by simpa (disch := omega) only [pN, pI, pL, pZ, row_eq, row_ne, xu_eq, xu_ne, xa_eq, xa_ne, pk_us, pk_un, pk_uLs, pk_uLn, hfw_12, hfa_12, y12_0, y12_1, y12_2, y12_3, hd1, hd2, hd3, hd4, hd5, hd6, nI_succ, bI_ff, bI_tt, nI_0] using hj
                    by_cases ej : jj = σ.1 0
                    · rw [ej]; simp (disch := omega) only [pN, pI, pL, pZ, row_eq, row_ne, xu_eq, xu_ne, xa_eq, xa_ne, pk_us, pk_un, pk_uLs, pk_uLn, hfw_12, hfa_12, y12_0, y12_1, y12_2, y12_3, hd1, hd2, hd3, hd4, hd5, hd6, nI_succ, bI_ff, bI_tt, nI_0]
                    · simp (disch := omega) only [pN, pI, pL, pZ, row_eq, row_ne, xu_eq, xu_ne, xa_eq, xa_ne, pk_us, pk_un, pk_uLs, pk_uLn, hfw_12, hfa_12, y12_0, y12_1, y12_2, y12_3, hd1, hd2, hd3, hd4, hd5, hd6, nI_succ, bI_ff, bI_tt, nI_0, rba jj (by omega)]
                  · intro jj hj
                    have hj : jj < σ.1 0 + 1 := by simpa (disch := omega) only [pN, pI, pL, pZ, row_eq, row_ne, xu_eq, xu_ne, xa_eq, xa_ne, pk_us, pk_un, pk_uLs, pk_uLn, hfw_12, hfa_12, y12_0, y12_1, y12_2, y12_3, hd1, hd2, hd3, hd4, hd5, hd6, nI_succ, bI_ff, bI_tt, nI_0] using hj
                    by_cases ej : jj = σ.1 0
                    · rw [ej]; simp (disch := omega) only [pN, pI, pL, pZ, row_eq, row_ne, xu_eq, xu_ne, xa_eq, xa_ne, pk_us, pk_un, pk_uLs, pk_uLn, hfw_12, hfa_12, y12_0, y12_1, y12_2, y12_3, hd1, hd2, hd3, hd4, hd5, hd6, nI_succ, bI_ff, bI_tt, nI_0]
                    · simp (disch := omega) only [pN, pI, pL, pZ, row_eq, row_ne, xu_eq, xu_ne, xa_eq, xa_ne, pk_us, pk_un, pk_uLs, pk_uLn, hfw_12, hfa_12, y12_0, y12_1, y12_2, y12_3, hd1, hd2, hd3, hd4, hd5, hd6, nI_succ, bI_ff, bI_tt, nI_0, rbt jj (by omega)]
                  · intro jj hj
                    have hj : jj < σ.1 0 + 1 := by simpa (disch := omega) only [pN, pI, pL, pZ, row_eq, row_ne, xu_eq, xu_ne, xa_eq, xa_ne, pk_us, pk_un, pk_uLs, pk_uLn, hfw_12, hfa_12, y12_0, y12_1, y12_2, y12_3, hd1, hd2, hd3, hd4, hd5, hd6, nI_succ, bI_ff, bI_tt, nI_0] using hj
                    by_cases ej : jj = σ.1 0
                    · rw [ej]; simp (disch := omega) only [pN, pI, pL, pZ, row_eq, row_ne, xu_eq, xu_ne, xa_eq, xa_ne, pk_us, pk_un, pk_uLs, pk_uLn, hfw_12, hfa_12, y12_0, y12_1, y12_2, y12_3, hd1, hd2, hd3, hd4, hd5, hd6, nI_succ, bI_ff, bI_tt, nI_0]
                    · simp (disch := omega) only [pN, pI, pL, pZ, row_eq, row_ne, xu_eq, xu_ne, xa_eq, xa_ne, pk_us, pk_un, pk_uLs, pk_uLn, hfw_12, hfa_12, y12_0, y12_1, y12_2, y12_3, hd1, hd2, hd3, hd4, hd5, hd6, nI_succ, bI_ff, bI_tt, nI_0, rbo jj (by omega)]
                  · intro jj hj
                    have hj : jj < σ.1 1 := by first | exact hj | simpa (disch := omega) only [pN, pI, pL, pZ, row_eq, row_ne, xu_eq, xu_ne, xa_eq, xa_ne, pk_us, pk_un, pk_uLs, pk_uLn, hfw_12, hfa_12, y12_0, y12_1, y12_2, y12_3, hd1, hd2, hd3, hd4, hd5, hd6, nI_succ, bI_ff, bI_tt, nI_0] using hj
                    simp (disch := omega) only [pN, pI, pL, pZ, row_eq, row_ne, xu_eq, xu_ne, xa_eq, xa_ne, pk_us, pk_un, pk_uLs, pk_uLn, hfw_12, hfa_12, y12_0, y12_1, y12_2, y12_3, hd1, hd2, hd3, hd4, hd5, hd6, nI_succ, bI_ff, bI_tt, nI_0, rs jj hj]
                  · intro jj hj
                    have hj : jj < σ.1 1 := by first | exact hj | simpa (disch := omega) only [pN, pI, pL, pZ, row_eq, row_ne, xu_eq, xu_ne, xa_eq, xa_ne, pk_us, pk_un, pk_uLs, pk_uLn, hfw_12, hfa_12, y12_0, y12_1, y12_2, y12_3, hd1, hd2, hd3, hd4, hd5, hd6, nI_succ, bI_ff, bI_tt, nI_0] using hj
                    simp (disch := omega) only [pN, pI, pL, pZ, row_eq, row_ne, xu_eq, xu_ne, xa_eq, xa_ne, pk_us, pk_un, pk_uLs, pk_uLn, hfw_12, hfa_12, y12_0, y12_1, y12_2, y12_3, hd1, hd2, hd3, hd4, hd5, hd6, nI_succ, bI_ff, bI_tt, nI_0, rss jj hj]
                  · intro jj hj
                    have hj : jj < σ.1 2 := by first | exact hj | simpa (disch := omega) only [pN, pI, pL, pZ, row_eq, row_ne, xu_eq, xu_ne, xa_eq, xa_ne, pk_us, pk_un, pk_uLs, pk_uLn, hfw_12, hfa_12, y12_0, y12_1, y12_2, y12_3, hd1, hd2, hd3, hd4, hd5, hd6, nI_succ, bI_ff, bI_tt, nI_0] using hj
                    simp (disch := omega) only [pN, pI, pL, pZ, row_eq, row_ne, xu_eq, xu_ne, xa_eq, xa_ne, pk_us, pk_un, pk_uLs, pk_uLn, hfw_12, hfa_12, y12_0, y12_1, y12_2, y12_3, hd1, hd2, hd3, hd4, hd5, hd6, nI_succ, bI_ff, bI_tt, nI_0, rr jj hj]
                have hf : f_mix σ (nI i1) (nI i5) = (s_mix σ i1 i5, nI (σ.1 0)) := by simp [f_mix, opt_n, opt_s, fi1, fi5, c_7, c_8, c_9, c_10, c_11]
                exact W.iret (v := nI (σ.1 0)) hx hb hr (fun t ht _ => ⟨_, rfl, by rw [hf, ht]; exact ⟨rfl, _, _, hw, hRep, by simp (disch := omega) only [xu_ne, xa_ne, hfw_12, hfa_12, y12_0, y12_1, y12_2, y12_3, hd1, hd2, hd3, hd4, hd5, hd6, nI_succ, bI_ff, bI_tt, nI_0], fun t h2 => ⟨by simp (disch := omega) only [xu_ne, xa_ne, hfw_12, hfa_12, y12_0, y12_1, y12_2, y12_3, hd1, hd2, hd3, hd4, hd5, hd6, nI_succ, bI_ff, bI_tt, nI_0], by simp (disch := omega) only [xu_ne, xa_ne, hfw_12, hfa_12, y12_0, y12_1, y12_2, y12_3, hd1, hd2, hd3, hd4, hd5, hd6, nI_succ, bI_ff, bI_tt, nI_0]⟩⟩, hS.F ht⟩) hS.2.2 d_A_mix_88
              · refine lv_iconst (v := (-1)) hx hb d_A_mix_65 (by decide) ?_
                have hf : f_mix σ (nI i1) (nI i5) = (σ, (-1)) := by simp [f_mix, opt_n, opt_s, fi1, fi5, c_7, c_8, c_9, c_10, c_11]
                refine W.widen (k := 4) (n := 49) (by decide) (by decide) ?_
                exact W.iret (v := (-1)) hx hb hr (fun t ht _ => ⟨_, rfl, by rw [hf, ht]; exact ⟨rfl, PX_same hw hR⟩, hS.F ht⟩) hS.2.2 d_A_mix_66
        · have c_8 : ¬ (σ.1 0) < 8 := fun z => c_8 ((nLT (a := σ.1 0) (b := 8) (by omega) (by omega)).mpr z)
          refine lv_iconst (v := (-1)) hx hb d_A_mix_36 (by decide) ?_
          have hf : f_mix σ (nI i1) (nI i5) = (σ, (-1)) := by simp [f_mix, opt_n, opt_s, fi1, fi5, c_7, c_8]
          refine W.widen (k := 4) (n := 49) (by decide) (by decide) ?_
          exact W.iret (v := (-1)) hx hb hr (fun t ht _ => ⟨_, rfl, by rw [hf, ht]; exact ⟨rfl, PX_same hw hR⟩, hS.F ht⟩) hS.2.2 d_A_mix_37
