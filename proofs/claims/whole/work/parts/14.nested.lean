set_option maxHeartbeats 4000000 in
set_option maxRecDepth 100000 in
theorem c_B_allTold {l : Launch} {D : va_G} {K : Nat → ClassId} {B : Nat} {ad : Nat → Nat} {w : Nat → Option va_E} {H : Heap} {σ : xS} (hR : RepX K σ ad w) (hI : Inv σ) (hw : xw D vwCl B ad w H) (i : Nat) (hi : i < σ.1 0) (k : Nat) (hk : k < 4) : xC l D K B y_B_allTold b_B_allTold 3 (some .boolean) rm_B_allTold [.ref (ad (100 + i)), .int (nI k)] H (fun v H1 => v = some (.int (bI (allT (σ.2.1 (20 + i)) k))) ∧ H1 = H) := by
  refine Met.ofW (cc := b_B_allTold) (maxL := 3) (ret := (some .boolean)) (by decide) rfl ?_
  intro p e s m args below meth c s₁ B0 hml hv
  obtain ⟨rfl, hsz, hK, hN⟩ := hv
  have hx := B0.exec
  have hb := B0.bytes
  have hr := B0.returns
  have htw : ∀ w ∈ xW0, w.before [.ref (ad (100 + i)), .int (nI k)].toArray s = true := fun w h => atoms_spec (ws := Cond.code y_B_allTold b_B_allTold 3 (some .boolean) :: xW0) B0.pre w (List.mem_cons_of_mem _ h)
  have hown : s.vm.findClass R_B = some m.cls := findClass_of_methodNamed B0.named
  have hlocks := B0.notSynchronized
  subst hsz
  have hS : va_S (fun q => B ≤ q) s.heap s.heap [] := va_S.rf
  have hl := lv_entry ([.ref (ad (100 + i)), .int (nI k)]) (n := 3) (Nat.le_of_ble_eq_true rfl)
  rw [lg_entry_eq]
  generalize (lg_sl ([.ref (ad (100 + i)), .int (nI k)]) ++ List.replicate (3 - (lg_sl ([.ref (ad (100 + i)), .int (nI k)])).length) Slot.unset).toArray = ls at hl ⊢
  have hl : lv_has ls 3 [(0, .ref (ad (100 + i))), (1, .int (nI k))] := hl
  have hH : s.heap = s.heap := rfl
  obtain ⟨r0, r1, r2, r3, r4, r5, r6, r7, rb, rba, rbt, rbo, rs, rss, rr⟩ := id hR
  obtain ⟨hnb, hns, hnr, hpc, hst, hto, htl, hrm, hpa, hwt, hdf, hds⟩ := id hI
  refine lv_iload_n hx hb d_B_allTold_0 rfl (lv_at hl 1 rfl) ?_
  refine xr_call (va_runSN (As := [.int (nI k)]) (rest := []) ⟨hx, hb, hml, hown, htw⟩ (c_A_isMetal (nI k)) ⟨va_cnB 1 htw (gC u_137) rfl rfl rfl (hN (.methodLinkNest R_B 57 y_A_isMetal R_A) (by decide +kernel)).1 (htw _ u_1) hd_A_isMetal.2 ⟨Nat.le_of_ble_eq_true rfl, Nat.le_of_ble_eq_true rfl⟩, htw _ u_136, trivial⟩ ⟨xP_blind, xP_of hK hN⟩ rfl rfl hl.1 rfl (lv_room (Nat.le_of_ble_eq_true rfl)) d_B_allTold_1 ⟨by decide, by decide⟩) hS (fun v H_ locs hp hS => ?_)
  obtain ⟨rfl, hHe⟩ := hp
  rw [hHe] at hS ⊢
  refine W.eq (g2 := F0 m 4 ls [.int (bI (xm (nI k)))]) rfl ?_
  refine lv_if_ne (tgt := 9) hx hb d_B_allTold_4 (by decide) (fun c_1 => ?_) (fun c_1 => absurd c_1 (by rw [xm_nI hk]; decide))
  have c_1 : (xm (nI k)) = true := bI_t.mp c_1
  refine lv_iconst (v := 0) hx hb d_B_allTold_9 (by decide) ?_
  refine lv_istore_n (lv' := [(2, .int 0), (0, .ref (ad (100 + i))), (1, .int (nI k))]) hx hb d_B_allTold_10 rfl hl (by decide) rfl (fun ls hl => ?_)
  refine lv_iload_n hx hb d_B_allTold_11 rfl (lv_at hl 0 rfl) ?_
  refine lv_iconst (v := 3) hx hb d_B_allTold_12 (by decide) ?_
  refine lv_icmp_ge (tgt := 38) hx hb d_B_allTold_13 (by decide) (fun c_2 => absurd c_2 (by decide)) (fun c_2 => ?_)
  refine lv_aload_n hx hb d_B_allTold_16 rfl (lv_at hl 1 rfl) ?_
  refine xr_get (ci := 1) (v := .ref (ad (130 + i))) (C := R_B) (T := T_B) (N := 9) hx hb htw in_B hown hK hw (100 + i) (rb i hi) rfl rfl 4 (by decide) (htw _ u_97) (fun _ h9 => h9) rfl d_B_allTold_17 ?_
  refine lv_iload_n hx hb d_B_allTold_20 rfl (lv_at hl 2 rfl) ?_
  refine lv_iconst (v := 3) hx hb d_B_allTold_21 (by decide) ?_
  refine lv_imul hx hb d_B_allTold_22 ?_
  refine lv_iload_n hx hb d_B_allTold_23 rfl (lv_at hl 0 rfl) ?_
  refine lv_iadd hx hb d_B_allTold_24 ?_
  refine xr_iald (i := ((nI k) * 3) + 0) hx hb hK hw (130 + i) 0 (rbo i hi) rfl rfl (xvin (a := k * 3) (xadd (a := k * 3) (b := 0) (xmul (a := k) (b := 3) rfl rfl) rfl) (by omega) (by omega)) d_B_allTold_25 ?_
  refine lv_topi (fun x_3 ex_3 => ?_)
  obtain rfl : x_3 = (σ.2.1 (20 + i)) (k * 3) := ex_3.trans ((congrArg (σ.2.1 (20 + i)) (xcl (a := k * 3) (xadd (a := k * 3) (b := 0) (xmul (a := k) (b := 3) rfl rfl) rfl) (by omega))).trans rfl)
  refine lv_iconst (v := (-1)) hx hb d_B_allTold_26 (by decide) ?_
  refine lv_icmp_ne (tgt := 32) hx hb d_B_allTold_27 (by decide) (fun c_4 => ?_) (fun c_4 => ?_)
  · refine lv_iinc (v := 1) (lv' := [(2, .int 1), (0, .ref (ad (100 + i))), (1, .int (nI k))]) hx hb d_B_allTold_32 hl (k := 0) rfl (by decide) (by decide) rfl (fun ls hl => ?_)
    refine lv_goto (tgt := 11) hx hb d_B_allTold_35 (by decide) ?_
    refine lv_iload_n hx hb d_B_allTold_11 rfl (lv_at hl 0 rfl) ?_
    refine lv_iconst (v := 3) hx hb d_B_allTold_12 (by decide) ?_
    refine lv_icmp_ge (tgt := 38) hx hb d_B_allTold_13 (by decide) (fun c_5 => absurd c_5 (by decide)) (fun c_5 => ?_)
    refine lv_aload_n hx hb d_B_allTold_16 rfl (lv_at hl 1 rfl) ?_
    refine xr_get (ci := 1) (v := .ref (ad (130 + i))) (C := R_B) (T := T_B) (N := 9) hx hb htw in_B hown hK hw (100 + i) (rb i hi) rfl rfl 4 (by decide) (htw _ u_97) (fun _ h9 => h9) rfl d_B_allTold_17 ?_
    refine lv_iload_n hx hb d_B_allTold_20 rfl (lv_at hl 2 rfl) ?_
    refine lv_iconst (v := 3) hx hb d_B_allTold_21 (by decide) ?_
    refine lv_imul hx hb d_B_allTold_22 ?_
    refine lv_iload_n hx hb d_B_allTold_23 rfl (lv_at hl 0 rfl) ?_
    refine lv_iadd hx hb d_B_allTold_24 ?_
    refine xr_iald (i := ((nI k) * 3) + 1) hx hb hK hw (130 + i) 0 (rbo i hi) rfl rfl (xvin (a := (k * 3) + 1) (xadd (a := k * 3) (b := 1) (xmul (a := k) (b := 3) rfl rfl) rfl) (by omega) (by omega)) d_B_allTold_25 ?_
    refine lv_topi (fun x_6 ex_6 => ?_)
    obtain rfl : x_6 = (σ.2.1 (20 + i)) ((k * 3) + 1) := ex_6.trans ((congrArg (σ.2.1 (20 + i)) (xcl (a := (k * 3) + 1) (xadd (a := k * 3) (b := 1) (xmul (a := k) (b := 3) rfl rfl) rfl) (by omega))).trans rfl)
    refine lv_iconst (v := (-1)) hx hb d_B_allTold_26 (by decide) ?_
    refine lv_icmp_ne (tgt := 32) hx hb d_B_allTold_27 (by decide) (fun c_7 => ?_) (fun c_7 => ?_)
    · refine lv_iinc (v := 2) (lv' := [(2, .int 2), (0, .ref (ad (100 + i))), (1, .int (nI k))]) hx hb d_B_allTold_32 hl (k := 0) rfl (by decide) (by decide) rfl (fun ls hl => ?_)
      refine lv_goto (tgt := 11) hx hb d_B_allTold_35 (by decide) ?_
      refine lv_iload_n hx hb d_B_allTold_11 rfl (lv_at hl 0 rfl) ?_
      refine lv_iconst (v := 3) hx hb d_B_allTold_12 (by decide) ?_
      refine lv_icmp_ge (tgt := 38) hx hb d_B_allTold_13 (by decide) (fun c_8 => absurd c_8 (by decide)) (fun c_8 => ?_)
      refine lv_aload_n hx hb d_B_allTold_16 rfl (lv_at hl 1 rfl) ?_
      refine xr_get (ci := 1) (v := .ref (ad (130 + i))) (C := R_B) (T := T_B) (N := 9) hx hb htw in_B hown hK hw (100 + i) (rb i hi) rfl rfl 4 (by decide) (htw _ u_97) (fun _ h9 => h9) rfl d_B_allTold_17 ?_
      refine lv_iload_n hx hb d_B_allTold_20 rfl (lv_at hl 2 rfl) ?_
      refine lv_iconst (v := 3) hx hb d_B_allTold_21 (by decide) ?_
      refine lv_imul hx hb d_B_allTold_22 ?_
      refine lv_iload_n hx hb d_B_allTold_23 rfl (lv_at hl 0 rfl) ?_
      refine lv_iadd hx hb d_B_allTold_24 ?_
      refine xr_iald (i := ((nI k) * 3) + 2) hx hb hK hw (130 + i) 0 (rbo i hi) rfl rfl (xvin (a := (k * 3) + 2) (xadd (a := k * 3) (b := 2) (xmul (a := k) (b := 3) rfl rfl) rfl) (by omega) (by omega)) d_B_allTold_25 ?_
      refine lv_topi (fun x_9 ex_9 => ?_)
      obtain rfl : x_9 = (σ.2.1 (20 + i)) ((k * 3) + 2) := ex_9.trans ((congrArg (σ.2.1 (20 + i)) (xcl (a := (k * 3) + 2) (xadd (a := k * 3) (b := 2) (xmul (a := k) (b := 3) rfl rfl) rfl) (by omega))).trans rfl)
      refine lv_iconst (v := (-1)) hx hb d_B_allTold_26 (by decide) ?_
      refine lv_icmp_ne (tgt := 32) hx hb d_B_allTold_27 (by decide) (fun c_10 => ?_) (fun c_10 => ?_)
      · refine lv_iinc (v := 3) (lv' := [(2, .int 3), (0, .ref (ad (100 + i))), (1, .int (nI k))]) hx hb d_B_allTold_32 hl (k := 0) rfl (by decide) (by decide) rfl (fun ls hl => ?_)
        refine lv_goto (tgt := 11) hx hb d_B_allTold_35 (by decide) ?_
        refine lv_iload_n hx hb d_B_allTold_11 rfl (lv_at hl 0 rfl) ?_
        refine lv_iconst (v := 3) hx hb d_B_allTold_12 (by decide) ?_
        refine lv_icmp_ge (tgt := 38) hx hb d_B_allTold_13 (by decide) (fun c_11 => ?_) (fun c_11 => absurd (by decide) c_11)
        refine lv_iconst (v := 1) hx hb d_B_allTold_38 (by decide) ?_
        exact W.zret (v := 1) hx hb hr (by decide) (fun t ht _ => ⟨_, rfl, ⟨bI_1 (by simp [allT, c_4, c_7, c_10]), ht⟩, hS.F ht⟩) hS.2.2 d_B_allTold_39
      · refine lv_iconst (v := 0) hx hb d_B_allTold_30 (by decide) ?_
        exact W.zret (v := 0) hx hb hr (by decide) (fun t ht _ => ⟨_, rfl, ⟨bI_0 (by simp [allT, c_4, c_7, c_10]), ht⟩, hS.F ht⟩) hS.2.2 d_B_allTold_31
    · refine lv_iconst (v := 0) hx hb d_B_allTold_30 (by decide) ?_
      exact W.zret (v := 0) hx hb hr (by decide) (fun t ht _ => ⟨_, rfl, ⟨bI_0 (by simp [allT, c_4, c_7]), ht⟩, hS.F ht⟩) hS.2.2 d_B_allTold_31
  · refine lv_iconst (v := 0) hx hb d_B_allTold_30 (by decide) ?_
    exact W.zret (v := 0) hx hb hr (by decide) (fun t ht _ => ⟨_, rfl, ⟨bI_0 (by simp [allT, c_4]), ht⟩, hS.F ht⟩) hS.2.2 d_B_allTold_31
set_option maxHeartbeats 4000000 in
set_option maxRecDepth 100000 in
theorem c_B_middleOf {l : Launch} {D : va_G} {K : Nat → ClassId} {B : Nat} {ad : Nat → Nat} {w : Nat → Option va_E} {H : Heap} {σ : xS} (hR : RepX K σ ad w) (hI : Inv σ) (hw : xw D vwCl B ad w H) (i : Nat) (hi : i < σ.1 0) (k : Nat) (hk : k < 4) : xC l D K B y_B_middleOf b_B_middleOf 5 (some .int) rm_B_middleOf [.ref (ad (100 + i)), .int (nI k)] H (fun v H1 => v = some (.int (mid (σ.2.1 (20 + i)) k)) ∧ H1 = H) := by
  refine Met.ofW (cc := b_B_middleOf) (maxL := 5) (ret := (some .int)) (by decide) rfl ?_
  intro p e s m args below meth c s₁ B0 hml hv
  obtain ⟨rfl, hsz, hK, hN⟩ := hv
  have hx := B0.exec
  have hb := B0.bytes
  have hr := B0.returns
  have htw : ∀ w ∈ xW0, w.before [.ref (ad (100 + i)), .int (nI k)].toArray s = true := fun w h => atoms_spec (ws := Cond.code y_B_middleOf b_B_middleOf 5 (some .int) :: xW0) B0.pre w (List.mem_cons_of_mem _ h)
  have hown : s.vm.findClass R_B = some m.cls := findClass_of_methodNamed B0.named
  have hlocks := B0.notSynchronized
  subst hsz
  have hS : va_S (fun q => B ≤ q) s.heap s.heap [] := va_S.rf
  have hl := lv_entry ([.ref (ad (100 + i)), .int (nI k)]) (n := 5) (Nat.le_of_ble_eq_true rfl)
  rw [lg_entry_eq]
  generalize (lg_sl ([.ref (ad (100 + i)), .int (nI k)]) ++ List.replicate (5 - (lg_sl ([.ref (ad (100 + i)), .int (nI k)])).length) Slot.unset).toArray = ls at hl ⊢
  have hl : lv_has ls 5 [(0, .ref (ad (100 + i))), (1, .int (nI k))] := hl
  have hH : s.heap = s.heap := rfl
  obtain ⟨r0, r1, r2, r3, r4, r5, r6, r7, rb, rba, rbt, rbo, rs, rss, rr⟩ := id hR
  obtain ⟨hnb, hns, hnr, hpc, hst, hto, htl, hrm, hpa, hwt, hdf, hds⟩ := id hI
  refine lv_aload_n hx hb d_B_middleOf_0 rfl (lv_at hl 0 rfl) ?_
  refine lv_iload_n hx hb d_B_middleOf_1 rfl (lv_at hl 1 rfl) ?_
  refine xr_call (va_runV (As := [.int (nI k)]) (rest := []) ⟨hx, hb, hml, hown, htw⟩ (c_B_allTold (ad := ad) hR hI hw i hi k (by omega)) (cwV 1 htw (gV u_254 u_256 us_6 u_4 u_257) rfl rfl rfl hd_B_allTold ⟨Nat.le_of_ble_eq_true rfl, Nat.le_of_ble_eq_true rfl⟩) ⟨xP_blind, hw.recv hK (ci := 1) (t := 100 + i) rfl (rb i hi) rfl, xP_of hK hN⟩ rfl rfl hl.1 rfl (lv_room (Nat.le_of_ble_eq_true rfl)) d_B_middleOf_2 ⟨by decide, by decide⟩) hS (fun v H_ locs hp hS => ?_)
  obtain ⟨rfl, hHe⟩ := hp
  rw [hHe] at hS ⊢
  refine W.eq (g2 := F0 m 5 ls [.int (bI (allT (σ.2.1 (20 + i)) k))]) rfl ?_
  refine lv_if_ne (tgt := 10) hx hb d_B_middleOf_5 (by decide) (fun c_1 => ?_) (fun c_1 => ?_)
  · have c_1 : (allT (σ.2.1 (20 + i)) k) = true := bI_t.mp c_1
    refine lv_aload_n hx hb d_B_middleOf_10 rfl (lv_at hl 0 rfl) ?_
    refine xr_get (ci := 1) (v := .ref (ad (130 + i))) (C := R_B) (T := T_B) (N := 9) hx hb htw in_B hown hK hw (100 + i) (rb i hi) rfl rfl 4 (by decide) (htw _ u_97) (fun _ h9 => h9) rfl d_B_middleOf_11 ?_
    refine lv_iload_n hx hb d_B_middleOf_14 rfl (lv_at hl 1 rfl) ?_
    refine lv_iconst (v := 3) hx hb d_B_middleOf_15 (by decide) ?_
    refine lv_imul hx hb d_B_middleOf_16 ?_
    refine xr_iald (i := (nI k) * 3) hx hb hK hw (130 + i) 0 (rbo i hi) rfl rfl (xvin (a := k * 3) (xmul (a := k) (b := 3) rfl rfl) (by omega) (by omega)) d_B_middleOf_17 ?_
    refine lv_topi (fun x_2 ex_2 => ?_)
    obtain rfl : x_2 = (σ.2.1 (20 + i)) (k * 3) := ex_2.trans ((congrArg (σ.2.1 (20 + i)) (xcl (a := k * 3) (xmul (a := k) (b := 3) rfl rfl) (by omega))).trans rfl)
    refine lv_istore_n (lv' := [(2, .int ((σ.2.1 (20 + i)) (k * 3))), (0, .ref (ad (100 + i))), (1, .int (nI k))]) hx hb d_B_middleOf_18 rfl hl (by decide) rfl (fun ls hl => ?_)
    refine lv_aload_n hx hb d_B_middleOf_19 rfl (lv_at hl 1 rfl) ?_
    refine xr_get (ci := 1) (v := .ref (ad (130 + i))) (C := R_B) (T := T_B) (N := 9) hx hb htw in_B hown hK hw (100 + i) (rb i hi) rfl rfl 4 (by decide) (htw _ u_97) (fun _ h9 => h9) rfl d_B_middleOf_20 ?_
    refine lv_iload_n hx hb d_B_middleOf_23 rfl (lv_at hl 2 rfl) ?_
    refine lv_iconst (v := 3) hx hb d_B_middleOf_24 (by decide) ?_
    refine lv_imul hx hb d_B_middleOf_25 ?_
    refine lv_iconst (v := 1) hx hb d_B_middleOf_26 (by decide) ?_
    refine lv_iadd hx hb d_B_middleOf_27 ?_
    refine xr_iald (i := ((nI k) * 3) + 1) hx hb hK hw (130 + i) 0 (rbo i hi) rfl rfl (xvin (a := (k * 3) + 1) (xadd (a := k * 3) (b := 1) (xmul (a := k) (b := 3) rfl rfl) rfl) (by omega) (by omega)) d_B_middleOf_28 ?_
    refine lv_topi (fun x_3 ex_3 => ?_)
    obtain rfl : x_3 = (σ.2.1 (20 + i)) ((k * 3) + 1) := ex_3.trans ((congrArg (σ.2.1 (20 + i)) (xcl (a := (k * 3) + 1) (xadd (a := k * 3) (b := 1) (xmul (a := k) (b := 3) rfl rfl) rfl) (by omega))).trans rfl)
    refine lv_istore_n (lv' := [(3, .int ((σ.2.1 (20 + i)) ((k * 3) + 1))), (2, .int ((σ.2.1 (20 + i)) (k * 3))), (0, .ref (ad (100 + i))), (1, .int (nI k))]) hx hb d_B_middleOf_29 rfl hl (by decide) rfl (fun ls hl => ?_)
    refine lv_aload_n hx hb d_B_middleOf_30 rfl (lv_at hl 2 rfl) ?_
    refine xr_get (ci := 1) (v := .ref (ad (130 + i))) (C := R_B) (T := T_B) (N := 9) hx hb htw in_B hown hK hw (100 + i) (rb i hi) rfl rfl 4 (by decide) (htw _ u_97) (fun _ h9 => h9) rfl d_B_middleOf_31 ?_
    refine lv_iload_n hx hb d_B_middleOf_34 rfl (lv_at hl 3 rfl) ?_
    refine lv_iconst (v := 3) hx hb d_B_middleOf_35 (by decide) ?_
    refine lv_imul hx hb d_B_middleOf_36 ?_
    refine lv_iconst (v := 2) hx hb d_B_middleOf_37 (by decide) ?_
    refine lv_iadd hx hb d_B_middleOf_38 ?_
    refine xr_iald (i := ((nI k) * 3) + 2) hx hb hK hw (130 + i) 0 (rbo i hi) rfl rfl (xvin (a := (k * 3) + 2) (xadd (a := k * 3) (b := 2) (xmul (a := k) (b := 3) rfl rfl) rfl) (by omega) (by omega)) d_B_middleOf_39 ?_
    refine lv_topi (fun x_4 ex_4 => ?_)
    obtain rfl : x_4 = (σ.2.1 (20 + i)) ((k * 3) + 2) := ex_4.trans ((congrArg (σ.2.1 (20 + i)) (xcl (a := (k * 3) + 2) (xadd (a := k * 3) (b := 2) (xmul (a := k) (b := 3) rfl rfl) rfl) (by omega))).trans rfl)
    refine lv_istore (lv' := [(4, .int ((σ.2.1 (20 + i)) ((k * 3) + 2))), (3, .int ((σ.2.1 (20 + i)) ((k * 3) + 1))), (2, .int ((σ.2.1 (20 + i)) (k * 3))), (0, .ref (ad (100 + i))), (1, .int (nI k))]) hx hb d_B_middleOf_40 hl (by decide) rfl (fun ls hl => ?_)
    refine lv_iload_n hx hb d_B_middleOf_42 rfl (lv_at hl 2 rfl) ?_
    refine lv_iload_n hx hb d_B_middleOf_43 rfl (lv_at hl 1 rfl) ?_
    refine va_mmin hx hb (by rw [hml, hl.1]) hown (htw _ u_259) (htw _ u_260) (htw _ u_7) (htw _ u_261) (Nat.le_of_ble_eq_true rfl) (Nat.le_of_ble_eq_true rfl) (Nat.le_of_ble_eq_true rfl) (Nat.le_of_ble_eq_true rfl) d_B_middleOf_44 ?_
    refine lv_topi (fun x_5 ex_5 => ?_)
    obtain rfl : x_5 = mn ((σ.2.1 (20 + i)) (k * 3)) ((σ.2.1 (20 + i)) ((k * 3) + 1)) := ex_5
    refine lv_iload_n hx hb d_B_middleOf_47 rfl (lv_at hl 2 rfl) ?_
    refine lv_iload_n hx hb d_B_middleOf_48 rfl (lv_at hl 1 rfl) ?_
    refine va_mmax hx hb (by rw [hml, hl.1]) hown (htw _ u_262) (htw _ u_263) (htw _ u_7) (htw _ u_264) (Nat.le_of_ble_eq_true rfl) (Nat.le_of_ble_eq_true rfl) (Nat.le_of_ble_eq_true rfl) (Nat.le_of_ble_eq_true rfl) d_B_middleOf_49 ?_
    refine lv_topi (fun x_6 ex_6 => ?_)
    obtain rfl : x_6 = mx ((σ.2.1 (20 + i)) (k * 3)) ((σ.2.1 (20 + i)) ((k * 3) + 1)) := ex_6
    refine lv_iload hx hb d_B_middleOf_52 (lv_at hl 0 rfl) ?_
    refine va_mmin hx hb (by rw [hml, hl.1]) hown (htw _ u_259) (htw _ u_260) (htw _ u_7) (htw _ u_261) (Nat.le_of_ble_eq_true rfl) (Nat.le_of_ble_eq_true rfl) (Nat.le_of_ble_eq_true rfl) (Nat.le_of_ble_eq_true rfl) d_B_middleOf_54 ?_
    refine lv_topi (fun x_7 ex_7 => ?_)
    obtain rfl : x_7 = mn (mx ((σ.2.1 (20 + i)) (k * 3)) ((σ.2.1 (20 + i)) ((k * 3) + 1))) ((σ.2.1 (20 + i)) ((k * 3) + 2)) := ex_7
    refine va_mmax hx hb (by rw [hml, hl.1]) hown (htw _ u_262) (htw _ u_263) (htw _ u_7) (htw _ u_264) (Nat.le_of_ble_eq_true rfl) (Nat.le_of_ble_eq_true rfl) (Nat.le_of_ble_eq_true rfl) (Nat.le_of_ble_eq_true rfl) d_B_middleOf_57 ?_
    refine lv_topi (fun x_8 ex_8 => ?_)
    obtain rfl : x_8 = mx (mn ((σ.2.1 (20 + i)) (k * 3)) ((σ.2.1 (20 + i)) ((k * 3) + 1))) (mn (mx ((σ.2.1 (20 + i)) (k * 3)) ((σ.2.1 (20 + i)) ((k * 3) + 1))) ((σ.2.1 (20 + i)) ((k * 3) + 2))) := ex_8
    exact W.iret (v := mx (mn ((σ.2.1 (20 + i)) (k * 3)) ((σ.2.1 (20 + i)) ((k * 3) + 1))) (mn (mx ((σ.2.1 (20 + i)) (k * 3)) ((σ.2.1 (20 + i)) ((k * 3) + 1))) ((σ.2.1 (20 + i)) ((k * 3) + 2)))) hx hb hr (fun t ht _ => ⟨_, rfl, ⟨by simp [mid, c_1], ht⟩, hS.F ht⟩) hS.2.2 d_B_middleOf_60
  · have c_1 : (allT (σ.2.1 (20 + i)) k) = false := bI_f.mp c_1
    refine lv_iconst (v := (-1)) hx hb d_B_middleOf_8 (by decide) ?_
    exact W.iret (v := (-1)) hx hb hr (fun t ht _ => ⟨_, rfl, ⟨by simp [mid, c_1], ht⟩, hS.F ht⟩) hS.2.2 d_B_middleOf_9
set_option maxHeartbeats 4000000 in
set_option maxRecDepth 100000 in
theorem c_B_spreadOf {l : Launch} {D : va_G} {K : Nat → ClassId} {B : Nat} {ad : Nat → Nat} {w : Nat → Option va_E} {H : Heap} {σ : xS} (hR : RepX K σ ad w) (hI : Inv σ) (hw : xw D vwCl B ad w H) (i : Nat) (hi : i < σ.1 0) (k : Nat) (hk : k < 4) : xC l D K B y_B_spreadOf b_B_spreadOf 5 (some .int) rm_B_spreadOf [.ref (ad (100 + i)), .int (nI k)] H (fun v H1 => v = some (.int (spr (σ.2.1 (20 + i)) k)) ∧ H1 = H) := by
  refine Met.ofW (cc := b_B_spreadOf) (maxL := 5) (ret := (some .int)) (by decide) rfl ?_
  intro p e s m args below meth c s₁ B0 hml hv
  obtain ⟨rfl, hsz, hK, hN⟩ := hv
  have hx := B0.exec
  have hb := B0.bytes
  have hr := B0.returns
  have htw : ∀ w ∈ xW0, w.before [.ref (ad (100 + i)), .int (nI k)].toArray s = true := fun w h => atoms_spec (ws := Cond.code y_B_spreadOf b_B_spreadOf 5 (some .int) :: xW0) B0.pre w (List.mem_cons_of_mem _ h)
  have hown : s.vm.findClass R_B = some m.cls := findClass_of_methodNamed B0.named
  have hlocks := B0.notSynchronized
  subst hsz
  have hS : va_S (fun q => B ≤ q) s.heap s.heap [] := va_S.rf
  have hl := lv_entry ([.ref (ad (100 + i)), .int (nI k)]) (n := 5) (Nat.le_of_ble_eq_true rfl)
  rw [lg_entry_eq]
  generalize (lg_sl ([.ref (ad (100 + i)), .int (nI k)]) ++ List.replicate (5 - (lg_sl ([.ref (ad (100 + i)), .int (nI k)])).length) Slot.unset).toArray = ls at hl ⊢
  have hl : lv_has ls 5 [(0, .ref (ad (100 + i))), (1, .int (nI k))] := hl
  have hH : s.heap = s.heap := rfl
  obtain ⟨r0, r1, r2, r3, r4, r5, r6, r7, rb, rba, rbt, rbo, rs, rss, rr⟩ := id hR
  obtain ⟨hnb, hns, hnr, hpc, hst, hto, htl, hrm, hpa, hwt, hdf, hds⟩ := id hI
  refine lv_aload_n hx hb d_B_spreadOf_0 rfl (lv_at hl 0 rfl) ?_
  refine lv_iload_n hx hb d_B_spreadOf_1 rfl (lv_at hl 1 rfl) ?_
  refine xr_call (va_runV (As := [.int (nI k)]) (rest := []) ⟨hx, hb, hml, hown, htw⟩ (c_B_allTold (ad := ad) hR hI hw i hi k (by omega)) (cwV 1 htw (gV u_254 u_256 us_6 u_4 u_257) rfl rfl rfl hd_B_allTold ⟨Nat.le_of_ble_eq_true rfl, Nat.le_of_ble_eq_true rfl⟩) ⟨xP_blind, hw.recv hK (ci := 1) (t := 100 + i) rfl (rb i hi) rfl, xP_of hK hN⟩ rfl rfl hl.1 rfl (lv_room (Nat.le_of_ble_eq_true rfl)) d_B_spreadOf_2 ⟨by decide, by decide⟩) hS (fun v H_ locs hp hS => ?_)
  obtain ⟨rfl, hHe⟩ := hp
  rw [hHe] at hS ⊢
  refine W.eq (g2 := F0 m 5 ls [.int (bI (allT (σ.2.1 (20 + i)) k))]) rfl ?_
  refine lv_if_ne (tgt := 10) hx hb d_B_spreadOf_5 (by decide) (fun c_1 => ?_) (fun c_1 => ?_)
  · have c_1 : (allT (σ.2.1 (20 + i)) k) = true := bI_t.mp c_1
    refine lv_aload_n hx hb d_B_spreadOf_10 rfl (lv_at hl 0 rfl) ?_
    refine xr_get (ci := 1) (v := .ref (ad (130 + i))) (C := R_B) (T := T_B) (N := 9) hx hb htw in_B hown hK hw (100 + i) (rb i hi) rfl rfl 4 (by decide) (htw _ u_97) (fun _ h9 => h9) rfl d_B_spreadOf_11 ?_
    refine lv_iload_n hx hb d_B_spreadOf_14 rfl (lv_at hl 1 rfl) ?_
    refine lv_iconst (v := 3) hx hb d_B_spreadOf_15 (by decide) ?_
    refine lv_imul hx hb d_B_spreadOf_16 ?_
    refine xr_iald (i := (nI k) * 3) hx hb hK hw (130 + i) 0 (rbo i hi) rfl rfl (xvin (a := k * 3) (xmul (a := k) (b := 3) rfl rfl) (by omega) (by omega)) d_B_spreadOf_17 ?_
    refine lv_topi (fun x_2 ex_2 => ?_)
    obtain rfl : x_2 = (σ.2.1 (20 + i)) (k * 3) := ex_2.trans ((congrArg (σ.2.1 (20 + i)) (xcl (a := k * 3) (xmul (a := k) (b := 3) rfl rfl) (by omega))).trans rfl)
    refine lv_istore_n (lv' := [(2, .int ((σ.2.1 (20 + i)) (k * 3))), (0, .ref (ad (100 + i))), (1, .int (nI k))]) hx hb d_B_spreadOf_18 rfl hl (by decide) rfl (fun ls hl => ?_)
    refine lv_aload_n hx hb d_B_spreadOf_19 rfl (lv_at hl 1 rfl) ?_
    refine xr_get (ci := 1) (v := .ref (ad (130 + i))) (C := R_B) (T := T_B) (N := 9) hx hb htw in_B hown hK hw (100 + i) (rb i hi) rfl rfl 4 (by decide) (htw _ u_97) (fun _ h9 => h9) rfl d_B_spreadOf_20 ?_
    refine lv_iload_n hx hb d_B_spreadOf_23 rfl (lv_at hl 2 rfl) ?_
    refine lv_iconst (v := 3) hx hb d_B_spreadOf_24 (by decide) ?_
    refine lv_imul hx hb d_B_spreadOf_25 ?_
    refine lv_iconst (v := 1) hx hb d_B_spreadOf_26 (by decide) ?_
    refine lv_iadd hx hb d_B_spreadOf_27 ?_
    refine xr_iald (i := ((nI k) * 3) + 1) hx hb hK hw (130 + i) 0 (rbo i hi) rfl rfl (xvin (a := (k * 3) + 1) (xadd (a := k * 3) (b := 1) (xmul (a := k) (b := 3) rfl rfl) rfl) (by omega) (by omega)) d_B_spreadOf_28 ?_
    refine lv_topi (fun x_3 ex_3 => ?_)
    obtain rfl : x_3 = (σ.2.1 (20 + i)) ((k * 3) + 1) := ex_3.trans ((congrArg (σ.2.1 (20 + i)) (xcl (a := (k * 3) + 1) (xadd (a := k * 3) (b := 1) (xmul (a := k) (b := 3) rfl rfl) rfl) (by omega))).trans rfl)
    refine lv_istore_n (lv' := [(3, .int ((σ.2.1 (20 + i)) ((k * 3) + 1))), (2, .int ((σ.2.1 (20 + i)) (k * 3))), (0, .ref (ad (100 + i))), (1, .int (nI k))]) hx hb d_B_spreadOf_29 rfl hl (by decide) rfl (fun ls hl => ?_)
    refine lv_aload_n hx hb d_B_spreadOf_30 rfl (lv_at hl 2 rfl) ?_
    refine xr_get (ci := 1) (v := .ref (ad (130 + i))) (C := R_B) (T := T_B) (N := 9) hx hb htw in_B hown hK hw (100 + i) (rb i hi) rfl rfl 4 (by decide) (htw _ u_97) (fun _ h9 => h9) rfl d_B_spreadOf_31 ?_
    refine lv_iload_n hx hb d_B_spreadOf_34 rfl (lv_at hl 3 rfl) ?_
    refine lv_iconst (v := 3) hx hb d_B_spreadOf_35 (by decide) ?_
    refine lv_imul hx hb d_B_spreadOf_36 ?_
    refine lv_iconst (v := 2) hx hb d_B_spreadOf_37 (by decide) ?_
    refine lv_iadd hx hb d_B_spreadOf_38 ?_
    refine xr_iald (i := ((nI k) * 3) + 2) hx hb hK hw (130 + i) 0 (rbo i hi) rfl rfl (xvin (a := (k * 3) + 2) (xadd (a := k * 3) (b := 2) (xmul (a := k) (b := 3) rfl rfl) rfl) (by omega) (by omega)) d_B_spreadOf_39 ?_
    refine lv_topi (fun x_4 ex_4 => ?_)
    obtain rfl : x_4 = (σ.2.1 (20 + i)) ((k * 3) + 2) := ex_4.trans ((congrArg (σ.2.1 (20 + i)) (xcl (a := (k * 3) + 2) (xadd (a := k * 3) (b := 2) (xmul (a := k) (b := 3) rfl rfl) rfl) (by omega))).trans rfl)
    refine lv_istore (lv' := [(4, .int ((σ.2.1 (20 + i)) ((k * 3) + 2))), (3, .int ((σ.2.1 (20 + i)) ((k * 3) + 1))), (2, .int ((σ.2.1 (20 + i)) (k * 3))), (0, .ref (ad (100 + i))), (1, .int (nI k))]) hx hb d_B_spreadOf_40 hl (by decide) rfl (fun ls hl => ?_)
    refine lv_iload_n hx hb d_B_spreadOf_42 rfl (lv_at hl 2 rfl) ?_
    refine lv_iload_n hx hb d_B_spreadOf_43 rfl (lv_at hl 1 rfl) ?_
    refine va_mmax hx hb (by rw [hml, hl.1]) hown (htw _ u_262) (htw _ u_263) (htw _ u_7) (htw _ u_264) (Nat.le_of_ble_eq_true rfl) (Nat.le_of_ble_eq_true rfl) (Nat.le_of_ble_eq_true rfl) (Nat.le_of_ble_eq_true rfl) d_B_spreadOf_44 ?_
    refine lv_topi (fun x_5 ex_5 => ?_)
    obtain rfl : x_5 = mx ((σ.2.1 (20 + i)) (k * 3)) ((σ.2.1 (20 + i)) ((k * 3) + 1)) := ex_5
    refine lv_iload hx hb d_B_spreadOf_47 (lv_at hl 0 rfl) ?_
    refine va_mmax hx hb (by rw [hml, hl.1]) hown (htw _ u_262) (htw _ u_263) (htw _ u_7) (htw _ u_264) (Nat.le_of_ble_eq_true rfl) (Nat.le_of_ble_eq_true rfl) (Nat.le_of_ble_eq_true rfl) (Nat.le_of_ble_eq_true rfl) d_B_spreadOf_49 ?_
    refine lv_topi (fun x_6 ex_6 => ?_)
    obtain rfl : x_6 = mx (mx ((σ.2.1 (20 + i)) (k * 3)) ((σ.2.1 (20 + i)) ((k * 3) + 1))) ((σ.2.1 (20 + i)) ((k * 3) + 2)) := ex_6
    refine lv_iload_n hx hb d_B_spreadOf_52 rfl (lv_at hl 2 rfl) ?_
    refine lv_iload_n hx hb d_B_spreadOf_53 rfl (lv_at hl 1 rfl) ?_
    refine va_mmin hx hb (by rw [hml, hl.1]) hown (htw _ u_259) (htw _ u_260) (htw _ u_7) (htw _ u_261) (Nat.le_of_ble_eq_true rfl) (Nat.le_of_ble_eq_true rfl) (Nat.le_of_ble_eq_true rfl) (Nat.le_of_ble_eq_true rfl) d_B_spreadOf_54 ?_
    refine lv_topi (fun x_7 ex_7 => ?_)
    obtain rfl : x_7 = mn ((σ.2.1 (20 + i)) (k * 3)) ((σ.2.1 (20 + i)) ((k * 3) + 1)) := ex_7
    refine lv_iload hx hb d_B_spreadOf_57 (lv_at hl 0 rfl) ?_
    refine va_mmin hx hb (by rw [hml, hl.1]) hown (htw _ u_259) (htw _ u_260) (htw _ u_7) (htw _ u_261) (Nat.le_of_ble_eq_true rfl) (Nat.le_of_ble_eq_true rfl) (Nat.le_of_ble_eq_true rfl) (Nat.le_of_ble_eq_true rfl) d_B_spreadOf_59 ?_
    refine lv_topi (fun x_8 ex_8 => ?_)
    obtain rfl : x_8 = mn (mn ((σ.2.1 (20 + i)) (k * 3)) ((σ.2.1 (20 + i)) ((k * 3) + 1))) ((σ.2.1 (20 + i)) ((k * 3) + 2)) := ex_8
    refine lv_isub hx hb d_B_spreadOf_62 ?_
    exact W.iret (v := (mx (mx ((σ.2.1 (20 + i)) (k * 3)) ((σ.2.1 (20 + i)) ((k * 3) + 1))) ((σ.2.1 (20 + i)) ((k * 3) + 2))) - (mn (mn ((σ.2.1 (20 + i)) (k * 3)) ((σ.2.1 (20 + i)) ((k * 3) + 1))) ((σ.2.1 (20 + i)) ((k * 3) + 2)))) hx hb hr (fun t ht _ => ⟨_, rfl, ⟨by simp [spr, c_1], ht⟩, hS.F ht⟩) hS.2.2 d_B_spreadOf_63
  · have c_1 : (allT (σ.2.1 (20 + i)) k) = false := bI_f.mp c_1
    refine lv_iconst (v := (-1)) hx hb d_B_spreadOf_8 (by decide) ?_
    exact W.iret (v := (-1)) hx hb hr (fun t ht _ => ⟨_, rfl, ⟨by simp [spr, c_1], ht⟩, hS.F ht⟩) hS.2.2 d_B_spreadOf_9
set_option maxHeartbeats 4000000 in
set_option maxRecDepth 100000 in
theorem c_B_hasSpreadAbove {l : Launch} {D : va_G} {K : Nat → ClassId} {B : Nat} {ad : Nat → Nat} {w : Nat → Option va_E} {H : Heap} {σ : xS} (hR : RepX K σ ad w) (hI : Inv σ) (hw : xw D vwCl B ad w H) (i : Nat) (hi : i < σ.1 0) (x1 : Int32) : xC l D K B y_B_hasSpreadAbove b_B_hasSpreadAbove 3 (some .boolean) rm_B_hasSpreadAbove [.ref (ad (100 + i)), .int x1] H (fun v H1 => v = some (.int (bI (hasS (σ.2.1 (20 + i)) x1))) ∧ H1 = H) := by
  refine Met.ofW (cc := b_B_hasSpreadAbove) (maxL := 3) (ret := (some .boolean)) (by decide) rfl ?_
  intro p e s m args below meth c s₁ B0 hml hv
  obtain ⟨rfl, hsz, hK, hN⟩ := hv
  have hx := B0.exec
  have hb := B0.bytes
  have hr := B0.returns
  have htw : ∀ w ∈ xW0, w.before [.ref (ad (100 + i)), .int x1].toArray s = true := fun w h => atoms_spec (ws := Cond.code y_B_hasSpreadAbove b_B_hasSpreadAbove 3 (some .boolean) :: xW0) B0.pre w (List.mem_cons_of_mem _ h)
  have hown : s.vm.findClass R_B = some m.cls := findClass_of_methodNamed B0.named
  have hlocks := B0.notSynchronized
  subst hsz
  have hS : va_S (fun q => B ≤ q) s.heap s.heap [] := va_S.rf
  have hl := lv_entry ([.ref (ad (100 + i)), .int x1]) (n := 3) (Nat.le_of_ble_eq_true rfl)
  rw [lg_entry_eq]
  generalize (lg_sl ([.ref (ad (100 + i)), .int x1]) ++ List.replicate (3 - (lg_sl ([.ref (ad (100 + i)), .int x1])).length) Slot.unset).toArray = ls at hl ⊢
  have hl : lv_has ls 3 [(0, .ref (ad (100 + i))), (1, .int x1)] := hl
  have hH : s.heap = s.heap := rfl
  obtain ⟨r0, r1, r2, r3, r4, r5, r6, r7, rb, rba, rbt, rbo, rs, rss, rr⟩ := id hR
  obtain ⟨hnb, hns, hnr, hpc, hst, hto, htl, hrm, hpa, hwt, hdf, hds⟩ := id hI
  refine lv_iconst (v := 0) hx hb d_B_hasSpreadAbove_0 (by decide) ?_
  refine lv_istore_n (lv' := [(2, .int 0), (0, .ref (ad (100 + i))), (1, .int x1)]) hx hb d_B_hasSpreadAbove_1 rfl hl (by decide) rfl (fun ls hl => ?_)
  refine lv_iload_n hx hb d_B_hasSpreadAbove_2 rfl (lv_at hl 0 rfl) ?_
  refine lv_iconst (v := 4) hx hb d_B_hasSpreadAbove_3 (by decide) ?_
  refine lv_icmp_ge (tgt := 24) hx hb d_B_hasSpreadAbove_4 (by decide) (fun c_1 => absurd c_1 (by decide)) (fun c_1 => ?_)
  refine lv_aload_n hx hb d_B_hasSpreadAbove_7 rfl (lv_at hl 1 rfl) ?_
  refine lv_iload_n hx hb d_B_hasSpreadAbove_8 rfl (lv_at hl 0 rfl) ?_
  refine xr_call (va_runV (As := [.int 0]) (rest := []) ⟨hx, hb, hml, hown, htw⟩ (c_B_spreadOf (ad := ad) hR hI hw i hi 0 (by omega)) (cwV 1 htw (gV u_327 u_270 u_271 u_4 u_272) rfl rfl rfl hd_B_spreadOf ⟨Nat.le_of_ble_eq_true rfl, Nat.le_of_ble_eq_true rfl⟩) ⟨xP_blind, hw.recv hK (ci := 1) (t := 100 + i) rfl (rb i hi) rfl, xP_of hK hN⟩ rfl rfl hl.1 rfl (lv_room (Nat.le_of_ble_eq_true rfl)) d_B_hasSpreadAbove_9 ⟨by decide, by decide⟩) hS (fun v H_ locs hp hS => ?_)
  obtain ⟨rfl, hHe⟩ := hp
  rw [hHe] at hS ⊢
  refine W.eq (g2 := F0 m 12 ls [.int (spr (σ.2.1 (20 + i)) 0)]) rfl ?_
  refine lv_iload_n hx hb d_B_hasSpreadAbove_12 rfl (lv_at hl 2 rfl) ?_
  refine lv_icmp_le (tgt := 18) hx hb d_B_hasSpreadAbove_13 (by decide) (fun c_2 => ?_) (fun c_2 => ?_)
  · refine lv_iinc (v := 1) (lv' := [(2, .int 1), (0, .ref (ad (100 + i))), (1, .int x1)]) hx hb d_B_hasSpreadAbove_18 hl (k := 0) rfl (by decide) (by decide) rfl (fun ls hl => ?_)
    refine lv_goto (tgt := 2) hx hb d_B_hasSpreadAbove_21 (by decide) ?_
    refine lv_iload_n hx hb d_B_hasSpreadAbove_2 rfl (lv_at hl 0 rfl) ?_
    refine lv_iconst (v := 4) hx hb d_B_hasSpreadAbove_3 (by decide) ?_
    refine lv_icmp_ge (tgt := 24) hx hb d_B_hasSpreadAbove_4 (by decide) (fun c_3 => absurd c_3 (by decide)) (fun c_3 => ?_)
    refine lv_aload_n hx hb d_B_hasSpreadAbove_7 rfl (lv_at hl 1 rfl) ?_
    refine lv_iload_n hx hb d_B_hasSpreadAbove_8 rfl (lv_at hl 0 rfl) ?_
    refine xr_call (va_runV (As := [.int 1]) (rest := []) ⟨hx, hb, hml, hown, htw⟩ (c_B_spreadOf (ad := ad) hR hI hw i hi 1 (by omega)) (cwV 1 htw (gV u_327 u_270 u_271 u_4 u_272) rfl rfl rfl hd_B_spreadOf ⟨Nat.le_of_ble_eq_true rfl, Nat.le_of_ble_eq_true rfl⟩) ⟨xP_blind, hw.recv hK (ci := 1) (t := 100 + i) rfl (rb i hi) rfl, xP_of hK hN⟩ rfl rfl hl.1 rfl (lv_room (Nat.le_of_ble_eq_true rfl)) d_B_hasSpreadAbove_9 ⟨by decide, by decide⟩) hS (fun v H_ locs hp hS => ?_)
    obtain ⟨rfl, hHe⟩ := hp
    rw [hHe] at hS ⊢
    refine W.eq (g2 := F0 m 12 ls [.int (spr (σ.2.1 (20 + i)) 1)]) rfl ?_
    refine lv_iload_n hx hb d_B_hasSpreadAbove_12 rfl (lv_at hl 2 rfl) ?_
    refine lv_icmp_le (tgt := 18) hx hb d_B_hasSpreadAbove_13 (by decide) (fun c_4 => ?_) (fun c_4 => ?_)
    · refine lv_iinc (v := 2) (lv' := [(2, .int 2), (0, .ref (ad (100 + i))), (1, .int x1)]) hx hb d_B_hasSpreadAbove_18 hl (k := 0) rfl (by decide) (by decide) rfl (fun ls hl => ?_)
      refine lv_goto (tgt := 2) hx hb d_B_hasSpreadAbove_21 (by decide) ?_
      refine lv_iload_n hx hb d_B_hasSpreadAbove_2 rfl (lv_at hl 0 rfl) ?_
      refine lv_iconst (v := 4) hx hb d_B_hasSpreadAbove_3 (by decide) ?_
      refine lv_icmp_ge (tgt := 24) hx hb d_B_hasSpreadAbove_4 (by decide) (fun c_5 => absurd c_5 (by decide)) (fun c_5 => ?_)
      refine lv_aload_n hx hb d_B_hasSpreadAbove_7 rfl (lv_at hl 1 rfl) ?_
      refine lv_iload_n hx hb d_B_hasSpreadAbove_8 rfl (lv_at hl 0 rfl) ?_
      refine xr_call (va_runV (As := [.int 2]) (rest := []) ⟨hx, hb, hml, hown, htw⟩ (c_B_spreadOf (ad := ad) hR hI hw i hi 2 (by omega)) (cwV 1 htw (gV u_327 u_270 u_271 u_4 u_272) rfl rfl rfl hd_B_spreadOf ⟨Nat.le_of_ble_eq_true rfl, Nat.le_of_ble_eq_true rfl⟩) ⟨xP_blind, hw.recv hK (ci := 1) (t := 100 + i) rfl (rb i hi) rfl, xP_of hK hN⟩ rfl rfl hl.1 rfl (lv_room (Nat.le_of_ble_eq_true rfl)) d_B_hasSpreadAbove_9 ⟨by decide, by decide⟩) hS (fun v H_ locs hp hS => ?_)
      obtain ⟨rfl, hHe⟩ := hp
      rw [hHe] at hS ⊢
      refine W.eq (g2 := F0 m 12 ls [.int (spr (σ.2.1 (20 + i)) 2)]) rfl ?_
      refine lv_iload_n hx hb d_B_hasSpreadAbove_12 rfl (lv_at hl 2 rfl) ?_
      refine lv_icmp_le (tgt := 18) hx hb d_B_hasSpreadAbove_13 (by decide) (fun c_6 => ?_) (fun c_6 => ?_)
      · refine lv_iinc (v := 3) (lv' := [(2, .int 3), (0, .ref (ad (100 + i))), (1, .int x1)]) hx hb d_B_hasSpreadAbove_18 hl (k := 0) rfl (by decide) (by decide) rfl (fun ls hl => ?_)
        refine lv_goto (tgt := 2) hx hb d_B_hasSpreadAbove_21 (by decide) ?_
        refine lv_iload_n hx hb d_B_hasSpreadAbove_2 rfl (lv_at hl 0 rfl) ?_
        refine lv_iconst (v := 4) hx hb d_B_hasSpreadAbove_3 (by decide) ?_
        refine lv_icmp_ge (tgt := 24) hx hb d_B_hasSpreadAbove_4 (by decide) (fun c_7 => absurd c_7 (by decide)) (fun c_7 => ?_)
        refine lv_aload_n hx hb d_B_hasSpreadAbove_7 rfl (lv_at hl 1 rfl) ?_
        refine lv_iload_n hx hb d_B_hasSpreadAbove_8 rfl (lv_at hl 0 rfl) ?_
        refine xr_call (va_runV (As := [.int 3]) (rest := []) ⟨hx, hb, hml, hown, htw⟩ (c_B_spreadOf (ad := ad) hR hI hw i hi 3 (by omega)) (cwV 1 htw (gV u_327 u_270 u_271 u_4 u_272) rfl rfl rfl hd_B_spreadOf ⟨Nat.le_of_ble_eq_true rfl, Nat.le_of_ble_eq_true rfl⟩) ⟨xP_blind, hw.recv hK (ci := 1) (t := 100 + i) rfl (rb i hi) rfl, xP_of hK hN⟩ rfl rfl hl.1 rfl (lv_room (Nat.le_of_ble_eq_true rfl)) d_B_hasSpreadAbove_9 ⟨by decide, by decide⟩) hS (fun v H_ locs hp hS => ?_)
        obtain ⟨rfl, hHe⟩ := hp
        rw [hHe] at hS ⊢
        refine W.eq (g2 := F0 m 12 ls [.int (spr (σ.2.1 (20 + i)) 3)]) rfl ?_
        refine lv_iload_n hx hb d_B_hasSpreadAbove_12 rfl (lv_at hl 2 rfl) ?_
        refine lv_icmp_le (tgt := 18) hx hb d_B_hasSpreadAbove_13 (by decide) (fun c_8 => ?_) (fun c_8 => ?_)
        · refine lv_iinc (v := 4) (lv' := [(2, .int 4), (0, .ref (ad (100 + i))), (1, .int x1)]) hx hb d_B_hasSpreadAbove_18 hl (k := 0) rfl (by decide) (by decide) rfl (fun ls hl => ?_)
          refine lv_goto (tgt := 2) hx hb d_B_hasSpreadAbove_21 (by decide) ?_
          refine lv_iload_n hx hb d_B_hasSpreadAbove_2 rfl (lv_at hl 0 rfl) ?_
          refine lv_iconst (v := 4) hx hb d_B_hasSpreadAbove_3 (by decide) ?_
          refine lv_icmp_ge (tgt := 24) hx hb d_B_hasSpreadAbove_4 (by decide) (fun c_9 => ?_) (fun c_9 => absurd (by decide) c_9)
          refine lv_iconst (v := 0) hx hb d_B_hasSpreadAbove_24 (by decide) ?_
          exact W.zret (v := 0) hx hb hr (by decide) (fun t ht _ => ⟨_, rfl, ⟨bI_0 (by simp [hasS, c_2, c_4, c_6, c_8]), ht⟩, hS.F ht⟩) hS.2.2 d_B_hasSpreadAbove_25
        · refine lv_iconst (v := 1) hx hb d_B_hasSpreadAbove_16 (by decide) ?_
          exact W.zret (v := 1) hx hb hr (by decide) (fun t ht _ => ⟨_, rfl, ⟨bI_1 (by simp [hasS, c_2, c_4, c_6, c_8]), ht⟩, hS.F ht⟩) hS.2.2 d_B_hasSpreadAbove_17
      · refine lv_iconst (v := 1) hx hb d_B_hasSpreadAbove_16 (by decide) ?_
        exact W.zret (v := 1) hx hb hr (by decide) (fun t ht _ => ⟨_, rfl, ⟨bI_1 (by simp [hasS, c_2, c_4, c_6]), ht⟩, hS.F ht⟩) hS.2.2 d_B_hasSpreadAbove_17
    · refine lv_iconst (v := 1) hx hb d_B_hasSpreadAbove_16 (by decide) ?_
      exact W.zret (v := 1) hx hb hr (by decide) (fun t ht _ => ⟨_, rfl, ⟨bI_1 (by simp [hasS, c_2, c_4]), ht⟩, hS.F ht⟩) hS.2.2 d_B_hasSpreadAbove_17
  · refine lv_iconst (v := 1) hx hb d_B_hasSpreadAbove_16 (by decide) ?_
    exact W.zret (v := 1) hx hb hr (by decide) (fun t ht _ => ⟨_, rfl, ⟨bI_1 (by simp [hasS, c_2]), ht⟩, hS.F ht⟩) hS.2.2 d_B_hasSpreadAbove_17
set_option maxHeartbeats 4000000 in
set_option maxRecDepth 100000 in
theorem c_S_thousandthsOf {l : Launch} {D : va_G} {K : Nat → ClassId} {B : Nat} {ad : Nat → Nat} {w : Nat → Option va_E} {H : Heap} {σ : xS} (hw : xw D vwCl B ad w H) (t j : Nat) (v3 : Value) (h0 : w t = some (.inr (2, [.int (σ.2.1 3 j), .int (σ.2.1 4 j), .int (σ.2.1 5 j), v3]))) (a : Nat) (ha : ad t = a) (x1 : Int32) : xC l D K B y_S_thousandthsOf b_S_thousandthsOf 2 (some .int) rm_S_thousandthsOf [.ref a, .int x1] H (fun v H1 => v = some (.int (thou σ j x1)) ∧ H1 = H) := by
  refine Met.ofW (cc := b_S_thousandthsOf) (maxL := 2) (ret := (some .int)) (by decide) rfl ?_
  intro p e s m args below meth c s₁ B0 hml hv
  obtain ⟨rfl, hsz, hK, hN⟩ := hv
  have hx := B0.exec
  have hb := B0.bytes
  have hr := B0.returns
  have htw : ∀ w ∈ xW0, w.before [.ref a, .int x1].toArray s = true := fun w h => atoms_spec (ws := Cond.code y_S_thousandthsOf b_S_thousandthsOf 2 (some .int) :: xW0) B0.pre w (List.mem_cons_of_mem _ h)
  have hown : s.vm.findClass R_S = some m.cls := findClass_of_methodNamed B0.named
  have hlocks := B0.notSynchronized
  subst hsz
  have hS : va_S (fun q => B ≤ q) s.heap s.heap [] := va_S.rf
  have hl := lv_entry ([.ref a, .int x1]) (n := 2) (Nat.le_of_ble_eq_true rfl)
  rw [lg_entry_eq]
  generalize (lg_sl ([.ref a, .int x1]) ++ List.replicate (2 - (lg_sl ([.ref a, .int x1])).length) Slot.unset).toArray = ls at hl ⊢
  have hl : lv_has ls 2 [(0, .ref a), (1, .int x1)] := hl
  have hH : s.heap = s.heap := rfl
  refine lv_iload_n hx hb d_S_thousandthsOf_0 rfl (lv_at hl 1 rfl) ?_
  refine lv_aload_n hx hb d_S_thousandthsOf_1 rfl (lv_at hl 0 rfl) ?_
  refine xr_get (ci := 2) (v := .int (σ.2.1 3 j)) (C := R_S) (T := T_S) (N := 4) hx hb htw in_S hown hK hw t h0 ha rfl 0 (by decide) (htw _ u_154) (fun _ h9 => h9) rfl d_S_thousandthsOf_2 ?_
  refine lv_icmp_ne (tgt := 15) hx hb d_S_thousandthsOf_5 (by decide) (fun c_1 => ?_) (fun c_1 => ?_)
  · refine lv_aload_n hx hb d_S_thousandthsOf_15 rfl (lv_at hl 0 rfl) ?_
    refine xr_get (ci := 2) (v := .int (σ.2.1 5 j)) (C := R_S) (T := T_S) (N := 4) hx hb htw in_S hown hK hw t h0 ha rfl 2 (by decide) (htw _ u_156) (fun _ h9 => h9) rfl d_S_thousandthsOf_16 ?_
    exact W.iret (v := σ.2.1 5 j) hx hb hr (fun t ht _ => ⟨_, rfl, ⟨by simp [thou, c_1], ht⟩, hS.F ht⟩) hS.2.2 d_S_thousandthsOf_19
  · refine lv_aload_n hx hb d_S_thousandthsOf_8 rfl (lv_at hl 0 rfl) ?_
    refine xr_get (ci := 2) (v := .int (σ.2.1 4 j)) (C := R_S) (T := T_S) (N := 4) hx hb htw in_S hown hK hw t h0 ha rfl 1 (by decide) (htw _ u_155) (fun _ h9 => h9) rfl d_S_thousandthsOf_9 ?_
    refine lv_goto (tgt := 19) hx hb d_S_thousandthsOf_12 (by decide) ?_
    exact W.iret (v := σ.2.1 4 j) hx hb hr (fun t ht _ => ⟨_, rfl, ⟨by simp [thou, c_1], ht⟩, hS.F ht⟩) hS.2.2 d_S_thousandthsOf_19
set_option maxHeartbeats 4000000 in
set_option maxRecDepth 100000 in
theorem c_P_countOf {l : Launch} {D : va_G} {K : Nat → ClassId} {B : Nat} {ad : Nat → Nat} {w : Nat → Option va_E} {H : Heap} {σ : xS} (hR : RepX K σ ad w) (hI : Inv σ) (hw : xw D vwCl B ad w H) (k : Nat) (hk : k < 4) : xC l D K B y_P_countOf b_P_countOf 2 (some .int) rm_P_countOf [.ref (ad 4), .int (nI k)] H (fun v H1 => v = some (.int (nI (σ.1 (11 + 2 * k)))) ∧ H1 = H) := by
  refine Met.ofW (cc := b_P_countOf) (maxL := 2) (ret := (some .int)) (by decide) rfl ?_
  intro p e s m args below meth c s₁ B0 hml hv
  obtain ⟨rfl, hsz, hK, hN⟩ := hv
  have hx := B0.exec
  have hb := B0.bytes
  have hr := B0.returns
  have htw : ∀ w ∈ xW0, w.before [.ref (ad 4), .int (nI k)].toArray s = true := fun w h => atoms_spec (ws := Cond.code y_P_countOf b_P_countOf 2 (some .int) :: xW0) B0.pre w (List.mem_cons_of_mem _ h)
  have hown : s.vm.findClass R_P = some m.cls := findClass_of_methodNamed B0.named
  have hlocks := B0.notSynchronized
  subst hsz
  have hS : va_S (fun q => B ≤ q) s.heap s.heap [] := va_S.rf
  have hl := lv_entry ([.ref (ad 4), .int (nI k)]) (n := 2) (Nat.le_of_ble_eq_true rfl)
  rw [lg_entry_eq]
  generalize (lg_sl ([.ref (ad 4), .int (nI k)]) ++ List.replicate (2 - (lg_sl ([.ref (ad 4), .int (nI k)])).length) Slot.unset).toArray = ls at hl ⊢
  have hl : lv_has ls 2 [(0, .ref (ad 4)), (1, .int (nI k))] := hl
  have hH : s.heap = s.heap := rfl
  obtain ⟨r0, r1, r2, r3, r4, r5, r6, r7, rb, rba, rbt, rbo, rs, rss, rr⟩ := id hR
  obtain ⟨hnb, hns, hnr, hpc, hst, hto, htl, hrm, hpa, hwt, hdf, hds⟩ := id hI
  refine lv_iload_n hx hb d_P_countOf_0 rfl (lv_at hl 1 rfl) ?_
  refine xr_call (va_runSN (As := [.int (nI k)]) (rest := []) ⟨hx, hb, hml, hown, htw⟩ (c_A_isMetal (nI k)) ⟨va_cnB 1 htw (gC u_137) rfl rfl rfl (hN (.methodLinkNest R_P 26 y_A_isMetal R_A) (by decide +kernel)).1 (htw _ u_1) hd_A_isMetal.2 ⟨Nat.le_of_ble_eq_true rfl, Nat.le_of_ble_eq_true rfl⟩, htw _ u_136, trivial⟩ ⟨xP_blind, xP_of hK hN⟩ rfl rfl hl.1 rfl (lv_room (Nat.le_of_ble_eq_true rfl)) d_P_countOf_1 ⟨by decide, by decide⟩) hS (fun v H_ locs hp hS => ?_)
  obtain ⟨rfl, hHe⟩ := hp
  rw [hHe] at hS ⊢
  refine W.eq (g2 := F0 m 4 ls [.int (bI (xm (nI k)))]) rfl ?_
  refine lv_if_eq (tgt := 16) hx hb d_P_countOf_4 (by decide) (fun c_1 => absurd c_1 (by rw [xm_nI hk]; decide)) (fun c_1 => ?_)
  have c_1 : (xm (nI k)) = true := bI_t.mp c_1
  refine lv_aload_n hx hb d_P_countOf_7 rfl (lv_at hl 0 rfl) ?_
  refine xr_get (ci := 4) (v := .ref (ad 5)) (C := R_P) (T := T_P) (N := 3) hx hb htw in_P hown hK hw 4 r4 rfl rfl 0 (by decide) (htw _ u_29) (fun _ h9 => h9) rfl d_P_countOf_8 ?_
  refine lv_iload_n hx hb d_P_countOf_11 rfl (lv_at hl 1 rfl) ?_
  refine xr_iald (i := nI k) hx hb hK hw 5 0 r5 rfl rfl (xvin (a := k) rfl (by omega) (by omega)) d_P_countOf_12 ?_
  refine lv_topi (fun x_2 ex_2 => ?_)
  obtain rfl : x_2 = nI (σ.1 (11 + 2 * k)) := ex_2.trans ((congrArg (fun k => nI (σ.1 (11 + 2 * k))) (xcl (a := k) rfl (by omega))).trans rfl)
  refine lv_goto (tgt := 17) hx hb d_P_countOf_13 (by decide) ?_
  exact W.iret (v := nI (σ.1 (11 + 2 * k))) hx hb hr (fun t ht _ => ⟨_, rfl, ⟨rfl, ht⟩, hS.F ht⟩) hS.2.2 d_P_countOf_17
set_option maxHeartbeats 4000000 in
set_option maxRecDepth 100000 in
theorem c_P_centsOn {l : Launch} {D : va_G} {K : Nat → ClassId} {B : Nat} {ad : Nat → Nat} {w : Nat → Option va_E} {H : Heap} {σ : xS} (hR : RepX K σ ad w) (hI : Inv σ) (hw : xw D vwCl B ad w H) (k : Nat) (hk : k < 4) (d : Int32) : xC l D K B y_P_centsOn b_P_centsOn 8 (some .long) rm_P_centsOn [.ref (ad 4), .int (nI k), .int d] H (fun v H1 => v = some (.long (prN σ k d (σ.1 (11 + 2 * k)))) ∧ H1 = H) := by
  refine Met.ofW (cc := b_P_centsOn) (maxL := 8) (ret := (some .long)) (by decide) rfl ?_
  intro p e s m args below meth c s₁ B0 hml hv
  obtain ⟨rfl, hsz, hK, hN⟩ := hv
  have hx := B0.exec
  have hb := B0.bytes
  have hr := B0.returns
  have htw : ∀ w ∈ xW0, w.before [.ref (ad 4), .int (nI k), .int d].toArray s = true := fun w h => atoms_spec (ws := Cond.code y_P_centsOn b_P_centsOn 8 (some .long) :: xW0) B0.pre w (List.mem_cons_of_mem _ h)
  have hown : s.vm.findClass R_P = some m.cls := findClass_of_methodNamed B0.named
  have hlocks := B0.notSynchronized
  subst hsz
  have hS : va_S (fun q => B ≤ q) s.heap s.heap [] := va_S.rf
  have hl := lv_entry ([.ref (ad 4), .int (nI k), .int d]) (n := 8) (Nat.le_of_ble_eq_true rfl)
  rw [lg_entry_eq]
  generalize (lg_sl ([.ref (ad 4), .int (nI k), .int d]) ++ List.replicate (8 - (lg_sl ([.ref (ad 4), .int (nI k), .int d])).length) Slot.unset).toArray = ls at hl ⊢
  have hl : lv_has ls 8 [(0, .ref (ad 4)), (1, .int (nI k)), (2, .int d)] := hl
  have hH : s.heap = s.heap := rfl
  obtain ⟨r0, r1, r2, r3, r4, r5, r6, r7, rb, rba, rbt, rbo, rs, rss, rr⟩ := id hR
  obtain ⟨hnb, hns, hnr, hpc, hst, hto, htl, hrm, hpa, hwt, hdf, hds⟩ := id hI
  refine lv_lconst (v := 0) hx hb d_P_centsOn_0 (by decide) ?_
  refine lv_lstore_n (lv' := [(3, .long 0), (0, .ref (ad 4)), (1, .int (nI k)), (2, .int d)]) hx hb d_P_centsOn_1 rfl hl (by decide) rfl (fun ls hl => ?_)
  refine lv_aload_n hx hb d_P_centsOn_2 rfl (lv_at hl 1 rfl) ?_
  refine lv_iload_n hx hb d_P_centsOn_3 rfl (lv_at hl 2 rfl) ?_
  refine xr_call (va_runV (As := [.int (nI k)]) (rest := []) ⟨hx, hb, hml, hown, htw⟩ (c_P_countOf (ad := ad) hR hI hw k (by omega)) (cwV 1 htw (gV u_212 u_214 us_4 u_2 u_215) rfl rfl rfl hd_P_countOf ⟨Nat.le_of_ble_eq_true rfl, Nat.le_of_ble_eq_true rfl⟩) ⟨xP_blind, hw.recv hK (ci := 4) (t := 4) rfl r4 rfl, xP_of hK hN⟩ rfl rfl hl.1 rfl (lv_room (Nat.le_of_ble_eq_true rfl)) d_P_centsOn_4 ⟨by decide, by decide⟩) hS (fun v H_ locs hp hS => ?_)
  obtain ⟨rfl, hHe⟩ := hp
  rw [hHe] at hS ⊢
  refine W.eq (g2 := F0 m 7 ls [.int (nI (σ.1 (11 + 2 * k)))]) rfl ?_
  refine lv_istore (lv' := [(5, .int (nI (σ.1 (11 + 2 * k)))), (3, .long 0), (0, .ref (ad 4)), (1, .int (nI k)), (2, .int d)]) hx hb d_P_centsOn_7 hl (by decide) rfl (fun ls hl => ?_)
  refine lv_iconst (v := 0) hx hb d_P_centsOn_9 (by decide) ?_
  refine lv_istore (lv' := [(6, .int 0), (5, .int (nI (σ.1 (11 + 2 * k)))), (3, .long 0), (0, .ref (ad 4)), (1, .int (nI k)), (2, .int d)]) hx hb d_P_centsOn_10 hl (by decide) rfl (fun ls hl => ?_)
  have hck := hpc k hk
  refine xloop (σ.1 (11 + 2 * k)) (fun n H locs ls => H = s.heap ∧ va_S (fun q => B ≤ q) s.heap H locs ∧ lv_has ls 8 [(6, .int (nI n)), (5, .int (nI (σ.1 (11 + 2 * k)))), (3, .long (prN σ k d n)), (0, .ref (ad 4)), (1, .int (nI k)), (2, .int d)]) 0 (Nat.zero_le _) ⟨rfl, hS, hl⟩ (fun n H locs ls hn hJ ih => ?_)
  obtain ⟨rfl, hS, hl⟩ := hJ
  refine lv_iload hx hb d_P_centsOn_12 (lv_at hl 0 rfl) ?_
  refine lv_iload hx hb d_P_centsOn_14 (lv_at hl 1 rfl) ?_
  refine lv_icmp_ge (tgt := 53) hx hb d_P_centsOn_16 (by decide) (fun c_1 => ?_) (fun c_1 => ?_)
  · have c_1 : (σ.1 (11 + 2 * k)) ≤ n := (nLE (a := σ.1 (11 + 2 * k)) (b := n) (by omega) (by omega)).mp c_1
    refine lv_lload_n hx hb d_P_centsOn_53 rfl (lv_at hl 2 rfl) ?_
    exact W.lret (v := prN σ k d n) hx hb hr (fun t ht _ => ⟨_, rfl, ⟨by rw [show n = σ.1 (11 + 2 * k) by omega], ht⟩, hS.F ht⟩) hS.2.2 d_P_centsOn_54
  · have c_1 : ¬ (σ.1 (11 + 2 * k)) ≤ n := fun z => c_1 ((nLE (a := σ.1 (11 + 2 * k)) (b := n) (by omega) (by omega)).mpr z)
    refine lv_iload_n hx hb d_P_centsOn_19 rfl (lv_at hl 4 rfl) ?_
    refine lv_bipush (v := 6) hx hb d_P_centsOn_20 (by decide) ?_
    refine lv_imul hx hb d_P_centsOn_22 ?_
    refine lv_iload hx hb d_P_centsOn_23 (lv_at hl 0 rfl) ?_
    refine lv_iadd hx hb d_P_centsOn_25 ?_
    refine lv_istore (lv' := [(7, .int (((nI k) * 6) + (nI n))), (6, .int (nI n)), (5, .int (nI (σ.1 (11 + 2 * k)))), (3, .long (prN σ k d n)), (0, .ref (ad 4)), (1, .int (nI k)), (2, .int d)]) hx hb d_P_centsOn_26 hl (by decide) rfl (fun ls hl => ?_)
    refine lv_aload_n hx hb d_P_centsOn_28 rfl (lv_at hl 4 rfl) ?_
    refine xr_get (ci := 4) (v := .ref (ad 6)) (C := R_P) (T := T_P) (N := 3) hx hb htw in_P hown hK hw 4 r4 rfl rfl 1 (by decide) (htw _ u_30) (fun _ h9 => h9) rfl d_P_centsOn_29 ?_
    refine lv_iload hx hb d_P_centsOn_32 (lv_at hl 0 rfl) ?_
    refine xr_iald (i := ((nI k) * 6) + (nI n)) hx hb hK hw 6 0 r6 rfl rfl (xvin (a := (k * 6) + n) (xadd (a := k * 6) (b := n) (xmul (a := k) (b := 6) rfl rfl) rfl) (by omega) (by omega)) d_P_centsOn_34 ?_
    refine lv_topi (fun x_2 ex_2 => ?_)
    obtain rfl : x_2 = (σ.2.1 40) ((k * 6) + n) := ex_2.trans ((congrArg (σ.2.1 40) (xcl (a := (k * 6) + n) (xadd (a := k * 6) (b := n) (xmul (a := k) (b := 6) rfl rfl) rfl) (by omega))).trans rfl)
    refine lv_iload_n hx hb d_P_centsOn_35 rfl (lv_at hl 6 rfl) ?_
    refine lv_icmp_gt (tgt := 47) hx hb d_P_centsOn_36 (by decide) (fun c_3 => ?_) (fun c_3 => ?_)
    · refine lv_iinc (v := nI n + 1) (lv' := [(6, .int (nI n + 1)), (7, .int (((nI k) * 6) + (nI n))), (5, .int (nI (σ.1 (11 + 2 * k)))), (3, .long (prN σ k d n)), (0, .ref (ad 4)), (1, .int (nI k)), (2, .int d)]) hx hb d_P_centsOn_47 hl (k := 1) rfl rfl (by decide) rfl (fun ls hl => ?_)
      refine lv_goto (tgt := 12) hx hb d_P_centsOn_50 (by decide) ?_
      refine ih (by omega) _ _ _ ⟨rfl, hS, ?_⟩
      have hn1 : prN σ k d (n + 1) = prN σ k d n := by simp [prN, c_3, Int32.not_le.mpr c_3]
      have hn2 : nI (n + 1) = nI n + 1 := by rw [nI_succ]
      rw [hn1, hn2]
      exact lv_sub hl [0, 2, 3, 4, 5, 6] rfl
    · refine lv_aload_n hx hb d_P_centsOn_39 rfl (lv_at hl 4 rfl) ?_
      refine xr_get (ci := 4) (v := .ref (ad 7)) (C := R_P) (T := T_P) (N := 3) hx hb htw in_P hown hK hw 4 r4 rfl rfl 2 (by decide) (htw _ u_31) (fun _ h9 => h9) rfl d_P_centsOn_40 ?_
      refine lv_iload hx hb d_P_centsOn_43 (lv_at hl 0 rfl) ?_
      refine xr_lald (i := ((nI k) * 6) + (nI n)) hx hb hK hw 7 1 r7 rfl rfl (xvin (a := (k * 6) + n) (xadd (a := k * 6) (b := n) (xmul (a := k) (b := 6) rfl rfl) rfl) (by omega) (by omega)) d_P_centsOn_45 ?_
      refine lv_topl (fun x_4 ex_4 => ?_)
      obtain rfl : x_4 = (σ.2.2.1 40) ((k * 6) + n) := ex_4.trans ((congrArg (σ.2.2.1 40) (xcl (a := (k * 6) + n) (xadd (a := k * 6) (b := n) (xmul (a := k) (b := 6) rfl rfl) rfl) (by omega))).trans rfl)
      refine lv_lstore_n (lv' := [(3, .long ((σ.2.2.1 40) ((k * 6) + n))), (7, .int (((nI k) * 6) + (nI n))), (6, .int (nI n)), (5, .int (nI (σ.1 (11 + 2 * k)))), (0, .ref (ad 4)), (1, .int (nI k)), (2, .int d)]) hx hb d_P_centsOn_46 rfl hl (by decide) rfl (fun ls hl => ?_)
      refine lv_iinc (v := nI n + 1) (lv' := [(6, .int (nI n + 1)), (3, .long ((σ.2.2.1 40) ((k * 6) + n))), (7, .int (((nI k) * 6) + (nI n))), (5, .int (nI (σ.1 (11 + 2 * k)))), (0, .ref (ad 4)), (1, .int (nI k)), (2, .int d)]) hx hb d_P_centsOn_47 hl (k := 2) rfl rfl (by decide) rfl (fun ls hl => ?_)
      refine lv_goto (tgt := 12) hx hb d_P_centsOn_50 (by decide) ?_
      refine ih (by omega) _ _ _ ⟨rfl, hS, ?_⟩
      have hn1 : prN σ k d (n + 1) = (σ.2.2.1 40) ((k * 6) + n) := by simp [prN, c_3, Int32.not_lt.mp c_3]
      have hn2 : nI (n + 1) = nI n + 1 := by rw [nI_succ]
      rw [hn1, hn2]
      exact lv_sub hl [0, 3, 1, 4, 5, 6] rfl
set_option maxHeartbeats 4000000 in
set_option maxRecDepth 100000 in
theorem c_P_centsFor {l : Launch} {D : va_G} {K : Nat → ClassId} {B : Nat} {ad : Nat → Nat} {w : Nat → Option va_E} {H : Heap} {σ : xS} (hR : RepX K σ ad w) (hI : Inv σ) (hw : xw D vwCl B ad w H) (t : Nat) (A : Nat → Int64) (hA : w t = some (.inl (K 1, 4, .inr (.inl A)))) (x2 : Int32) : xC l D K B y_P_centsFor b_P_centsFor 10 (some .long) rm_P_centsFor [.ref (ad 4), .ref (ad t), .int x2] H (fun v H1 => v = some (.long (wor σ A x2)) ∧ H1 = H) := by
  refine Met.ofW (cc := b_P_centsFor) (maxL := 10) (ret := (some .long)) (by decide) rfl ?_
  intro p e s m args below meth c s₁ B0 hml hv
  obtain ⟨rfl, hsz, hK, hN⟩ := hv
  have hx := B0.exec
  have hb := B0.bytes
  have hr := B0.returns
  have htw : ∀ w ∈ xW0, w.before [.ref (ad 4), .ref (ad t), .int x2].toArray s = true := fun w h => atoms_spec (ws := Cond.code y_P_centsFor b_P_centsFor 10 (some .long) :: xW0) B0.pre w (List.mem_cons_of_mem _ h)
  have hown : s.vm.findClass R_P = some m.cls := findClass_of_methodNamed B0.named
  have hlocks := B0.notSynchronized
  subst hsz
  have hS : va_S (fun q => B ≤ q) s.heap s.heap [] := va_S.rf
  have hl := lv_entry ([.ref (ad 4), .ref (ad t), .int x2]) (n := 10) (Nat.le_of_ble_eq_true rfl)
  rw [lg_entry_eq]
  generalize (lg_sl ([.ref (ad 4), .ref (ad t), .int x2]) ++ List.replicate (10 - (lg_sl ([.ref (ad 4), .ref (ad t), .int x2])).length) Slot.unset).toArray = ls at hl ⊢
  have hl : lv_has ls 10 [(0, .ref (ad 4)), (1, .ref (ad t)), (2, .int x2)] := hl
  have hH : s.heap = s.heap := rfl
  obtain ⟨r0, r1, r2, r3, r4, r5, r6, r7, rb, rba, rbt, rbo, rs, rss, rr⟩ := id hR
  obtain ⟨hnb, hns, hnr, hpc, hst, hto, htl, hrm, hpa, hwt, hdf, hds⟩ := id hI
  refine lv_lconst (v := 0) hx hb d_P_centsFor_0 (by decide) ?_
  refine lv_lstore_n (lv' := [(3, .long 0), (0, .ref (ad 4)), (1, .ref (ad t)), (2, .int x2)]) hx hb d_P_centsFor_1 rfl hl (by decide) rfl (fun ls hl => ?_)
  refine lv_lconst (v := 0) hx hb d_P_centsFor_2 (by decide) ?_
  refine lv_lstore (lv' := [(5, .long 0), (3, .long 0), (0, .ref (ad 4)), (1, .ref (ad t)), (2, .int x2)]) hx hb d_P_centsFor_3 hl (by decide) rfl (fun ls hl => ?_)
  refine lv_iconst (v := 0) hx hb d_P_centsFor_5 (by decide) ?_
  refine lv_istore (lv' := [(7, .int 0), (5, .long 0), (3, .long 0), (0, .ref (ad 4)), (1, .ref (ad t)), (2, .int x2)]) hx hb d_P_centsFor_6 hl (by decide) rfl (fun ls hl => ?_)
  refine lv_iload hx hb d_P_centsFor_8 (lv_at hl 0 rfl) ?_
  refine lv_iconst (v := 4) hx hb d_P_centsFor_10 (by decide) ?_
  refine lv_icmp_ge (tgt := 66) hx hb d_P_centsFor_11 (by decide) (fun c_1 => absurd c_1 (by decide)) (fun c_1 => ?_)
  refine lv_iload hx hb d_P_centsFor_14 (lv_at hl 0 rfl) ?_
  refine lv_aload_n hx hb d_P_centsFor_16 rfl (lv_at hl 4 rfl) ?_
  refine xr_alen (v := 4) hx hb hK hw t 1 hA rfl rfl rfl d_P_centsFor_17 ?_
  refine lv_icmp_ge (tgt := 66) hx hb d_P_centsFor_18 (by decide) (fun c_2 => absurd c_2 (by decide)) (fun c_2 => ?_)
  refine lv_aload_n hx hb d_P_centsFor_21 rfl (lv_at hl 3 rfl) ?_
  refine lv_iload hx hb d_P_centsFor_22 (lv_at hl 0 rfl) ?_
  refine lv_iload_n hx hb d_P_centsFor_24 rfl (lv_at hl 5 rfl) ?_
  refine xr_call (va_runV (As := [.int 0, .int x2]) (rest := []) ⟨hx, hb, hml, hown, htw⟩ (c_P_centsOn (ad := ad) hR hI hw 0 (by omega) x2) (cwV 2 htw (gV u_225 u_227 us_5 u_2 u_228) rfl rfl rfl hd_P_centsOn ⟨Nat.le_of_ble_eq_true rfl, Nat.le_of_ble_eq_true rfl⟩) ⟨xP_blind, hw.recv hK (ci := 4) (t := 4) rfl r4 rfl, xP_of hK hN⟩ rfl rfl hl.1 rfl (lv_room (Nat.le_of_ble_eq_true rfl)) d_P_centsFor_25 ⟨by decide, by decide⟩) hS (fun v H_ locs hp hS => ?_)
  obtain ⟨rfl, hHe⟩ := hp
  rw [hHe] at hS ⊢
  refine W.eq (g2 := F0 m 28 ls [.long (pr σ x2 0)]) rfl ?_
  refine lv_lstore (lv' := [(8, .long (pr σ x2 0)), (7, .int 0), (5, .long 0), (3, .long 0), (0, .ref (ad 4)), (1, .ref (ad t)), (2, .int x2)]) hx hb d_P_centsFor_28 hl (by decide) rfl (fun ls hl => ?_)
  refine lv_lload_n hx hb d_P_centsFor_30 rfl (lv_at hl 3 rfl) ?_
  refine lv_aload_n hx hb d_P_centsFor_31 rfl (lv_at hl 5 rfl) ?_
  refine lv_iload hx hb d_P_centsFor_32 (lv_at hl 1 rfl) ?_
  refine xr_lald (i := 0) hx hb hK hw t 1 hA rfl rfl (by unfold vp_in; decide) d_P_centsFor_34 ?_
  refine lv_topl (fun x_3 ex_3 => ?_)
  obtain rfl : x_3 = A 0 := ex_3.trans ((congrArg A ((rfl : (0 : Int32).toNatClampNeg = 0))).trans rfl)
  refine lv_ldc2 (v := 1000000) hx hb hown (htw _ u_229) d_P_centsFor_35 ?_
  refine lv_ldiv hx hb d_P_centsFor_38 (by decide) ?_
  refine lv_lload hx hb d_P_centsFor_39 (lv_at hl 0 rfl) ?_
  refine lv_lmul hx hb d_P_centsFor_41 ?_
  refine lv_ladd hx hb d_P_centsFor_42 ?_
  refine lv_lstore_n (lv' := [(3, .long (0 + (((A 0) / 1000000) * (pr σ x2 0)))), (8, .long (pr σ x2 0)), (7, .int 0), (5, .long 0), (0, .ref (ad 4)), (1, .ref (ad t)), (2, .int x2)]) hx hb d_P_centsFor_43 rfl hl (by decide) rfl (fun ls hl => ?_)
  refine lv_lload hx hb d_P_centsFor_44 (lv_at hl 3 rfl) ?_
  refine lv_aload_n hx hb d_P_centsFor_46 rfl (lv_at hl 5 rfl) ?_
  refine lv_iload hx hb d_P_centsFor_47 (lv_at hl 2 rfl) ?_
  refine xr_lald (i := 0) hx hb hK hw t 1 hA rfl rfl (by unfold vp_in; decide) d_P_centsFor_49 ?_
  refine lv_topl (fun x_4 ex_4 => ?_)
  obtain rfl : x_4 = A 0 := ex_4.trans ((congrArg A ((rfl : (0 : Int32).toNatClampNeg = 0))).trans rfl)
  refine lv_ldc2 (v := 1000000) hx hb hown (htw _ u_229) d_P_centsFor_50 ?_
  refine lv_lrem hx hb d_P_centsFor_53 (by decide) ?_
  refine lv_lload hx hb d_P_centsFor_54 (lv_at hl 1 rfl) ?_
  refine lv_lmul hx hb d_P_centsFor_56 ?_
  refine lv_ladd hx hb d_P_centsFor_57 ?_
  refine lv_lstore (lv' := [(5, .long (0 + (((A 0) - (A 0) / 1000000 * 1000000) * (pr σ x2 0)))), (3, .long (0 + (((A 0) / 1000000) * (pr σ x2 0)))), (8, .long (pr σ x2 0)), (7, .int 0), (0, .ref (ad 4)), (1, .ref (ad t)), (2, .int x2)]) hx hb d_P_centsFor_58 hl (by decide) rfl (fun ls hl => ?_)
  refine lv_iinc (v := 1) (lv' := [(7, .int 1), (5, .long (0 + (((A 0) - (A 0) / 1000000 * 1000000) * (pr σ x2 0)))), (3, .long (0 + (((A 0) / 1000000) * (pr σ x2 0)))), (8, .long (pr σ x2 0)), (0, .ref (ad 4)), (1, .ref (ad t)), (2, .int x2)]) hx hb d_P_centsFor_60 hl (k := 3) rfl (by decide) (by decide) rfl (fun ls hl => ?_)
  refine lv_goto (tgt := 8) hx hb d_P_centsFor_63 (by decide) ?_
  refine lv_iload hx hb d_P_centsFor_8 (lv_at hl 0 rfl) ?_
  refine lv_iconst (v := 4) hx hb d_P_centsFor_10 (by decide) ?_
  refine lv_icmp_ge (tgt := 66) hx hb d_P_centsFor_11 (by decide) (fun c_5 => absurd c_5 (by decide)) (fun c_5 => ?_)
  refine lv_iload hx hb d_P_centsFor_14 (lv_at hl 0 rfl) ?_
  refine lv_aload_n hx hb d_P_centsFor_16 rfl (lv_at hl 5 rfl) ?_
  refine xr_alen (v := 4) hx hb hK hw t 1 hA rfl rfl rfl d_P_centsFor_17 ?_
  refine lv_icmp_ge (tgt := 66) hx hb d_P_centsFor_18 (by decide) (fun c_6 => absurd c_6 (by decide)) (fun c_6 => ?_)
  refine lv_aload_n hx hb d_P_centsFor_21 rfl (lv_at hl 4 rfl) ?_
  refine lv_iload hx hb d_P_centsFor_22 (lv_at hl 0 rfl) ?_
  refine lv_iload_n hx hb d_P_centsFor_24 rfl (lv_at hl 6 rfl) ?_
  refine xr_call (va_runV (As := [.int 1, .int x2]) (rest := []) ⟨hx, hb, hml, hown, htw⟩ (c_P_centsOn (ad := ad) hR hI hw 1 (by omega) x2) (cwV 2 htw (gV u_225 u_227 us_5 u_2 u_228) rfl rfl rfl hd_P_centsOn ⟨Nat.le_of_ble_eq_true rfl, Nat.le_of_ble_eq_true rfl⟩) ⟨xP_blind, hw.recv hK (ci := 4) (t := 4) rfl r4 rfl, xP_of hK hN⟩ rfl rfl hl.1 rfl (lv_room (Nat.le_of_ble_eq_true rfl)) d_P_centsFor_25 ⟨by decide, by decide⟩) hS (fun v H_ locs hp hS => ?_)
  obtain ⟨rfl, hHe⟩ := hp
  rw [hHe] at hS ⊢
  refine W.eq (g2 := F0 m 28 ls [.long (pr σ x2 1)]) rfl ?_
  refine lv_lstore (lv' := [(8, .long (pr σ x2 1)), (7, .int 1), (5, .long (0 + (((A 0) - (A 0) / 1000000 * 1000000) * (pr σ x2 0)))), (3, .long (0 + (((A 0) / 1000000) * (pr σ x2 0)))), (0, .ref (ad 4)), (1, .ref (ad t)), (2, .int x2)]) hx hb d_P_centsFor_28 hl (by decide) rfl (fun ls hl => ?_)
  refine lv_lload_n hx hb d_P_centsFor_30 rfl (lv_at hl 3 rfl) ?_
  refine lv_aload_n hx hb d_P_centsFor_31 rfl (lv_at hl 5 rfl) ?_
  refine lv_iload hx hb d_P_centsFor_32 (lv_at hl 1 rfl) ?_
  refine xr_lald (i := 1) hx hb hK hw t 1 hA rfl rfl (by unfold vp_in; decide) d_P_centsFor_34 ?_
  refine lv_topl (fun x_7 ex_7 => ?_)
  obtain rfl : x_7 = A 1 := ex_7.trans ((congrArg A ((rfl : (1 : Int32).toNatClampNeg = 1))).trans rfl)
  refine lv_ldc2 (v := 1000000) hx hb hown (htw _ u_229) d_P_centsFor_35 ?_
  refine lv_ldiv hx hb d_P_centsFor_38 (by decide) ?_
  refine lv_lload hx hb d_P_centsFor_39 (lv_at hl 0 rfl) ?_
  refine lv_lmul hx hb d_P_centsFor_41 ?_
  refine lv_ladd hx hb d_P_centsFor_42 ?_
  refine lv_lstore_n (lv' := [(3, .long ((0 + (((A 0) / 1000000) * (pr σ x2 0))) + (((A 1) / 1000000) * (pr σ x2 1)))), (8, .long (pr σ x2 1)), (7, .int 1), (5, .long (0 + (((A 0) - (A 0) / 1000000 * 1000000) * (pr σ x2 0)))), (0, .ref (ad 4)), (1, .ref (ad t)), (2, .int x2)]) hx hb d_P_centsFor_43 rfl hl (by decide) rfl (fun ls hl => ?_)
  refine lv_lload hx hb d_P_centsFor_44 (lv_at hl 3 rfl) ?_
  refine lv_aload_n hx hb d_P_centsFor_46 rfl (lv_at hl 5 rfl) ?_
  refine lv_iload hx hb d_P_centsFor_47 (lv_at hl 2 rfl) ?_
  refine xr_lald (i := 1) hx hb hK hw t 1 hA rfl rfl (by unfold vp_in; decide) d_P_centsFor_49 ?_
  refine lv_topl (fun x_8 ex_8 => ?_)
  obtain rfl : x_8 = A 1 := ex_8.trans ((congrArg A ((rfl : (1 : Int32).toNatClampNeg = 1))).trans rfl)
  refine lv_ldc2 (v := 1000000) hx hb hown (htw _ u_229) d_P_centsFor_50 ?_
  refine lv_lrem hx hb d_P_centsFor_53 (by decide) ?_
  refine lv_lload hx hb d_P_centsFor_54 (lv_at hl 1 rfl) ?_
  refine lv_lmul hx hb d_P_centsFor_56 ?_
  refine lv_ladd hx hb d_P_centsFor_57 ?_
  refine lv_lstore (lv' := [(5, .long ((0 + (((A 0) - (A 0) / 1000000 * 1000000) * (pr σ x2 0))) + (((A 1) - (A 1) / 1000000 * 1000000) * (pr σ x2 1)))), (3, .long ((0 + (((A 0) / 1000000) * (pr σ x2 0))) + (((A 1) / 1000000) * (pr σ x2 1)))), (8, .long (pr σ x2 1)), (7, .int 1), (0, .ref (ad 4)), (1, .ref (ad t)), (2, .int x2)]) hx hb d_P_centsFor_58 hl (by decide) rfl (fun ls hl => ?_)
  refine lv_iinc (v := 2) (lv' := [(7, .int 2), (5, .long ((0 + (((A 0) - (A 0) / 1000000 * 1000000) * (pr σ x2 0))) + (((A 1) - (A 1) / 1000000 * 1000000) * (pr σ x2 1)))), (3, .long ((0 + (((A 0) / 1000000) * (pr σ x2 0))) + (((A 1) / 1000000) * (pr σ x2 1)))), (8, .long (pr σ x2 1)), (0, .ref (ad 4)), (1, .ref (ad t)), (2, .int x2)]) hx hb d_P_centsFor_60 hl (k := 3) rfl (by decide) (by decide) rfl (fun ls hl => ?_)
  refine lv_goto (tgt := 8) hx hb d_P_centsFor_63 (by decide) ?_
  refine lv_iload hx hb d_P_centsFor_8 (lv_at hl 0 rfl) ?_
  refine lv_iconst (v := 4) hx hb d_P_centsFor_10 (by decide) ?_
  refine lv_icmp_ge (tgt := 66) hx hb d_P_centsFor_11 (by decide) (fun c_9 => absurd c_9 (by decide)) (fun c_9 => ?_)
  refine lv_iload hx hb d_P_centsFor_14 (lv_at hl 0 rfl) ?_
  refine lv_aload_n hx hb d_P_centsFor_16 rfl (lv_at hl 5 rfl) ?_
  refine xr_alen (v := 4) hx hb hK hw t 1 hA rfl rfl rfl d_P_centsFor_17 ?_
  refine lv_icmp_ge (tgt := 66) hx hb d_P_centsFor_18 (by decide) (fun c_10 => absurd c_10 (by decide)) (fun c_10 => ?_)
  refine lv_aload_n hx hb d_P_centsFor_21 rfl (lv_at hl 4 rfl) ?_
  refine lv_iload hx hb d_P_centsFor_22 (lv_at hl 0 rfl) ?_
  refine lv_iload_n hx hb d_P_centsFor_24 rfl (lv_at hl 6 rfl) ?_
  refine xr_call (va_runV (As := [.int 2, .int x2]) (rest := []) ⟨hx, hb, hml, hown, htw⟩ (c_P_centsOn (ad := ad) hR hI hw 2 (by omega) x2) (cwV 2 htw (gV u_225 u_227 us_5 u_2 u_228) rfl rfl rfl hd_P_centsOn ⟨Nat.le_of_ble_eq_true rfl, Nat.le_of_ble_eq_true rfl⟩) ⟨xP_blind, hw.recv hK (ci := 4) (t := 4) rfl r4 rfl, xP_of hK hN⟩ rfl rfl hl.1 rfl (lv_room (Nat.le_of_ble_eq_true rfl)) d_P_centsFor_25 ⟨by decide, by decide⟩) hS (fun v H_ locs hp hS => ?_)
  obtain ⟨rfl, hHe⟩ := hp
  rw [hHe] at hS ⊢
  refine W.eq (g2 := F0 m 28 ls [.long (pr σ x2 2)]) rfl ?_
  refine lv_lstore (lv' := [(8, .long (pr σ x2 2)), (7, .int 2), (5, .long ((0 + (((A 0) - (A 0) / 1000000 * 1000000) * (pr σ x2 0))) + (((A 1) - (A 1) / 1000000 * 1000000) * (pr σ x2 1)))), (3, .long ((0 + (((A 0) / 1000000) * (pr σ x2 0))) + (((A 1) / 1000000) * (pr σ x2 1)))), (0, .ref (ad 4)), (1, .ref (ad t)), (2, .int x2)]) hx hb d_P_centsFor_28 hl (by decide) rfl (fun ls hl => ?_)
  refine lv_lload_n hx hb d_P_centsFor_30 rfl (lv_at hl 3 rfl) ?_
  refine lv_aload_n hx hb d_P_centsFor_31 rfl (lv_at hl 5 rfl) ?_
  refine lv_iload hx hb d_P_centsFor_32 (lv_at hl 1 rfl) ?_
  refine xr_lald (i := 2) hx hb hK hw t 1 hA rfl rfl (by unfold vp_in; decide) d_P_centsFor_34 ?_
  refine lv_topl (fun x_11 ex_11 => ?_)
  obtain rfl : x_11 = A 2 := ex_11.trans ((congrArg A ((rfl : (2 : Int32).toNatClampNeg = 2))).trans rfl)
  refine lv_ldc2 (v := 1000000) hx hb hown (htw _ u_229) d_P_centsFor_35 ?_
  refine lv_ldiv hx hb d_P_centsFor_38 (by decide) ?_
  refine lv_lload hx hb d_P_centsFor_39 (lv_at hl 0 rfl) ?_
  refine lv_lmul hx hb d_P_centsFor_41 ?_
  refine lv_ladd hx hb d_P_centsFor_42 ?_
  refine lv_lstore_n (lv' := [(3, .long (((0 + (((A 0) / 1000000) * (pr σ x2 0))) + (((A 1) / 1000000) * (pr σ x2 1))) + (((A 2) / 1000000) * (pr σ x2 2)))), (8, .long (pr σ x2 2)), (7, .int 2), (5, .long ((0 + (((A 0) - (A 0) / 1000000 * 1000000) * (pr σ x2 0))) + (((A 1) - (A 1) / 1000000 * 1000000) * (pr σ x2 1)))), (0, .ref (ad 4)), (1, .ref (ad t)), (2, .int x2)]) hx hb d_P_centsFor_43 rfl hl (by decide) rfl (fun ls hl => ?_)
  refine lv_lload hx hb d_P_centsFor_44 (lv_at hl 3 rfl) ?_
  refine lv_aload_n hx hb d_P_centsFor_46 rfl (lv_at hl 5 rfl) ?_
  refine lv_iload hx hb d_P_centsFor_47 (lv_at hl 2 rfl) ?_
  refine xr_lald (i := 2) hx hb hK hw t 1 hA rfl rfl (by unfold vp_in; decide) d_P_centsFor_49 ?_
  refine lv_topl (fun x_12 ex_12 => ?_)
  obtain rfl : x_12 = A 2 := ex_12.trans ((congrArg A ((rfl : (2 : Int32).toNatClampNeg = 2))).trans rfl)
  refine lv_ldc2 (v := 1000000) hx hb hown (htw _ u_229) d_P_centsFor_50 ?_
  refine lv_lrem hx hb d_P_centsFor_53 (by decide) ?_
  refine lv_lload hx hb d_P_centsFor_54 (lv_at hl 1 rfl) ?_
  refine lv_lmul hx hb d_P_centsFor_56 ?_
  refine lv_ladd hx hb d_P_centsFor_57 ?_
  refine lv_lstore (lv' := [(5, .long (((0 + (((A 0) - (A 0) / 1000000 * 1000000) * (pr σ x2 0))) + (((A 1) - (A 1) / 1000000 * 1000000) * (pr σ x2 1))) + (((A 2) - (A 2) / 1000000 * 1000000) * (pr σ x2 2)))), (3, .long (((0 + (((A 0) / 1000000) * (pr σ x2 0))) + (((A 1) / 1000000) * (pr σ x2 1))) + (((A 2) / 1000000) * (pr σ x2 2)))), (8, .long (pr σ x2 2)), (7, .int 2), (0, .ref (ad 4)), (1, .ref (ad t)), (2, .int x2)]) hx hb d_P_centsFor_58 hl (by decide) rfl (fun ls hl => ?_)
  refine lv_iinc (v := 3) (lv' := [(7, .int 3), (5, .long (((0 + (((A 0) - (A 0) / 1000000 * 1000000) * (pr σ x2 0))) + (((A 1) - (A 1) / 1000000 * 1000000) * (pr σ x2 1))) + (((A 2) - (A 2) / 1000000 * 1000000) * (pr σ x2 2)))), (3, .long (((0 + (((A 0) / 1000000) * (pr σ x2 0))) + (((A 1) / 1000000) * (pr σ x2 1))) + (((A 2) / 1000000) * (pr σ x2 2)))), (8, .long (pr σ x2 2)), (0, .ref (ad 4)), (1, .ref (ad t)), (2, .int x2)]) hx hb d_P_centsFor_60 hl (k := 3) rfl (by decide) (by decide) rfl (fun ls hl => ?_)
  refine lv_goto (tgt := 8) hx hb d_P_centsFor_63 (by decide) ?_
  refine lv_iload hx hb d_P_centsFor_8 (lv_at hl 0 rfl) ?_
  refine lv_iconst (v := 4) hx hb d_P_centsFor_10 (by decide) ?_
  refine lv_icmp_ge (tgt := 66) hx hb d_P_centsFor_11 (by decide) (fun c_13 => absurd c_13 (by decide)) (fun c_13 => ?_)
  refine lv_iload hx hb d_P_centsFor_14 (lv_at hl 0 rfl) ?_
  refine lv_aload_n hx hb d_P_centsFor_16 rfl (lv_at hl 5 rfl) ?_
  refine xr_alen (v := 4) hx hb hK hw t 1 hA rfl rfl rfl d_P_centsFor_17 ?_
  refine lv_icmp_ge (tgt := 66) hx hb d_P_centsFor_18 (by decide) (fun c_14 => absurd c_14 (by decide)) (fun c_14 => ?_)
  refine lv_aload_n hx hb d_P_centsFor_21 rfl (lv_at hl 4 rfl) ?_
  refine lv_iload hx hb d_P_centsFor_22 (lv_at hl 0 rfl) ?_
  refine lv_iload_n hx hb d_P_centsFor_24 rfl (lv_at hl 6 rfl) ?_
  refine xr_call (va_runV (As := [.int 3, .int x2]) (rest := []) ⟨hx, hb, hml, hown, htw⟩ (c_P_centsOn (ad := ad) hR hI hw 3 (by omega) x2) (cwV 2 htw (gV u_225 u_227 us_5 u_2 u_228) rfl rfl rfl hd_P_centsOn ⟨Nat.le_of_ble_eq_true rfl, Nat.le_of_ble_eq_true rfl⟩) ⟨xP_blind, hw.recv hK (ci := 4) (t := 4) rfl r4 rfl, xP_of hK hN⟩ rfl rfl hl.1 rfl (lv_room (Nat.le_of_ble_eq_true rfl)) d_P_centsFor_25 ⟨by decide, by decide⟩) hS (fun v H_ locs hp hS => ?_)
  obtain ⟨rfl, hHe⟩ := hp
  rw [hHe] at hS ⊢
  refine W.eq (g2 := F0 m 28 ls [.long (pr σ x2 3)]) rfl ?_
  refine lv_lstore (lv' := [(8, .long (pr σ x2 3)), (7, .int 3), (5, .long (((0 + (((A 0) - (A 0) / 1000000 * 1000000) * (pr σ x2 0))) + (((A 1) - (A 1) / 1000000 * 1000000) * (pr σ x2 1))) + (((A 2) - (A 2) / 1000000 * 1000000) * (pr σ x2 2)))), (3, .long (((0 + (((A 0) / 1000000) * (pr σ x2 0))) + (((A 1) / 1000000) * (pr σ x2 1))) + (((A 2) / 1000000) * (pr σ x2 2)))), (0, .ref (ad 4)), (1, .ref (ad t)), (2, .int x2)]) hx hb d_P_centsFor_28 hl (by decide) rfl (fun ls hl => ?_)
  refine lv_lload_n hx hb d_P_centsFor_30 rfl (lv_at hl 3 rfl) ?_
  refine lv_aload_n hx hb d_P_centsFor_31 rfl (lv_at hl 5 rfl) ?_
  refine lv_iload hx hb d_P_centsFor_32 (lv_at hl 1 rfl) ?_
  refine xr_lald (i := 3) hx hb hK hw t 1 hA rfl rfl (by unfold vp_in; decide) d_P_centsFor_34 ?_
  refine lv_topl (fun x_15 ex_15 => ?_)
  obtain rfl : x_15 = A 3 := ex_15.trans ((congrArg A ((rfl : (3 : Int32).toNatClampNeg = 3))).trans rfl)
  refine lv_ldc2 (v := 1000000) hx hb hown (htw _ u_229) d_P_centsFor_35 ?_
  refine lv_ldiv hx hb d_P_centsFor_38 (by decide) ?_
  refine lv_lload hx hb d_P_centsFor_39 (lv_at hl 0 rfl) ?_
  refine lv_lmul hx hb d_P_centsFor_41 ?_
  refine lv_ladd hx hb d_P_centsFor_42 ?_
  refine lv_lstore_n (lv' := [(3, .long ((((0 + (((A 0) / 1000000) * (pr σ x2 0))) + (((A 1) / 1000000) * (pr σ x2 1))) + (((A 2) / 1000000) * (pr σ x2 2))) + (((A 3) / 1000000) * (pr σ x2 3)))), (8, .long (pr σ x2 3)), (7, .int 3), (5, .long (((0 + (((A 0) - (A 0) / 1000000 * 1000000) * (pr σ x2 0))) + (((A 1) - (A 1) / 1000000 * 1000000) * (pr σ x2 1))) + (((A 2) - (A 2) / 1000000 * 1000000) * (pr σ x2 2)))), (0, .ref (ad 4)), (1, .ref (ad t)), (2, .int x2)]) hx hb d_P_centsFor_43 rfl hl (by decide) rfl (fun ls hl => ?_)
  refine lv_lload hx hb d_P_centsFor_44 (lv_at hl 3 rfl) ?_
  refine lv_aload_n hx hb d_P_centsFor_46 rfl (lv_at hl 5 rfl) ?_
  refine lv_iload hx hb d_P_centsFor_47 (lv_at hl 2 rfl) ?_
  refine xr_lald (i := 3) hx hb hK hw t 1 hA rfl rfl (by unfold vp_in; decide) d_P_centsFor_49 ?_
  refine lv_topl (fun x_16 ex_16 => ?_)
  obtain rfl : x_16 = A 3 := ex_16.trans ((congrArg A ((rfl : (3 : Int32).toNatClampNeg = 3))).trans rfl)
  refine lv_ldc2 (v := 1000000) hx hb hown (htw _ u_229) d_P_centsFor_50 ?_
  refine lv_lrem hx hb d_P_centsFor_53 (by decide) ?_
  refine lv_lload hx hb d_P_centsFor_54 (lv_at hl 1 rfl) ?_
  refine lv_lmul hx hb d_P_centsFor_56 ?_
  refine lv_ladd hx hb d_P_centsFor_57 ?_
  refine lv_lstore (lv' := [(5, .long ((((0 + (((A 0) - (A 0) / 1000000 * 1000000) * (pr σ x2 0))) + (((A 1) - (A 1) / 1000000 * 1000000) * (pr σ x2 1))) + (((A 2) - (A 2) / 1000000 * 1000000) * (pr σ x2 2))) + (((A 3) - (A 3) / 1000000 * 1000000) * (pr σ x2 3)))), (3, .long ((((0 + (((A 0) / 1000000) * (pr σ x2 0))) + (((A 1) / 1000000) * (pr σ x2 1))) + (((A 2) / 1000000) * (pr σ x2 2))) + (((A 3) / 1000000) * (pr σ x2 3)))), (8, .long (pr σ x2 3)), (7, .int 3), (0, .ref (ad 4)), (1, .ref (ad t)), (2, .int x2)]) hx hb d_P_centsFor_58 hl (by decide) rfl (fun ls hl => ?_)
  refine lv_iinc (v := 4) (lv' := [(7, .int 4), (5, .long ((((0 + (((A 0) - (A 0) / 1000000 * 1000000) * (pr σ x2 0))) + (((A 1) - (A 1) / 1000000 * 1000000) * (pr σ x2 1))) + (((A 2) - (A 2) / 1000000 * 1000000) * (pr σ x2 2))) + (((A 3) - (A 3) / 1000000 * 1000000) * (pr σ x2 3)))), (3, .long ((((0 + (((A 0) / 1000000) * (pr σ x2 0))) + (((A 1) / 1000000) * (pr σ x2 1))) + (((A 2) / 1000000) * (pr σ x2 2))) + (((A 3) / 1000000) * (pr σ x2 3)))), (8, .long (pr σ x2 3)), (0, .ref (ad 4)), (1, .ref (ad t)), (2, .int x2)]) hx hb d_P_centsFor_60 hl (k := 3) rfl (by decide) (by decide) rfl (fun ls hl => ?_)
  refine lv_goto (tgt := 8) hx hb d_P_centsFor_63 (by decide) ?_
  refine lv_iload hx hb d_P_centsFor_8 (lv_at hl 0 rfl) ?_
  refine lv_iconst (v := 4) hx hb d_P_centsFor_10 (by decide) ?_
  refine lv_icmp_ge (tgt := 66) hx hb d_P_centsFor_11 (by decide) (fun c_17 => ?_) (fun c_17 => absurd (by decide) c_17)
  refine lv_lload_n hx hb d_P_centsFor_66 rfl (lv_at hl 2 rfl) ?_
  refine lv_lload hx hb d_P_centsFor_67 (lv_at hl 1 rfl) ?_
  refine lv_ldc2 (v := 1000000) hx hb hown (htw _ u_229) d_P_centsFor_69 ?_
  refine lv_ldiv hx hb d_P_centsFor_72 (by decide) ?_
  refine lv_ladd hx hb d_P_centsFor_73 ?_
  exact W.lret (v := ((((0 + (((A 0) / 1000000) * (pr σ x2 0))) + (((A 1) / 1000000) * (pr σ x2 1))) + (((A 2) / 1000000) * (pr σ x2 2))) + (((A 3) / 1000000) * (pr σ x2 3))) + (((((0 + (((A 0) - (A 0) / 1000000 * 1000000) * (pr σ x2 0))) + (((A 1) - (A 1) / 1000000 * 1000000) * (pr σ x2 1))) + (((A 2) - (A 2) / 1000000 * 1000000) * (pr σ x2 2))) + (((A 3) - (A 3) / 1000000 * 1000000) * (pr σ x2 3))) / 1000000)) hx hb hr (fun t ht _ => ⟨_, rfl, ⟨rfl, ht⟩, hS.F ht⟩) hS.2.2 d_P_centsFor_74
set_option maxHeartbeats 4000000 in
set_option maxRecDepth 100000 in
theorem c_R_fits {l : Launch} {D : va_G} {K : Nat → ClassId} {B : Nat} {ad : Nat → Nat} {w : Nat → Option va_E} {H : Heap} {σ : xS} (hR : RepX K σ ad w) (hI : Inv σ) (hw : xw D vwCl B ad w H) (r : Nat) (hr0 : r < σ.1 2) (i : Nat) (hi : i < σ.1 0) : xC l D K B y_R_fits b_R_fits 5 (some .boolean) rm_R_fits [.ref (ad (160 + r)), .ref (ad (100 + i)), .int (σ.2.1 0 0), .int (σ.2.1 0 1)] H (fun v H1 => v = some (.int (bI (fits_ σ r i))) ∧ H1 = H) := by
  refine Met.ofW (cc := b_R_fits) (maxL := 5) (ret := (some .boolean)) (by decide) rfl ?_
  intro p e s m args below meth c s₁ B0 hml hv
  obtain ⟨rfl, hsz, hK, hN⟩ := hv
  have hx := B0.exec
  have hb := B0.bytes
  have hr := B0.returns
  have htw : ∀ w ∈ xW0, w.before [.ref (ad (160 + r)), .ref (ad (100 + i)), .int (σ.2.1 0 0), .int (σ.2.1 0 1)].toArray s = true := fun w h => atoms_spec (ws := Cond.code y_R_fits b_R_fits 5 (some .boolean) :: xW0) B0.pre w (List.mem_cons_of_mem _ h)
  have hown : s.vm.findClass R_R = some m.cls := findClass_of_methodNamed B0.named
  have hlocks := B0.notSynchronized
  subst hsz
  have hS : va_S (fun q => B ≤ q) s.heap s.heap [] := va_S.rf
  have hl := lv_entry ([.ref (ad (160 + r)), .ref (ad (100 + i)), .int (σ.2.1 0 0), .int (σ.2.1 0 1)]) (n := 5) (Nat.le_of_ble_eq_true rfl)
  rw [lg_entry_eq]
  generalize (lg_sl ([.ref (ad (160 + r)), .ref (ad (100 + i)), .int (σ.2.1 0 0), .int (σ.2.1 0 1)]) ++ List.replicate (5 - (lg_sl ([.ref (ad (160 + r)), .ref (ad (100 + i)), .int (σ.2.1 0 0), .int (σ.2.1 0 1)])).length) Slot.unset).toArray = ls at hl ⊢
  have hl : lv_has ls 5 [(0, .ref (ad (160 + r))), (1, .ref (ad (100 + i))), (2, .int (σ.2.1 0 0)), (3, .int (σ.2.1 0 1))] := hl
  have hH : s.heap = s.heap := rfl
  obtain ⟨r0, r1, r2, r3, r4, r5, r6, r7, rb, rba, rbt, rbo, rs, rss, rr⟩ := id hR
  obtain ⟨hnb, hns, hnr, hpc, hst, hto, htl, hrm, hpa, hwt, hdf, hds⟩ := id hI
  obtain ⟨k, hk, ek⟩ := hrm r hr0
  have xk : xi 4 (nI k) = some k := xi_nI hk (by decide)
  have rrk : w (160 + r) = some (.inr (3, [.int (σ.2.1 6 r), .int (nI k), .int (σ.2.1 8 r), .int (σ.2.1 9 r)])) := by rw [← ek]; exact rr r hr0
  refine lv_aload_n hx hb d_R_fits_0 rfl (lv_at hl 1 rfl) ?_
  refine lv_aload_n hx hb d_R_fits_1 rfl (lv_at hl 0 rfl) ?_
  refine xr_get (ci := 3) (v := .int (nI k)) (C := R_R) (T := T_R) (N := 4) hx hb htw in_R hown hK hw (160 + r) rrk rfl rfl 1 (by decide) (htw _ u_289) (fun _ h9 => h9) rfl d_R_fits_2 ?_
  refine xr_call (va_runV (As := [.int (nI k)]) (rest := []) ⟨hx, hb, hml, hown, htw⟩ (c_B_middleOf (ad := ad) hR hI hw i hi k (by omega)) (cwV 1 htw (gV u_309 u_251 u_252 u_4 u_253) rfl rfl rfl hd_B_middleOf ⟨Nat.le_of_ble_eq_true rfl, Nat.le_of_ble_eq_true rfl⟩) ⟨xP_blind, hw.recv hK (ci := 1) (t := 100 + i) rfl (rb i hi) rfl, xP_of hK hN⟩ rfl rfl hl.1 rfl (lv_room (Nat.le_of_ble_eq_true rfl)) d_R_fits_5 ⟨by decide, by decide⟩) hS (fun v H_ locs hp hS => ?_)
  obtain ⟨rfl, hHe⟩ := hp
  rw [hHe] at hS ⊢
  refine W.eq (g2 := F0 m 8 ls [.int (mid (σ.2.1 (20 + i)) k)]) rfl ?_
  refine lv_istore (lv' := [(4, .int (mid (σ.2.1 (20 + i)) k)), (0, .ref (ad (160 + r))), (1, .ref (ad (100 + i))), (2, .int (σ.2.1 0 0)), (3, .int (σ.2.1 0 1))]) hx hb d_R_fits_8 hl (by decide) rfl (fun ls hl => ?_)
  refine lv_iload hx hb d_R_fits_10 (lv_at hl 0 rfl) ?_
  refine lv_iconst (v := (-1)) hx hb d_R_fits_12 (by decide) ?_
  refine lv_icmp_eq (tgt := 54) hx hb d_R_fits_13 (by decide) (fun c_1 => ?_) (fun c_1 => ?_)
  · refine lv_iconst (v := 0) hx hb d_R_fits_54 (by decide) ?_
    exact W.zret (v := 0) hx hb hr (by decide) (fun t ht _ => ⟨_, rfl, ⟨bI_0 (by simp [fits_, ek, xk, opt_s, c_1]), ht⟩, hS.F ht⟩) hS.2.2 d_R_fits_55
  · refine lv_iload hx hb d_R_fits_16 (lv_at hl 0 rfl) ?_
    refine lv_aload_n hx hb d_R_fits_18 rfl (lv_at hl 1 rfl) ?_
    refine xr_get (ci := 3) (v := .int (σ.2.1 8 r)) (C := R_R) (T := T_R) (N := 4) hx hb htw in_R hown hK hw (160 + r) rrk rfl rfl 2 (by decide) (htw _ u_290) (fun _ h9 => h9) rfl d_R_fits_19 ?_
    refine lv_icmp_gt (tgt := 54) hx hb d_R_fits_22 (by decide) (fun c_2 => ?_) (fun c_2 => ?_)
    · refine lv_iconst (v := 0) hx hb d_R_fits_54 (by decide) ?_
      exact W.zret (v := 0) hx hb hr (by decide) (fun t ht _ => ⟨_, rfl, ⟨bI_0 (by simp [fits_, ek, xk, opt_s, c_1, c_2, Int32.not_le.mpr c_2]), ht⟩, hS.F ht⟩) hS.2.2 d_R_fits_55
    · refine lv_aload_n hx hb d_R_fits_25 rfl (lv_at hl 2 rfl) ?_
      refine lv_aload_n hx hb d_R_fits_26 rfl (lv_at hl 1 rfl) ?_
      refine xr_get (ci := 3) (v := .int (nI k)) (C := R_R) (T := T_R) (N := 4) hx hb htw in_R hown hK hw (160 + r) rrk rfl rfl 1 (by decide) (htw _ u_289) (fun _ h9 => h9) rfl d_R_fits_27 ?_
      refine xr_call (va_runV (As := [.int (nI k)]) (rest := []) ⟨hx, hb, hml, hown, htw⟩ (c_B_spreadOf (ad := ad) hR hI hw i hi k (by omega)) (cwV 1 htw (gV u_310 u_270 u_271 u_4 u_272) rfl rfl rfl hd_B_spreadOf ⟨Nat.le_of_ble_eq_true rfl, Nat.le_of_ble_eq_true rfl⟩) ⟨xP_blind, hw.recv hK (ci := 1) (t := 100 + i) rfl (rb i hi) rfl, xP_of hK hN⟩ rfl rfl hl.1 rfl (lv_room (Nat.le_of_ble_eq_true rfl)) d_R_fits_30 ⟨by decide, by decide⟩) hS (fun v H_ locs hp hS => ?_)
      obtain ⟨rfl, hHe⟩ := hp
      rw [hHe] at hS ⊢
      refine W.eq (g2 := F0 m 33 ls [.int (spr (σ.2.1 (20 + i)) k)]) rfl ?_
      refine lv_iload_n hx hb d_R_fits_33 rfl (lv_at hl 4 rfl) ?_
      refine lv_icmp_gt (tgt := 54) hx hb d_R_fits_34 (by decide) (fun c_3 => ?_) (fun c_3 => ?_)
      · refine lv_iconst (v := 0) hx hb d_R_fits_54 (by decide) ?_
        exact W.zret (v := 0) hx hb hr (by decide) (fun t ht _ => ⟨_, rfl, ⟨bI_0 (by simp [fits_, ek, xk, opt_s, c_1, c_2, Int32.not_lt.mp c_2, c_3, Int32.not_le.mpr c_3]), ht⟩, hS.F ht⟩) hS.2.2 d_R_fits_55
      · refine lv_aload_n hx hb d_R_fits_37 rfl (lv_at hl 1 rfl) ?_
        refine xr_get (ci := 3) (v := .int (σ.2.1 9 r)) (C := R_R) (T := T_R) (N := 4) hx hb htw in_R hown hK hw (160 + r) rrk rfl rfl 3 (by decide) (htw _ u_291) (fun _ h9 => h9) rfl d_R_fits_38 ?_
        refine lv_iload_n hx hb d_R_fits_41 rfl (lv_at hl 3 rfl) ?_
        refine lv_aload_n hx hb d_R_fits_42 rfl (lv_at hl 2 rfl) ?_
        refine xr_get (ci := 1) (v := .int (σ.2.1 1 i)) (C := R_B) (T := T_B) (N := 9) hx hb htw in_B hown hK hw (100 + i) (rb i hi) rfl rfl 0 (by decide) (htw _ u_89) (fun _ h9 => h9) rfl d_R_fits_43 ?_
        refine lv_isub hx hb d_R_fits_46 ?_
        refine lv_icmp_gt (tgt := 54) hx hb d_R_fits_47 (by decide) (fun c_4 => ?_) (fun c_4 => ?_)
        · refine lv_iconst (v := 0) hx hb d_R_fits_54 (by decide) ?_
          exact W.zret (v := 0) hx hb hr (by decide) (fun t ht _ => ⟨_, rfl, ⟨bI_0 (by simp [fits_, ek, xk, opt_s, c_1, c_2, Int32.not_lt.mp c_2, c_3, Int32.not_lt.mp c_3, c_4, Int32.not_le.mpr c_4]), ht⟩, hS.F ht⟩) hS.2.2 d_R_fits_55
        · refine lv_iconst (v := 1) hx hb d_R_fits_50 (by decide) ?_
          refine lv_goto (tgt := 55) hx hb d_R_fits_51 (by decide) ?_
          exact W.zret (v := 1) hx hb hr (by decide) (fun t ht _ => ⟨_, rfl, ⟨bI_1 (by simp [fits_, ek, xk, opt_s, c_1, c_2, Int32.not_lt.mp c_2, c_3, Int32.not_lt.mp c_3, c_4, Int32.not_lt.mp c_4]), ht⟩, hS.F ht⟩) hS.2.2 d_R_fits_55
