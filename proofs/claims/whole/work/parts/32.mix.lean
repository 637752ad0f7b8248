set_option maxHeartbeats 4000000 in
set_option maxRecDepth 100000 in
theorem c_A_mixtureOf {l : Launch} {D : va_G} {K : Nat → ClassId} {B : Nat} {ad : Nat → Nat} {w : Nat → Option va_E} {H : Heap} (hw : xw D vwCl B ad w H) (hB : B ≤ H.size) (ti1 ta1 : Nat) (d1 : Int32) (m1 q1 r1 y1 z1 : Value) (p1 : Nat) (g1 : Int64) (b1 : Bool) (A1 : Nat → Int64) (o1 : w ti1 = some (.inr (1, [.int d1, m1, .ref p1, q1, r1, .long g1, .int (bI b1), y1, z1]))) (n1 : w ta1 = some (.inl (K 1, 4, .inr (.inl A1)))) (hp1 : ad ta1 = p1) (a1 : Nat) (ha1 : ad ti1 = a1) (ti2 ta2 : Nat) (d2 : Int32) (m2 q2 r2 y2 z2 : Value) (p2 : Nat) (g2 : Int64) (b2 : Bool) (A2 : Nat → Int64) (o2 : w ti2 = some (.inr (1, [.int d2, m2, .ref p2, q2, r2, .long g2, .int (bI b2), y2, z2]))) (n2 : w ta2 = some (.inl (K 1, 4, .inr (.inl A2)))) (hp2 : ad ta2 = p2) (a2 : Nat) (ha2 : ad ti2 = a2) (t0 t1 t2 t3 : Nat) (hd : t0 ≠ t1 ∧ t0 ≠ t2 ∧ t0 ≠ t3 ∧ t1 ≠ t2 ∧ t1 ≠ t3 ∧ t2 ≠ t3 ∧ ti1 ≠ t0 ∧ ti1 ≠ t1 ∧ ti1 ≠ t2 ∧ ti1 ≠ t3 ∧ ta1 ≠ t0 ∧ ta1 ≠ t1 ∧ ta1 ≠ t2 ∧ ta1 ≠ t3 ∧ ti2 ≠ t0 ∧ ti2 ≠ t1 ∧ ti2 ≠ t2 ∧ ti2 ≠ t3 ∧ ta2 ≠ t0 ∧ ta2 ≠ t1 ∧ ta2 ≠ t2 ∧ ta2 ≠ t3) : xC l D K B y_A_mixtureOf b_A_mixtureOf 4 (some (.object "AshMetals$Batch")) rm_A_mixtureOf [.ref a1, .ref a2] H (fun v H1 => ∃ (ad1 : Nat → Nat) (w1 : Nat → Option va_E), v = some (.ref (ad1 t0)) ∧ xw D vwCl B ad1 w1 H1 ∧ w1 t0 = some (.inr (1, [.int (mx d1 d2), .int 1, .ref (ad1 t1), .ref (ad1 t2), .ref (ad1 t3), .long (g1 + g2), .int (bI (b1 && b2)), .int 0, .int 0])) ∧ w1 t1 = some (.inl (K 1, 4, .inr (.inl (vp_updL (vp_updL (vp_updL (vp_updL (fun _ => 0) 0 (A1 0 + A2 0)) 1 (A1 1 + A2 1)) 2 (A1 2 + A2 2)) 3 (A1 3 + A2 3))))) ∧ w1 t2 = some (.inl (K 1, 24, .inr (.inl (fun _ => 0)))) ∧ w1 t3 = some (.inl (K 0, 12, .inl (fun _ => -1))) ∧ Fr ad ad1 w w1 [t0, t1, t2, t3]) := by
  refine Met.ofW (cc := b_A_mixtureOf) (maxL := 4) (ret := (some (.object "AshMetals$Batch"))) (by decide) rfl ?_
  intro p e s m args below meth c s₁ B0 hml hv
  obtain ⟨rfl, hsz, hK, hN⟩ := hv
  have hx := B0.exec
  have hb := B0.bytes
  have hr := B0.returns
  have htw : ∀ w ∈ xW0, w.before [.ref a1, .ref a2].toArray s = true := fun w h => atoms_spec (ws := Cond.code y_A_mixtureOf b_A_mixtureOf 4 (some (.object "AshMetals$Batch")) :: xW0) B0.pre w (List.mem_cons_of_mem _ h)
  have hown : s.vm.findClass R_A = some m.cls := findClass_of_methodNamed B0.named
  have hlocks := B0.notSynchronized
  subst hsz
  have hS : va_S (fun q => B ≤ q) s.heap s.heap [] := va_S.rf
  have hl := lv_entry ([.ref a1, .ref a2]) (n := 4) (Nat.le_of_ble_eq_true rfl)
  rw [lg_entry_eq]
  generalize (lg_sl ([.ref a1, .ref a2]) ++ List.replicate (4 - (lg_sl ([.ref a1, .ref a2])).length) Slot.unset).toArray = ls at hl ⊢
  have hl : lv_has ls 4 [(0, .ref a1), (1, .ref a2)] := hl
  have hH : s.heap = s.heap := rfl
  refine xr_new (ci := 1) (fs := [.int 0, .int 0, .null, .null, .null, .long 0, .int 0, .int 0, .int 0]) (C := R_B) (T := T_B) (N := 9) hx hb htw in_B ty_B tk_B hown (htw _ u_17) (htw _ u_80) (htw _ u_4) hK hw hS hB t0 rfl (fun j hj => by rcases (show j = 0 ∨ j = 1 ∨ j = 2 ∨ j = 3 ∨ j = 4 ∨ j = 5 ∨ j = 6 ∨ j = 7 ∨ j = 8 by omega) with rfl | rfl | rfl | rfl | rfl | rfl | rfl | rfl | rfl <;> rfl) (by decide) (by decide) d_A_mixtureOf_0 (fun H ad_2 q_1 eq_1 lq_1 hw hS => ?_)
  have hw : xw D vwCl B ad_2 (xu w t0 (.inr (1, [.int 0, .int 0, .null, .null, .null, .long 0, .int 0, .int 0, .int 0]))) H := hw
  have aq_1 : ad_2 t0 = q_1 := by rw [eq_1]; exact xa_eq
  refine lv_dup hx hb d_A_mixtureOf_3 rfl ?_
  refine lv_aload_n hx hb d_A_mixtureOf_4 rfl (lv_at hl 0 rfl) ?_
  refine xr_get (ci := 1) (v := .long g1) (C := R_B) (T := T_B) (N := 9) hx hb htw in_B hown hK hw ti1 ((xu_ne (by omega)).trans (o1)) ((show ad_2 ti1 = ad ti1 by rw [eq_1]; exact xa_ne (by omega)).trans ha1) rfl 5 (by decide) (htw _ u_100) (fun _ h9 => h9) rfl d_A_mixtureOf_5 ?_
  refine lv_aload_n hx hb d_A_mixtureOf_8 rfl (lv_at hl 1 rfl) ?_
  refine xr_get (ci := 1) (v := .long g2) (C := R_B) (T := T_B) (N := 9) hx hb htw in_B hown hK hw ti2 ((xu_ne (by omega)).trans (o2)) ((show ad_2 ti2 = ad ti2 by rw [eq_1]; exact xa_ne (by omega)).trans ha2) rfl 5 (by decide) (htw _ u_100) (fun _ h9 => h9) rfl d_A_mixtureOf_9 ?_
  refine lv_ladd hx hb d_A_mixtureOf_12 ?_
  refine lv_aload_n hx hb d_A_mixtureOf_13 rfl (lv_at hl 0 rfl) ?_
  refine xr_get (ci := 1) (v := .int d1) (C := R_B) (T := T_B) (N := 9) hx hb htw in_B hown hK hw ti1 ((xu_ne (by omega)).trans (o1)) ((show ad_2 ti1 = ad ti1 by rw [eq_1]; exact xa_ne (by omega)).trans ha1) rfl 0 (by decide) (htw _ u_90) (fun _ h9 => h9) rfl d_A_mixtureOf_14 ?_
  refine lv_aload_n hx hb d_A_mixtureOf_17 rfl (lv_at hl 1 rfl) ?_
  refine xr_get (ci := 1) (v := .int d2) (C := R_B) (T := T_B) (N := 9) hx hb htw in_B hown hK hw ti2 ((xu_ne (by omega)).trans (o2)) ((show ad_2 ti2 = ad ti2 by rw [eq_1]; exact xa_ne (by omega)).trans ha2) rfl 0 (by decide) (htw _ u_90) (fun _ h9 => h9) rfl d_A_mixtureOf_18 ?_
  refine va_mmax hx hb (by rw [hml, hl.1]) hown (htw _ u_318) (htw _ u_263) (htw _ u_7) (htw _ u_264) (Nat.le_of_ble_eq_true rfl) (Nat.le_of_ble_eq_true rfl) (Nat.le_of_ble_eq_true rfl) (Nat.le_of_ble_eq_true rfl) d_A_mixtureOf_21 ?_
  refine lv_topi (fun x_3 ex_3 => ?_)
  obtain rfl : x_3 = mx d1 d2 := ex_3
  refine lv_iconst (v := 1) hx hb d_A_mixtureOf_24 (by decide) ?_
  refine xr_call (va_runI (As := [.long (g1 + g2), .int (mx d1 d2), .int 1]) (rest := [.ref q_1]) ⟨hx, hb, hml, hown, htw⟩ (c_B_init (ad := ad_2) hw t0 t1 t2 t3 (g1 + g2) (mx d1 d2) true (by omega) xu_eq (Nat.le_trans hB hS.1) q_1 aq_1) (cwI 3 htw (gC u_83) rfl rfl rfl (htw _ u_4) (htw _ u_81) (htw _ u_82) rfl hd_B_init.2 ⟨Nat.le_of_ble_eq_true rfl, Nat.le_of_ble_eq_true rfl⟩) ⟨xP_blind, xP_of hK hN⟩ rfl rfl hl.1 rfl (lv_room (Nat.le_of_ble_eq_true rfl)) d_A_mixtureOf_25 ⟨by decide, by decide⟩) hS (fun v H_ locs hp hS => ?_)
  obtain ⟨rfl, ad_4, w_4, hw, y4_0, y4_1, y4_2, y4_3, z4, hfr⟩ := hp
  generalize H_ = H at hw hS ⊢
  have hfw_4 : ∀ u, u ≠ t0 → u ≠ t1 → u ≠ t2 → u ≠ t3 → w_4 u = (xu w t0 (.inr (1, [.int 0, .int 0, .null, .null, .null, .long 0, .int 0, .int 0, .int 0]))) u := fun u h0 h1 h2 h3 => (hfr u (by simp only [List.mem_cons, List.not_mem_nil, or_false, not_or]; exact ⟨h0, h1, h2, h3⟩)).1
  have hfa_4 : ∀ u, u ≠ t0 → u ≠ t1 → u ≠ t2 → u ≠ t3 → ad_4 u = ad_2 u := fun u h0 h1 h2 h3 => (hfr u (by simp only [List.mem_cons, List.not_mem_nil, or_false, not_or]; exact ⟨h0, h1, h2, h3⟩)).2
  refine W.eq (g2 := F0 m 28 ls [.ref q_1]) rfl ?_
  refine lv_astore_n (lv' := [(2, .ref q_1), (0, .ref a1), (1, .ref a2)]) hx hb d_A_mixtureOf_28 rfl hl (by decide) rfl (fun ls hl => ?_)
  refine lv_iconst (v := 0) hx hb d_A_mixtureOf_29 (by decide) ?_
  refine lv_istore_n (lv' := [(3, .int 0), (2, .ref q_1), (0, .ref a1), (1, .ref a2)]) hx hb d_A_mixtureOf_30 rfl hl (by decide) rfl (fun ls hl => ?_)
  refine lv_iload_n hx hb d_A_mixtureOf_31 rfl (lv_at hl 0 rfl) ?_
  refine lv_iconst (v := 4) hx hb d_A_mixtureOf_32 (by decide) ?_
  refine lv_icmp_ge (tgt := 61) hx hb d_A_mixtureOf_33 (by decide) (fun c_5 => absurd c_5 (by decide)) (fun c_5 => ?_)
  refine lv_aload_n hx hb d_A_mixtureOf_36 rfl (lv_at hl 1 rfl) ?_
  refine xr_get (ci := 1) (v := .ref (ad_4 t1)) (C := R_B) (T := T_B) (N := 9) hx hb htw in_B hown hK hw t0 y4_0 ((z4).trans aq_1) rfl 2 (by decide) (htw _ u_94) (fun _ h9 => h9) rfl d_A_mixtureOf_37 ?_
  refine lv_iload_n hx hb d_A_mixtureOf_40 rfl (lv_at hl 0 rfl) ?_
  refine lv_aload_n hx hb d_A_mixtureOf_41 rfl (lv_at hl 2 rfl) ?_
  refine xr_get (ci := 1) (v := .ref p1) (C := R_B) (T := T_B) (N := 9) hx hb htw in_B hown hK hw ti1 ((hfw_4 ti1 (by omega) (by omega) (by omega) (by omega)).trans ((xu_ne (by omega)).trans (o1))) ((hfa_4 ti1 (by omega) (by omega) (by omega) (by omega)).trans ((show ad_2 ti1 = ad ti1 by rw [eq_1]; exact xa_ne (by omega)).trans ha1)) rfl 2 (by decide) (htw _ u_94) (fun _ h9 => h9) rfl d_A_mixtureOf_42 ?_
  refine lv_iload_n hx hb d_A_mixtureOf_45 rfl (lv_at hl 0 rfl) ?_
  refine xr_lald (i := 0) hx hb hK hw ta1 1 ((hfw_4 ta1 (by omega) (by omega) (by omega) (by omega)).trans ((xu_ne (by omega)).trans (n1))) ((hfa_4 ta1 (by omega) (by omega) (by omega) (by omega)).trans ((show ad_2 ta1 = ad ta1 by rw [eq_1]; exact xa_ne (by omega)).trans hp1)) rfl (by unfold vp_in; decide) d_A_mixtureOf_46 ?_
  refine lv_topl (fun x_6 ex_6 => ?_)
  obtain rfl : x_6 = A1 0 := ex_6.trans ((congrArg A1 ((rfl : (0 : Int32).toNatClampNeg = 0))).trans rfl)
  refine lv_aload_n hx hb d_A_mixtureOf_47 rfl (lv_at hl 3 rfl) ?_
  refine xr_get (ci := 1) (v := .ref p2) (C := R_B) (T := T_B) (N := 9) hx hb htw in_B hown hK hw ti2 ((hfw_4 ti2 (by omega) (by omega) (by omega) (by omega)).trans ((xu_ne (by omega)).trans (o2))) ((hfa_4 ti2 (by omega) (by omega) (by omega) (by omega)).trans ((show ad_2 ti2 = ad ti2 by rw [eq_1]; exact xa_ne (by omega)).trans ha2)) rfl 2 (by decide) (htw _ u_94) (fun _ h9 => h9) rfl d_A_mixtureOf_48 ?_
  refine lv_iload_n hx hb d_A_mixtureOf_51 rfl (lv_at hl 0 rfl) ?_
  refine xr_lald (i := 0) hx hb hK hw ta2 1 ((hfw_4 ta2 (by omega) (by omega) (by omega) (by omega)).trans ((xu_ne (by omega)).trans (n2))) ((hfa_4 ta2 (by omega) (by omega) (by omega) (by omega)).trans ((show ad_2 ta2 = ad ta2 by rw [eq_1]; exact xa_ne (by omega)).trans hp2)) rfl (by unfold vp_in; decide) d_A_mixtureOf_52 ?_
  refine lv_topl (fun x_7 ex_7 => ?_)
  obtain rfl : x_7 = A2 0 := ex_7.trans ((congrArg A2 ((rfl : (0 : Int32).toNatClampNeg = 0))).trans rfl)
  refine lv_ladd hx hb d_A_mixtureOf_53 ?_
  refine xr_last (i := 0) hx hb hK hw hS t1 1 y4_1 rfl rfl (by unfold vp_in; decide) d_A_mixtureOf_54 (fun H locs hw hS => ?_)
  have hw : xw D vwCl B ad_4 (xu w_4 t1 (.inl (K 1, 4, .inr (.inl (vp_updL (fun _ => 0) 0 ((A1 0) + (A2 0))))))) H := hw
  refine lv_iinc (v := 1) (lv' := [(3, .int 1), (2, .ref q_1), (0, .ref a1), (1, .ref a2)]) hx hb d_A_mixtureOf_55 hl (k := 0) rfl (by decide) (by decide) rfl (fun ls hl => ?_)
  refine lv_goto (tgt := 31) hx hb d_A_mixtureOf_58 (by decide) ?_
  refine lv_iload_n hx hb d_A_mixtureOf_31 rfl (lv_at hl 0 rfl) ?_
  refine lv_iconst (v := 4) hx hb d_A_mixtureOf_32 (by decide) ?_
  refine lv_icmp_ge (tgt := 61) hx hb d_A_mixtureOf_33 (by decide) (fun c_8 => absurd c_8 (by decide)) (fun c_8 => ?_)
  refine lv_aload_n hx hb d_A_mixtureOf_36 rfl (lv_at hl 1 rfl) ?_
  refine xr_get (ci := 1) (v := .ref (ad_4 t1)) (C := R_B) (T := T_B) (N := 9) hx hb htw in_B hown hK hw t0 ((xu_ne (by omega)).trans (y4_0)) ((z4).trans aq_1) rfl 2 (by decide) (htw _ u_94) (fun _ h9 => h9) rfl d_A_mixtureOf_37 ?_
  refine lv_iload_n hx hb d_A_mixtureOf_40 rfl (lv_at hl 0 rfl) ?_
  refine lv_aload_n hx hb d_A_mixtureOf_41 rfl (lv_at hl 2 rfl) ?_
  refine xr_get (ci := 1) (v := .ref p1) (C := R_B) (T := T_B) (N := 9) hx hb htw in_B hown hK hw ti1 ((xu_ne (by omega)).trans ((hfw_4 ti1 (by omega) (by omega) (by omega) (by omega)).trans ((xu_ne (by omega)).trans (o1)))) ((hfa_4 ti1 (by omega) (by omega) (by omega) (by omega)).trans ((show ad_2 ti1 = ad ti1 by rw [eq_1]; exact xa_ne (by omega)).trans ha1)) rfl 2 (by decide) (htw _ u_94) (fun _ h9 => h9) rfl d_A_mixtureOf_42 ?_
  refine lv_iload_n hx hb d_A_mixtureOf_45 rfl (lv_at hl 0 rfl) ?_
  refine xr_lald (i := 1) hx hb hK hw ta1 1 ((xu_ne (by omega)).trans ((hfw_4 ta1 (by omega) (by omega) (by omega) (by omega)).trans ((xu_ne (by omega)).trans (n1)))) ((hfa_4 ta1 (by omega) (by omega) (by omega) (by omega)).trans ((show ad_2 ta1 = ad ta1 by rw [eq_1]; exact xa_ne (by omega)).trans hp1)) rfl (by unfold vp_in; decide) d_A_mixtureOf_46 ?_
  refine lv_topl (fun x_9 ex_9 => ?_)
  obtain rfl : x_9 = A1 1 := ex_9.trans ((congrArg A1 ((rfl : (1 : Int32).toNatClampNeg = 1))).trans rfl)
  refine lv_aload_n hx hb d_A_mixtureOf_47 rfl (lv_at hl 3 rfl) ?_
  refine xr_get (ci := 1) (v := .ref p2) (C := R_B) (T := T_B) (N := 9) hx hb htw in_B hown hK hw ti2 ((xu_ne (by omega)).trans ((hfw_4 ti2 (by omega) (by omega) (by omega) (by omega)).trans ((xu_ne (by omega)).trans (o2)))) ((hfa_4 ti2 (by omega) (by omega) (by omega) (by omega)).trans ((show ad_2 ti2 = ad ti2 by rw [eq_1]; exact xa_ne (by omega)).trans ha2)) rfl 2 (by decide) (htw _ u_94) (fun _ h9 => h9) rfl d_A_mixtureOf_48 ?_
  refine lv_iload_n hx hb d_A_mixtureOf_51 rfl (lv_at hl 0 rfl) ?_
  refine xr_lald (i := 1) hx hb hK hw ta2 1 ((xu_ne (by omega)).trans ((hfw_4 ta2 (by omega) (by omega) (by omega) (by omega)).trans ((xu_ne (by omega)).trans (n2)))) ((hfa_4 ta2 (by omega) (by omega) (by omega) (by omega)).trans ((show ad_2 ta2 = ad ta2 by rw [eq_1]; exact xa_ne (by omega)).trans hp2)) rfl (by unfold vp_in; decide) d_A_mixtureOf_52 ?_
  refine lv_topl (fun x_10 ex_10 => ?_)
  obtain rfl : x_10 = A2 1 := ex_10.trans ((congrArg A2 ((rfl : (1 : Int32).toNatClampNeg = 1))).trans rfl)
  refine lv_ladd hx hb d_A_mixtureOf_53 ?_
  refine xr_last (i := 1) hx hb hK hw hS t1 1 xu_eq rfl rfl (by unfold vp_in; decide) d_A_mixtureOf_54 (fun H locs hw hS => ?_)
  have hw : xw D vwCl B ad_4 (xu (xu w_4 t1 (.inl (K 1, 4, .inr (.inl (vp_updL (fun _ => 0) 0 ((A1 0) + (A2 0))))))) t1 (.inl (K 1, 4, .inr (.inl (vp_updL (vp_updL (fun _ => 0) 0 ((A1 0) + (A2 0))) 1 ((A1 1) + (A2 1))))))) H := hw
  refine lv_iinc (v := 2) (lv' := [(3, .int 2), (2, .ref q_1), (0, .ref a1), (1, .ref a2)]) hx hb d_A_mixtureOf_55 hl (k := 0) rfl (by decide) (by decide) rfl (fun ls hl => ?_)
  refine lv_goto (tgt := 31) hx hb d_A_mixtureOf_58 (by decide) ?_
  refine lv_iload_n hx hb d_A_mixtureOf_31 rfl (lv_at hl 0 rfl) ?_
  refine lv_iconst (v := 4) hx hb d_A_mixtureOf_32 (by decide) ?_
  refine lv_icmp_ge (tgt := 61) hx hb d_A_mixtureOf_33 (by decide) (fun c_11 => absurd c_11 (by decide)) (fun c_11 => ?_)
  refine lv_aload_n hx hb d_A_mixtureOf_36 rfl (lv_at hl 1 rfl) ?_
  refine xr_get (ci := 1) (v := .ref (ad_4 t1)) (C := R_B) (T := T_B) (N := 9) hx hb htw in_B hown hK hw t0 ((xu_ne (by omega)).trans ((xu_ne (by omega)).trans (y4_0))) ((z4).trans aq_1) rfl 2 (by decide) (htw _ u_94) (fun _ h9 => h9) rfl d_A_mixtureOf_37 ?_
  refine lv_iload_n hx hb d_A_mixtureOf_40 rfl (lv_at hl 0 rfl) ?_
  refine lv_aload_n hx hb d_A_mixtureOf_41 rfl (lv_at hl 2 rfl) ?_
  refine xr_get (ci := 1) (v := .ref p1) (C := R_B) (T := T_B) (N := 9) hx hb htw in_B hown hK hw ti1 ((xu_ne (by omega)).trans ((xu_ne (by omega)).trans ((hfw_4 ti1 (by omega) (by omega) (by omega) (by omega)).trans ((xu_ne (by omega)).trans (o1))))) ((hfa_4 ti1 (by omega) (by omega) (by omega) (by omega)).trans ((show ad_2 ti1 = ad ti1 by rw [eq_1]; exact xa_ne (by omega)).trans ha1)) rfl 2 (by decide) (htw _ u_94) (fun _ h9 => h9) rfl d_A_mixtureOf_42 ?_
  refine lv_iload_n hx hb d_A_mixtureOf_45 rfl (lv_at hl 0 rfl) ?_
  refine xr_lald (i := 2) hx hb hK hw ta1 1 ((xu_ne (by omega)).trans ((xu_ne (by omega)).trans ((hfw_4 ta1 (by omega) (by omega) (by omega) (by omega)).trans ((xu_ne (by omega)).trans (n1))))) ((hfa_4 ta1 (by omega) (by omega) (by omega) (by omega)).trans ((show ad_2 ta1 = ad ta1 by rw [eq_1]; exact xa_ne (by omega)).trans hp1)) rfl (by unfold vp_in; decide) d_A_mixtureOf_46 ?_
  refine lv_topl (fun x_12 ex_12 => ?_)
  obtain rfl : x_12 = A1 2 := ex_12.trans ((congrArg A1 ((rfl : (2 : Int32).toNatClampNeg = 2))).trans rfl)
  refine lv_aload_n hx hb d_A_mixtureOf_47 rfl (lv_at hl 3 rfl) ?_
  refine xr_get (ci := 1) (v := .ref p2) (C := R_B) (T := T_B) (N := 9) hx hb htw in_B hown hK hw ti2 ((xu_ne (by omega)).trans ((xu_ne (by omega)).trans ((hfw_4 ti2 (by omega) (by omega) (by omega) (by omega)).trans ((xu_ne (by omega)).trans (o2))))) ((hfa_4 ti2 (by omega) (by omega) (by omega) (by omega)).trans ((show ad_2 ti2 = ad ti2 by rw [eq_1]; exact xa_ne (by omega)).trans ha2)) rfl 2 (by decide) (htw _ u_94) (fun _ h9 => h9) rfl d_A_mixtureOf_48 ?_
  refine lv_iload_n hx hb d_A_mixtureOf_51 rfl (lv_at hl 0 rfl) ?_
  refine xr_lald (i := 2) hx hb hK hw ta2 1 ((xu_ne (by omega)).trans ((xu_ne (by omega)).trans ((hfw_4 ta2 (by omega) (by omega) (by omega) (by omega)).trans ((xu_ne (by omega)).trans (n2))))) ((hfa_4 ta2 (by omega) (by omega) (by omega) (by omega)).trans ((show ad_2 ta2 = ad ta2 by rw [eq_1]; exact xa_ne (by omega)).trans hp2)) rfl (by unfold vp_in; decide) d_A_mixtureOf_52 ?_
  refine lv_topl (fun x_13 ex_13 => ?_)
  obtain rfl : x_13 = A2 2 := ex_13.trans ((congrArg A2 ((rfl : (2 : Int32).toNatClampNeg = 2))).trans rfl)
  refine lv_ladd hx hb d_A_mixtureOf_53 ?_
  refine xr_last (i := 2) hx hb hK hw hS t1 1 xu_eq rfl rfl (by unfold vp_in; decide) d_A_mixtureOf_54 (fun H locs hw hS => ?_)
  have hw : xw D vwCl B ad_4 (xu (xu (xu w_4 t1 (.inl (K 1, 4, .inr (.inl (vp_updL (fun _ => 0) 0 ((A1 0) + (A2 0))))))) t1 (.inl (K 1, 4, .inr (.inl (vp_updL (vp_updL (fun _ => 0) 0 ((A1 0) + (A2 0))) 1 ((A1 1) + (A2 1))))))) t1 (.inl (K 1, 4, .inr (.inl (vp_updL (vp_updL (vp_updL (fun _ => 0) 0 ((A1 0) + (A2 0))) 1 ((A1 1) + (A2 1))) 2 ((A1 2) + (A2 2))))))) H := hw
  refine lv_iinc (v := 3) (lv' := [(3, .int 3), (2, .ref q_1), (0, .ref a1), (1, .ref a2)]) hx hb d_A_mixtureOf_55 hl (k := 0) rfl (by decide) (by decide) rfl (fun ls hl => ?_)
  refine lv_goto (tgt := 31) hx hb d_A_mixtureOf_58 (by decide) ?_
  refine lv_iload_n hx hb d_A_mixtureOf_31 rfl (lv_at hl 0 rfl) ?_
  refine lv_iconst (v := 4) hx hb d_A_mixtureOf_32 (by decide) ?_
  refine lv_icmp_ge (tgt := 61) hx hb d_A_mixtureOf_33 (by decide) (fun c_14 => absurd c_14 (by decide)) (fun c_14 => ?_)
  refine lv_aload_n hx hb d_A_mixtureOf_36 rfl (lv_at hl 1 rfl) ?_
  refine xr_get (ci := 1) (v := .ref (ad_4 t1)) (C := R_B) (T := T_B) (N := 9) hx hb htw in_B hown hK hw t0 ((xu_ne (by omega)).trans ((xu_ne (by omega)).trans ((xu_ne (by omega)).trans (y4_0)))) ((z4).trans aq_1) rfl 2 (by decide) (htw _ u_94) (fun _ h9 => h9) rfl d_A_mixtureOf_37 ?_
  refine lv_iload_n hx hb d_A_mixtureOf_40 rfl (lv_at hl 0 rfl) ?_
  refine lv_aload_n hx hb d_A_mixtureOf_41 rfl (lv_at hl 2 rfl) ?_
  refine xr_get (ci := 1) (v := .ref p1) (C := R_B) (T := T_B) (N := 9) hx hb htw in_B hown hK hw ti1 ((xu_ne (by omega)).trans ((xu_ne (by omega)).trans ((xu_ne (by omega)).trans ((hfw_4 ti1 (by omega) (by omega) (by omega) (by omega)).trans ((xu_ne (by omega)).trans (o1)))))) ((hfa_4 ti1 (by omega) (by omega) (by omega) (by omega)).trans ((show ad_2 ti1 = ad ti1 by rw [eq_1]; exact xa_ne (by omega)).trans ha1)) rfl 2 (by decide) (htw _ u_94) (fun _ h9 => h9) rfl d_A_mixtureOf_42 ?_
  refine lv_iload_n hx hb d_A_mixtureOf_45 rfl (lv_at hl 0 rfl) ?_
  refine xr_lald (i := 3) hx hb hK hw ta1 1 ((xu_ne (by omega)).trans ((xu_ne (by omega)).trans ((xu_ne (by omega)).trans ((hfw_4 ta1 (by omega) (by omega) (by omega) (by omega)).trans ((xu_ne (by omega)).trans (n1)))))) ((hfa_4 ta1 (by omega) (by omega) (by omega) (by omega)).trans ((show ad_2 ta1 = ad ta1 by rw [eq_1]; exact xa_ne (by omega)).trans hp1)) rfl (by unfold vp_in; decide) d_A_mixtureOf_46 ?_
  refine lv_topl (fun x_15 ex_15 => ?_)
  obtain rfl : x_15 = A1 3 := ex_15.trans ((congrArg A1 ((rfl : (3 : Int32).toNatClampNeg = 3))).trans rfl)
  refine lv_aload_n hx hb d_A_mixtureOf_47 rfl (lv_at hl 3 rfl) ?_
  refine xr_get (ci := 1) (v := .ref p2) (C := R_B) (T := T_B) (N := 9) hx hb htw in_B hown hK hw ti2 ((xu_ne (by omega)).trans ((xu_ne (by omega)).trans ((xu_ne (by omega)).trans ((hfw_4 ti2 (by omega) (by omega) (by omega) (by omega)).trans ((xu_ne (by omega)).trans (o2)))))) ((hfa_4 ti2 (by omega) (by omega) (by omega) (by omega)).trans ((show ad_2 ti2 = ad ti2 by rw [eq_1]; exact xa_ne (by omega)).trans ha2)) rfl 2 (by decide) (htw _ u_94) (fun _ h9 => h9) rfl d_A_mixtureOf_48 ?_
  refine lv_iload_n hx hb d_A_mixtureOf_51 rfl (lv_at hl 0 rfl) ?_
  refine xr_lald (i := 3) hx hb hK hw ta2 1 ((xu_ne (by omega)).trans ((xu_ne (by omega)).trans ((xu_ne (by omega)).trans ((hfw_4 ta2 (by omega) (by omega) (by omega) (by omega)).trans ((xu_ne (by omega)).trans (n2)))))) ((hfa_4 ta2 (by omega) (by omega) (by omega) (by omega)).trans ((show ad_2 ta2 = ad ta2 by rw [eq_1]; exact xa_ne (by omega)).trans hp2)) rfl (by unfold vp_in; decide) d_A_mixtureOf_52 ?_
  refine lv_topl (fun x_16 ex_16 => ?_)
  obtain rfl : x_16 = A2 3 := ex_16.trans ((congrArg A2 ((rfl : (3 : Int32).toNatClampNeg = 3))).trans rfl)
  refine lv_ladd hx hb d_A_mixtureOf_53 ?_
  refine xr_last (i := 3) hx hb hK hw hS t1 1 xu_eq rfl rfl (by unfold vp_in; decide) d_A_mixtureOf_54 (fun H locs hw hS => ?_)
  have hw : xw D vwCl B ad_4 (xu (xu (xu (xu w_4 t1 (.inl (K 1, 4, .inr (.inl (vp_updL (fun _ => 0) 0 ((A1 0) + (A2 0))))))) t1 (.inl (K 1, 4, .inr (.inl (vp_updL (vp_updL (fun _ => 0) 0 ((A1 0) + (A2 0))) 1 ((A1 1) + (A2 1))))))) t1 (.inl (K 1, 4, .inr (.inl (vp_updL (vp_updL (vp_updL (fun _ => 0) 0 ((A1 0) + (A2 0))) 1 ((A1 1) + (A2 1))) 2 ((A1 2) + (A2 2))))))) t1 (.inl (K 1, 4, .inr (.inl (vp_updL (vp_updL (vp_updL (vp_updL (fun _ => 0) 0 ((A1 0) + (A2 0))) 1 ((A1 1) + (A2 1))) 2 ((A1 2) + (A2 2))) 3 ((A1 3) + (A2 3))))))) H := hw
  refine lv_iinc (v := 4) (lv' := [(3, .int 4), (2, .ref q_1), (0, .ref a1), (1, .ref a2)]) hx hb d_A_mixtureOf_55 hl (k := 0) rfl (by decide) (by decide) rfl (fun ls hl => ?_)
  refine lv_goto (tgt := 31) hx hb d_A_mixtureOf_58 (by decide) ?_
  refine lv_iload_n hx hb d_A_mixtureOf_31 rfl (lv_at hl 0 rfl) ?_
  refine lv_iconst (v := 4) hx hb d_A_mixtureOf_32 (by decide) ?_
  refine lv_icmp_ge (tgt := 61) hx hb d_A_mixtureOf_33 (by decide) (fun c_17 => ?_) (fun c_17 => absurd (by decide) c_17)
  refine lv_aload_n hx hb d_A_mixtureOf_61 rfl (lv_at hl 1 rfl) ?_
  refine lv_aload_n hx hb d_A_mixtureOf_62 rfl (lv_at hl 2 rfl) ?_
  refine xr_get (ci := 1) (v := .int (bI b1)) (C := R_B) (T := T_B) (N := 9) hx hb htw in_B hown hK hw ti1 ((xu_ne (by omega)).trans ((xu_ne (by omega)).trans ((xu_ne (by omega)).trans ((xu_ne (by omega)).trans ((hfw_4 ti1 (by omega) (by omega) (by omega) (by omega)).trans ((xu_ne (by omega)).trans (o1))))))) ((hfa_4 ti1 (by omega) (by omega) (by omega) (by omega)).trans ((show ad_2 ti1 = ad ti1 by rw [eq_1]; exact xa_ne (by omega)).trans ha1)) rfl 6 (by decide) (htw _ u_101) (fun _ h9 => h9) rfl d_A_mixtureOf_63 ?_
  refine lv_if_eq (tgt := 80) hx hb d_A_mixtureOf_66 (by decide) (fun c_18 => ?_) (fun c_18 => ?_)
  · have c_18 : b1 = false := bI_f.mp c_18
    refine lv_iconst (v := 0) hx hb d_A_mixtureOf_80 (by decide) ?_
    refine xr_put (ci := 1) (v := .int 0) (ty := .boolean) (C := R_B) (T := T_B) (N := 9) hx hb htw in_B ty_B tk_B nm_B hown hK hw hS t0 ((xu_ne (by omega)).trans ((xu_ne (by omega)).trans ((xu_ne (by omega)).trans ((xu_ne (by omega)).trans (y4_0))))) ((z4).trans aq_1) rfl 6 (by decide) (htw _ u_101) (fun _ h9 => h9) rfl (by decide +kernel) (by decide) (by decide) (Nat.le_of_ble_eq_true rfl) d_A_mixtureOf_81 (fun H locs hw hS => ?_)
    have hw : xw D vwCl B ad_4 (xu (xu (xu (xu (xu w_4 t1 (.inl (K 1, 4, .inr (.inl (vp_updL (fun _ => 0) 0 ((A1 0) + (A2 0))))))) t1 (.inl (K 1, 4, .inr (.inl (vp_updL (vp_updL (fun _ => 0) 0 ((A1 0) + (A2 0))) 1 ((A1 1) + (A2 1))))))) t1 (.inl (K 1, 4, .inr (.inl (vp_updL (vp_updL (vp_updL (fun _ => 0) 0 ((A1 0) + (A2 0))) 1 ((A1 1) + (A2 1))) 2 ((A1 2) + (A2 2))))))) t1 (.inl (K 1, 4, .inr (.inl (vp_updL (vp_updL (vp_updL (vp_updL (fun _ => 0) 0 ((A1 0) + (A2 0))) 1 ((A1 1) + (A2 1))) 2 ((A1 2) + (A2 2))) 3 ((A1 3) + (A2 3))))))) t0 (.inr (1, [.int (mx d1 d2), .int 1, .ref (ad_4 t1), .ref (ad_4 t2), .ref (ad_4 t3), .long (g1 + g2), .int 0, .int 0, .int 0]))) H := hw
    refine lv_aload_n hx hb d_A_mixtureOf_84 rfl (lv_at hl 1 rfl) ?_
    have hz : ∀ u, u ∉ ([t0, t1, t2, t3] : List Nat) → u ≠ t0 ∧ u ≠ t1 ∧ u ≠ t2 ∧ u ≠ t3 := fun u hu => by simp only [List.mem_cons, List.not_mem_nil, or_false, not_or] at hu; omega
    exact W.aret (v := .ref q_1) hx hb hr (Or.inl ⟨_, rfl⟩) (Or.inr ⟨_, rfl⟩) (fun t ht _ => ⟨_, rfl, ⟨ad_4, _, by rw [show ad_4 t0 = q_1 from (z4).trans aq_1], by rw [ht]; exact hw, by simp (disch := omega) only [xu_eq, xu_ne, xa_eq, xa_ne, eq_1, hfw_4, hfa_4, z4, y4_0, y4_1, y4_2, y4_3, c_18, Bool.false_and, Bool.true_and, Bool.and_false, Bool.and_true, bI_ff, bI_tt], by simp (disch := omega) only [xu_eq, xu_ne, xa_eq, xa_ne, eq_1, hfw_4, hfa_4, z4, y4_0, y4_1, y4_2, y4_3, c_18, Bool.false_and, Bool.true_and, Bool.and_false, Bool.and_true, bI_ff, bI_tt], by simp (disch := omega) only [xu_eq, xu_ne, xa_eq, xa_ne, eq_1, hfw_4, hfa_4, z4, y4_0, y4_1, y4_2, y4_3, c_18, Bool.false_and, Bool.true_and, Bool.and_false, Bool.and_true, bI_ff, bI_tt], by simp (disch := omega) only [xu_eq, xu_ne, xa_eq, xa_ne, eq_1, hfw_4, hfa_4, z4, y4_0, y4_1, y4_2, y4_3, c_18, Bool.false_and, Bool.true_and, Bool.and_false, Bool.and_true, bI_ff, bI_tt], fun u hu => by have hq := hz u hu; exact ⟨by simp (disch := omega) only [xu_eq, xu_ne, xa_eq, xa_ne, eq_1, hfw_4, hfa_4, z4, y4_0, y4_1, y4_2, y4_3, c_18, Bool.false_and, Bool.true_and, Bool.and_false, Bool.and_true, bI_ff, bI_tt], by simp (disch := omega) only [xu_eq, xu_ne, xa_eq, xa_ne, eq_1, hfw_4, hfa_4, z4, y4_0, y4_1, y4_2, y4_3, c_18, Bool.false_and, Bool.true_and, Bool.and_false, Bool.and_true, bI_ff, bI_tt]⟩⟩, hS.F ht⟩) hS.2.2 d_A_mixtureOf_85
  · have c_18 : b1 = true := bI_t.mp c_18
    refine lv_aload_n hx hb d_A_mixtureOf_69 rfl (lv_at hl 3 rfl) ?_
    refine xr_get (ci := 1) (v := .int (bI b2)) (C := R_B) (T := T_B) (N := 9) hx hb htw in_B hown hK hw ti2 ((xu_ne (by omega)).trans ((xu_ne (by omega)).trans ((xu_ne (by omega)).trans ((xu_ne (by omega)).trans ((hfw_4 ti2 (by omega) (by omega) (by omega) (by omega)).trans ((xu_ne (by omega)).trans (o2))))))) ((hfa_4 ti2 (by omega) (by omega) (by omega) (by omega)).trans ((show ad_2 ti2 = ad ti2 by rw [eq_1]; exact xa_ne (by omega)).trans ha2)) rfl 6 (by decide) (htw _ u_101) (fun _ h9 => h9) rfl d_A_mixtureOf_70 ?_
    refine lv_if_eq (tgt := 80) hx hb d_A_mixtureOf_73 (by decide) (fun c_19 => ?_) (fun c_19 => ?_)
    · have c_19 : b2 = false := bI_f.mp c_19
      refine lv_iconst (v := 0) hx hb d_A_mixtureOf_80 (by decide) ?_
      refine xr_put (ci := 1) (v := .int 0) (ty := .boolean) (C := R_B) (T := T_B) (N := 9) hx hb htw in_B ty_B tk_B nm_B hown hK hw hS t0 ((xu_ne (by omega)).trans ((xu_ne (by omega)).trans ((xu_ne (by omega)).trans ((xu_ne (by omega)).trans (y4_0))))) ((z4).trans aq_1) rfl 6 (by decide) (htw _ u_101) (fun _ h9 => h9) rfl (by decide +kernel) (by decide) (by decide) (Nat.le_of_ble_eq_true rfl) d_A_mixtureOf_81 (fun H locs hw hS => ?_)
      have hw : xw D vwCl B ad_4 (xu (xu (xu (xu (xu w_4 t1 (.inl (K 1, 4, .inr (.inl (vp_updL (fun _ => 0) 0 ((A1 0) + (A2 0))))))) t1 (.inl (K 1, 4, .inr (.inl (vp_updL (vp_updL (fun _ => 0) 0 ((A1 0) + (A2 0))) 1 ((A1 1) + (A2 1))))))) t1 (.inl (K 1, 4, .inr (.inl (vp_updL (vp_updL (vp_updL (fun _ => 0) 0 ((A1 0) + (A2 0))) 1 ((A1 1) + (A2 1))) 2 ((A1 2) + (A2 2))))))) t1 (.inl (K 1, 4, .inr (.inl (vp_updL (vp_updL (vp_updL (vp_updL (fun _ => 0) 0 ((A1 0) + (A2 0))) 1 ((A1 1) + (A2 1))) 2 ((A1 2) + (A2 2))) 3 ((A1 3) + (A2 3))))))) t0 (.inr (1, [.int (mx d1 d2), .int 1, .ref (ad_4 t1), .ref (ad_4 t2), .ref (ad_4 t3), .long (g1 + g2), .int 0, .int 0, .int 0]))) H := hw
      refine lv_aload_n hx hb d_A_mixtureOf_84 rfl (lv_at hl 1 rfl) ?_
      have hz : ∀ u, u ∉ ([t0, t1, t2, t3] : List Nat) → u ≠ t0 ∧ u ≠ t1 ∧ u ≠ t2 ∧ u ≠ t3 := fun u hu => by simp only [List.mem_cons, List.not_mem_nil, or_false, not_or] at hu; omega
      exact W.aret (v := .ref q_1) hx hb hr (Or.inl ⟨_, rfl⟩) (Or.inr ⟨_, rfl⟩) (fun t ht _ => ⟨_, rfl, ⟨ad_4, _, by rw [show ad_4 t0 = q_1 from (z4).trans aq_1], by rw [ht]; exact hw, by simp (disch := omega) only [xu_eq, xu_ne, xa_eq, xa_ne, eq_1, hfw_4, hfa_4, z4, y4_0, y4_1, y4_2, y4_3, c_18, c_19, Bool.false_and, Bool.true_and, Bool.and_false, Bool.and_true, bI_ff, bI_tt], by simp (disch := omega) only [xu_eq, xu_ne, xa_eq, xa_ne, eq_1, hfw_4, hfa_4, z4, y4_0, y4_1, y4_2, y4_3, c_18, c_19, Bool.false_and, Bool.true_and, Bool.and_false, Bool.and_true, bI_ff, bI_tt], by simp (disch := omega) only [xu_eq, xu_ne, xa_eq, xa_ne, eq_1, hfw_4, hfa_4, z4, y4_0, y4_1, y4_2, y4_3, c_18, c_19, Bool.false_and, Bool.true_and, Bool.and_false, Bool.and_true, bI_ff, bI_tt], by simp (disch := omega) only [xu_eq, xu_ne, xa_eq, xa_ne, eq_1, hfw_4, hfa_4, z4, y4_0, y4_1, y4_2, y4_3, c_18, c_19, Bool.false_and, Bool.true_and, Bool.and_false, Bool.and_true, bI_ff, bI_tt], fun u hu => by have hq := hz u hu; exact ⟨by simp (disch := omega) only [xu_eq, xu_ne, xa_eq, xa_ne, eq_1, hfw_4, hfa_4, z4, y4_0, y4_1, y4_2, y4_3, c_18, c_19, Bool.false_and, Bool.true_and, Bool.and_false, Bool.and_true, bI_ff, bI_tt], by simp (disch := omega) only [xu_eq, xu_ne, xa_eq, xa_ne, eq_1, hfw_4, hfa_4, z4, y4_0, y4_1, y4_2, y4_3, c_18, c_19, Bool.false_and, Bool.true_and, Bool.and_false, Bool.and_true, bI_ff, bI_tt]⟩⟩, hS.F ht⟩) hS.2.2 d_A_mixtureOf_85
    · have c_19 : b2 = true := bI_t.mp c_19
      refine lv_iconst (v := 1) hx hb d_A_mixtureOf_76 (by decide) ?_
      refine lv_goto (tgt := 81) hx hb d_A_mixtureOf_77 (by decide) ?_
      refine xr_put (ci := 1) (v := .int 1) (ty := .boolean) (C := R_B) (T := T_B) (N := 9) hx hb htw in_B ty_B tk_B nm_B hown hK hw hS t0 ((xu_ne (by omega)).trans ((xu_ne (by omega)).trans ((xu_ne (by omega)).trans ((xu_ne (by omega)).trans (y4_0))))) ((z4).trans aq_1) rfl 6 (by decide) (htw _ u_101) (fun _ h9 => h9) rfl (by decide +kernel) (by decide) (by decide) (Nat.le_of_ble_eq_true rfl) d_A_mixtureOf_81 (fun H locs hw hS => ?_)
      have hw : xw D vwCl B ad_4 (xu (xu (xu (xu (xu w_4 t1 (.inl (K 1, 4, .inr (.inl (vp_updL (fun _ => 0) 0 ((A1 0) + (A2 0))))))) t1 (.inl (K 1, 4, .inr (.inl (vp_updL (vp_updL (fun _ => 0) 0 ((A1 0) + (A2 0))) 1 ((A1 1) + (A2 1))))))) t1 (.inl (K 1, 4, .inr (.inl (vp_updL (vp_updL (vp_updL (fun _ => 0) 0 ((A1 0) + (A2 0))) 1 ((A1 1) + (A2 1))) 2 ((A1 2) + (A2 2))))))) t1 (.inl (K 1, 4, .inr (.inl (vp_updL (vp_updL (vp_updL (vp_updL (fun _ => 0) 0 ((A1 0) + (A2 0))) 1 ((A1 1) + (A2 1))) 2 ((A1 2) + (A2 2))) 3 ((A1 3) + (A2 3))))))) t0 (.inr (1, [.int (mx d1 d2), .int 1, .ref (ad_4 t1), .ref (ad_4 t2), .ref (ad_4 t3), .long (g1 + g2), .int 1, .int 0, .int 0]))) H := hw
      refine lv_aload_n hx hb d_A_mixtureOf_84 rfl (lv_at hl 1 rfl) ?_
      have hz : ∀ u, u ∉ ([t0, t1, t2, t3] : List Nat) → u ≠ t0 ∧ u ≠ t1 ∧ u ≠ t2 ∧ u ≠ t3 := fun u hu => by simp only [List.mem_cons, List.not_mem_nil, or_false, not_or] at hu; omega
      exact W.aret (v := .ref q_1) hx hb hr (Or.inl ⟨_, rfl⟩) (Or.inr ⟨_, rfl⟩) (fun t ht _ => ⟨_, rfl, ⟨ad_4, _, by rw [show ad_4 t0 = q_1 from (z4).trans aq_1], by rw [ht]; exact hw, by simp (disch := omega) only [xu_eq, xu_ne, xa_eq, xa_ne, eq_1, hfw_4, hfa_4, z4, y4_0, y4_1, y4_2, y4_3, c_18, c_19, Bool.false_and, Bool.true_and, Bool.and_false, Bool.and_true, bI_ff, bI_tt], by simp (disch := omega) only [xu_eq, xu_ne, xa_eq, xa_ne, eq_1, hfw_4, hfa_4, z4, y4_0, y4_1, y4_2, y4_3, c_18, c_19, Bool.false_and, Bool.true_and, Bool.and_false, Bool.and_true, bI_ff, bI_tt], by simp (disch := omega) only [xu_eq, xu_ne, xa_eq, xa_ne, eq_1, hfw_4, hfa_4, z4, y4_0, y4_1, y4_2, y4_3, c_18, c_19, Bool.false_and, Bool.true_and, Bool.and_false, Bool.and_true, bI_ff, bI_tt], by simp (disch := omega) only [xu_eq, xu_ne, xa_eq, xa_ne, eq_1, hfw_4, hfa_4, z4, y4_0, y4_1, y4_2, y4_3, c_18, c_19, Bool.false_and, Bool.true_and, Bool.and_false, Bool.and_true, bI_ff, bI_tt], fun u hu => by have hq := hz u hu; exact ⟨by simp (disch := omega) only [xu_eq, xu_ne, xa_eq, xa_ne, eq_1, hfw_4, hfa_4, z4, y4_0, y4_1, y4_2, y4_3, c_18, c_19, Bool.false_and, Bool.true_and, Bool.and_false, Bool.and_true, bI_ff, bI_tt], by simp (disch := omega) only [xu_eq, xu_ne, xa_eq, xa_ne, eq_1, hfw_4, hfa_4, z4, y4_0, y4_1, y4_2, y4_3, c_18, c_19, Bool.false_and, Bool.true_and, Bool.and_false, Bool.and_true, bI_ff, bI_tt]⟩⟩, hS.F ht⟩) hS.2.2 d_A_mixtureOf_85
set_option maxHeartbeats 4000000 in
set_option maxRecDepth 100000 in
theorem c_A_mix {l : Launch} {D : va_G} {K : Nat → ClassId} {B : Nat} {ad : Nat → Nat} {w : Nat → Option va_E} {H : Heap} {σ : xS} (hR : RepX K σ ad w) (hI : Inv σ) (hw : xw D vwCl B ad w H) (hB : B ≤ H.size) (x1 x2 : Int32) : xC l D K B y_A_mix b_A_mix 5 (some .int) rm_A_mix [.ref (ad 0), .int x1, .int x2] H (fun v H1 => v = some (.int (f_mix σ x1 x2).2) ∧ PX D K B ad w (f_mix σ x1 x2).1 H1) := by
  refine Met.ofW (cc := b_A_mix) (maxL := 5) (ret := (some .int)) (by decide) rfl ?_
  intro p e s m args below meth c s₁ B0 hml hv
  obtain ⟨rfl, hsz, hK, hN⟩ := hv
  have hx := B0.exec
  have hb := B0.bytes
  have hr := B0.returns
  have htw : ∀ w ∈ xW0, w.before [.ref (ad 0), .int x1, .int x2].toArray s = true := fun w h => atoms_spec (ws := Cond.code y_A_mix b_A_mix 5 (some .int) :: xW0) B0.pre w (List.mem_cons_of_mem _ h)
  have hown : s.vm.findClass R_A = some m.cls := findClass_of_methodNamed B0.named
  have hlocks := B0.notSynchronized
  subst hsz
  have hS : va_S (fun q => B ≤ q) s.heap s.heap [] := va_S.rf
  have hl := lv_entry ([.ref (ad 0), .int x1, .int x2]) (n := 5) (Nat.le_of_ble_eq_true rfl)
  rw [lg_entry_eq]
  generalize (lg_sl ([.ref (ad 0), .int x1, .int x2]) ++ List.replicate (5 - (lg_sl ([.ref (ad 0), .int x1, .int x2])).length) Slot.unset).toArray = ls at hl ⊢
  have hl : lv_has ls 5 [(0, .ref (ad 0)), (1, .int x1), (2, .int x2)] := hl
  have hH : s.heap = s.heap := rfl
  obtain ⟨r0, r1, r2, r3, r4, r5, r6, r7, rb, rba, rbt, rbo, rs, rss, rr⟩ := id hR
  obtain ⟨hnb, hns, hnr, hpc, hst, hto, htl, hrm, hpa, hwt, hdf, hds⟩ := id hI
  refine lv_aload_n hx hb d_A_mix_0 rfl (lv_at hl 0 rfl) ?_
  refine lv_iload_n hx hb d_A_mix_1 rfl (lv_at hl 1 rfl) ?_
  refine xr_call (va_runV (As := [.int x1]) (rest := []) ⟨hx, hb, hml, hown, htw⟩ (c_A_batchAt (ad := ad) hR hnb hns hw x1) (cwV 1 htw (gV u_131 u_133 us_1 u_1 u_134) rfl rfl rfl hd_A_batchAt ⟨Nat.le_of_ble_eq_true rfl, Nat.le_of_ble_eq_true rfl⟩) ⟨xP_blind, hw.recv hK (ci := 0) (t := 0) rfl r0 rfl, xP_of hK hN⟩ rfl rfl hl.1 rfl (lv_room (Nat.le_of_ble_eq_true rfl)) d_A_mix_2 ⟨by decide, by decide⟩) hS (fun v H_ locs hp hS => ?_)
  obtain ⟨hHe, hp⟩ := hp
  rw [hHe] at hS ⊢
  rcases hp with ⟨f2, rfl⟩ | ⟨i1, hi1, rfl, rfl⟩
  · refine W.eq (g2 := F0 m 5 ls [.null]) rfl ?_
    refine lv_astore_nN (lv' := [(3, .null), (0, .ref (ad 0)), (1, .int x1), (2, .int x2)]) hx hb d_A_mix_5 rfl hl (by decide) rfl (fun ls hl => ?_)
    refine lv_aload_n hx hb d_A_mix_6 rfl (lv_at hl 1 rfl) ?_
    refine lv_iload_n hx hb d_A_mix_7 rfl (lv_at hl 3 rfl) ?_
    refine xr_call (va_runV (As := [.int x2]) (rest := []) ⟨hx, hb, hml, hown, htw⟩ (c_A_batchAt (ad := ad) hR hnb hns hw x2) (cwV 1 htw (gV u_131 u_133 us_1 u_1 u_134) rfl rfl rfl hd_A_batchAt ⟨Nat.le_of_ble_eq_true rfl, Nat.le_of_ble_eq_true rfl⟩) ⟨xP_blind, hw.recv hK (ci := 0) (t := 0) rfl r0 rfl, xP_of hK hN⟩ rfl rfl hl.1 rfl (lv_room (Nat.le_of_ble_eq_true rfl)) d_A_mix_8 ⟨by decide, by decide⟩) hS (fun v H_ locs hp hS => ?_)
    obtain ⟨hHe, hp⟩ := hp
    rw [hHe] at hS ⊢
    rcases hp with ⟨f4, rfl⟩ | ⟨i3, hi3, rfl, rfl⟩
    · refine W.eq (g2 := F0 m 11 ls [.null]) rfl ?_
      refine lv_astoreN (lv' := [(4, .null), (3, .null), (0, .ref (ad 0)), (1, .int x1), (2, .int x2)]) hx hb d_A_mix_11 hl (by decide) rfl (fun ls hl => ?_)
      refine lv_aload_nN hx hb d_A_mix_13 rfl (lv_at hl 1 rfl) ?_
      refine lv_ifnullN (tgt := 36) hx hb d_A_mix_14 (by decide) ?_
      refine lv_iconst (v := (-1)) hx hb d_A_mix_36 (by decide) ?_
      have hf : f_mix σ x1 x2 = (σ, (-1)) := by simp [f_mix, opt_n, opt_s, f2, f4]
      refine W.widen (k := 4) (n := 49) (by decide) (by decide) ?_
      exact W.iret (v := (-1)) hx hb hr (fun t ht _ => ⟨_, rfl, by rw [hf, ht]; exact ⟨rfl, PX_same hw hR⟩, hS.F ht⟩) hS.2.2 d_A_mix_37
    · have fi3 : xi (σ.1 0) (nI i3) = some i3 := xi_nI hi3 (by omega)
      refine W.eq (g2 := F0 m 11 ls [.ref (ad (100 + i3))]) rfl ?_
      refine lv_astore (lv' := [(4, .ref (ad (100 + i3))), (3, .null), (0, .ref (ad 0)), (1, .int x1), (2, .int (nI i3))]) hx hb d_A_mix_11 hl (by decide) rfl (fun ls hl => ?_)
      refine lv_aload_nN hx hb d_A_mix_13 rfl (lv_at hl 1 rfl) ?_
      refine lv_ifnullN (tgt := 36) hx hb d_A_mix_14 (by decide) ?_
      refine lv_iconst (v := (-1)) hx hb d_A_mix_36 (by decide) ?_
      have hf : f_mix σ x1 (nI i3) = (σ, (-1)) := by simp [f_mix, opt_n, opt_s, f2, fi3]
      refine W.widen (k := 4) (n := 49) (by decide) (by decide) ?_
      exact W.iret (v := (-1)) hx hb hr (fun t ht _ => ⟨_, rfl, by rw [hf, ht]; exact ⟨rfl, PX_same hw hR⟩, hS.F ht⟩) hS.2.2 d_A_mix_37
  · have fi1 : xi (σ.1 0) (nI i1) = some i1 := xi_nI hi1 (by omega)
    refine W.eq (g2 := F0 m 5 ls [.ref (ad (100 + i1))]) rfl ?_
    refine lv_astore_n (lv' := [(3, .ref (ad (100 + i1))), (0, .ref (ad 0)), (1, .int (nI i1)), (2, .int x2)]) hx hb d_A_mix_5 rfl hl (by decide) rfl (fun ls hl => ?_)
    refine lv_aload_n hx hb d_A_mix_6 rfl (lv_at hl 1 rfl) ?_
    refine lv_iload_n hx hb d_A_mix_7 rfl (lv_at hl 3 rfl) ?_
    refine xr_call (va_runV (As := [.int x2]) (rest := []) ⟨hx, hb, hml, hown, htw⟩ (c_A_batchAt (ad := ad) hR hnb hns hw x2) (cwV 1 htw (gV u_131 u_133 us_1 u_1 u_134) rfl rfl rfl hd_A_batchAt ⟨Nat.le_of_ble_eq_true rfl, Nat.le_of_ble_eq_true rfl⟩) ⟨xP_blind, hw.recv hK (ci := 0) (t := 0) rfl r0 rfl, xP_of hK hN⟩ rfl rfl hl.1 rfl (lv_room (Nat.le_of_ble_eq_true rfl)) d_A_mix_8 ⟨by decide, by decide⟩) hS (fun v H_ locs hp hS => ?_)
    obtain ⟨hHe, hp⟩ := hp
    rw [hHe] at hS ⊢
    rcases hp with ⟨f6, rfl⟩ | ⟨i5, hi5, rfl, rfl⟩
    · refine W.eq (g2 := F0 m 11 ls [.null]) rfl ?_
      refine lv_astoreN (lv' := [(4, .null), (3, .ref (ad (100 + i1))), (0, .ref (ad 0)), (1, .int (nI i1)), (2, .int x2)]) hx hb d_A_mix_11 hl (by decide) rfl (fun ls hl => ?_)
      refine lv_aload_n hx hb d_A_mix_13 rfl (lv_at hl 1 rfl) ?_
      refine lv_ifnull hx hb d_A_mix_14 ?_
      refine lv_aloadN hx hb d_A_mix_17 (lv_at hl 0 rfl) ?_
      refine lv_ifnullN (tgt := 36) hx hb d_A_mix_19 (by decide) ?_
      refine lv_iconst (v := (-1)) hx hb d_A_mix_36 (by decide) ?_
      have hf : f_mix σ (nI i1) x2 = (σ, (-1)) := by simp [f_mix, opt_n, opt_s, fi1, f6]
      refine W.widen (k := 4) (n := 49) (by decide) (by decide) ?_
      exact W.iret (v := (-1)) hx hb hr (fun t ht _ => ⟨_, rfl, by rw [hf, ht]; exact ⟨rfl, PX_same hw hR⟩, hS.F ht⟩) hS.2.2 d_A_mix_37
    · have fi5 : xi (σ.1 0) (nI i5) = some i5 := xi_nI hi5 (by omega)
      refine W.eq (g2 := F0 m 11 ls [.ref (ad (100 + i5))]) rfl ?_
      refine lv_astore (lv' := [(4, .ref (ad (100 + i5))), (3, .ref (ad (100 + i1))), (0, .ref (ad 0)), (1, .int (nI i1)), (2, .int (nI i5))]) hx hb d_A_mix_11 hl (by decide) rfl (fun ls hl => ?_)
      refine lv_aload_n hx hb d_A_mix_13 rfl (lv_at hl 1 rfl) ?_
      refine lv_ifnull hx hb d_A_mix_14 ?_
      refine lv_aload hx hb d_A_mix_17 (lv_at hl 0 rfl) ?_
      refine lv_ifnull hx hb d_A_mix_19 ?_
      refine lv_iload_n hx hb d_A_mix_22 rfl (lv_at hl 3 rfl) ?_
      refine lv_iload_n hx hb d_A_mix_23 rfl (lv_at hl 4 rfl) ?_
      refine lv_icmp_eq (tgt := 36) hx hb d_A_mix_24 (by decide) (fun c_7 => ?_) (fun c_7 => ?_)
      · have c_7 : i1 = i5 := (nEQ (a := i1) (b := i5) (by omega) (by omega)).mp c_7
        refine lv_iconst (v := (-1)) hx hb d_A_mix_36 (by decide) ?_
        have hf : f_mix σ (nI i1) (nI i5) = (σ, (-1)) := by simp [f_mix, opt_n, opt_s, fi1, fi5, c_7]
        refine W.widen (k := 4) (n := 49) (by decide) (by decide) ?_
        exact W.iret (v := (-1)) hx hb hr (fun t ht _ => ⟨_, rfl, by rw [hf, ht]; exact ⟨rfl, PX_same hw hR⟩, hS.F ht⟩) hS.2.2 d_A_mix_37
      · have c_7 : ¬ i1 = i5 := fun z => c_7 ((nEQ (a := i1) (b := i5) (by omega) (by omega)).mpr z)
        refine lv_aload_n hx hb d_A_mix_27 rfl (lv_at hl 2 rfl) ?_
        refine xr_get (ci := 0) (v := .int (nI (σ.1 0))) (C := R_A) (T := T_A) (N := 10) hx hb htw in_A hown hK hw 0 r0 rfl rfl 1 (by decide) (htw _ u_42) (fun _ h9 => h9) rfl d_A_mix_28 ?_
        refine lv_bipush (v := 8) hx hb d_A_mix_31 (by decide) ?_
        refine lv_icmp_lt (tgt := 38) hx hb d_A_mix_33 (by decide) (fun c_8 => ?_) (fun c_8 => ?_)
        · have c_8 : (σ.1 0) < 8 := (nLT (a := σ.1 0) (b := 8) (by omega) (by omega)).mp c_8
          refine lv_aload_n hx hb d_A_mix_38 rfl (lv_at hl 1 rfl) ?_
          refine xr_get (ci := 1) (v := .int (bI (σ.2.2.2 2 i1))) (C := R_B) (T := T_B) (N := 9) hx hb htw in_B hown hK hw (100 + i1) (rb i1 hi1) rfl rfl 7 (by decide) (htw _ u_102) (fun _ h9 => h9) rfl d_A_mix_39 ?_
          refine lv_if_ne (tgt := 65) hx hb d_A_mix_42 (by decide) (fun c_9 => ?_) (fun c_9 => ?_)
          · have c_9 : (σ.2.2.2 2 i1) = true := bI_t.mp c_9
            refine lv_iconst (v := (-1)) hx hb d_A_mix_65 (by decide) ?_
            have hf : f_mix σ (nI i1) (nI i5) = (σ, (-1)) := by simp [f_mix, opt_n, opt_s, fi1, fi5, c_7, c_8, c_9]
            refine W.widen (k := 4) (n := 49) (by decide) (by decide) ?_
            exact W.iret (v := (-1)) hx hb hr (fun t ht _ => ⟨_, rfl, by rw [hf, ht]; exact ⟨rfl, PX_same hw hR⟩, hS.F ht⟩) hS.2.2 d_A_mix_66
          · have c_9 : (σ.2.2.2 2 i1) = false := bI_f.mp c_9
            refine lv_aload hx hb d_A_mix_45 (lv_at hl 0 rfl) ?_
            refine xr_get (ci := 1) (v := .int (bI (σ.2.2.2 2 i5))) (C := R_B) (T := T_B) (N := 9) hx hb htw in_B hown hK hw (100 + i5) (rb i5 hi5) rfl rfl 7 (by decide) (htw _ u_102) (fun _ h9 => h9) rfl d_A_mix_47 ?_
            refine lv_if_ne (tgt := 65) hx hb d_A_mix_50 (by decide) (fun c_10 => ?_) (fun c_10 => ?_)
            · have c_10 : (σ.2.2.2 2 i5) = true := bI_t.mp c_10
              refine lv_iconst (v := (-1)) hx hb d_A_mix_65 (by decide) ?_
              have hf : f_mix σ (nI i1) (nI i5) = (σ, (-1)) := by simp [f_mix, opt_n, opt_s, fi1, fi5, c_7, c_8, c_9, c_10]
              refine W.widen (k := 4) (n := 49) (by decide) (by decide) ?_
              exact W.iret (v := (-1)) hx hb hr (fun t ht _ => ⟨_, rfl, by rw [hf, ht]; exact ⟨rfl, PX_same hw hR⟩, hS.F ht⟩) hS.2.2 d_A_mix_66
            · have c_10 : (σ.2.2.2 2 i5) = false := bI_f.mp c_10
              refine lv_aload_n hx hb d_A_mix_53 rfl (lv_at hl 1 rfl) ?_
              refine xr_get (ci := 1) (v := .int (bI (σ.2.2.2 1 i1))) (C := R_B) (T := T_B) (N := 9) hx hb htw in_B hown hK hw (100 + i1) (rb i1 hi1) rfl rfl 6 (by decide) (htw _ u_101) (fun _ h9 => h9) rfl d_A_mix_54 ?_
              refine lv_aload hx hb d_A_mix_57 (lv_at hl 0 rfl) ?_
              refine xr_get (ci := 1) (v := .int (bI (σ.2.2.2 1 i5))) (C := R_B) (T := T_B) (N := 9) hx hb htw in_B hown hK hw (100 + i5) (rb i5 hi5) rfl rfl 6 (by decide) (htw _ u_101) (fun _ h9 => h9) rfl d_A_mix_59 ?_
              refine lv_icmp_eq (tgt := 67) hx hb d_A_mix_62 (by decide) (fun c_11 => ?_) (fun c_11 => ?_)
              · refine lv_aload_n hx hb d_A_mix_67 rfl (lv_at hl 1 rfl) ?_
                refine lv_iconst (v := 1) hx hb d_A_mix_68 (by decide) ?_
                refine xr_put (ci := 1) (v := .int 1) (ty := .boolean) (C := R_B) (T := T_B) (N := 9) hx hb htw in_B ty_B tk_B nm_B hown hK hw hS (100 + i1) (rb i1 hi1) rfl rfl 7 (by decide) (htw _ u_102) (fun _ h9 => h9) rfl (by decide +kernel) (by decide) (by decide) (Nat.le_of_ble_eq_true rfl) d_A_mix_69 (fun H locs hw hS => ?_)
                have hw : xw D vwCl B ad (xu w (100 + i1) (.inr (1, [.int (σ.2.1 1 i1), .int (bI (σ.2.2.2 0 i1)), .ref (ad (110 + i1)), .ref (ad (120 + i1)), .ref (ad (130 + i1)), .long (σ.2.2.1 1 i1), .int (bI (σ.2.2.2 1 i1)), .int 1, .int (nI (σ.1 (10 + 2 * i1)))]))) H := hw
                refine lv_aload hx hb d_A_mix_72 (lv_at hl 0 rfl) ?_
                refine lv_iconst (v := 1) hx hb d_A_mix_74 (by decide) ?_
                refine xr_put (ci := 1) (v := .int 1) (ty := .boolean) (C := R_B) (T := T_B) (N := 9) hx hb htw in_B ty_B tk_B nm_B hown hK hw hS (100 + i5) ((xu_ne (by omega)).trans (rb i5 hi5)) rfl rfl 7 (by decide) (htw _ u_102) (fun _ h9 => h9) rfl (by decide +kernel) (by decide) (by decide) (Nat.le_of_ble_eq_true rfl) d_A_mix_75 (fun H locs hw hS => ?_)
                have hw : xw D vwCl B ad (xu (xu w (100 + i1) (.inr (1, [.int (σ.2.1 1 i1), .int (bI (σ.2.2.2 0 i1)), .ref (ad (110 + i1)), .ref (ad (120 + i1)), .ref (ad (130 + i1)), .long (σ.2.2.1 1 i1), .int (bI (σ.2.2.2 1 i1)), .int 1, .int (nI (σ.1 (10 + 2 * i1)))]))) (100 + i5) (.inr (1, [.int (σ.2.1 1 i5), .int (bI (σ.2.2.2 0 i5)), .ref (ad (110 + i5)), .ref (ad (120 + i5)), .ref (ad (130 + i5)), .long (σ.2.2.1 1 i5), .int (bI (σ.2.2.2 1 i5)), .int 1, .int (nI (σ.1 (10 + 2 * i5)))]))) H := hw
                refine lv_aload_n hx hb d_A_mix_78 rfl (lv_at hl 2 rfl) ?_
                refine lv_aload_n hx hb d_A_mix_79 rfl (lv_at hl 1 rfl) ?_
                refine lv_aload hx hb d_A_mix_80 (lv_at hl 0 rfl) ?_
                refine xr_call (va_runS (As := [.ref (ad (100 + i1)), .ref (ad (100 + i5))]) (rest := [.ref (ad 0)]) ⟨hx, hb, hml, hown, htw⟩ (c_A_mixtureOf (ad := ad) hw (Nat.le_trans hB hS.1) (100 + i1) (110 + i1) (σ.2.1 1 i1) (.int (bI (σ.2.2.2 0 i1))) (.ref (ad (120 + i1))) (.ref (ad (130 + i1))) (.int 1) (.int (nI (σ.1 (10 + 2 * i1)))) (ad (110 + i1)) (σ.2.2.1 1 i1) (σ.2.2.2 1 i1) (σ.2.2.1 (10 + i1)) ((xu_ne (by omega)).trans (xu_eq)) ((xu_ne (by omega)).trans ((xu_ne (by omega)).trans (rba i1 hi1))) rfl (ad (100 + i1)) rfl (100 + i5) (110 + i5) (σ.2.1 1 i5) (.int (bI (σ.2.2.2 0 i5))) (.ref (ad (120 + i5))) (.ref (ad (130 + i5))) (.int 1) (.int (nI (σ.1 (10 + 2 * i5)))) (ad (110 + i5)) (σ.2.2.1 1 i5) (σ.2.2.2 1 i5) (σ.2.2.1 (10 + i5)) xu_eq ((xu_ne (by omega)).trans ((xu_ne (by omega)).trans (rba i5 hi5))) rfl (ad (100 + i5)) rfl (100 + σ.1 0) (110 + σ.1 0) (120 + σ.1 0) (130 + σ.1 0) (by omega)) (va_cwS 2 htw (gS u_315 u_316 u_1 u_317) rfl rfl rfl hd_A_mixtureOf.2 ⟨Nat.le_of_ble_eq_true rfl, Nat.le_of_ble_eq_true rfl⟩) ⟨xP_blind, xP_of hK hN⟩ rfl rfl hl.1 rfl (lv_room (Nat.le_of_ble_eq_true rfl)) d_A_mix_82 ⟨by decide, by decide⟩) hS (fun v H_ locs hp hS => ?_)
                obtain ⟨ad_12, w_12, rfl, hw, y12_0, y12_1, y12_2, y12_3, hfr⟩ := hp
                generalize H_ = H at hw hS ⊢
                have hfw_12 : ∀ u, u ≠ 100 + σ.1 0 → u ≠ 110 + σ.1 0 → u ≠ 120 + σ.1 0 → u ≠ 130 + σ.1 0 → w_12 u = (xu (xu w (100 + i1) (.inr (1, [.int (σ.2.1 1 i1), .int (bI (σ.2.2.2 0 i1)), .ref (ad (110 + i1)), .ref (ad (120 + i1)), .ref (ad (130 + i1)), .long (σ.2.2.1 1 i1), .int (bI (σ.2.2.2 1 i1)), .int 1, .int (nI (σ.1 (10 + 2 * i1)))]))) (100 + i5) (.inr (1, [.int (σ.2.1 1 i5), .int (bI (σ.2.2.2 0 i5)), .ref (ad (110 + i5)), .ref (ad (120 + i5)), .ref (ad (130 + i5)), .long (σ.2.2.1 1 i5), .int (bI (σ.2.2.2 1 i5)), .int 1, .int (nI (σ.1 (10 + 2 * i5)))]))) u := fun u h0 h1 h2 h3 => (hfr u (by simp only [List.mem_cons, List.not_mem_nil, or_false, not_or]; exact ⟨h0, h1, h2, h3⟩)).1
                have hfa_12 : ∀ u, u ≠ 100 + σ.1 0 → u ≠ 110 + σ.1 0 → u ≠ 120 + σ.1 0 → u ≠ 130 + σ.1 0 → ad_12 u = ad u := fun u h0 h1 h2 h3 => (hfr u (by simp only [List.mem_cons, List.not_mem_nil, or_false, not_or]; exact ⟨h0, h1, h2, h3⟩)).2
                refine W.eq (g2 := F0 m 85 ls [.ref (ad_12 (100 + σ.1 0)), .ref (ad 0)]) rfl ?_
                refine xr_call (va_runV (As := [.ref (ad_12 (100 + σ.1 0))]) (rest := []) ⟨hx, hb, hml, hown, htw⟩ (c_A_keepBatch (ad := ad_12) hw (σ.1 0) (by omega) (ad 1) ((hfa_12 1 (by omega) (by omega) (by omega) (by omega)).trans rfl) (.ref (ad 2)) (.int (nI (σ.1 1))) (.ref (ad 3)) (.int (nI (σ.1 2))) (.ref (ad 4)) (.int (σ.2.1 0 0)) (.int (σ.2.1 0 1)) (.long (σ.2.2.1 0 0)) (fun i => if i < σ.1 0 then some (ad (100 + i)) else none) ((hfw_12 0 (by omega) (by omega) (by omega) (by omega)).trans ((xu_ne (by omega)).trans ((xu_ne (by omega)).trans (r0)))) ((hfw_12 1 (by omega) (by omega) (by omega) (by omega)).trans ((xu_ne (by omega)).trans ((xu_ne (by omega)).trans (r1)))) (100 + σ.1 0) _ (by omega) y12_0 (ad_12 (100 + σ.1 0)) rfl (ad 0) ((hfa_12 0 (by omega) (by omega) (by omega) (by omega)).trans rfl)) (cwV 1 htw (gV u_123 u_125 us_0 u_1 u_126) rfl rfl rfl hd_A_keepBatch ⟨Nat.le_of_ble_eq_true rfl, Nat.le_of_ble_eq_true rfl⟩) ⟨xP_blind, hw.recv hK (ci := 0) (t := 0) rfl ((hfw_12 0 (by omega) (by omega) (by omega) (by omega)).trans ((xu_ne (by omega)).trans ((xu_ne (by omega)).trans (r0)))) ((hfa_12 0 (by omega) (by omega) (by omega) (by omega)).trans rfl), xP_of hK hN⟩ rfl rfl hl.1 rfl (lv_room (Nat.le_of_ble_eq_true rfl)) d_A_mix_85 ⟨by decide, by decide⟩) hS (fun v H_ locs hp hS => ?_)
                obtain ⟨rfl, hw⟩ := hp
                generalize H_ = H at hw hS ⊢
                have hw : xw D vwCl B ad_12 (xu (xu w_12 1 (.inl (K 2, 8, .inr (.inr (.inr (.inr (va_up (fun i => if i < σ.1 0 then some (ad (100 + i)) else none) (σ.1 0) (some (ad_12 (100 + σ.1 0)))))))))) 0 (.inr (0, [.ref (ad 1), .int (nI (σ.1 0) + 1), .ref (ad 2), .int (nI (σ.1 1)), .ref (ad 3), .int (nI (σ.1 2)), .ref (ad 4), .int (σ.2.1 0 0), .int (σ.2.1 0 1), .long (σ.2.2.1 0 0)]))) H := hw
                refine W.eq (g2 := F0 m 88 ls [.int (nI (σ.1 0))]) rfl ?_
                have hq : ad_12 (100 + σ.1 0) = ad_12 (100 + σ.1 0) := rfl
                have hpu := fq_push (n := σ.1 0) (ad := ad) (ad1 := ad_12) (b := 100) (q := ad_12 (100 + σ.1 0)) hq (fun i hi => by simp (disch := omega) only [xa_ne, hfw_12, hfa_12, y12_0, y12_1, y12_2, y12_3])
                obtain ⟨hd1, hd2, hd3, hd4, hd5, hd6⟩ := hdf (σ.1 0) (Nat.le_refl _) (by omega)
                have hRep : RepX K (s_mix σ i1 i5) ad_12 (xu (xu w_12 1 (.inl (K 2, 8, .inr (.inr (.inr (.inr (va_up (fun i => if i < σ.1 0 then some (ad (100 + i)) else none) (σ.1 0) (some (ad_12 (100 + σ.1 0)))))))))) 0 (.inr (0, [.ref (ad 1), .int (nI (σ.1 0) + 1), .ref (ad 2), .int (nI (σ.1 1)), .ref (ad 3), .int (nI (σ.1 2)), .ref (ad 4), .int (σ.2.1 0 0), .int (σ.2.1 0 1), .long (σ.2.2.1 0 0)]))) := by
                  unfold s_mix s_new
                  refine ⟨?_, ?_, ?_, ?_, ?_, ?_, ?_, ?_, ?_, ?_, ?_, ?_, ?_, ?_, ?_⟩
                  · simp (disch := omega) only [pN, pI, pL, pZ, row_eq, row_ne, xu_eq, xu_ne, xa_eq, xa_ne, pk_us, pk_un, pk_uLs, pk_uLn, hfw_12, hfa_12, y12_0, y12_1, y12_2, y12_3, hd1, hd2, hd3, hd4, hd5, hd6, nI_succ, bI_ff, bI_tt, nI_0, r0]
                  · simp (disch := omega) only [pN, pI, pL, pZ, row_eq, row_ne, xu_eq, xu_ne, xa_eq, xa_ne, pk_us, pk_un, pk_uLs, pk_uLn, hfw_12, hfa_12, y12_0, y12_1, y12_2, y12_3, hpu]; try rfl
                  · simp (disch := omega) only [pN, pI, pL, pZ, row_eq, row_ne, xu_eq, xu_ne, xa_eq, xa_ne, pk_us, pk_un, pk_uLs, pk_uLn, hfw_12, hfa_12, y12_0, y12_1, y12_2, y12_3, hd1, hd2, hd3, hd4, hd5, hd6, nI_succ, bI_ff, bI_tt, nI_0, r2]; try rfl
                  · simp (disch := omega) only [pN, pI, pL, pZ, row_eq, row_ne, xu_eq, xu_ne, xa_eq, xa_ne, pk_us, pk_un, pk_uLs, pk_uLn, hfw_12, hfa_12, y12_0, y12_1, y12_2, y12_3, hd1, hd2, hd3, hd4, hd5, hd6, nI_succ, bI_ff, bI_tt, nI_0, r3]; try rfl
                  · simp (disch := omega) only [pN, pI, pL, pZ, row_eq, row_ne, xu_eq, xu_ne, xa_eq, xa_ne, pk_us, pk_un, pk_uLs, pk_uLn, hfw_12, hfa_12, y12_0, y12_1, y12_2, y12_3, hd1, hd2, hd3, hd4, hd5, hd6, nI_succ, bI_ff, bI_tt, nI_0, r4]
                  · simp (disch := omega) only [pN, pI, pL, pZ, row_eq, row_ne, xu_eq, xu_ne, xa_eq, xa_ne, pk_us, pk_un, pk_uLs, pk_uLn, hfw_12, hfa_12, y12_0, y12_1, y12_2, y12_3, hd1, hd2, hd3, hd4, hd5, hd6, nI_succ, bI_ff, bI_tt, nI_0, r5]
                  · simp (disch := omega) only [pN, pI, pL, pZ, row_eq, row_ne, xu_eq, xu_ne, xa_eq, xa_ne, pk_us, pk_un, pk_uLs, pk_uLn, hfw_12, hfa_12, y12_0, y12_1, y12_2, y12_3, hd1, hd2, hd3, hd4, hd5, hd6, nI_succ, bI_ff, bI_tt, nI_0, r6]
                  · simp (disch := omega) only [pN, pI, pL, pZ, row_eq, row_ne, xu_eq, xu_ne, xa_eq, xa_ne, pk_us, pk_un, pk_uLs, pk_uLn, hfw_12, hfa_12, y12_0, y12_1, y12_2, y12_3, hd1, hd2, hd3, hd4, hd5, hd6, nI_succ, bI_ff, bI_tt, nI_0, r7]
                  · intro jj hj
                    have hj : jj < σ.1 0 + 1 := by simpa (disch := omega) only [pN, pI, pL, pZ, row_eq, row_ne, xu_eq, xu_ne, xa_eq, xa_ne, pk_us, pk_un, pk_uLs, pk_uLn, hfw_12, hfa_12, y12_0, y12_1, y12_2, y12_3, hd1, hd2, hd3, hd4, hd5, hd6, nI_succ, bI_ff, bI_tt, nI_0] using hj
                    by_cases ej : jj = σ.1 0
                    · rw [ej]; simp (disch := omega) only [pN, pI, pL, pZ, row_eq, row_ne, xu_eq, xu_ne, xa_eq, xa_ne, pk_us, pk_un, pk_uLs, pk_uLn, hfw_12, hfa_12, y12_0, y12_1, y12_2, y12_3, hd1, hd2, hd3, hd4, hd5, hd6, nI_succ, bI_ff, bI_tt, nI_0]
                    · by_cases ej0 : jj = i1
                      · rw [ej0]; simp (disch := omega) only [pN, pI, pL, pZ, row_eq, row_ne, xu_eq, xu_ne, xa_eq, xa_ne, pk_us, pk_un, pk_uLs, pk_uLn, hfw_12, hfa_12, y12_0, y12_1, y12_2, y12_3, hd1, hd2, hd3, hd4, hd5, hd6, nI_succ, bI_ff, bI_tt, nI_0, rb i1 (by omega)]
                      · by_cases ej1 : jj = i5
                        · rw [ej1]; simp (disch := omega) only [pN, pI, pL, pZ, row_eq, row_ne, xu_eq, xu_ne, xa_eq, xa_ne, pk_us, pk_un, pk_uLs, pk_uLn, hfw_12, hfa_12, y12_0, y12_1, y12_2, y12_3, hd1, hd2, hd3, hd4, hd5, hd6, nI_succ, bI_ff, bI_tt, nI_0, rb i5 (by omega)]
                        · simp (disch := omega) only [pN, pI, pL, pZ, row_eq, row_ne, xu_eq, xu_ne, xa_eq, xa_ne, pk_us, pk_un, pk_uLs, pk_uLn, hfw_12, hfa_12, y12_0, y12_1, y12_2, y12_3, hd1, hd2, hd3, hd4, hd5, hd6, nI_succ, bI_ff, bI_tt, nI_0, rb jj (by omega)]
                  · intro jj hj
                    have hj : jj < σ.1 0 + 1 := by simpa (disch := omega) only [pN, pI, pL, pZ, row_eq, row_ne, xu_eq, xu_ne, xa_eq, xa_ne, pk_us, pk_un, pk_uLs, pk_uLn, hfw_12, hfa_12, y12_0, y12_1, y12_2, y12_3, hd1, hd2, hd3, hd4, hd5, hd6, nI_succ, bI_ff, bI_tt, nI_0] using hj
                    by_cases ej : jj = σ.1 0
                    · rw [ej]; simp (disch := omega) only [pN, pI, pL, pZ, row_eq, row_ne, xu_eq, xu_ne, xa_eq, xa_ne, pk_us, pk_un, pk_uLs, pk_uLn, hfw_12, hfa_12, y12_0, y12_1, y12_2, y12_3, hd1, hd2, hd3, hd4, hd5, hd6, nI_succ, bI_ff, bI_tt, nI_0]
                    · simp (disch := omega) only [pN, pI, pL, pZ, row_eq, row_ne, xu_eq, xu_ne, xa_eq, xa_ne, pk_us, pk_un, pk_uLs, pk_uLn, hfw_12, hfa_12, y12_0, y12_1, y12_2, y12_3, hd1, hd2, hd3, hd4, hd5, hd6, nI_succ, bI_ff, bI_tt, nI_0, rba jj (by omega)]
                  · intro jj hj
                    have hj : jj < σ.1 0 + 1 := by simpa (disch := omega) only [pN, pI, pL, pZ, row_eq, row_ne, xu_eq, xu_ne, xa_eq, xa_ne, pk_us, pk_un, pk_uLs, pk_uLn, hfw_12, hfa_12, y12_0, y12_1, y12_2, y12_3, hd1, hd2, hd3, hd4, hd5, hd6, nI_succ, bI_ff, bI_tt, nI_0] using hj
                    by_cases ej : jj = σ.1 0
                    · rw [ej]; simp (disch := omega) only [pN, pI, pL, pZ, row_eq, row_ne, xu_eq, xu_ne, xa_eq, xa_ne, pk_us, pk_un, pk_uLs, pk_uLn, hfw_12, hfa_12, y12_0, y12_1, y12_2, y12_3, hd1, hd2, hd3, hd4, hd5, hd6, nI_succ, bI_ff, bI_tt, nI_0]
                    · simp (disch := omega) only [pN, pI, pL, pZ, row_eq, row_ne, xu_eq, xu_ne, xa_eq, xa_ne, pk_us, pk_un, pk_uLs, pk_uLn, hfw_12, hfa_12, y12_0, y12_1, y12_2, y12_3, hd1, hd2, hd3, hd4, hd5, hd6, nI_succ, bI_ff, bI_tt, nI_0, rbt jj (by omega)]
                  · intro jj hj
                    have hj : jj < σ.1 0 + 1 := by simpa (disch := omega) only [pN, pI, pL, pZ, row_eq, row_ne, xu_eq, xu_ne, xa_eq, xa_ne, pk_us, pk_un, pk_uLs, pk_uLn, hfw_12, hfa_12, y12_0, y12_1, y12_2, y12_3, hd1, hd2, hd3, hd4, hd5, hd6, nI_succ, bI_ff, bI_tt, nI_0] using hj
                    by_cases ej : jj = σ.1 0
                    · rw [ej]; simp (disch := omega) only [pN, pI, pL, pZ, row_eq, row_ne, xu_eq, xu_ne, xa_eq, xa_ne, pk_us, pk_un, pk_uLs, pk_uLn, hfw_12, hfa_12, y12_0, y12_1, y12_2, y12_3, hd1, hd2, hd3, hd4, hd5, hd6, nI_succ, bI_ff, bI_tt, nI_0]
                    · simp (disch := omega) only [pN, pI, pL, pZ, row_eq, row_ne, xu_eq, xu_ne, xa_eq, xa_ne, pk_us, pk_un, pk_uLs, pk_uLn, hfw_12, hfa_12, y12_0, y12_1, y12_2, y12_3, hd1, hd2, hd3, hd4, hd5, hd6, nI_succ, bI_ff, bI_tt, nI_0, rbo jj (by omega)]
                  · intro jj hj
                    have hj : jj < σ.1 1 := by first | exact hj | simpa (disch := omega) only [pN, pI, pL, pZ, row_eq, row_ne, xu_eq, xu_ne, xa_eq, xa_ne, pk_us, pk_un, pk_uLs, pk_uLn, hfw_12, hfa_12, y12_0, y12_1, y12_2, y12_3, hd1, hd2, hd3, hd4, hd5, hd6, nI_succ, bI_ff, bI_tt, nI_0] using hj
                    simp (disch := omega) only [pN, pI, pL, pZ, row_eq, row_ne, xu_eq, xu_ne, xa_eq, xa_ne, pk_us, pk_un, pk_uLs, pk_uLn, hfw_12, hfa_12, y12_0, y12_1, y12_2, y12_3, hd1, hd2, hd3, hd4, hd5, hd6, nI_succ, bI_ff, bI_tt, nI_0, rs jj hj]
                  · intro jj hj
                    have hj : jj < σ.1 1 := by first | exact hj | simpa (disch := omega) only [pN, pI, pL, pZ, row_eq, row_ne, xu_eq, xu_ne, xa_eq, xa_ne, pk_us, pk_un, pk_uLs, pk_uLn, hfw_12, hfa_12, y12_0, y12_1, y12_2, y12_3, hd1, hd2, hd3, hd4, hd5, hd6, nI_succ, bI_ff, bI_tt, nI_0] using hj
                    simp (disch := omega) only [pN, pI, pL, pZ, row_eq, row_ne, xu_eq, xu_ne, xa_eq, xa_ne, pk_us, pk_un, pk_uLs, pk_uLn, hfw_12, hfa_12, y12_0, y12_1, y12_2, y12_3, hd1, hd2, hd3, hd4, hd5, hd6, nI_succ, bI_ff, bI_tt, nI_0, rss jj hj]
                  · intro jj hj
                    have hj : jj < σ.1 2 := by first | exact hj | simpa (disch := omega) only [pN, pI, pL, pZ, row_eq, row_ne, xu_eq, xu_ne, xa_eq, xa_ne, pk_us, pk_un, pk_uLs, pk_uLn, hfw_12, hfa_12, y12_0, y12_1, y12_2, y12_3, hd1, hd2, hd3, hd4, hd5, hd6, nI_succ, bI_ff, bI_tt, nI_0] using hj
                    simp (disch := omega) only [pN, pI, pL, pZ, row_eq, row_ne, xu_eq, xu_ne, xa_eq, xa_ne, pk_us, pk_un, pk_uLs, pk_uLn, hfw_12, hfa_12, y12_0, y12_1, y12_2, y12_3, hd1, hd2, hd3, hd4, hd5, hd6, nI_succ, bI_ff, bI_tt, nI_0, rr jj hj]
                have hf : f_mix σ (nI i1) (nI i5) = (s_mix σ i1 i5, nI (σ.1 0)) := by simp [f_mix, opt_n, opt_s, fi1, fi5, c_7, c_8, c_9, c_10, c_11]
                exact W.iret (v := nI (σ.1 0)) hx hb hr (fun t ht _ => ⟨_, rfl, by rw [hf, ht]; exact ⟨rfl, _, _, hw, hRep, by simp (disch := omega) only [xu_ne, xa_ne, hfw_12, hfa_12, y12_0, y12_1, y12_2, y12_3, hd1, hd2, hd3, hd4, hd5, hd6, nI_succ, bI_ff, bI_tt, nI_0], fun t h2 => ⟨by simp (disch := omega) only [xu_ne, xa_ne, hfw_12, hfa_12, y12_0, y12_1, y12_2, y12_3, hd1, hd2, hd3, hd4, hd5, hd6, nI_succ, bI_ff, bI_tt, nI_0], by simp (disch := omega) only [xu_ne, xa_ne, hfw_12, hfa_12, y12_0, y12_1, y12_2, y12_3, hd1, hd2, hd3, hd4, hd5, hd6, nI_succ, bI_ff, bI_tt, nI_0]⟩⟩, hS.F ht⟩) hS.2.2 d_A_mix_88
              · refine lv_iconst (v := (-1)) hx hb d_A_mix_65 (by decide) ?_
                have hf : f_mix σ (nI i1) (nI i5) = (σ, (-1)) := by simp [f_mix, opt_n, opt_s, fi1, fi5, c_7, c_8, c_9, c_10, c_11]
                refine W.widen (k := 4) (n := 49) (by decide) (by decide) ?_
                exact W.iret (v := (-1)) hx hb hr (fun t ht _ => ⟨_, rfl, by rw [hf, ht]; exact ⟨rfl, PX_same hw hR⟩, hS.F ht⟩) hS.2.2 d_A_mix_66
        · have c_8 : ¬ (σ.1 0) < 8 := fun z => c_8 ((nLT (a := σ.1 0) (b := 8) (by omega) (by omega)).mpr z)
          refine lv_iconst (v := (-1)) hx hb d_A_mix_36 (by decide) ?_
          have hf : f_mix σ (nI i1) (nI i5) = (σ, (-1)) := by simp [f_mix, opt_n, opt_s, fi1, fi5, c_7, c_8]
          refine W.widen (k := 4) (n := 49) (by decide) (by decide) ?_
          exact W.iret (v := (-1)) hx hb hr (fun t ht _ => ⟨_, rfl, by rw [hf, ht]; exact ⟨rfl, PX_same hw hR⟩, hS.F ht⟩) hS.2.2 d_A_mix_37
set_option maxHeartbeats 4000000 in
set_option maxRecDepth 100000 in
theorem c_A_init {l : Launch} {D : va_G} {K : Nat → ClassId} {B : Nat} {ad : Nat → Nat} {w : Nat → Option va_E} {H : Heap} (hw : xw D vwCl B ad w H) (h0 : w 0 = some (.inr (0, [.null, .int 0, .null, .int 0, .null, .int 0, .null, .int 0, .int 0, .long 0]))) (hB : B ≤ H.size) (a : Nat) (ha : ad 0 = a) : xC l D K B y_A_init b_A_init 1 none rm_A_init [.ref a] H (fun v H1 => v = none ∧ PX D K B ad w s_0 H1) := by
  refine Met.ofW (cc := b_A_init) (maxL := 1) (ret := none) (by decide) rfl ?_
  intro p e s m args below meth c s₁ B0 hml hv
  obtain ⟨rfl, hsz, hK, hN⟩ := hv
  have hx := B0.exec
  have hb := B0.bytes
  have hr := B0.returns
  have htw : ∀ w ∈ xW0, w.before [.ref a].toArray s = true := fun w h => atoms_spec (ws := Cond.code y_A_init b_A_init 1 none :: xW0) B0.pre w (List.mem_cons_of_mem _ h)
  have hown : s.vm.findClass R_A = some m.cls := findClass_of_methodNamed B0.named
  have hlocks := B0.notSynchronized
  have hin : meth.name = "<init>" := (name_of_methodNamed B0.named B0.method).1
  subst hsz
  have hS : va_S (fun q => B ≤ q) s.heap s.heap [] := va_S.rf
  have hl := lv_entry ([.ref a]) (n := 1) (Nat.le_of_ble_eq_true rfl)
  rw [lg_entry_eq]
  generalize (lg_sl ([.ref a]) ++ List.replicate (1 - (lg_sl ([.ref a])).length) Slot.unset).toArray = ls at hl ⊢
  have hl : lv_has ls 1 [(0, .ref a)] := hl
  have hH : s.heap = s.heap := rfl
  refine lv_aload_n hx hb d_A_init_0 rfl (lv_at hl 0 rfl) ?_
  refine W.objInit hx hb hown (htw _ u_14) (htw _ u_15) (htw _ u_16) rfl (by rw [hml]; exact hl.1) rfl d_A_init_1 (Nat.le_of_ble_eq_true rfl) (Nat.le_of_ble_eq_true rfl) ?_
  refine W.eq (g2 := F0 m 4 ls []) rfl ?_
  refine lv_aload_n hx hb d_A_init_4 rfl (lv_at hl 0 rfl) ?_
  refine lv_bipush (v := 8) hx hb d_A_init_5 (by decide) ?_
  refine xr_newq (N' := 8) hx hb hown (htw _ u_17) (hN (.arrayOver (.object R_B)) (by decide +kernel)).1 hK hw hS hB 1 2 rfl (by decide) (by decide) (by decide) (by decide) (by decide) d_A_init_7 (fun H ad_2 q_1 eq_1 lq_1 hw hS => ?_)
  have hw : xw D vwCl B ad_2 (xu w 1 (.inl (K 2, 8, .inr (.inr (.inr (.inr (fun _ => none))))))) H := hw
  have aq_1 : ad_2 1 = q_1 := by rw [eq_1]; exact xa_eq
  refine xr_putF (ci := 0) (v := .ref q_1) (ty := .array (.object "AshMetals$Batch")) (C := R_A) (T := T_A) (N := 10) hx hb htw in_A ty_A tk_A nm_A hown hK hw hS 0 ((xu_ne (by omega)).trans (h0)) ((show ad_2 0 = ad 0 by rw [eq_1]; exact xa_ne (by omega)).trans ha) rfl 0 (by decide) (htw _ u_41) (fun _ h9 => h9) rfl hin rfl (by decide +kernel) rfl rfl (Nat.le_of_ble_eq_true rfl) d_A_init_10 (fun H locs hw hS => ?_)
  have hw : xw D vwCl B ad_2 (xu (xu w 1 (.inl (K 2, 8, .inr (.inr (.inr (.inr (fun _ => none))))))) 0 (.inr (0, [.ref q_1, .int 0, .null, .int 0, .null, .int 0, .null, .int 0, .int 0, .long 0]))) H := hw
  refine lv_aload_n hx hb d_A_init_13 rfl (lv_at hl 0 rfl) ?_
  refine lv_bipush (v := 6) hx hb d_A_init_14 (by decide) ?_
  refine xr_newq (N' := 6) hx hb hown (htw _ u_19) (hN (.arrayOver (.object R_S)) (by decide +kernel)).1 hK hw hS hB 2 3 rfl (by decide) (by decide) (by decide) (by decide) (by decide) d_A_init_16 (fun H ad_4 q_3 eq_3 lq_3 hw hS => ?_)
  have hw : xw D vwCl B ad_4 (xu (xu (xu w 1 (.inl (K 2, 8, .inr (.inr (.inr (.inr (fun _ => none))))))) 0 (.inr (0, [.ref q_1, .int 0, .null, .int 0, .null, .int 0, .null, .int 0, .int 0, .long 0]))) 2 (.inl (K 3, 6, .inr (.inr (.inr (.inr (fun _ => none))))))) H := hw
  have aq_3 : ad_4 2 = q_3 := by rw [eq_3]; exact xa_eq
  refine xr_putF (ci := 0) (v := .ref q_3) (ty := .array (.object "AshMetals$Stage")) (C := R_A) (T := T_A) (N := 10) hx hb htw in_A ty_A tk_A nm_A hown hK hw hS 0 ((xu_ne (by omega)).trans (xu_eq)) ((show ad_4 0 = ad_2 0 by rw [eq_3]; exact xa_ne (by omega)).trans ((show ad_2 0 = ad 0 by rw [eq_1]; exact xa_ne (by omega)).trans ha)) rfl 2 (by decide) (htw _ u_43) (fun _ h9 => h9) rfl hin rfl (by decide +kernel) rfl rfl (Nat.le_of_ble_eq_true rfl) d_A_init_19 (fun H locs hw hS => ?_)
  have hw : xw D vwCl B ad_4 (xu (xu (xu (xu w 1 (.inl (K 2, 8, .inr (.inr (.inr (.inr (fun _ => none))))))) 0 (.inr (0, [.ref q_1, .int 0, .null, .int 0, .null, .int 0, .null, .int 0, .int 0, .long 0]))) 2 (.inl (K 3, 6, .inr (.inr (.inr (.inr (fun _ => none))))))) 0 (.inr (0, [.ref q_1, .int 0, .ref q_3, .int 0, .null, .int 0, .null, .int 0, .int 0, .long 0]))) H := hw
  refine lv_aload_n hx hb d_A_init_22 rfl (lv_at hl 0 rfl) ?_
  refine lv_bipush (v := 8) hx hb d_A_init_23 (by decide) ?_
  refine xr_newq (N' := 8) hx hb hown (htw _ u_21) (hN (.arrayOver (.object R_R)) (by decide +kernel)).1 hK hw hS hB 3 4 rfl (by decide) (by decide) (by decide) (by decide) (by decide) d_A_init_25 (fun H ad_6 q_5 eq_5 lq_5 hw hS => ?_)
  have hw : xw D vwCl B ad_6 (xu (xu (xu (xu (xu w 1 (.inl (K 2, 8, .inr (.inr (.inr (.inr (fun _ => none))))))) 0 (.inr (0, [.ref q_1, .int 0, .null, .int 0, .null, .int 0, .null, .int 0, .int 0, .long 0]))) 2 (.inl (K 3, 6, .inr (.inr (.inr (.inr (fun _ => none))))))) 0 (.inr (0, [.ref q_1, .int 0, .ref q_3, .int 0, .null, .int 0, .null, .int 0, .int 0, .long 0]))) 3 (.inl (K 4, 8, .inr (.inr (.inr (.inr (fun _ => none))))))) H := hw
  have aq_5 : ad_6 3 = q_5 := by rw [eq_5]; exact xa_eq
  refine xr_putF (ci := 0) (v := .ref q_5) (ty := .array (.object "AshMetals$Rule")) (C := R_A) (T := T_A) (N := 10) hx hb htw in_A ty_A tk_A nm_A hown hK hw hS 0 ((xu_ne (by omega)).trans (xu_eq)) ((show ad_6 0 = ad_4 0 by rw [eq_5]; exact xa_ne (by omega)).trans ((show ad_4 0 = ad_2 0 by rw [eq_3]; exact xa_ne (by omega)).trans ((show ad_2 0 = ad 0 by rw [eq_1]; exact xa_ne (by omega)).trans ha))) rfl 4 (by decide) (htw _ u_45) (fun _ h9 => h9) rfl hin rfl (by decide +kernel) rfl rfl (Nat.le_of_ble_eq_true rfl) d_A_init_28 (fun H locs hw hS => ?_)
  have hw : xw D vwCl B ad_6 (xu (xu (xu (xu (xu (xu w 1 (.inl (K 2, 8, .inr (.inr (.inr (.inr (fun _ => none))))))) 0 (.inr (0, [.ref q_1, .int 0, .null, .int 0, .null, .int 0, .null, .int 0, .int 0, .long 0]))) 2 (.inl (K 3, 6, .inr (.inr (.inr (.inr (fun _ => none))))))) 0 (.inr (0, [.ref q_1, .int 0, .ref q_3, .int 0, .null, .int 0, .null, .int 0, .int 0, .long 0]))) 3 (.inl (K 4, 8, .inr (.inr (.inr (.inr (fun _ => none))))))) 0 (.inr (0, [.ref q_1, .int 0, .ref q_3, .int 0, .ref q_5, .int 0, .null, .int 0, .int 0, .long 0]))) H := hw
  refine lv_aload_n hx hb d_A_init_31 rfl (lv_at hl 0 rfl) ?_
  refine xr_new (ci := 4) (fs := [.null, .null, .null]) (C := R_P) (T := T_P) (N := 3) hx hb htw in_P ty_P tk_P hown (htw _ u_23) (htw _ u_24) (htw _ u_2) hK hw hS hB 4 rfl (fun j hj => by rcases (show j = 0 ∨ j = 1 ∨ j = 2 by omega) with rfl | rfl | rfl <;> rfl) (by decide) (by decide) d_A_init_32 (fun H ad_8 q_7 eq_7 lq_7 hw hS => ?_)
  have hw : xw D vwCl B ad_8 (xu (xu (xu (xu (xu (xu (xu w 1 (.inl (K 2, 8, .inr (.inr (.inr (.inr (fun _ => none))))))) 0 (.inr (0, [.ref q_1, .int 0, .null, .int 0, .null, .int 0, .null, .int 0, .int 0, .long 0]))) 2 (.inl (K 3, 6, .inr (.inr (.inr (.inr (fun _ => none))))))) 0 (.inr (0, [.ref q_1, .int 0, .ref q_3, .int 0, .null, .int 0, .null, .int 0, .int 0, .long 0]))) 3 (.inl (K 4, 8, .inr (.inr (.inr (.inr (fun _ => none))))))) 0 (.inr (0, [.ref q_1, .int 0, .ref q_3, .int 0, .ref q_5, .int 0, .null, .int 0, .int 0, .long 0]))) 4 (.inr (4, [.null, .null, .null]))) H := hw
  have aq_7 : ad_8 4 = q_7 := by rw [eq_7]; exact xa_eq
  refine lv_dup hx hb d_A_init_35 rfl ?_
  refine xr_call (va_runI (As := []) (rest := [.ref q_7, .ref a]) ⟨hx, hb, hml, hown, htw⟩ (c_P_init (ad := ad_8) hw 4 5 6 7 (by omega) xu_eq (Nat.le_trans hB hS.1) q_7 aq_7) (cwI 0 htw (gC u_27) rfl rfl rfl (htw _ u_2) (htw _ u_25) (htw _ u_26) rfl hd_P_init.2 ⟨Nat.le_of_ble_eq_true rfl, Nat.le_of_ble_eq_true rfl⟩) ⟨xP_blind, xP_of hK hN⟩ rfl rfl hl.1 rfl (lv_room (Nat.le_of_ble_eq_true rfl)) d_A_init_36 ⟨by decide, by decide⟩) hS (fun v H_ locs hp hS => ?_)
  obtain ⟨rfl, ad_9, w_9, hw, y9_0, y9_1, y9_2, y9_3, z9, hfr⟩ := hp
  generalize H_ = H at hw hS ⊢
  have hfw_9 : ∀ u, u ≠ 4 → u ≠ 5 → u ≠ 6 → u ≠ 7 → w_9 u = (xu (xu (xu (xu (xu (xu (xu w 1 (.inl (K 2, 8, .inr (.inr (.inr (.inr (fun _ => none))))))) 0 (.inr (0, [.ref q_1, .int 0, .null, .int 0, .null, .int 0, .null, .int 0, .int 0, .long 0]))) 2 (.inl (K 3, 6, .inr (.inr (.inr (.inr (fun _ => none))))))) 0 (.inr (0, [.ref q_1, .int 0, .ref q_3, .int 0, .null, .int 0, .null, .int 0, .int 0, .long 0]))) 3 (.inl (K 4, 8, .inr (.inr (.inr (.inr (fun _ => none))))))) 0 (.inr (0, [.ref q_1, .int 0, .ref q_3, .int 0, .ref q_5, .int 0, .null, .int 0, .int 0, .long 0]))) 4 (.inr (4, [.null, .null, .null]))) u := fun u h0 h1 h2 h3 => (hfr u (by simp only [List.mem_cons, List.not_mem_nil, or_false, not_or]; exact ⟨h0, h1, h2, h3⟩)).1
  have hfa_9 : ∀ u, u ≠ 4 → u ≠ 5 → u ≠ 6 → u ≠ 7 → ad_9 u = ad_8 u := fun u h0 h1 h2 h3 => (hfr u (by simp only [List.mem_cons, List.not_mem_nil, or_false, not_or]; exact ⟨h0, h1, h2, h3⟩)).2
  refine W.eq (g2 := F0 m 39 ls [.ref q_7, .ref a]) rfl ?_
  refine xr_putF (ci := 0) (v := .ref q_7) (ty := .object "AshMetals$PriceTable") (C := R_A) (T := T_A) (N := 10) hx hb htw in_A ty_A tk_A nm_A hown hK hw hS 0 ((hfw_9 0 (by omega) (by omega) (by omega) (by omega)).trans ((xu_ne (by omega)).trans (xu_eq))) ((hfa_9 0 (by omega) (by omega) (by omega) (by omega)).trans ((show ad_8 0 = ad_6 0 by rw [eq_7]; exact xa_ne (by omega)).trans ((show ad_6 0 = ad_4 0 by rw [eq_5]; exact xa_ne (by omega)).trans ((show ad_4 0 = ad_2 0 by rw [eq_3]; exact xa_ne (by omega)).trans ((show ad_2 0 = ad 0 by rw [eq_1]; exact xa_ne (by omega)).trans ha))))) rfl 6 (by decide) (htw _ u_47) (fun _ h9 => h9) rfl hin rfl (by decide +kernel) rfl rfl (Nat.le_of_ble_eq_true rfl) d_A_init_39 (fun H locs hw hS => ?_)
  have hw : xw D vwCl B ad_9 (xu w_9 0 (.inr (0, [.ref q_1, .int 0, .ref q_3, .int 0, .ref q_5, .int 0, .ref q_7, .int 0, .int 0, .long 0]))) H := hw
  refine lv_aload_n hx hb d_A_init_42 rfl (lv_at hl 0 rfl) ?_
  refine lv_bipush (v := 50) hx hb d_A_init_43 (by decide) ?_
  refine xr_put (ci := 0) (v := .int 50) (ty := .int) (C := R_A) (T := T_A) (N := 10) hx hb htw in_A ty_A tk_A nm_A hown hK hw hS 0 xu_eq ((hfa_9 0 (by omega) (by omega) (by omega) (by omega)).trans ((show ad_8 0 = ad_6 0 by rw [eq_7]; exact xa_ne (by omega)).trans ((show ad_6 0 = ad_4 0 by rw [eq_5]; exact xa_ne (by omega)).trans ((show ad_4 0 = ad_2 0 by rw [eq_3]; exact xa_ne (by omega)).trans ((show ad_2 0 = ad 0 by rw [eq_1]; exact xa_ne (by omega)).trans ha))))) rfl 8 (by decide) (htw _ u_49) (fun _ h9 => h9) rfl (by decide +kernel) rfl rfl (Nat.le_of_ble_eq_true rfl) d_A_init_45 (fun H locs hw hS => ?_)
  have hw : xw D vwCl B ad_9 (xu (xu w_9 0 (.inr (0, [.ref q_1, .int 0, .ref q_3, .int 0, .ref q_5, .int 0, .ref q_7, .int 0, .int 0, .long 0]))) 0 (.inr (0, [.ref q_1, .int 0, .ref q_3, .int 0, .ref q_5, .int 0, .ref q_7, .int 0, .int 50, .long 0]))) H := hw
  have hRep : RepX K s_0 ad_9 (xu (xu w_9 0 (.inr (0, [.ref q_1, .int 0, .ref q_3, .int 0, .ref q_5, .int 0, .ref q_7, .int 0, .int 0, .long 0]))) 0 (.inr (0, [.ref q_1, .int 0, .ref q_3, .int 0, .ref q_5, .int 0, .ref q_7, .int 0, .int 50, .long 0]))) := by
    refine ⟨?_, ?_, ?_, ?_, ?_, ?_, ?_, ?_, ?_, ?_, ?_, ?_, ?_, ?_, ?_⟩
    · simp (disch := omega) [pN, pI, pL, pZ, row_eq, row_ne, xu_eq, xu_ne, xa_eq, xa_ne, pk_us, pk_un, pk_uLs, pk_uLn, eq_1, eq_3, eq_5, eq_7, hfw_9, hfa_9, z9, y9_0, y9_1, y9_2, y9_3, s_0, nI_0]
    · simp (disch := omega) [pN, pI, pL, pZ, row_eq, row_ne, xu_eq, xu_ne, xa_eq, xa_ne, pk_us, pk_un, pk_uLs, pk_uLn, eq_1, eq_3, eq_5, eq_7, hfw_9, hfa_9, z9, y9_0, y9_1, y9_2, y9_3, s_0, nI_0]
    · simp (disch := omega) [pN, pI, pL, pZ, row_eq, row_ne, xu_eq, xu_ne, xa_eq, xa_ne, pk_us, pk_un, pk_uLs, pk_uLn, eq_1, eq_3, eq_5, eq_7, hfw_9, hfa_9, z9, y9_0, y9_1, y9_2, y9_3, s_0, nI_0]
    · simp (disch := omega) [pN, pI, pL, pZ, row_eq, row_ne, xu_eq, xu_ne, xa_eq, xa_ne, pk_us, pk_un, pk_uLs, pk_uLn, eq_1, eq_3, eq_5, eq_7, hfw_9, hfa_9, z9, y9_0, y9_1, y9_2, y9_3, s_0, nI_0]
    · simp (disch := omega) [pN, pI, pL, pZ, row_eq, row_ne, xu_eq, xu_ne, xa_eq, xa_ne, pk_us, pk_un, pk_uLs, pk_uLn, eq_1, eq_3, eq_5, eq_7, hfw_9, hfa_9, z9, y9_0, y9_1, y9_2, y9_3, s_0, nI_0]
    · simp (disch := omega) [pN, pI, pL, pZ, row_eq, row_ne, xu_eq, xu_ne, xa_eq, xa_ne, pk_us, pk_un, pk_uLs, pk_uLn, eq_1, eq_3, eq_5, eq_7, hfw_9, hfa_9, z9, y9_0, y9_1, y9_2, y9_3, s_0, nI_0]
    · simp (disch := omega) [pN, pI, pL, pZ, row_eq, row_ne, xu_eq, xu_ne, xa_eq, xa_ne, pk_us, pk_un, pk_uLs, pk_uLn, eq_1, eq_3, eq_5, eq_7, hfw_9, hfa_9, z9, y9_0, y9_1, y9_2, y9_3, s_0, nI_0]
    · simp (disch := omega) [pN, pI, pL, pZ, row_eq, row_ne, xu_eq, xu_ne, xa_eq, xa_ne, pk_us, pk_un, pk_uLs, pk_uLn, eq_1, eq_3, eq_5, eq_7, hfw_9, hfa_9, z9, y9_0, y9_1, y9_2, y9_3, s_0, nI_0]
    · intro jj hj; exact absurd hj (Nat.not_lt_zero jj)
    · intro jj hj; exact absurd hj (Nat.not_lt_zero jj)
    · intro jj hj; exact absurd hj (Nat.not_lt_zero jj)
    · intro jj hj; exact absurd hj (Nat.not_lt_zero jj)
    · intro jj hj; exact absurd hj (Nat.not_lt_zero jj)
    · intro jj hj; exact absurd hj (Nat.not_lt_zero jj)
    · intro jj hj; exact absurd hj (Nat.not_lt_zero jj)
  exact W.vret hx hb hr (fun t ht _ => ⟨_, rfl, by rw [ht]; exact ⟨rfl, _, _, hw, hRep, by simp (disch := omega) only [xu_ne, xa_ne, eq_1, eq_3, eq_5, eq_7, hfw_9, hfa_9, z9, y9_0, y9_1, y9_2, y9_3], fun t h2 => ⟨by simp (disch := omega) only [xu_ne, xa_ne, eq_1, eq_3, eq_5, eq_7, hfw_9, hfa_9, z9, y9_0, y9_1, y9_2, y9_3], by simp (disch := omega) only [xu_ne, xa_ne, eq_1, eq_3, eq_5, eq_7, hfw_9, hfa_9, z9, y9_0, y9_1, y9_2, y9_3]⟩⟩, hS.F ht⟩) hS.2.2 d_A_init_48
