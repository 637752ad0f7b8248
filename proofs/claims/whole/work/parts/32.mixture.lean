set_option maxHeartbeats 4000000 in
set_option maxRecDepth 100000 in
theorem c_A_mixtureOf {l : Launch} {D : va_G} {K : Nat → ClassId} {B : Nat} {ad : Nat → Nat} {w : Nat → Option va_E} {H : Heap} (hw : xw D vwCl B ad w H) (hB : B ≤ H.size) (i j n : Nat) (hi : i < n) (hj : j < n) (hn : n < 8) (d1 : Int32) (m1 q1 r1 y1 z1 : Value) (p1 : Nat) (g1 : Int64) (b1 : Bool) (A1 : Nat → Int64) (o1 : w (100 + i) = some (.inr (1, [.int d1, m1, .ref p1, q1, r1, .long g1, .int (bI b1), y1, z1]))) (n1 : w (110 + i) = some (.inl (K 1, 4, .inr (.inl A1)))) (hp1 : ad (110 + i) = p1) (a1 : Nat) (ha1 : ad (100 + i) = a1) (d2 : Int32) (m2 q2 r2 y2 z2 : Value) (p2 : Nat) (g2 : Int64) (b2 : Bool) (A2 : Nat → Int64) (o2 : w (100 + j) = some (.inr (1, [.int d2, m2, .ref p2, q2, r2, .long g2, .int (bI b2), y2, z2]))) (n2 : w (110 + j) = some (.inl (K 1, 4, .inr (.inl A2)))) (hp2 : ad (110 + j) = p2) (a2 : Nat) (ha2 : ad (100 + j) = a2) : xC l D K B y_A_mixtureOf b_A_mixtureOf 4 (some (.object "AshMetals$Batch")) rm_A_mixtureOf [.ref a1, .ref a2] H (fun v H1 => ∃ (ad1 : Nat → Nat) (w1 : Nat → Option va_E), v = some (.ref (ad1 (100 + n))) ∧ xw D vwCl B ad1 w1 H1 ∧ w1 (100 + n) = some (.inr (1, [.int (mx d1 d2), .int 1, .ref (ad1 (110 + n)), .ref (ad1 (120 + n)), .ref (ad1 (130 + n)), .long (g1 + g2), .int (bI (b1 && b2)), .int 0, .int 0])) ∧ w1 (110 + n) = some (.inl (K 1, 4, .inr (.inl (vp_updL (vp_updL (vp_updL (vp_updL (fun _ => 0) 0 (A1 0 + A2 0)) 1 (A1 1 + A2 1)) 2 (A1 2 + A2 2)) 3 (A1 3 + A2 3))))) ∧ w1 (120 + n) = some (.inl (K 1, 24, .inr (.inl (fun _ => 0)))) ∧ w1 (130 + n) = some (.inl (K 0, 12, .inl (fun _ => -1))) ∧ Fr ad ad1 w w1 [100 + n, 110 + n, 120 + n, 130 + n]) := by
  refine Met.ofW (cc := b_A_mixtureOf) (maxL := 4) (ret := (some (.object "AshMetals$Batch"))) (by decide) rfl ?_
  intro p e s m args below meth c s₁ B0 hml hv
  obtain ⟨rfl, hsz, hK, hN⟩ := hv
  have hx := B0.exec
  have hb := B0.bytes
  have hr := B0.returns
  have htw : ∀ w ∈ xW0, w.before [.ref a1, .ref a2].toArray s = true := fun w h => atoms_spec (ws := Cond.code y_A_mixtureOf b_A_mixtureOf 4 (some (.object "AshMetals$Batch")) :: xW0) B0.pre w (List.mem_cons_of_mem _ h)
  have hown : s.vm.findClass R_A = some m.cls := findClass_of_methodNamed B0.named
  have hlocks := B0.notSynchronized
  subst hsz
  have hS : va_S (fun q => B ≤ q) s.heap s.heap [] := va_S.rf
  have hl := lv_entry ([.ref a1, .ref a2]) (n := 4) (Nat.le_of_ble_eq_true rfl)
  rw [lg_entry_eq]
  generalize (lg_sl ([.ref a1, .ref a2]) ++ List.replicate (4 - (lg_sl ([.ref a1, .ref a2])).length) Slot.unset).toArray = ls at hl ⊢
  have hl : lv_has ls 4 [(0, .ref a1), (1, .ref a2)] := hl
  have hH : s.heap = s.heap := rfl
  refine xr_new (ci := 1) (fs := [.int 0, .int 0, .null, .null, .null, .long 0, .int 0, .int 0, .int 0]) (C := R_B) (T := T_B) (N := 9) hx hb htw in_B ty_B tk_B hown (htw _ u_17) (htw _ u_80) (htw _ u_4) hK hw hS hB (100 + n) rfl (fun j hj => by rcases (show j = 0 ∨ j = 1 ∨ j = 2 ∨ j = 3 ∨ j = 4 ∨ j = 5 ∨ j = 6 ∨ j = 7 ∨ j = 8 by omega) with rfl | rfl | rfl | rfl | rfl | rfl | rfl | rfl | rfl <;> rfl) (by decide) (by decide) d_A_mixtureOf_0 (fun H ad_2 q_1 eq_1 lq_1 hw hS => ?_)
  have hw : xw D vwCl B ad_2 (xu w (100 + n) (.inr (1, [.int 0, .int 0, .null, .null, .null, .long 0, .int 0, .int 0, .int 0]))) H := hw
  have aq_1 : ad_2 (100 + n) = q_1 := by rw [eq_1]; exact xa_eq
  refine lv_dup hx hb d_A_mixtureOf_3 rfl ?_
  refine lv_aload_n hx hb d_A_mixtureOf_4 rfl (lv_at hl 0 rfl) ?_
  refine xr_get (ci := 1) (v := .long g1) (C := R_B) (T := T_B) (N := 9) hx hb htw in_B hown hK hw (100 + i) ((xu_ne (by omega)).trans (o1)) ((show ad_2 (100 + i) = ad (100 + i) by rw [eq_1]; exact xa_ne (by omega)).trans ha1) rfl 5 (by decide) (htw _ u_100) (fun _ h9 => h9) rfl d_A_mixtureOf_5 ?_
  refine lv_aload_n hx hb d_A_mixtureOf_8 rfl (lv_at hl 1 rfl) ?_
  refine xr_get (ci := 1) (v := .long g2) (C := R_B) (T := T_B) (N := 9) hx hb htw in_B hown hK hw (100 + j) ((xu_ne (by omega)).trans (o2)) ((show ad_2 (100 + j) = ad (100 + j) by rw [eq_1]; exact xa_ne (by omega)).trans ha2) rfl 5 (by decide) (htw _ u_100) (fun _ h9 => h9) rfl d_A_mixtureOf_9 ?_
  refine lv_ladd hx hb d_A_mixtureOf_12 ?_
  refine lv_aload_n hx hb d_A_mixtureOf_13 rfl (lv_at hl 0 rfl) ?_
  refine xr_get (ci := 1) (v := .int d1) (C := R_B) (T := T_B) (N := 9) hx hb htw in_B hown hK hw (100 + i) ((xu_ne (by omega)).trans (o1)) ((show ad_2 (100 + i) = ad (100 + i) by rw [eq_1]; exact xa_ne (by omega)).trans ha1) rfl 0 (by decide) (htw _ u_90) (fun _ h9 => h9) rfl d_A_mixtureOf_14 ?_
  refine lv_aload_n hx hb d_A_mixtureOf_17 rfl (lv_at hl 1 rfl) ?_
  refine xr_get (ci := 1) (v := .int d2) (C := R_B) (T := T_B) (N := 9) hx hb htw in_B hown hK hw (100 + j) ((xu_ne (by omega)).trans (o2)) ((show ad_2 (100 + j) = ad (100 + j) by rw [eq_1]; exact xa_ne (by omega)).trans ha2) rfl 0 (by decide) (htw _ u_90) (fun _ h9 => h9) rfl d_A_mixtureOf_18 ?_
  refine va_mmax hx hb (by rw [hml, hl.1]) hown (htw _ u_318) (htw _ u_263) (htw _ u_7) (htw _ u_264) (Nat.le_of_ble_eq_true rfl) (Nat.le_of_ble_eq_true rfl) (Nat.le_of_ble_eq_true rfl) (Nat.le_of_ble_eq_true rfl) d_A_mixtureOf_21 ?_
  refine lv_topi (fun x_3 ex_3 => ?_)
  obtain rfl : x_3 = mx d1 d2 := ex_3
  refine lv_iconst (v := 1) hx hb d_A_mixtureOf_24 (by decide) ?_
  refine xr_call (va_runI (As := [.long (g1 + g2), .int (mx d1 d2), .int 1]) (rest := [.ref q_1]) ⟨hx, hb, hml, hown, htw⟩ (c_B_init (ad := ad_2) hw (100 + n) (110 + n) (120 + n) (130 + n) (g1 + g2) (mx d1 d2) true (by omega) xu_eq (Nat.le_trans hB hS.1) q_1 aq_1) (cwI 3 htw (gC u_83) rfl rfl rfl (htw _ u_4) (htw _ u_81) (htw _ u_82) rfl hd_B_init.2 ⟨Nat.le_of_ble_eq_true rfl, Nat.le_of_ble_eq_true rfl⟩) ⟨xP_blind, xP_of hK hN⟩ rfl rfl hl.1 rfl (lv_room (Nat.le_of_ble_eq_true rfl)) d_A_mixtureOf_25 ⟨by decide, by decide⟩) hS (fun v H_ locs hp hS => ?_)
  obtain ⟨rfl, ad_4, w_4, hw, y4_0, y4_1, y4_2, y4_3, z4, hfr⟩ := hp
  generalize H_ = H at hw hS ⊢
  have hfw_4 : ∀ u, u ≠ 100 + n → u ≠ 110 + n → u ≠ 120 + n → u ≠ 130 + n → w_4 u = (xu w (100 + n) (.inr (1, [.int 0, .int 0, .null, .null, .null, .long 0, .int 0, .int 0, .int 0]))) u := fun u h0 h1 h2 h3 => (hfr u (by simp only [List.mem_cons, List.not_mem_nil, or_false, not_or]; exact ⟨h0, h1, h2, h3⟩)).1
  have hfa_4 : ∀ u, u ≠ 100 + n → u ≠ 110 + n → u ≠ 120 + n → u ≠ 130 + n → ad_4 u = ad_2 u := fun u h0 h1 h2 h3 => (hfr u (by simp only [List.mem_cons, List.not_mem_nil, or_false, not_or]; exact ⟨h0, h1, h2, h3⟩)).2
  refine W.eq (g2 := F0 m 28 ls [.ref q_1]) rfl ?_
  refine lv_astore_n (lv' := [(2, .ref q_1), (0, .ref a1), (1, .ref a2)]) hx hb d_A_mixtureOf_28 rfl hl (by decide) rfl (fun ls hl => ?_)
  refine lv_iconst (v := 0) hx hb d_A_mixtureOf_29 (by decide) ?_
  refine lv_istore_n (lv' := [(3, .int 0), (2, .ref q_1), (0, .ref a1), (1, .ref a2)]) hx hb d_A_mixtureOf_30 rfl hl (by decide) rfl (fun ls hl => ?_)
  refine lv_iload_n hx hb d_A_mixtureOf_31 rfl (lv_at hl 0 rfl) ?_
  refine lv_iconst (v := 4) hx hb d_A_mixtureOf_32 (by decide) ?_
  refine lv_icmp_ge (tgt := 61) hx hb d_A_mixtureOf_33 (by decide) (fun c_5 => absurd c_5 (by decide)) (fun c_5 => ?_)
  refine lv_aload_n hx hb d_A_mixtureOf_36 rfl (lv_at hl 1 rfl) ?_
  refine xr_get (ci := 1) (v := .ref (ad_4 (110 + n))) (C := R_B) (T := T_B) (N := 9) hx hb htw in_B hown hK hw (100 + n) y4_0 ((z4).trans aq_1) rfl 2 (by decide) (htw _ u_94) (fun _ h9 => h9) rfl d_A_mixtureOf_37 ?_
  refine lv_iload_n hx hb d_A_mixtureOf_40 rfl (lv_at hl 0 rfl) ?_
  refine lv_aload_n hx hb d_A_mixtureOf_41 rfl (lv_at hl 2 rfl) ?_
  refine xr_get (ci := 1) (v := .ref p1) (C := R_B) (T := T_B) (N := 9) hx hb htw in_B hown hK hw (100 + i) ((hfw_4 (100 + i) (by omega) (by omega) (by omega) (by omega)).trans ((xu_ne (by omega)).trans (o1))) ((hfa_4 (100 + i) (by omega) (by omega) (by omega) (by omega)).trans ((show ad_2 (100 + i) = ad (100 + i) by rw [eq_1]; exact xa_ne (by omega)).trans ha1)) rfl 2 (by decide) (htw _ u_94) (fun _ h9 => h9) rfl d_A_mixtureOf_42 ?_
  refine lv_iload_n hx hb d_A_mixtureOf_45 rfl (lv_at hl 0 rfl) ?_
  refine xr_lald (i := 0) hx hb hK hw (110 + i) 1 ((hfw_4 (110 + i) (by omega) (by omega) (by omega) (by omega)).trans ((xu_ne (by omega)).trans (n1))) ((hfa_4 (110 + i) (by omega) (by omega) (by omega) (by omega)).trans ((show ad_2 (110 + i) = ad (110 + i) by rw [eq_1]; exact xa_ne (by omega)).trans hp1)) rfl (by unfold vp_in; decide) d_A_mixtureOf_46 ?_
  refine lv_topl (fun x_6 ex_6 => ?_)
  obtain rfl : x_6 = A1 0 := ex_6.trans ((congrArg A1 ((rfl : (0 : Int32).toNatClampNeg = 0))).trans rfl)
  refine lv_aload_n hx hb d_A_mixtureOf_47 rfl (lv_at hl 3 rfl) ?_
  refine xr_get (ci := 1) (v := .ref p2) (C := R_B) (T := T_B) (N := 9) hx hb htw in_B hown hK hw (100 + j) ((hfw_4 (100 + j) (by omega) (by omega) (by omega) (by omega)).trans ((xu_ne (by omega)).trans (o2))) ((hfa_4 (100 + j) (by omega) (by omega) (by omega) (by omega)).trans ((show ad_2 (100 + j) = ad (100 + j) by rw [eq_1]; exact xa_ne (by omega)).trans ha2)) rfl 2 (by decide) (htw _ u_94) (fun _ h9 => h9) rfl d_A_mixtureOf_48 ?_
  refine lv_iload_n hx hb d_A_mixtureOf_51 rfl (lv_at hl 0 rfl) ?_
  refine xr_lald (i := 0) hx hb hK hw (110 + j) 1 ((hfw_4 (110 + j) (by omega) (by omega) (by omega) (by omega)).trans ((xu_ne (by omega)).trans (n2))) ((hfa_4 (110 + j) (by omega) (by omega) (by omega) (by omega)).trans ((show ad_2 (110 + j) = ad (110 + j) by rw [eq_1]; exact xa_ne (by omega)).trans hp2)) rfl (by unfold vp_in; decide) d_A_mixtureOf_52 ?_
  refine lv_topl (fun x_7 ex_7 => ?_)
  obtain rfl : x_7 = A2 0 := ex_7.trans ((congrArg A2 ((rfl : (0 : Int32).toNatClampNeg = 0))).trans rfl)
  refine lv_ladd hx hb d_A_mixtureOf_53 ?_
  refine xr_last (i := 0) hx hb hK hw hS (110 + n) 1 y4_1 rfl rfl (by unfold vp_in; decide) d_A_mixtureOf_54 (fun H locs hw hS => ?_)
  have hw : xw D vwCl B ad_4 (xu w_4 (110 + n) (.inl (K 1, 4, .inr (.inl (vp_updL (fun _ => 0) 0 ((A1 0) + (A2 0))))))) H := hw
  refine lv_iinc (v := 1) (lv' := [(3, .int 1), (2, .ref q_1), (0, .ref a1), (1, .ref a2)]) hx hb d_A_mixtureOf_55 hl (k := 0) rfl (by decide) (by decide) rfl (fun ls hl => ?_)
  refine lv_goto (tgt := 31) hx hb d_A_mixtureOf_58 (by decide) ?_
  refine lv_iload_n hx hb d_A_mixtureOf_31 rfl (lv_at hl 0 rfl) ?_
  refine lv_iconst (v := 4) hx hb d_A_mixtureOf_32 (by decide) ?_
  refine lv_icmp_ge (tgt := 61) hx hb d_A_mixtureOf_33 (by decide) (fun c_8 => absurd c_8 (by decide)) (fun c_8 => ?_)
  refine lv_aload_n hx hb d_A_mixtureOf_36 rfl (lv_at hl 1 rfl) ?_
  refine xr_get (ci := 1) (v := .ref (ad_4 (110 + n))) (C := R_B) (T := T_B) (N := 9) hx hb htw in_B hown hK hw (100 + n) ((xu_ne (by omega)).trans (y4_0)) ((z4).trans aq_1) rfl 2 (by decide) (htw _ u_94) (fun _ h9 => h9) rfl d_A_mixtureOf_37 ?_
  refine lv_iload_n hx hb d_A_mixtureOf_40 rfl (lv_at hl 0 rfl) ?_
  refine lv_aload_n hx hb d_A_mixtureOf_41 rfl (lv_at hl 2 rfl) ?_
  refine xr_get (ci := 1) (v := .ref p1) (C := R_B) (T := T_B) (N := 9) hx hb htw in_B hown hK hw (100 + i) ((xu_ne (by omega)).trans ((hfw_4 (100 + i) (by omega) (by omega) (by omega) (by omega)).trans ((xu_ne (by omega)).trans (o1)))) ((hfa_4 (100 + i) (by omega) (by omega) (by omega) (by omega)).trans ((show ad_2 (100 + i) = ad (100 + i) by rw [eq_1]; exact xa_ne (by omega)).trans ha1)) rfl 2 (by decide) (htw _ u_94) (fun _ h9 => h9) rfl d_A_mixtureOf_42 ?_
  refine lv_iload_n hx hb d_A_mixtureOf_45 rfl (lv_at hl 0 rfl) ?_
  refine xr_lald (i := 1) hx hb hK hw (110 + i) 1 ((xu_ne (by omega)).trans ((hfw_4 (110 + i) (by omega) (by omega) (by omega) (by omega)).trans ((xu_ne (by omega)).trans (n1)))) ((hfa_4 (110 + i) (by omega) (by omega) (by omega) (by omega)).trans ((show ad_2 (110 + i) = ad (110 + i) by rw [eq_1]; exact xa_ne (by omega)).trans hp1)) rfl (by unfold vp_in; decide) d_A_mixtureOf_46 ?_
  refine lv_topl (fun x_9 ex_9 => ?_)
  obtain rfl : x_9 = A1 1 := ex_9.trans ((congrArg A1 ((rfl : (1 : Int32).toNatClampNeg = 1))).trans rfl)
  refine lv_aload_n hx hb d_A_mixtureOf_47 rfl (lv_at hl 3 rfl) ?_
  refine xr_get (ci := 1) (v := .ref p2) (C := R_B) (T := T_B) (N := 9) hx hb htw in_B hown hK hw (100 + j) ((xu_ne (by omega)).trans ((hfw_4 (100 + j) (by omega) (by omega) (by omega) (by omega)).trans ((xu_ne (by omega)).trans (o2)))) ((hfa_4 (100 + j) (by omega) (by omega) (by omega) (by omega)).trans ((show ad_2 (100 + j) = ad (100 + j) by rw [eq_1]; exact xa_ne (by omega)).trans ha2)) rfl 2 (by decide) (htw _ u_94) (fun _ h9 => h9) rfl d_A_mixtureOf_48 ?_
  refine lv_iload_n hx hb d_A_mixtureOf_51 rfl (lv_at hl 0 rfl) ?_
  refine xr_lald (i := 1) hx hb hK hw (110 + j) 1 ((xu_ne (by omega)).trans ((hfw_4 (110 + j) (by omega) (by omega) (by omega) (by omega)).trans ((xu_ne (by omega)).trans (n2)))) ((hfa_4 (110 + j) (by omega) (by omega) (by omega) (by omega)).trans ((show ad_2 (110 + j) = ad (110 + j) by rw [eq_1]; exact xa_ne (by omega)).trans hp2)) rfl (by unfold vp_in; decide) d_A_mixtureOf_52 ?_
  refine lv_topl (fun x_10 ex_10 => ?_)
  obtain rfl : x_10 = A2 1 := ex_10.trans ((congrArg A2 ((rfl : (1 : Int32).toNatClampNeg = 1))).trans rfl)
  refine lv_ladd hx hb d_A_mixtureOf_53 ?_
  refine xr_last (i := 1) hx hb hK hw hS (110 + n) 1 xu_eq rfl rfl (by unfold vp_in; decide) d_A_mixtureOf_54 (fun H locs hw hS => ?_)
  have hw : xw D vwCl B ad_4 (xu (xu w_4 (110 + n) (.inl (K 1, 4, .inr (.inl (vp_updL (fun _ => 0) 0 ((A1 0) + (A2 0))))))) (110 + n) (.inl (K 1, 4, .inr (.inl (vp_updL (vp_updL (fun _ => 0) 0 ((A1 0) + (A2 0))) 1 ((A1 1) + (A2 1))))))) H := hw
  refine lv_iinc (v := 2) (lv' := [(3, .int 2), (2, .ref q_1), (0, .ref a1), (1, .ref a2)]) hx hb d_A_mixtureOf_55 hl (k := 0) rfl (by decide) (by decide) rfl (fun ls hl => ?_)
  refine lv_goto (tgt := 31) hx hb d_A_mixtureOf_58 (by decide) ?_
  refine lv_iload_n hx hb d_A_mixtureOf_31 rfl (lv_at hl 0 rfl) ?_
  refine lv_iconst (v := 4) hx hb d_A_mixtureOf_32 (by decide) ?_
  refine lv_icmp_ge (tgt := 61) hx hb d_A_mixtureOf_33 (by decide) (fun c_11 => absurd c_11 (by decide)) (fun c_11 => ?_)
  refine lv_aload_n hx hb d_A_mixtureOf_36 rfl (lv_at hl 1 rfl) ?_
  refine xr_get (ci := 1) (v := .ref (ad_4 (110 + n))) (C := R_B) (T := T_B) (N := 9) hx hb htw in_B hown hK hw (100 + n) ((xu_ne (by omega)).trans ((xu_ne (by omega)).trans (y4_0))) ((z4).trans aq_1) rfl 2 (by decide) (htw _ u_94) (fun _ h9 => h9) rfl d_A_mixtureOf_37 ?_
  refine lv_iload_n hx hb d_A_mixtureOf_40 rfl (lv_at hl 0 rfl) ?_
  refine lv_aload_n hx hb d_A_mixtureOf_41 rfl (lv_at hl 2 rfl) ?_
  refine xr_get (ci := 1) (v := .ref p1) (C := R_B) (T := T_B) (N := 9) hx hb htw in_B hown hK hw (100 + i) ((xu_ne (by omega)).trans ((xu_ne (by omega)).trans ((hfw_4 (100 + i) (by omega) (by omega) (by omega) (by omega)).trans ((xu_ne (by omega)).trans (o1))))) ((hfa_4 (100 + i) (by omega) (by omega) (by omega) (by omega)).trans ((show ad_2 (100 + i) = ad (100 + i) by rw [eq_1]; exact xa_ne (by omega)).trans ha1)) rfl 2 (by decide) (htw _ u_94) (fun _ h9 => h9) rfl d_A_mixtureOf_42 ?_
  refine lv_iload_n hx hb d_A_mixtureOf_45 rfl (lv_at hl 0 rfl) ?_
  refine xr_lald (i := 2) hx hb hK hw (110 + i) 1 ((xu_ne (by omega)).trans ((xu_ne (by omega)).trans ((hfw_4 (110 + i) (by omega) (by omega) (by omega) (by omega)).trans ((xu_ne (by omega)).trans (n1))))) ((hfa_4 (110 + i) (by omega) (by omega) (by omega) (by omega)).trans ((show ad_2 (110 + i) = ad (110 + i) by rw [eq_1]; exact xa_ne (by omega)).trans hp1)) rfl (by unfold vp_in; decide) d_A_mixtureOf_46 ?_
  refine lv_topl (fun x_12 ex_12 => ?_)
  obtain rfl : x_12 = A1 2 := ex_12.trans ((congrArg A1 ((rfl : (2 : Int32).toNatClampNeg = 2))).trans rfl)
  refine lv_aload_n hx hb d_A_mixtureOf_47 rfl (lv_at hl 3 rfl) ?_
  refine xr_get (ci := 1) (v := .ref p2) (C := R_B) (T := T_B) (N := 9) hx hb htw in_B hown hK hw (100 + j) ((xu_ne (by omega)).trans ((xu_ne (by omega)).trans ((hfw_4 (100 + j) (by omega) (by omega) (by omega) (by omega)).trans ((xu_ne (by omega)).trans (o2))))) ((hfa_4 (100 + j) (by omega) (by omega) (by omega) (by omega)).trans ((show ad_2 (100 + j) = ad (100 + j) by rw [eq_1]; exact xa_ne (by omega)).trans ha2)) rfl 2 (by decide) (htw _ u_94) (fun _ h9 => h9) rfl d_A_mixtureOf_48 ?_
  refine lv_iload_n hx hb d_A_mixtureOf_51 rfl (lv_at hl 0 rfl) ?_
  refine xr_lald (i := 2) hx hb hK hw (110 + j) 1 ((xu_ne (by omega)).trans ((xu_ne (by omega)).trans ((hfw_4 (110 + j) (by omega) (by omega) (by omega) (by omega)).trans ((xu_ne (by omega)).trans (n2))))) ((hfa_4 (110 + j) (by omega) (by omega) (by omega) (by omega)).trans ((show ad_2 (110 + j) = ad (110 + j) by rw [eq_1]; exact xa_ne (by omega)).trans hp2)) rfl (by unfold vp_in; decide) d_A_mixtureOf_52 ?_
  refine lv_topl (fun x_13 ex_13 => ?_)
  obtain rfl : x_13 = A2 2 := ex_13.trans ((congrArg A2 ((rfl : (2 : Int32).toNatClampNeg = 2))).trans rfl)
  refine lv_ladd hx hb d_A_mixtureOf_53 ?_
  refine xr_last (i := 2) hx hb hK hw hS (110 + n) 1 xu_eq rfl rfl (by unfold vp_in; decide) d_A_mixtureOf_54 (fun H locs hw hS => ?_)
  have hw : xw D vwCl B ad_4 (xu (xu (xu w_4 (110 + n) (.inl (K 1, 4, .inr (.inl (vp_updL (fun _ => 0) 0 ((A1 0) + (A2 0))))))) (110 + n) (.inl (K 1, 4, .inr (.inl (vp_updL (vp_updL (fun _ => 0) 0 ((A1 0) + (A2 0))) 1 ((A1 1) + (A2 1))))))) (110 + n) (.inl (K 1, 4, .inr (.inl (vp_updL (vp_updL (vp_updL (fun _ => 0) 0 ((A1 0) + (A2 0))) 1 ((A1 1) + (A2 1))) 2 ((A1 2) + (A2 2))))))) H := hw
  refine lv_iinc (v := 3) (lv' := [(3, .int 3), (2, .ref q_1), (0, .ref a1), (1, .ref a2)]) hx hb d_A_mixtureOf_55 hl (k := 0) rfl (by decide) (by decide) rfl (fun ls hl => ?_)
  refine lv_goto (tgt := 31) hx hb d_A_mixtureOf_58 (by decide) ?_
  refine lv_iload_n hx hb d_A_mixtureOf_31 rfl (lv_at hl 0 rfl) ?_
  refine lv_iconst (v := 4) hx hb d_A_mixtureOf_32 (by decide) ?_
  refine lv_icmp_ge (tgt := 61) hx hb d_A_mixtureOf_33 (by decide) (fun c_14 => absurd c_14 (by decide)) (fun c_14 => ?_)
  refine lv_aload_n hx hb d_A_mixtureOf_36 rfl (lv_at hl 1 rfl) ?_
  refine xr_get (ci := 1) (v := .ref (ad_4 (110 + n))) (C := R_B) (T := T_B) (N := 9) hx hb htw in_B hown hK hw (100 + n) ((xu_ne (by omega)).trans ((xu_ne (by omega)).trans ((xu_ne (by omega)).trans (y4_0)))) ((z4).trans aq_1) rfl 2 (by decide) (htw _ u_94) (fun _ h9 => h9) rfl d_A_mixtureOf_37 ?_
  refine lv_iload_n hx hb d_A_mixtureOf_40 rfl (lv_at hl 0 rfl) ?_
  refine lv_aload_n hx hb d_A_mixtureOf_41 rfl (lv_at hl 2 rfl) ?_
  refine xr_get (ci := 1) (v := .ref p1) (C := R_B) (T := T_B) (N := 9) hx hb htw in_B hown hK hw (100 + i) ((xu_ne (by omega)).trans ((xu_ne (by omega)).trans ((xu_ne (by omega)).trans ((hfw_4 (100 + i) (by omega) (by omega) (by omega) (by omega)).trans ((xu_ne (by omega)).trans (o1)))))) ((hfa_4 (100 + i) (by omega) (by omega) (by omega) (by omega)).trans ((show ad_2 (100 + i) = ad (100 + i) by rw [eq_1]; exact xa_ne (by omega)).trans ha1)) rfl 2 (by decide) (htw _ u_94) (fun _ h9 => h9) rfl d_A_mixtureOf_42 ?_
  refine lv_iload_n hx hb d_A_mixtureOf_45 rfl (lv_at hl 0 rfl) ?_
  refine xr_lald (i := 3) hx hb hK hw (110 + i) 1 ((xu_ne (by omega)).trans ((xu_ne (by omega)).trans ((xu_ne (by omega)).trans ((hfw_4 (110 + i) (by omega) (by omega) (by omega) (by omega)).trans ((xu_ne (by omega)).trans (n1)))))) ((hfa_4 (110 + i) (by omega) (by omega) (by omega) (by omega)).trans ((show ad_2 (110 + i) = ad (110 + i) by rw [eq_1]; exact xa_ne (by omega)).trans hp1)) rfl (by unfold vp_in; decide) d_A_mixtureOf_46 ?_
  refine lv_topl (fun x_15 ex_15 => ?_)
  obtain rfl : x_15 = A1 3 := ex_15.trans ((congrArg A1 ((rfl : (3 : Int32).toNatClampNeg = 3))).trans rfl)
  refine lv_aload_n hx hb d_A_mixtureOf_47 rfl (lv_at hl 3 rfl) ?_
  refine xr_get (ci := 1) (v := .ref p2) (C := R_B) (T := T_B) (N := 9) hx hb htw in_B hown hK hw (100 + j) ((xu_ne (by omega)).trans ((xu_ne (by omega)).trans ((xu_ne (by omega)).trans ((hfw_4 (100 + j) (by omega) (by omega) (by omega) (by omega)).trans ((xu_ne (by omega)).trans (o2)))))) ((hfa_4 (100 + j) (by omega) (by omega) (by omega) (by omega)).trans ((show ad_2 (100 + j) = ad (100 + j) by rw [eq_1]; exact xa_ne (by omega)).trans ha2)) rfl 2 (by decide) (htw _ u_94) (fun _ h9 => h9) rfl d_A_mixtureOf_48 ?_
  refine lv_iload_n hx hb d_A_mixtureOf_51 rfl (lv_at hl 0 rfl) ?_
  refine xr_lald (i := 3) hx hb hK hw (110 + j) 1 ((xu_ne (by omega)).trans ((xu_ne (by omega)).trans ((xu_ne (by omega)).trans ((hfw_4 (110 + j) (by omega) (by omega) (by omega) (by omega)).trans ((xu_ne (by omega)).trans (n2)))))) ((hfa_4 (110 + j) (by omega) (by omega) (by omega) (by omega)).trans ((show ad_2 (110 + j) = ad (110 + j) by rw [eq_1]; exact xa_ne (by omega)).trans hp2)) rfl (by unfold vp_in; decide) d_A_mixtureOf_52 ?_
  refine lv_topl (fun x_16 ex_16 => ?_)
  obtain rfl : x_16 = A2 3 := ex_16.trans ((congrArg A2 ((rfl : (3 : Int32).toNatClampNeg = 3))).trans rfl)
  refine lv_ladd hx hb d_A_mixtureOf_53 ?_
  refine xr_last (i := 3) hx hb hK hw hS (110 + n) 1 xu_eq rfl rfl (by unfold vp_in; decide) d_A_mixtureOf_54 (fun H locs hw hS => ?_)
  have hw : xw D vwCl B ad_4 (xu (xu (xu (xu w_4 (110 + n) (.inl (K 1, 4, .inr (.inl (vp_updL (fun _ => 0) 0 ((A1 0) + (A2 0))))))) (110 + n) (.inl (K 1, 4, .inr (.inl (vp_updL (vp_updL (fun _ => 0) 0 ((A1 0) + (A2 0))) 1 ((A1 1) + (A2 1))))))) (110 + n) (.inl (K 1, 4, .inr (.inl (vp_updL (vp_updL (vp_updL (fun _ => 0) 0 ((A1 0) + (A2 0))) 1 ((A1 1) + (A2 1))) 2 ((A1 2) + (A2 2))))))) (110 + n) (.inl (K 1, 4, .inr (.inl (vp_updL (vp_updL (vp_updL (vp_updL (fun _ => 0) 0 ((A1 0) + (A2 0))) 1 ((A1 1) + (A2 1))) 2 ((A1 2) + (A2 2))) 3 ((A1 3) + (A2 3))))))) H := hw
  refine lv_iinc (v := 4) (lv' := [(3, .int 4), (2, .ref q_1), (0, .ref a1), (1, .ref a2)]) hx hb d_A_mixtureOf_55 hl (k := 0) rfl (by decide) (by decide) rfl (fun ls hl => ?_)
  refine lv_goto (tgt := 31) hx hb d_A_mixtureOf_58 (by decide) ?_
  refine lv_iload_n hx hb d_A_mixtureOf_31 rfl (lv_at hl 0 rfl) ?_
  refine lv_iconst (v := 4) hx hb d_A_mixtureOf_32 (by decide) ?_
  refine lv_icmp_ge (tgt := 61) hx hb d_A_mixtureOf_33 (by decide) (fun c_17 => ?_) (fun c_17 => absurd (by decide) c_17)
  refine lv_aload_n hx hb d_A_mixtureOf_61 rfl (lv_at hl 1 rfl) ?_
  refine lv_aload_n hx hb d_A_mixtureOf_62 rfl (lv_at hl 2 rfl) ?_
  refine xr_get (ci := 1) (v := .int (bI b1)) (C := R_B) (T := T_B) (N := 9) hx hb htw in_B hown hK hw (100 + i) ((xu_ne (by omega)).trans ((xu_ne (by omega)).trans ((xu_ne (by omega)).trans ((xu_ne (by omega)).trans ((hfw_4 (100 + i) (by omega) (by omega) (by omega) (by omega)).trans ((xu_ne (by omega)).trans (o1))))))) ((hfa_4 (100 + i) (by omega) (by omega) (by omega) (by omega)).trans ((show ad_2 (100 + i) = ad (100 + i) by rw [eq_1]; exact xa_ne (by omega)).trans ha1)) rfl 6 (by decide) (htw _ u_101) (fun _ h9 => h9) rfl d_A_mixtureOf_63 ?_
  refine lv_if_eq (tgt := 80) hx hb d_A_mixtureOf_66 (by decide) (fun c_18 => ?_) (fun c_18 => ?_)
  · have c_18 : b1 = false := bI_f.mp c_18
    refine lv_iconst (v := 0) hx hb d_A_mixtureOf_80 (by decide) ?_
    refine xr_put (ci := 1) (v := .int 0) (ty := .boolean) (C := R_B) (T := T_B) (N := 9) hx hb htw in_B ty_B tk_B nm_B hown hK hw hS (100 + n) ((xu_ne (by omega)).trans ((xu_ne (by omega)).trans ((xu_ne (by omega)).trans ((xu_ne (by omega)).trans (y4_0))))) ((z4).trans aq_1) rfl 6 (by decide) (htw _ u_101) (fun _ h9 => h9) rfl (by decide +kernel) (by decide) (by decide) (Nat.le_of_ble_eq_true rfl) d_A_mixtureOf_81 (fun H locs hw hS => ?_)
    have hw : xw D vwCl B ad_4 (xu (xu (xu (xu (xu w_4 (110 + n) (.inl (K 1, 4, .inr (.inl (vp_updL (fun _ => 0) 0 ((A1 0) + (A2 0))))))) (110 + n) (.inl (K 1, 4, .inr (.inl (vp_updL (vp_updL (fun _ => 0) 0 ((A1 0) + (A2 0))) 1 ((A1 1) + (A2 1))))))) (110 + n) (.inl (K 1, 4, .inr (.inl (vp_updL (vp_updL (vp_updL (fun _ => 0) 0 ((A1 0) + (A2 0))) 1 ((A1 1) + (A2 1))) 2 ((A1 2) + (A2 2))))))) (110 + n) (.inl (K 1, 4, .inr (.inl (vp_updL (vp_updL (vp_updL (vp_updL (fun _ => 0) 0 ((A1 0) + (A2 0))) 1 ((A1 1) + (A2 1))) 2 ((A1 2) + (A2 2))) 3 ((A1 3) + (A2 3))))))) (100 + n) (.inr (1, [.int (mx d1 d2), .int 1, .ref (ad_4 (110 + n)), .ref (ad_4 (120 + n)), .ref (ad_4 (130 + n)), .long (g1 + g2), .int 0, .int 0, .int 0]))) H := hw
    refine lv_aload_n hx hb d_A_mixtureOf_84 rfl (lv_at hl 1 rfl) ?_
    have hz : ∀ u, u ∉ ([100 + n, 110 + n, 120 + n, 130 + n] : List Nat) → u ≠ 100 + n ∧ u ≠ 110 + n ∧ u ≠ 120 + n ∧ u ≠ 130 + n := fun u hu => by simp only [List.mem_cons, List.not_mem_nil, or_false, not_or] at hu; omega
    exact W.aret (v := .ref q_1) hx hb hr (Or.inl ⟨_, rfl⟩) (Or.inr ⟨_, rfl⟩) (fun t ht _ => ⟨_, rfl, ⟨ad_4, _, by rw [show ad_4 (100 + n) = q_1 from (z4).trans aq_1], by rw [ht]; exact hw, by simp (disch := omega) only [xu_eq, xu_ne, xa_eq, xa_ne, eq_1, hfw_4, hfa_4, z4, y4_0, y4_1, y4_2, y4_3, c_18, Bool.false_and, Bool.true_and, Bool.and_false, Bool.and_true, bI_ff, bI_tt], by simp (disch := omega) only [xu_eq, xu_ne, xa_eq, xa_ne, eq_1, hfw_4, hfa_4, z4, y4_0, y4_1, y4_2, y4_3, c_18, Bool.false_and, Bool.true_and, Bool.and_false, Bool.and_true, bI_ff, bI_tt], by simp (disch := omega) only [xu_eq, xu_ne, xa_eq, xa_ne, eq_1, hfw_4, hfa_4, z4, y4_0, y4_1, y4_2, y4_3, c_18, Bool.false_and, Bool.true_and, Bool.and_false, Bool.and_true, bI_ff, bI_tt], by simp (disch := omega) only [xu_eq, xu_ne, xa_eq, xa_ne, eq_1, hfw_4, hfa_4, z4, y4_0, y4_1, y4_2, y4_3, c_18, Bool.false_and, Bool.true_and, Bool.and_false, Bool.and_true, bI_ff, bI_tt], fun u hu => by have hq := hz u hu; exact ⟨by simp (disch := omega) only [xu_eq, xu_ne, xa_eq, xa_ne, eq_1, hfw_4, hfa_4, z4, y4_0, y4_1, y4_2, y4_3, c_18, Bool.false_and, Bool.true_and, Bool.and_false, Bool.and_true, bI_ff, bI_tt], by simp (disch := omega) only [xu_eq, xu_ne, xa_eq, xa_ne, eq_1, hfw_4, hfa_4, z4, y4_0, y4_1, y4_2, y4_3, c_18, Bool.false_and, Bool.true_and, Bool.and_false, Bool.and_true, bI_ff, bI_tt]⟩⟩, hS.F ht⟩) hS.2.2 d_A_mixtureOf_85
  · have c_18 : b1 = true := bI_t.mp c_18
    refine lv_aload_n hx hb d_A_mixtureOf_69 rfl (lv_at hl 3 rfl) ?_
    refine xr_get (ci := 1) (v := .int (bI b2)) (C := R_B) (T := T_B) (N := 9) hx hb htw in_B hown hK hw (100 + j) ((xu_ne (by omega)).trans ((xu_ne (by omega)).trans ((xu_ne (by omega)).trans ((xu_ne (by omega)).trans ((hfw_4 (100 + j) (by omega) (by omega) (by omega) (by omega)).trans ((xu_ne (by omega)).trans (o2))))))) ((hfa_4 (100 + j) (by omega) (by omega) (by omega) (by omega)).trans ((show ad_2 (100 + j) = ad (100 + j) by rw [eq_1]; exact xa_ne (by omega)).trans ha2)) rfl 6 (by decide) (htw _ u_101) (fun _ h9 => h9) rfl d_A_mixtureOf_70 ?_
    refine lv_if_eq (tgt := 80) hx hb d_A_mixtureOf_73 (by decide) (fun c_19 => ?_) (fun c_19 => ?_)
    · have c_19 : b2 = false := bI_f.mp c_19
      refine lv_iconst (v := 0) hx hb d_A_mixtureOf_80 (by decide) ?_
      refine xr_put (ci := 1) (v := .int 0) (ty := .boolean) (C := R_B) (T := T_B) (N := 9) hx hb htw in_B ty_B tk_B nm_B hown hK hw hS (100 + n) ((xu_ne (by omega)).trans ((xu_ne (by omega)).trans ((xu_ne (by omega)).trans ((xu_ne (by omega)).trans (y4_0))))) ((z4).trans aq_1) rfl 6 (by decide) (htw _ u_101) (fun _ h9 => h9) rfl (by decide +kernel) (by decide) (by decide) (Nat.le_of_ble_eq_true rfl) d_A_mixtureOf_81 (fun H locs hw hS => ?_)
      have hw : xw D vwCl B ad_4 (xu (xu (xu (xu (xu w_4 (110 + n) (.inl (K 1, 4, .inr (.inl (vp_updL (fun _ => 0) 0 ((A1 0) + (A2 0))))))) (110 + n) (.inl (K 1, 4, .inr (.inl (vp_updL (vp_updL (fun _ => 0) 0 ((A1 0) + (A2 0))) 1 ((A1 1) + (A2 1))))))) (110 + n) (.inl (K 1, 4, .inr (.inl (vp_updL (vp_updL (vp_updL (fun _ => 0) 0 ((A1 0) + (A2 0))) 1 ((A1 1) + (A2 1))) 2 ((A1 2) + (A2 2))))))) (110 + n) (.inl (K 1, 4, .inr (.inl (vp_updL (vp_updL (vp_updL (vp_updL (fun _ => 0) 0 ((A1 0) + (A2 0))) 1 ((A1 1) + (A2 1))) 2 ((A1 2) + (A2 2))) 3 ((A1 3) + (A2 3))))))) (100 + n) (.inr (1, [.int (mx d1 d2), .int 1, .ref (ad_4 (110 + n)), .ref (ad_4 (120 + n)), .ref (ad_4 (130 + n)), .long (g1 + g2), .int 0, .int 0, .int 0]))) H := hw
      refine lv_aload_n hx hb d_A_mixtureOf_84 rfl (lv_at hl 1 rfl) ?_
      have hz : ∀ u, u ∉ ([100 + n, 110 + n, 120 + n, 130 + n] : List Nat) → u ≠ 100 + n ∧ u ≠ 110 + n ∧ u ≠ 120 + n ∧ u ≠ 130 + n := fun u hu => by simp only [List.mem_cons, List.not_mem_nil, or_false, not_or] at hu; omega
      exact W.aret (v := .ref q_1) hx hb hr (Or.inl ⟨_, rfl⟩) (Or.inr ⟨_, rfl⟩) (fun t ht _ => ⟨_, rfl, ⟨ad_4, _, by rw [show ad_4 (100 + n) = q_1 from (z4).trans aq_1], by rw [ht]; exact hw, by simp (disch := omega) only [xu_eq, xu_ne, xa_eq, xa_ne, eq_1, hfw_4, hfa_4, z4, y4_0, y4_1, y4_2, y4_3, c_18, c_19, Bool.false_and, Bool.true_and, Bool.and_false, Bool.and_true, bI_ff, bI_tt], by simp (disch := omega) only [xu_eq, xu_ne, xa_eq, xa_ne, eq_1, hfw_4, hfa_4, z4, y4_0, y4_1, y4_2, y4_3, c_18, c_19, Bool.false_and, Bool.true_and, Bool.and_false, Bool.and_true, bI_ff, bI_tt], by simp (disch := omega) only [xu_eq, xu_ne, xa_eq, xa_ne, eq_1, hfw_4, hfa_4, z4, y4_0, y4_1, y4_2, y4_3, c_18, c_19, Bool.false_and, Bool.true_and, Bool.and_false, Bool.and_true, bI_ff, bI_tt], by simp (disch := omega) only [xu_eq, xu_ne, xa_eq, xa_ne, eq_1, hfw_4, hfa_4, z4, y4_0, y4_1, y4_2, y4_3, c_18, c_19, Bool.false_and, Bool.true_and, Bool.and_false, Bool.and_true, bI_ff, bI_tt], fun u hu => by have hq := hz u hu; exact ⟨by simp (disch := omega) only [xu_eq, xu_ne, xa_eq, xa_ne, eq_1, hfw_4, hfa_4, z4, y4_0, y4_1, y4_2, y4_3, c_18, c_19, Bool.false_and, Bool.true_and, Bool.and_false, Bool.and_true, bI_ff, bI_tt], by simp (disch := omega) only [xu_eq, xu_ne, xa_eq, xa_ne, eq_1, hfw_4, hfa_4, z4, y4_0, y4_1, y4_2, y4_3, c_18, c_19, Bool.false_and, Bool.true_and, Bool.and_false, Bool.and_true, bI_ff, bI_tt]⟩⟩, hS.F ht⟩) hS.2.2 d_A_mixtureOf_85
    · have c_19 : b2 = true := bI_t.mp c_19
      refine lv_iconst (v := 1) hx hb d_A_mixtureOf_76 (by decide) ?_
      refine lv_goto (tgt := 81) hx hb d_A_mixtureOf_77 (by decide) ?_
      refine xr_put (ci := 1) (v := .int 1) (ty := .boolean) (C := R_B) (T := T_B) (N := 9) hx hb htw in_B ty_B tk_B nm_B hown hK hw hS (100 + n) ((xu_ne (by omega)).trans ((xu_ne (by omega)).trans ((xu_ne (by omega)).trans ((xu_ne (by omega)).trans (y4_0))))) ((z4).trans aq_1) rfl 6 (by decide) (htw _ u_101) (fun _ h9 => h9) rfl (by decide +kernel) (by decide) (by decide) (Nat.le_of_ble_eq_true rfl) d_A_mixtureOf_81 (fun H locs hw hS => ?_)
      have hw : xw D vwCl B ad_4 (xu (xu (xu (xu (xu w_4 (110 + n) (.inl (K 1, 4, .inr (.inl (vp_updL (fun _ => 0) 0 ((A1 0) + (A2 0))))))) (110 + n) (.inl (K 1, 4, .inr (.inl (vp_updL (vp_updL (fun _ => 0) 0 ((A1 0) + (A2 0))) 1 ((A1 1) + (A2 1))))))) (110 + n) (.inl (K 1, 4, .inr (.inl (vp_updL (vp_updL (vp_updL (fun _ => 0) 0 ((A1 0) + (A2 0))) 1 ((A1 1) + (A2 1))) 2 ((A1 2) + (A2 2))))))) (110 + n) (.inl (K 1, 4, .inr (.inl (vp_updL (vp_updL (vp_updL (vp_updL (fun _ => 0) 0 ((A1 0) + (A2 0))) 1 ((A1 1) + (A2 1))) 2 ((A1 2) + (A2 2))) 3 ((A1 3) + (A2 3))))))) (100 + n) (.inr (1, [.int (mx d1 d2), .int 1, .ref (ad_4 (110 + n)), .ref (ad_4 (120 + n)), .ref (ad_4 (130 + n)), .long (g1 + g2), .int 1, .int 0, .int 0]))) H := hw
      refine lv_aload_n hx hb d_A_mixtureOf_84 rfl (lv_at hl 1 rfl) ?_
      have hz : ∀ u, u ∉ ([100 + n, 110 + n, 120 + n, 130 + n] : List Nat) → u ≠ 100 + n ∧ u ≠ 110 + n ∧ u ≠ 120 + n ∧ u ≠ 130 + n := fun u hu => by simp only [List.mem_cons, List.not_mem_nil, or_false, not_or] at hu; omega
      exact W.aret (v := .ref q_1) hx hb hr (Or.inl ⟨_, rfl⟩) (Or.inr ⟨_, rfl⟩) (fun t ht _ => ⟨_, rfl, ⟨ad_4, _, by rw [show ad_4 (100 + n) = q_1 from (z4).trans aq_1], by rw [ht]; exact hw, by simp (disch := omega) only [xu_eq, xu_ne, xa_eq, xa_ne, eq_1, hfw_4, hfa_4, z4, y4_0, y4_1, y4_2, y4_3, c_18, c_19, Bool.false_and, Bool.true_and, Bool.and_false, Bool.and_true, bI_ff, bI_tt], by simp (disch := omega) only [xu_eq, xu_ne, xa_eq, xa_ne, eq_1, hfw_4, hfa_4, z4, y4_0, y4_1, y4_2, y4_3, c_18, c_19, Bool.false_and, Bool.true_and, Bool.and_false, Bool.and_true, bI_ff, bI_tt], by simp (disch := omega) only [xu_eq, xu_ne, xa_eq, xa_ne, eq_1, hfw_4, hfa_4, z4, y4_0, y4_1, y4_2, y4_3, c_18, c_19, Bool.false_and, Bool.true_and, Bool.and_false, Bool.and_true, bI_ff, bI_tt], by simp (disch := omega) only [xu_eq, xu_ne, xa_eq, xa_ne, eq_1, hfw_4, hfa_4, z4, y4_0, y4_1, y4_2, y4_3, c_18, c_19, Bool.false_and, Bool.true_and, Bool.and_false, Bool.and_true, bI_ff, bI_tt], fun u hu => by have hq := hz u hu; exact ⟨by simp (disch := omega) only [xu_eq, xu_ne, xa_eq, xa_ne, eq_1, hfw_4, hfa_4, z4, y4_0, y4_1, y4_2, y4_3, c_18, c_19, Bool.false_and, Bool.true_and, Bool.and_false, Bool.and_true, bI_ff, bI_tt], by simp (disch := omega) only [xu_eq, xu_ne, xa_eq, xa_ne, eq_1, hfw_4, hfa_4, z4, y4_0, y4_1, y4_2, y4_3, c_18, c_19, Bool.false_and, Bool.true_and, Bool.and_false, Bool.and_true, bI_ff, bI_tt]⟩⟩, hS.F ht⟩) hS.2.2 d_A_mixtureOf_85
