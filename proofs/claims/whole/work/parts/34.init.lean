set_option maxHeartbeats 4000000 in
set_option maxRecDepth 100000 in
theorem c_A_init {l : Launch} {D : va_G} {K : Nat → ClassId} {B : Nat} {ad : Nat → Nat} {w : Nat → Option va_E} {H : Heap} (hw : xw D vwCl B ad w H) (h0 : w 0 = some (.inr (0, [.null, .int 0, .null, .int 0, .null, .int 0, .null, .int 0, .int 0, .long 0]))) (hB : B ≤ H.size) (a : Nat) (ha : ad 0 = a) : xC l D K B y_A_init b_A_init 1 none rm_A_init [.ref a] H (fun v H1 => v = none ∧ PX D K B ad w s_0 H1) := by
  refine Met.ofW (cc := b_A_init) (maxL := 1) (ret := none) (by decide) rfl ?_
  intro p e s m args below meth c s₁ B0 hml hv
  obtain ⟨rfl, hsz, hK, hN⟩ := hv
  have hx := B0.exec
  have hb := B0.bytes
  have hr := B0.returns
  have htw : ∀ w ∈ xW0, w.before [.ref a].toArray s = true := fun w h => atoms_spec (ws := Cond.code y_A_init b_A_init 1 none :: xW0) B0.pre w (List.mem_cons_of_mem _ h)
  have hown : s.vm.findClass R_A = some m.cls := findClass_of_methodNamed B0.named
  have hlocks := B0.notSynchronized
  have hin : meth.name = "<init>" := (name_of_methodNamed B0.named B0.method).1
  subst hsz
  have hS : va_S (fun q => B ≤ q) s.heap s.heap [] := va_S.rf
  have hl := lv_entry ([.ref a]) (n := 1) (Nat.le_of_ble_eq_true rfl)
  rw [lg_entry_eq]
  generalize (lg_sl ([.ref a]) ++ List.replicate (1 - (lg_sl ([.ref a])).length) Slot.unset).toArray = ls at hl ⊢
  have hl : lv_has ls 1 [(0, .ref a)] := hl
  have hH : s.heap = s.heap := rfl
  refine lv_aload_n hx hb d_A_init_0 rfl (lv_at hl 0 rfl) ?_
  refine W.objInit hx hb hown (htw _ u_14) (htw _ u_15) (htw _ u_16) rfl (by rw [hml]; exact hl.1) rfl d_A_init_1 (Nat.le_of_ble_eq_true rfl) (Nat.le_of_ble_eq_true rfl) ?_
  refine W.eq (g2 := F0 m 4 ls []) rfl ?_
  refine lv_aload_n hx hb d_A_init_4 rfl (lv_at hl 0 rfl) ?_
  refine lv_bipush (v := 8) hx hb d_A_init_5 (by decide) ?_
  refine xr_newq (N' := 8) hx hb hown (htw _ u_17) (hN (.arrayOver (.object R_B)) (by decide +kernel)).1 hK hw hS hB 1 2 rfl (by decide) (by decide) (by decide) (by decide) (by decide) d_A_init_7 (fun H ad_2 q_1 eq_1 lq_1 hw hS => ?_)
  have hw : xw D vwCl B ad_2 (xu w 1 (.inl (K 2, 8, .inr (.inr (.inr (.inr (fun _ => none))))))) H := hw
  have aq_1 : ad_2 1 = q_1 := by rw [eq_1]; exact xa_eq
  refine xr_putF (ci := 0) (v := .ref q_1) (ty := .array (.object "AshMetals$Batch")) (C := R_A) (T := T_A) (N := 10) hx hb htw in_A ty_A tk_A nm_A hown hK hw hS 0 ((xu_ne (by omega)).trans (h0)) ((show ad_2 0 = ad 0 by rw [eq_1]; exact xa_ne (by omega)).trans ha) rfl 0 (by decide) (htw _ u_41) (fun _ h9 => h9) rfl hin rfl (by decide +kernel) rfl rfl (Nat.le_of_ble_eq_true rfl) d_A_init_10 (fun H locs hw hS => ?_)
  have hw : xw D vwCl B ad_2 (xu (xu w 1 (.inl (K 2, 8, .inr (.inr (.inr (.inr (fun _ => none))))))) 0 (.inr (0, [.ref q_1, .int 0, .null, .int 0, .null, .int 0, .null, .int 0, .int 0, .long 0]))) H := hw
  refine lv_aload_n hx hb d_A_init_13 rfl (lv_at hl 0 rfl) ?_
  refine lv_bipush (v := 6) hx hb d_A_init_14 (by decide) ?_
  refine xr_newq (N' := 6) hx hb hown (htw _ u_19) (hN (.arrayOver (.object R_S)) (by decide +kernel)).1 hK hw hS hB 2 3 rfl (by decide) (by decide) (by decide) (by decide) (by decide) d_A_init_16 (fun H ad_4 q_3 eq_3 lq_3 hw hS => ?_)
  have hw : xw D vwCl B ad_4 (xu (xu (xu w 1 (.inl (K 2, 8, .inr (.inr (.inr (.inr (fun _ => none))))))) 0 (.inr (0, [.ref q_1, .int 0, .null, .int 0, .null, .int 0, .null, .int 0, .int 0, .long 0]))) 2 (.inl (K 3, 6, .inr (.inr (.inr (.inr (fun _ => none))))))) H := hw
  have aq_3 : ad_4 2 = q_3 := by rw [eq_3]; exact xa_eq
  refine xr_putF (ci := 0) (v := .ref q_3) (ty := .array (.object "AshMetals$Stage")) (C := R_A) (T := T_A) (N := 10) hx hb htw in_A ty_A tk_A nm_A hown hK hw hS 0 ((xu_ne (by omega)).trans (xu_eq)) ((show ad_4 0 = ad_2 0 by rw [eq_3]; exact xa_ne (by omega)).trans ((show ad_2 0 = ad 0 by rw [eq_1]; exact xa_ne (by omega)).trans ha)) rfl 2 (by decide) (htw _ u_43) (fun _ h9 => h9) rfl hin rfl (by decide +kernel) rfl rfl (Nat.le_of_ble_eq_true rfl) d_A_init_19 (fun H locs hw hS => ?_)
  have hw : xw D vwCl B ad_4 (xu (xu (xu (xu w 1 (.inl (K 2, 8, .inr (.inr (.inr (.inr (fun _ => none))))))) 0 (.inr (0, [.ref q_1, .int 0, .null, .int 0, .null, .int 0, .null, .int 0, .int 0, .long 0]))) 2 (.inl (K 3, 6, .inr (.inr (.inr (.inr (fun _ => none))))))) 0 (.inr (0, [.ref q_1, .int 0, .ref q_3, .int 0, .null, .int 0, .null, .int 0, .int 0, .long 0]))) H := hw
  refine lv_aload_n hx hb d_A_init_22 rfl (lv_at hl 0 rfl) ?_
  refine lv_bipush (v := 8) hx hb d_A_init_23 (by decide) ?_
  refine xr_newq (N' := 8) hx hb hown (htw _ u_21) (hN (.arrayOver (.object R_R)) (by decide +kernel)).1 hK hw hS hB 3 4 rfl (by decide) (by decide) (by decide) (by decide) (by decide) d_A_init_25 (fun H ad_6 q_5 eq_5 lq_5 hw hS => ?_)
  have hw : xw D vwCl B ad_6 (xu (xu (xu (xu (xu w 1 (.inl (K 2, 8, .inr (.inr (.inr (.inr (fun _ => none))))))) 0 (.inr (0, [.ref q_1, .int 0, .null, .int 0, .null, .int 0, .null, .int 0, .int 0, .long 0]))) 2 (.inl (K 3, 6, .inr (.inr (.inr (.inr (fun _ => none))))))) 0 (.inr (0, [.ref q_1, .int 0, .ref q_3, .int 0, .null, .int 0, .null, .int 0, .int 0, .long 0]))) 3 (.inl (K 4, 8, .inr (.inr (.inr (.inr (fun _ => none))))))) H := hw
  have aq_5 : ad_6 3 = q_5 := by rw [eq_5]; exact xa_eq
  refine xr_putF (ci := 0) (v := .ref q_5) (ty := .array (.object "AshMetals$Rule")) (C := R_A) (T := T_A) (N := 10) hx hb htw in_A ty_A tk_A nm_A hown hK hw hS 0 ((xu_ne (by omega)).trans (xu_eq)) ((show ad_6 0 = ad_4 0 by rw [eq_5]; exact xa_ne (by omega)).trans ((show ad_4 0 = ad_2 0 by rw [eq_3]; exact xa_ne (by omega)).trans ((show ad_2 0 = ad 0 by rw [eq_1]; exact xa_ne (by omega)).trans ha))) rfl 4 (by decide) (htw _ u_45) (fun _ h9 => h9) rfl hin rfl (by decide +kernel) rfl rfl (Nat.le_of_ble_eq_true rfl) d_A_init_28 (fun H locs hw hS => ?_)
  have hw : xw D vwCl B ad_6 (xu (xu (xu (xu (xu (xu w 1 (.inl (K 2, 8, .inr (.inr (.inr (.inr (fun _ => none))))))) 0 (.inr (0, [.ref q_1, .int 0, .null, .int 0, .null, .int 0, .null, .int 0, .int 0, .long 0]))) 2 (.inl (K 3, 6, .inr (.inr (.inr (.inr (fun _ => none))))))) 0 (.inr (0, [.ref q_1, .int 0, .ref q_3, .int 0, .null, .int 0, .null, .int 0, .int 0, .long 0]))) 3 (.inl (K 4, 8, .inr (.inr (.inr (.inr (fun _ => none))))))) 0 (.inr (0, [.ref q_1, .int 0, .ref q_3, .int 0, .ref q_5, .int 0, .null, .int 0, .int 0, .long 0]))) H := hw
  refine lv_aload_n hx hb d_A_init_31 rfl (lv_at hl 0 rfl) ?_
  refine xr_new (ci := 4) (fs := [.null, .null, .null]) (C := R_P) (T := T_P) (N := 3) hx hb htw in_P ty_P tk_P hown (htw _ u_23) (htw _ u_24) (htw _ u_2) hK hw hS hB 4 rfl (fun j hj => by rcases (show j = 0 ∨ j = 1 ∨ j = 2 by omega) with rfl | rfl | rfl <;> rfl) (by decide) (by decide) d_A_init_32 (fun H ad_8 q_7 eq_7 lq_7 hw hS => ?_)
  have hw : xw D vwCl B ad_8 (xu (xu (xu (xu (xu (xu (xu w 1 (.inl (K 2, 8, .inr (.inr (.inr (.inr (fun _ => none))))))) 0 (.inr (0, [.ref q_1, .int 0, .null, .int 0, .null, .int 0, .null, .int 0, .int 0, .long 0]))) 2 (.inl (K 3, 6, .inr (.inr (.inr (.inr (fun _ => none))))))) 0 (.inr (0, [.ref q_1, .int 0, .ref q_3, .int 0, .null, .int 0, .null, .int 0, .int 0, .long 0]))) 3 (.inl (K 4, 8, .inr (.inr (.inr (.inr (fun _ => none))))))) 0 (.inr (0, [.ref q_1, .int 0, .ref q_3, .int 0, .ref q_5, .int 0, .null, .int 0, .int 0, .long 0]))) 4 (.inr (4, [.null, .null, .null]))) H := hw
  have aq_7 : ad_8 4 = q_7 := by rw [eq_7]; exact xa_eq
  refine lv_dup hx hb d_A_init_35 rfl ?_
  refine xr_call (va_runI (As := []) (rest := [.ref q_7, .ref a]) ⟨hx, hb, hml, hown, htw⟩ (c_P_init (ad := ad_8) hw 4 5 6 7 (by omega) xu_eq (Nat.le_trans hB hS.1) q_7 aq_7) (cwI 0 htw (gC u_27) rfl rfl rfl (htw _ u_2) (htw _ u_25) (htw _ u_26) rfl hd_P_init.2 ⟨Nat.le_of_ble_eq_true rfl, Nat.le_of_ble_eq_true rfl⟩) ⟨xP_blind, xP_of hK hN⟩ rfl rfl hl.1 rfl (lv_room (Nat.le_of_ble_eq_true rfl)) d_A_init_36 ⟨by decide, by decide⟩) hS (fun v H_ locs hp hS => ?_)
  obtain ⟨rfl, ad_9, w_9, hw, y9_0, y9_1, y9_2, y9_3, z9, hfr⟩ := hp
  generalize H_ = H at hw hS ⊢
  have hfw_9 : ∀ u, u ≠ 4 → u ≠ 5 → u ≠ 6 → u ≠ 7 → w_9 u = (xu (xu (xu (xu (xu (xu (xu w 1 (.inl (K 2, 8, .inr (.inr (.inr (.inr (fun _ => none))))))) 0 (.inr (0, [.ref q_1, .int 0, .null, .int 0, .null, .int 0, .null, .int 0, .int 0, .long 0]))) 2 (.inl (K 3, 6, .inr (.inr (.inr (.inr (fun _ => none))))))) 0 (.inr (0, [.ref q_1, .int 0, .ref q_3, .int 0, .null, .int 0, .null, .int 0, .int 0, .long 0]))) 3 (.inl (K 4, 8, .inr (.inr (.inr (.inr (fun _ => none))))))) 0 (.inr (0, [.ref q_1, .int 0, .ref q_3, .int 0, .ref q_5, .int 0, .null, .int 0, .int 0, .long 0]))) 4 (.inr (4, [.null, .null, .null]))) u := fun u h0 h1 h2 h3 => (hfr u (by simp only [List.mem_cons, List.not_mem_nil, or_false, not_or]; exact ⟨h0, h1, h2, h3⟩)).1
  have hfa_9 : ∀ u, u ≠ 4 → u ≠ 5 → u ≠ 6 → u ≠ 7 → ad_9 u = ad_8 u := fun u h0 h1 h2 h3 => (hfr u (by simp only [List.mem_cons, List.not_mem_nil, or_false, not_or]; exact ⟨h0, h1, h2, h3⟩)).2
  refine W.eq (g2 := F0 m 39 ls [.ref q_7, .ref a]) rfl ?_
  refine xr_putF (ci := 0) (v := .ref q_7) (ty := .object "AshMetals$PriceTable") (C := R_A) (T := T_A) (N := 10) hx hb htw in_A ty_A tk_A nm_A hown hK hw hS 0 ((hfw_9 0 (by omega) (by omega) (by omega) (by omega)).trans ((xu_ne (by omega)).trans (xu_eq))) ((hfa_9 0 (by omega) (by omega) (by omega) (by omega)).trans ((show ad_8 0 = ad_6 0 by rw [eq_7]; exact xa_ne (by omega)).trans ((show ad_6 0 = ad_4 0 by rw [eq_5]; exact xa_ne (by omega)).trans ((show ad_4 0 = ad_2 0 by rw [eq_3]; exact xa_ne (by omega)).trans ((show ad_2 0 = ad 0 by rw [eq_1]; exact xa_ne (by omega)).trans ha))))) rfl 6 (by decide) (htw _ u_47) (fun _ h9 => h9) rfl hin rfl (by decide +kernel) rfl rfl (Nat.le_of_ble_eq_true rfl) d_A_init_39 (fun H locs hw hS => ?_)
  have hw : xw D vwCl B ad_9 (xu w_9 0 (.inr (0, [.ref q_1, .int 0, .ref q_3, .int 0, .ref q_5, .int 0, .ref q_7, .int 0, .int 0, .long 0]))) H := hw
  refine lv_aload_n hx hb d_A_init_42 rfl (lv_at hl 0 rfl) ?_
  refine lv_bipush (v := 50) hx hb d_A_init_43 (by decide) ?_
  refine xr_put (ci := 0) (v := .int 50) (ty := .int) (C := R_A) (T := T_A) (N := 10) hx hb htw in_A ty_A tk_A nm_A hown hK hw hS 0 xu_eq ((hfa_9 0 (by omega) (by omega) (by omega) (by omega)).trans ((show ad_8 0 = ad_6 0 by rw [eq_7]; exact xa_ne (by omega)).trans ((show ad_6 0 = ad_4 0 by rw [eq_5]; exact xa_ne (by omega)).trans ((show ad_4 0 = ad_2 0 by rw [eq_3]; exact xa_ne (by omega)).trans ((show ad_2 0 = ad 0 by rw [eq_1]; exact xa_ne (by omega)).trans ha))))) rfl 8 (by decide) (htw _ u_49) (fun _ h9 => h9) rfl (by decide +kernel) rfl rfl (Nat.le_of_ble_eq_true rfl) d_A_init_45 (fun H locs hw hS => ?_)
  have hw : xw D vwCl B ad_9 (xu (xu w_9 0 (.inr (0, [.ref q_1, .int 0, .ref q_3, .int 0, .ref q_5, .int 0, .ref q_7, .int 0, .int 0, .long 0]))) 0 (.inr (0, [.ref q_1, .int 0, .ref q_3, .int 0, .ref q_5, .int 0, .ref q_7, .int 0, .int 50, .long 0]))) H := hw
  have hRep : RepX K s_0 ad_9 (xu (xu w_9 0 (.inr (0, [.ref q_1, .int 0, .ref q_3, .int 0, .ref q_5, .int 0, .ref q_7, .int 0, .int 0, .long 0]))) 0 (.inr (0, [.ref q_1, .int 0, .ref q_3, .int 0, .ref q_5, .int 0, .ref q_7, .int 0, .int 50, .long 0]))) := by
    refine ⟨?_, ?_, ?_, ?_, ?_, ?_, ?_, ?_, ?_, ?_, ?_, ?_, ?_, ?_, ?_⟩
    · simp (disch := omega) [pN, pI, pL, pZ, row_eq, row_ne, xu_eq, xu_ne, xa_eq, xa_ne, pk_us, pk_un, pk_uLs, pk_uLn, eq_1, eq_3, eq_5, eq_7, hfw_9, hfa_9, z9, y9_0, y9_1, y9_2, y9_3, s_0, nI_0]
    · simp (disch := omega) [pN, pI, pL, pZ, row_eq, row_ne, xu_eq, xu_ne, xa_eq, xa_ne, pk_us, pk_un, pk_uLs, pk_uLn, eq_1, eq_3, eq_5, eq_7, hfw_9, hfa_9, z9, y9_0, y9_1, y9_2, y9_3, s_0, nI_0]
    · simp (disch := omega) [pN, pI, pL, pZ, row_eq, row_ne, xu_eq, xu_ne, xa_eq, xa_ne, pk_us, pk_un, pk_uLs, pk_uLn, eq_1, eq_3, eq_5, eq_7, hfw_9, hfa_9, z9, y9_0, y9_1, y9_2, y9_3, s_0, nI_0]
    · simp (disch := omega) [pN, pI, pL, pZ, row_eq, row_ne, xu_eq, xu_ne, xa_eq, xa_ne, pk_us, pk_un, pk_uLs, pk_uLn, eq_1, eq_3, eq_5, eq_7, hfw_9, hfa_9, z9, y9_0, y9_1, y9_2, y9_3, s_0, nI_0]
    · simp (disch := omega) [pN, pI, pL, pZ, row_eq, row_ne, xu_eq, xu_ne, xa_eq, xa_ne, pk_us, pk_un, pk_uLs, pk_uLn, eq_1, eq_3, eq_5, eq_7, hfw_9, hfa_9, z9, y9_0, y9_1, y9_2, y9_3, s_0, nI_0]
    · simp (disch := omega) [pN, pI, pL, pZ, row_eq, row_ne, xu_eq, xu_ne, xa_eq, xa_ne, pk_us, pk_un, pk_uLs, pk_uLn, eq_1, eq_3, eq_5, eq_7, hfw_9, hfa_9, z9, y9_0, y9_1, y9_2, y9_3, s_0, nI_0]
    · simp (disch := omega) [pN, pI, pL, pZ, row_eq, row_ne, xu_eq, xu_ne, xa_eq, xa_ne, pk_us, pk_un, pk_uLs, pk_uLn, eq_1, eq_3, eq_5, eq_7, hfw_9, hfa_9, z9, y9_0, y9_1, y9_2, y9_3, s_0, nI_0]
    · simp (disch := omega) [pN, pI, pL, pZ, row_eq, row_ne, xu_eq, xu_ne, xa_eq, xa_ne, pk_us, pk_un, pk_uLs, pk_uLn, eq_1, eq_3, eq_5, eq_7, hfw_9, hfa_9, z9, y9_0, y9_1, y9_2, y9_3, s_0, nI_0]
    · intro jj hj; exact absurd hj (Nat.not_lt_zero jj)
    · intro jj hj; exact absurd hj (Nat.not_lt_zero jj)
    · intro jj hj; exact absurd hj (Nat.not_lt_zero jj)
    · intro jj hj; exact absurd hj (Nat.not_lt_zero jj)
    · intro jj hj; exact absurd hj (Nat.not_lt_zero jj)
    · intro jj hj; exact absurd hj (Nat.not_lt_zero jj)
    · intro jj hj; exact absurd hj (Nat.not_lt_zero jj)
  exact W.vret hx hb hr (fun t ht _ => ⟨_, rfl, by rw [ht]; exact ⟨rfl, _, _, hw, hRep, by simp (disch := omega) only [xu_ne, xa_ne, eq_1, eq_3, eq_5, eq_7, hfw_9, hfa_9, z9, y9_0, y9_1, y9_2, y9_3], fun t h2 => ⟨by simp (disch := omega) only [xu_ne, xa_ne, eq_1, eq_3, eq_5, eq_7, hfw_9, hfa_9, z9, y9_0, y9_1, y9_2, y9_3], by simp (disch := omega) only [xu_ne, xa_ne, eq_1, eq_3, eq_5, eq_7, hfw_9, hfa_9, z9, y9_0, y9_1, y9_2, y9_3]⟩⟩, hS.F ht⟩) hS.2.2 d_A_init_48
