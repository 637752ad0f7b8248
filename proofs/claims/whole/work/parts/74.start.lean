set_option maxHeartbeats 4000000 in
set_option maxRecDepth 100000 in
theorem whole_start {p : Program} {e : Env} {s : State} {m : MethodId} {below : List Frame} {meth : Method} {c : Code} (l : Launch) {b L : Nat} {xs : Nat → Int32} (hL : L ≤ 2560) (C0 : lw_At p s m meth c b L xs) : W p l e room_1 s m #[Value.ref b] below meth c s.heap [] 0 0 (lw_Z below #[Value.ref b] s) (entryFrame m ([Value.ref b] : List Value).toArray 4) := by
  obtain ⟨hx, hb, hr, hml, hown, hts, hX, hbl, hlocks, hgv⟩ := id C0
  have hown : s.vm.findClass R_L = some m.cls := hown
  have htw : ∀ w ∈ xW0, w.before #[Value.ref b] s = true := fun w h => hts w (xW0_tbl w h)
  obtain ⟨c0, i0, k0⟩ := u_known (C := R_A) (T := T_A) (N := 10) (n := 10) htw in_A (htw _ u_10)
  obtain ⟨c1, i1, k1⟩ := u_known (C := R_B) (T := T_B) (N := 9) (n := 9) htw in_B (htw _ u_80)
  obtain ⟨c2, i2, k2⟩ := u_known (C := R_S) (T := T_S) (N := 4) (n := 4) htw in_S (htw _ u_149)
  obtain ⟨c3, i3, k3⟩ := u_known (C := R_R) (T := T_R) (N := 4) (n := 4) htw in_R (htw _ u_282)
  obtain ⟨c4, i4, k4⟩ := u_known (C := R_P) (T := T_P) (N := 3) (n := 3) htw in_P (htw _ u_24)
  obtain ⟨c5, i5, k5⟩ := u_known (C := R_M) (T := T_M) (N := 26) (n := 26) htw in_M (htw _ u_329)
  obtain ⟨D, hKc⟩ : ∃ D : va_G, ∀ (k : Nat) (q : vw_C), vwCl[k]? = some q → u_Kn s q.1 q.2.1 q.2.2 (D.1 k) (D.2 k) := by
    refine ⟨(fun k => if k = 0 then c0 else if k = 1 then c1 else if k = 2 then c2 else if k = 3 then c3 else if k = 4 then c4 else c5, fun k => if k = 0 then i0 else if k = 1 then i1 else if k = 2 then i2 else if k = 3 then i3 else if k = 4 then i4 else i5), ?_⟩
    intro k q hq
    match k, hq with
    | 0, hq => cases hq; exact k0
    | 1, hq => cases hq; exact k1
    | 2, hq => cases hq; exact k2
    | 3, hq => cases hq; exact k3
    | 4, hq => cases hq; exact k4
    | 5, hq => cases hq; exact k5
    | k + 6, hq => simp [vwCl] at hq
  have hN : xN xNW s := fun w hw => by
    refine ⟨?_, xNW_g w hw⟩
    have h := hts w (xNW_in w hw)
    rcases xNW_g w hw with ⟨a, i, x, g, rfl⟩ | ⟨a, i, b2, n, d, g, rfl⟩ | ⟨C, rfl⟩
    · exact va_Nw.of rfl h
    · exact va_Nw.of rfl h
    · exact va_AO.of h
  obtain ⟨a0, r0, t0⟩ := xK_prim (ty := .int) (htw _ u_39) (fun C h => by cases h)
  obtain ⟨a1, r1, t1⟩ := xK_prim (ty := .long) (htw _ u_40) (fun C h => by cases h)
  obtain ⟨a5, r5, t5⟩ := xK_prim (ty := .boolean) (htw _ u_413) (fun C h => by cases h)
  obtain ⟨a2, r2, t2⟩ := xK_obj (C := R_B) (hN (.arrayOver (.object R_B)) (by decide +kernel)).1
  obtain ⟨a3, r3, t3⟩ := xK_obj (C := R_S) (hN (.arrayOver (.object R_S)) (by decide +kernel)).1
  obtain ⟨a4, r4, t4⟩ := xK_obj (C := R_R) (hN (.arrayOver (.object R_R)) (by decide +kernel)).1
  obtain ⟨K, hKt⟩ : ∃ K : Nat → ClassId, ∀ (k : Nat) (q : ClassId × FieldType), (xT K)[k]? = some q → ArrOfT s q.1 q.2 ∧ va_RA s q.1 q.2 := by
    refine ⟨fun k => if k = 0 then a0 else if k = 1 then a1 else if k = 2 then a2 else if k = 3 then a3 else if k = 4 then a4 else a5, ?_⟩
    intro k q hq
    match k, hq with
    | 0, hq => cases hq; exact ⟨r0, t0⟩
    | 1, hq => cases hq; exact ⟨r1, t1⟩
    | 2, hq => cases hq; exact ⟨r2, t2⟩
    | 3, hq => cases hq; exact ⟨r3, t3⟩
    | 4, hq => cases hq; exact ⟨r4, t4⟩
    | 5, hq => cases hq; exact ⟨r5, t5⟩
    | k + 6, hq => simp [xT] at hq
  have hK : va_K D vwCl (xT K) s := ⟨hKc, hKt⟩
  have hS : va_S (fun q : Nat => s.heap.size ≤ q) s.heap s.heap [] := va_S.rf
  have hB : s.heap.size ≤ s.heap.size := Nat.le_refl _
  have hl := lv_entry ([.ref b]) (n := 4) (Nat.le_of_ble_eq_true rfl)
  rw [lg_entry_eq]
  generalize (lg_sl ([.ref b]) ++ List.replicate (4 - (lg_sl ([.ref b])).length) Slot.unset).toArray = ls at hl ⊢
  have hl : lv_has ls 4 [(0, .ref b)] := hl
  have hw : xw D vwCl s.heap.size nil_a nil_w s.heap := xw_nil
  refine xr_new (ci := 0) (fs := [.null, .int 0, .null, .int 0, .null, .int 0, .null, .int 0, .int 0, .long 0]) (C := R_A) (T := T_A) (N := 10) hx hb htw in_A ty_A tk_A hown (htw _ u_9) (htw _ u_10) (htw _ u_1) hK hw hS hB 0 rfl (fun j hj => by rcases (show j = 0 ∨ j = 1 ∨ j = 2 ∨ j = 3 ∨ j = 4 ∨ j = 5 ∨ j = 6 ∨ j = 7 ∨ j = 8 ∨ j = 9 by omega) with rfl | rfl | rfl | rfl | rfl | rfl | rfl | rfl | rfl | rfl <;> rfl) (by decide) (by decide) d_L_law_0 (fun H ad_2 q_1 eq_1 lq_1 hw hS => ?_)
  have hw : xw D vwCl s.heap.size ad_2 (xu nil_w 0 (.inr (0, [.null, .int 0, .null, .int 0, .null, .int 0, .null, .int 0, .int 0, .long 0]))) H := hw
  have aq_1 : ad_2 0 = q_1 := by rw [eq_1]; exact xa_eq
  refine lv_dup hx hb d_L_law_3 rfl ?_
  refine xr_call (va_runI (As := []) (rest := [.ref q_1]) ⟨hx, hb, hml, hown, htw⟩ (c_A_init (l := l) hw xu_eq hS.1 q_1 aq_1) (cwI 0 htw (gC u_13) rfl rfl rfl (htw _ u_1) (htw _ u_11) (htw _ u_12) rfl hd_A_init.2 ⟨Nat.le_of_ble_eq_true rfl, Nat.le_of_ble_eq_true rfl⟩) ⟨xP_blind, xP_of hK hN⟩ rfl rfl hl.1 rfl (lv_room (Nat.le_of_ble_eq_true rfl)) d_L_law_4 ⟨Nat.le_of_ble_eq_true rfl, Nat.le_of_ble_eq_true rfl⟩) hS (fun v H_ locs hp hS => ?_)
  obtain ⟨rfl, ad1, w1, hw, hRX, h00, h200⟩ := hp
  refine W.eq (g2 := F0 m 7 ls [.ref q_1]) rfl ?_
  refine lv_astore_n (lv' := [(1, .ref q_1), (0, .ref b)]) hx hb d_L_law_7 rfl hl (by decide) rfl (fun ls hl => ?_)
  refine xr_new (ci := 5) (fs := [.int 0, .int 0, .null, .null, .null, .null, .null, .null, .null, .null, .int 0, .null, .null, .null, .null, .null, .null, .null, .long 0, .null, .int 0, .int 0, .null, .null, .null, .null]) (C := R_M) (T := T_M) (N := 26) hx hb htw in_M ty_M tk_M hown (htw _ u_328) (htw _ u_329) (htw _ u_3) hK hw hS hB 200 rfl (fun j hj => by rcases (show j = 0 ∨ j = 1 ∨ j = 2 ∨ j = 3 ∨ j = 4 ∨ j = 5 ∨ j = 6 ∨ j = 7 ∨ j = 8 ∨ j = 9 ∨ j = 10 ∨ j = 11 ∨ j = 12 ∨ j = 13 ∨ j = 14 ∨ j = 15 ∨ j = 16 ∨ j = 17 ∨ j = 18 ∨ j = 19 ∨ j = 20 ∨ j = 21 ∨ j = 22 ∨ j = 23 ∨ j = 24 ∨ j = 25 by omega) with rfl | rfl | rfl | rfl | rfl | rfl | rfl | rfl | rfl | rfl | rfl | rfl | rfl | rfl | rfl | rfl | rfl | rfl | rfl | rfl | rfl | rfl | rfl | rfl | rfl | rfl <;> rfl) (by decide) (by decide) d_L_law_8 (fun H ad_4 q_3 eq_3 lq_3 hw hS => ?_)
  have hw : xw D vwCl s.heap.size ad_4 (xu w1 200 (.inr (5, [.int 0, .int 0, .null, .null, .null, .null, .null, .null, .null, .null, .int 0, .null, .null, .null, .null, .null, .null, .null, .long 0, .null, .int 0, .int 0, .null, .null, .null, .null]))) H := hw
  have aq_3 : ad_4 200 = q_3 := by rw [eq_3]; exact xa_eq
  refine lv_dup hx hb d_L_law_11 rfl ?_
  refine xr_call (va_runI (As := []) (rest := [.ref q_3]) ⟨hx, hb, hml, hown, htw⟩ (c_M_init (l := l) hw xu_eq hS.1 q_3 aq_3) (cwI 0 htw (gC u_332) rfl rfl rfl (htw _ u_3) (htw _ u_330) (htw _ u_331) rfl hd_M_init.2 ⟨Nat.le_of_ble_eq_true rfl, Nat.le_of_ble_eq_true rfl⟩) ⟨xP_blind, xP_of hK hN⟩ rfl rfl hl.1 rfl (lv_room (Nat.le_of_ble_eq_true rfl)) d_L_law_12 ⟨Nat.le_of_ble_eq_true rfl, Nat.le_of_ble_eq_true rfl⟩) hS (fun v H_ locs hp hS => ?_)
  obtain ⟨rfl, ad2, w2, hw, hRM, h22, hlt⟩ := hp
  refine W.eq (g2 := F0 m 15 ls [.ref q_3]) rfl ?_
  refine lv_astore_n (lv' := [(2, .ref q_3), (1, .ref q_1), (0, .ref b)]) hx hb d_L_law_15 rfl hl (by decide) rfl (fun ls hl => ?_)
  refine lv_iconst (v := nI (5 * 0)) hx hb d_L_law_16 (by decide) ?_
  refine lv_istore_n (lv' := [(3, .int (nI (5 * 0))), (2, .ref q_3), (1, .ref q_1), (0, .ref b)]) hx hb d_L_law_17 rfl hl (by decide) rfl (fun ls hl => ?_)
  refine W.widen (k := 40) (n := 700) (Nat.le_of_ble_eq_true rfl) (Nat.le_of_ble_eq_true rfl) ?_
  have hf : ∀ t, t < 200 → w2 t = w1 t ∧ ad2 t = ad1 t := fun t ht => ⟨(hlt t ht).1.trans (xu_ne (by omega)), (hlt t ht).2.trans (by rw [eq_3]; exact xa_ne (by omega))⟩
  exact law_loop (D := D) (K := K) (q0 := q_1) (q1 := q_3) ⟨hx, hb, hml, hown, htw, hX, hbl, hL, hK, hN⟩ hr hlocks ⟨hl, hS, s_0, ad2, w2, Inv_0, RepX_frame Inv_0.1 Inv_0.2.1 Inv_0.2.2.1 hf hRX, hRM, hw, (hf 0 (by omega)).2.trans (h00.trans aq_1), h22.trans aq_3⟩
