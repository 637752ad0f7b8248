set_option maxHeartbeats 4000000 in
set_option maxRecDepth 100000 in
theorem law_settled {p : Program} {l : Launch} {e : Env} {s : State} {m : MethodId} {below : List Frame} {meth : Method} {c : Code} {b L : Nat} {xs : Nat → Int32} {D : va_G} {K : Nat → ClassId} {q0 q1 i cc ss : Nat} {H : Heap} {locs : List Loc} {ls : Array Slot} {Q : State → Prop} (C : LC p s m c b L xs D K) (hi : i + 5 ≤ L) (hcc : cc + 4 ≤ 600000) (hss : ss + 49 ≤ 7302250) (I : LI D K s b q0 q1 i H locs ls)
    (kk : ∀ (H1 : Heap) (locs1 : List Loc) (ls1 : Array Slot), LI D K s b q0 q1 i H1 locs1 ls1 → W p l e room_1 s m #[Value.ref b] below meth c H1 locs1 (cc + 4) (ss + 49) Q (F0 m 872 ls1 [])) : W p l e room_1 s m #[Value.ref b] below meth c H locs cc ss Q (F0 m 651 ls []) := by
  obtain ⟨hx, hb, hml, hown, htw, hX, hbl, hL, hK, hN⟩ := C
  obtain ⟨hl, hS, σ, ad, w, hI, hRX, hRM, hw, rfl, rfl⟩ := I
  have hbA : ¬ (fun q : Nat => s.heap.size ≤ q) b := Nat.not_le.mpr hbl
  obtain ⟨fs, hM0⟩ := RepM_at hRM
  refine lv_aload_n hx hb d_L_law_651 rfl (lv_at hl 2 rfl) ?_
  refine lv_aload_n hx hb d_L_law_652 rfl (lv_at hl 3 rfl) ?_
  refine lv_iload_n hx hb d_L_law_653 rfl (lv_at hl 0 rfl) ?_
  refine lv_iconst (v := 1) hx hb d_L_law_654 (by decide) ?_
  refine lv_iadd hx hb d_L_law_655 ?_
  refine va_sld (i := (nI i) + 1) hx hb hX hbl hbA hS (xvin (a := i + 1) (xadd (a := i) (b := 1) rfl rfl) (by omega) (by omega)) d_L_law_656 ?_
  refine lv_aload_n hx hb d_L_law_657 rfl (lv_at hl 3 rfl) ?_
  refine lv_iload_n hx hb d_L_law_658 rfl (lv_at hl 0 rfl) ?_
  refine lv_iconst (v := 2) hx hb d_L_law_659 (by decide) ?_
  refine lv_iadd hx hb d_L_law_660 ?_
  refine va_sld (i := (nI i) + 2) hx hb hX hbl hbA hS (xvin (a := i + 2) (xadd (a := i) (b := 2) rfl rfl) (by omega) (by omega)) d_L_law_661 ?_
  refine xr_call (va_runV (As := [.int (xs ((nI i) + 1).toNatClampNeg), .int (xs ((nI i) + 2).toNatClampNeg)]) (rest := []) ⟨hx, hb, hml, hown, htw⟩ (c_A_settled (l := l) hRX hI hw (xs ((nI i) + 1).toNatClampNeg) (xs ((nI i) + 2).toNatClampNeg)) (cwV 2 htw (gV u_246 u_247 u_248 u_1 u_249) rfl rfl rfl hd_A_settled ⟨Nat.le_of_ble_eq_true rfl, Nat.le_of_ble_eq_true rfl⟩) ⟨xP_blind, hw.recv hK (ci := 0) (t := 0) rfl hRX.1 rfl, xP_of hK hN⟩ rfl rfl hl.1 rfl (lv_room (Nat.le_of_ble_eq_true rfl)) d_L_law_662 ⟨(by show cc + 0 ≤ 600000; omega), (by show ss + 0 ≤ 7302250; omega)⟩) hS (fun v H_ locs hp hS => ?_)
  obtain ⟨rfl, hHe⟩ := hp
  rw [hHe] at hS ⊢
  refine W.eq (g2 := F0 m 665 ls [.int (f_settled σ (xs ((nI i) + 1).toNatClampNeg) (xs ((nI i) + 2).toNatClampNeg))]) rfl ?_
  refine lv_aload_n hx hb d_L_law_665 rfl (lv_at hl 1 rfl) ?_
  refine lv_aload_n hx hb d_L_law_666 rfl (lv_at hl 3 rfl) ?_
  refine lv_iload_n hx hb d_L_law_667 rfl (lv_at hl 0 rfl) ?_
  refine lv_iconst (v := 1) hx hb d_L_law_668 (by decide) ?_
  refine lv_iadd hx hb d_L_law_669 ?_
  refine va_sld (i := (nI i) + 1) hx hb hX hbl hbA hS (xvin (a := i + 1) (xadd (a := i) (b := 1) rfl rfl) (by omega) (by omega)) d_L_law_670 ?_
  refine lv_aload_n hx hb d_L_law_671 rfl (lv_at hl 3 rfl) ?_
  refine lv_iload_n hx hb d_L_law_672 rfl (lv_at hl 0 rfl) ?_
  refine lv_iconst (v := 2) hx hb d_L_law_673 (by decide) ?_
  refine lv_iadd hx hb d_L_law_674 ?_
  refine va_sld (i := (nI i) + 2) hx hb hX hbl hbA hS (xvin (a := i + 2) (xadd (a := i) (b := 2) rfl rfl) (by omega) (by omega)) d_L_law_675 ?_
  refine xr_call (va_runV (As := [.int (xs ((nI i) + 1).toNatClampNeg), .int (xs ((nI i) + 2).toNatClampNeg)]) (rest := [.int (f_settled σ (xs ((nI i) + 1).toNatClampNeg) (xs ((nI i) + 2).toNatClampNeg))]) ⟨hx, hb, hml, hown, htw⟩ (c_M_settled (l := l) hRM hI hw (xs ((nI i) + 1).toNatClampNeg) (xs ((nI i) + 2).toNatClampNeg)) (cwV 2 htw (gV u_502 u_503 u_504 u_3 u_505) rfl rfl rfl hd_M_settled ⟨Nat.le_of_ble_eq_true rfl, Nat.le_of_ble_eq_true rfl⟩) ⟨xP_blind, hw.recv hK (ci := 5) (t := 200) rfl hM0 rfl, xP_of hK hN⟩ rfl rfl hl.1 rfl (lv_room (Nat.le_of_ble_eq_true rfl)) d_L_law_676 ⟨(by show cc + 0 + 0 ≤ 600000; omega), (by show ss + 0 + 0 ≤ 7302250; omega)⟩) hS (fun v H_ locs hp hS => ?_)
  obtain ⟨rfl, hHe⟩ := hp
  rw [hHe] at hS ⊢
  refine W.eq (g2 := F0 m 679 ls [.int (f_settled σ (xs ((nI i) + 1).toNatClampNeg) (xs ((nI i) + 2).toNatClampNeg)), .int (f_settled σ (xs ((nI i) + 1).toNatClampNeg) (xs ((nI i) + 2).toNatClampNeg))]) rfl ?_
  refine lv_icmp_eq (tgt := 872) hx hb d_L_law_679 (by decide) (fun c_1 => ?_) (fun c_1 => absurd rfl c_1)
  refine W.widen (k := cc + 4) (n := ss + 49) (by show cc + 0 + 0 ≤ cc + 4; omega) (by show ss + 0 + 0 ≤ ss + 49; omega) ?_
  exact kk _ _ _ ⟨hl, hS, σ, ad, w, hI, hRX, hRM, hw, rfl, rfl⟩
set_option maxHeartbeats 4000000 in
set_option maxRecDepth 100000 in
theorem law_disputed {p : Program} {l : Launch} {e : Env} {s : State} {m : MethodId} {below : List Frame} {meth : Method} {c : Code} {b L : Nat} {xs : Nat → Int32} {D : va_G} {K : Nat → ClassId} {q0 q1 i cc ss : Nat} {H : Heap} {locs : List Loc} {ls : Array Slot} {Q : State → Prop} (C : LC p s m c b L xs D K) (hi : i + 5 ≤ L) (hcc : cc + 4 ≤ 600000) (hss : ss + 49 ≤ 7302250) (I : LI D K s b q0 q1 i H locs ls)
    (kk : ∀ (H1 : Heap) (locs1 : List Loc) (ls1 : Array Slot), LI D K s b q0 q1 i H1 locs1 ls1 → W p l e room_1 s m #[Value.ref b] below meth c H1 locs1 (cc + 4) (ss + 49) Q (F0 m 872 ls1 [])) : W p l e room_1 s m #[Value.ref b] below meth c H locs cc ss Q (F0 m 684 ls []) := by
  obtain ⟨hx, hb, hml, hown, htw, hX, hbl, hL, hK, hN⟩ := C
  obtain ⟨hl, hS, σ, ad, w, hI, hRX, hRM, hw, rfl, rfl⟩ := I
  have hbA : ¬ (fun q : Nat => s.heap.size ≤ q) b := Nat.not_le.mpr hbl
  obtain ⟨fs, hM0⟩ := RepM_at hRM
  refine lv_aload_n hx hb d_L_law_684 rfl (lv_at hl 2 rfl) ?_
  refine lv_aload_n hx hb d_L_law_685 rfl (lv_at hl 3 rfl) ?_
  refine lv_iload_n hx hb d_L_law_686 rfl (lv_at hl 0 rfl) ?_
  refine lv_iconst (v := 1) hx hb d_L_law_687 (by decide) ?_
  refine lv_iadd hx hb d_L_law_688 ?_
  refine va_sld (i := (nI i) + 1) hx hb hX hbl hbA hS (xvin (a := i + 1) (xadd (a := i) (b := 1) rfl rfl) (by omega) (by omega)) d_L_law_689 ?_
  refine lv_aload_n hx hb d_L_law_690 rfl (lv_at hl 3 rfl) ?_
  refine lv_iload_n hx hb d_L_law_691 rfl (lv_at hl 0 rfl) ?_
  refine lv_iconst (v := 2) hx hb d_L_law_692 (by decide) ?_
  refine lv_iadd hx hb d_L_law_693 ?_
  refine va_sld (i := (nI i) + 2) hx hb hX hbl hbA hS (xvin (a := i + 2) (xadd (a := i) (b := 2) rfl rfl) (by omega) (by omega)) d_L_law_694 ?_
  refine xr_call (va_runV (As := [.int (xs ((nI i) + 1).toNatClampNeg), .int (xs ((nI i) + 2).toNatClampNeg)]) (rest := []) ⟨hx, hb, hml, hown, htw⟩ (c_A_disputed (l := l) hRX hI hw (xs ((nI i) + 1).toNatClampNeg) (xs ((nI i) + 2).toNatClampNeg)) (cwV 2 htw (gV u_265 u_266 u_267 u_1 u_268) rfl rfl rfl hd_A_disputed ⟨Nat.le_of_ble_eq_true rfl, Nat.le_of_ble_eq_true rfl⟩) ⟨xP_blind, hw.recv hK (ci := 0) (t := 0) rfl hRX.1 rfl, xP_of hK hN⟩ rfl rfl hl.1 rfl (lv_room (Nat.le_of_ble_eq_true rfl)) d_L_law_695 ⟨(by show cc + 0 ≤ 600000; omega), (by show ss + 0 ≤ 7302250; omega)⟩) hS (fun v H_ locs hp hS => ?_)
  obtain ⟨rfl, hHe⟩ := hp
  rw [hHe] at hS ⊢
  refine W.eq (g2 := F0 m 698 ls [.int (bI (f_disputed σ (xs ((nI i) + 1).toNatClampNeg) (xs ((nI i) + 2).toNatClampNeg)))]) rfl ?_
  refine lv_aload_n hx hb d_L_law_698 rfl (lv_at hl 1 rfl) ?_
  refine lv_aload_n hx hb d_L_law_699 rfl (lv_at hl 3 rfl) ?_
  refine lv_iload_n hx hb d_L_law_700 rfl (lv_at hl 0 rfl) ?_
  refine lv_iconst (v := 1) hx hb d_L_law_701 (by decide) ?_
  refine lv_iadd hx hb d_L_law_702 ?_
  refine va_sld (i := (nI i) + 1) hx hb hX hbl hbA hS (xvin (a := i + 1) (xadd (a := i) (b := 1) rfl rfl) (by omega) (by omega)) d_L_law_703 ?_
  refine lv_aload_n hx hb d_L_law_704 rfl (lv_at hl 3 rfl) ?_
  refine lv_iload_n hx hb d_L_law_705 rfl (lv_at hl 0 rfl) ?_
  refine lv_iconst (v := 2) hx hb d_L_law_706 (by decide) ?_
  refine lv_iadd hx hb d_L_law_707 ?_
  refine va_sld (i := (nI i) + 2) hx hb hX hbl hbA hS (xvin (a := i + 2) (xadd (a := i) (b := 2) rfl rfl) (by omega) (by omega)) d_L_law_708 ?_
  refine xr_call (va_runV (As := [.int (xs ((nI i) + 1).toNatClampNeg), .int (xs ((nI i) + 2).toNatClampNeg)]) (rest := [.int (bI (f_disputed σ (xs ((nI i) + 1).toNatClampNeg) (xs ((nI i) + 2).toNatClampNeg)))]) ⟨hx, hb, hml, hown, htw⟩ (c_M_disputed (l := l) hRM hI hw (xs ((nI i) + 1).toNatClampNeg) (xs ((nI i) + 2).toNatClampNeg)) (cwV 2 htw (gV u_516 u_517 u_518 u_3 u_519) rfl rfl rfl hd_M_disputed ⟨Nat.le_of_ble_eq_true rfl, Nat.le_of_ble_eq_true rfl⟩) ⟨xP_blind, hw.recv hK (ci := 5) (t := 200) rfl hM0 rfl, xP_of hK hN⟩ rfl rfl hl.1 rfl (lv_room (Nat.le_of_ble_eq_true rfl)) d_L_law_709 ⟨(by show cc + 0 + 0 ≤ 600000; omega), (by show ss + 0 + 0 ≤ 7302250; omega)⟩) hS (fun v H_ locs hp hS => ?_)
  obtain ⟨rfl, hHe⟩ := hp
  rw [hHe] at hS ⊢
  refine W.eq (g2 := F0 m 712 ls [.int (bI (f_disputed σ (xs ((nI i) + 1).toNatClampNeg) (xs ((nI i) + 2).toNatClampNeg))), .int (bI (f_disputed σ (xs ((nI i) + 1).toNatClampNeg) (xs ((nI i) + 2).toNatClampNeg)))]) rfl ?_
  refine lv_icmp_eq (tgt := 872) hx hb d_L_law_712 (by decide) (fun c_1 => ?_) (fun c_1 => absurd rfl c_1)
  refine W.widen (k := cc + 4) (n := ss + 49) (by show cc + 0 + 0 ≤ cc + 4; omega) (by show ss + 0 + 0 ≤ ss + 49; omega) ?_
  exact kk _ _ _ ⟨hl, hS, σ, ad, w, hI, hRX, hRM, hw, rfl, rfl⟩
set_option maxHeartbeats 4000000 in
set_option maxRecDepth 100000 in
theorem law_tolerance {p : Program} {l : Launch} {e : Env} {s : State} {m : MethodId} {below : List Frame} {meth : Method} {c : Code} {b L : Nat} {xs : Nat → Int32} {D : va_G} {K : Nat → ClassId} {q0 q1 i cc ss : Nat} {H : Heap} {locs : List Loc} {ls : Array Slot} {Q : State → Prop} (C : LC p s m c b L xs D K) (hi : i + 5 ≤ L) (hcc : cc + 4 ≤ 600000) (hss : ss + 49 ≤ 7302250) (I : LI D K s b q0 q1 i H locs ls)
    (kk : ∀ (H1 : Heap) (locs1 : List Loc) (ls1 : Array Slot), LI D K s b q0 q1 i H1 locs1 ls1 → W p l e room_1 s m #[Value.ref b] below meth c H1 locs1 (cc + 4) (ss + 49) Q (F0 m 872 ls1 [])) : W p l e room_1 s m #[Value.ref b] below meth c H locs cc ss Q (F0 m 717 ls []) := by
  obtain ⟨hx, hb, hml, hown, htw, hX, hbl, hL, hK, hN⟩ := C
  obtain ⟨hl, hS, σ, ad, w, hI, hRX, hRM, hw, rfl, rfl⟩ := I
  have hbA : ¬ (fun q : Nat => s.heap.size ≤ q) b := Nat.not_le.mpr hbl
  obtain ⟨fs, hM0⟩ := RepM_at hRM
  refine lv_aload_n hx hb d_L_law_717 rfl (lv_at hl 2 rfl) ?_
  refine lv_aload_n hx hb d_L_law_718 rfl (lv_at hl 3 rfl) ?_
  refine lv_iload_n hx hb d_L_law_719 rfl (lv_at hl 0 rfl) ?_
  refine lv_iconst (v := 1) hx hb d_L_law_720 (by decide) ?_
  refine lv_iadd hx hb d_L_law_721 ?_
  refine va_sld (i := (nI i) + 1) hx hb hX hbl hbA hS (xvin (a := i + 1) (xadd (a := i) (b := 1) rfl rfl) (by omega) (by omega)) d_L_law_722 ?_
  refine xr_call (va_runV (As := [.int (xs ((nI i) + 1).toNatClampNeg)]) (rest := []) ⟨hx, hb, hml, hown, htw⟩ (c_A_tolerance (l := l) hRX hI hw (xs ((nI i) + 1).toNatClampNeg)) (cwV 1 htw (gV u_273 u_274 u_275 u_1 u_276) rfl rfl rfl hd_A_tolerance ⟨Nat.le_of_ble_eq_true rfl, Nat.le_of_ble_eq_true rfl⟩) ⟨xP_blind, hw.recv hK (ci := 0) (t := 0) rfl hRX.1 rfl, xP_of hK hN⟩ rfl rfl hl.1 rfl (lv_room (Nat.le_of_ble_eq_true rfl)) d_L_law_723 ⟨(by show cc + 0 ≤ 600000; omega), (by show ss + 0 ≤ 7302250; omega)⟩) hS (fun v H_ locs hp hS => ?_)
  obtain ⟨rfl, ad1, w1, hw, hRX, h00, h200⟩ := hp
  refine W.eq (g2 := F0 m 726 ls [.int ((f_tolerance σ (xs ((nI i) + 1).toNatClampNeg)).2)]) rfl ?_
  refine lv_aload_n hx hb d_L_law_726 rfl (lv_at hl 1 rfl) ?_
  refine lv_aload_n hx hb d_L_law_727 rfl (lv_at hl 3 rfl) ?_
  refine lv_iload_n hx hb d_L_law_728 rfl (lv_at hl 0 rfl) ?_
  refine lv_iconst (v := 1) hx hb d_L_law_729 (by decide) ?_
  refine lv_iadd hx hb d_L_law_730 ?_
  refine va_sld (i := (nI i) + 1) hx hb hX hbl hbA hS (xvin (a := i + 1) (xadd (a := i) (b := 1) rfl rfl) (by omega) (by omega)) d_L_law_731 ?_
  have cm := c_M_tolerance (l := l) (RepM_frame h200 hRM) hI hw (xs ((nI i) + 1).toNatClampNeg)
  rw [(h200 200 (Nat.le_refl _)).2] at cm
  refine xr_call (va_runV (As := [.int (xs ((nI i) + 1).toNatClampNeg)]) (rest := [.int ((f_tolerance σ (xs ((nI i) + 1).toNatClampNeg)).2)]) ⟨hx, hb, hml, hown, htw⟩ cm (cwV 1 htw (gV u_520 u_521 u_522 u_3 u_523) rfl rfl rfl hd_M_tolerance ⟨Nat.le_of_ble_eq_true rfl, Nat.le_of_ble_eq_true rfl⟩) ⟨xP_blind, hw.recv hK (ci := 5) (t := 200) rfl ((h200 200 (Nat.le_refl _)).1.trans hM0) ((h200 200 (Nat.le_refl _)).2), xP_of hK hN⟩ rfl rfl hl.1 rfl (lv_room (Nat.le_of_ble_eq_true rfl)) d_L_law_732 ⟨(by show cc + 0 + 0 ≤ 600000; omega), (by show ss + 0 + 0 ≤ 7302250; omega)⟩) hS (fun v H_ locs hp hS => ?_)
  obtain ⟨rfl, w2, hw, hRM, hlt⟩ := hp
  refine W.eq (g2 := F0 m 735 ls [.int ((f_tolerance σ (xs ((nI i) + 1).toNatClampNeg)).2), .int ((f_tolerance σ (xs ((nI i) + 1).toNatClampNeg)).2)]) rfl ?_
  refine lv_icmp_eq (tgt := 872) hx hb d_L_law_735 (by decide) (fun c_1 => ?_) (fun c_1 => absurd rfl c_1)
  refine W.widen (k := cc + 4) (n := ss + 49) (by show cc + 0 + 0 ≤ cc + 4; omega) (by show ss + 0 + 0 ≤ ss + 49; omega) ?_
  have hJ : Inv (f_tolerance σ (xs ((nI i) + 1).toNatClampNeg)).1 := IF_tolerance hI
  exact kk _ _ _ ⟨hl, hS, _, ad1, w2, hJ, RepX_frame hJ.1 hJ.2.1 hJ.2.2.1 (fun t ht => ⟨hlt t ht, rfl⟩) hRX, hRM, hw, h00, (h200 200 (Nat.le_refl _)).2⟩
set_option maxHeartbeats 4000000 in
set_option maxRecDepth 100000 in
theorem law_rule {p : Program} {l : Launch} {e : Env} {s : State} {m : MethodId} {below : List Frame} {meth : Method} {c : Code} {b L : Nat} {xs : Nat → Int32} {D : va_G} {K : Nat → ClassId} {q0 q1 i cc ss : Nat} {H : Heap} {locs : List Loc} {ls : Array Slot} {Q : State → Prop} (C : LC p s m c b L xs D K) (hi : i + 5 ≤ L) (hcc : cc + 4 ≤ 600000) (hss : ss + 49 ≤ 7302250) (I : LI D K s b q0 q1 i H locs ls)
    (kk : ∀ (H1 : Heap) (locs1 : List Loc) (ls1 : Array Slot), LI D K s b q0 q1 i H1 locs1 ls1 → W p l e room_1 s m #[Value.ref b] below meth c H1 locs1 (cc + 4) (ss + 49) Q (F0 m 872 ls1 [])) : W p l e room_1 s m #[Value.ref b] below meth c H locs cc ss Q (F0 m 740 ls []) := by
  obtain ⟨hx, hb, hml, hown, htw, hX, hbl, hL, hK, hN⟩ := C
  obtain ⟨hl, hS, σ, ad, w, hI, hRX, hRM, hw, rfl, rfl⟩ := I
  have hbA : ¬ (fun q : Nat => s.heap.size ≤ q) b := Nat.not_le.mpr hbl
  obtain ⟨fs, hM0⟩ := RepM_at hRM
  refine lv_aload_n hx hb d_L_law_740 rfl (lv_at hl 2 rfl) ?_
  refine lv_aload_n hx hb d_L_law_741 rfl (lv_at hl 3 rfl) ?_
  refine lv_iload_n hx hb d_L_law_742 rfl (lv_at hl 0 rfl) ?_
  refine lv_iconst (v := 1) hx hb d_L_law_743 (by decide) ?_
  refine lv_iadd hx hb d_L_law_744 ?_
  refine va_sld (i := (nI i) + 1) hx hb hX hbl hbA hS (xvin (a := i + 1) (xadd (a := i) (b := 1) rfl rfl) (by omega) (by omega)) d_L_law_745 ?_
  refine lv_aload_n hx hb d_L_law_746 rfl (lv_at hl 3 rfl) ?_
  refine lv_iload_n hx hb d_L_law_747 rfl (lv_at hl 0 rfl) ?_
  refine lv_iconst (v := 2) hx hb d_L_law_748 (by decide) ?_
  refine lv_iadd hx hb d_L_law_749 ?_
  refine va_sld (i := (nI i) + 2) hx hb hX hbl hbA hS (xvin (a := i + 2) (xadd (a := i) (b := 2) rfl rfl) (by omega) (by omega)) d_L_law_750 ?_
  refine lv_aload_n hx hb d_L_law_751 rfl (lv_at hl 3 rfl) ?_
  refine lv_iload_n hx hb d_L_law_752 rfl (lv_at hl 0 rfl) ?_
  refine lv_iconst (v := 3) hx hb d_L_law_753 (by decide) ?_
  refine lv_iadd hx hb d_L_law_754 ?_
  refine va_sld (i := (nI i) + 3) hx hb hX hbl hbA hS (xvin (a := i + 3) (xadd (a := i) (b := 3) rfl rfl) (by omega) (by omega)) d_L_law_755 ?_
  refine lv_aload_n hx hb d_L_law_756 rfl (lv_at hl 3 rfl) ?_
  refine lv_iload_n hx hb d_L_law_757 rfl (lv_at hl 0 rfl) ?_
  refine lv_iconst (v := 4) hx hb d_L_law_758 (by decide) ?_
  refine lv_iadd hx hb d_L_law_759 ?_
  refine va_sld (i := (nI i) + 4) hx hb hX hbl hbA hS (xvin (a := i + 4) (xadd (a := i) (b := 4) rfl rfl) (by omega) (by omega)) d_L_law_760 ?_
  refine xr_call (va_runV (As := [.int (xs ((nI i) + 1).toNatClampNeg), .int (xs ((nI i) + 2).toNatClampNeg), .int (xs ((nI i) + 3).toNatClampNeg), .int (xs ((nI i) + 4).toNatClampNeg)]) (rest := []) ⟨hx, hb, hml, hown, htw⟩ (c_A_rule (l := l) hRX hI hw hS.1 (xs ((nI i) + 1).toNatClampNeg) (xs ((nI i) + 2).toNatClampNeg) (xs ((nI i) + 3).toNatClampNeg) (xs ((nI i) + 4).toNatClampNeg)) (cwV 4 htw (gV u_277 u_278 u_279 u_1 u_280) rfl rfl rfl hd_A_rule ⟨Nat.le_of_ble_eq_true rfl, Nat.le_of_ble_eq_true rfl⟩) ⟨xP_blind, hw.recv hK (ci := 0) (t := 0) rfl hRX.1 rfl, xP_of hK hN⟩ rfl rfl hl.1 rfl (lv_room (Nat.le_of_ble_eq_true rfl)) d_L_law_761 ⟨(by show cc + 1 ≤ 600000; omega), (by show ss + 4 ≤ 7302250; omega)⟩) hS (fun v H_ locs hp hS => ?_)
  obtain ⟨rfl, ad1, w1, hw, hRX, h00, h200⟩ := hp
  refine W.eq (g2 := F0 m 764 ls [.int ((f_rule σ (xs ((nI i) + 1).toNatClampNeg) (xs ((nI i) + 2).toNatClampNeg) (xs ((nI i) + 3).toNatClampNeg) (xs ((nI i) + 4).toNatClampNeg)).2)]) rfl ?_
  refine lv_aload_n hx hb d_L_law_764 rfl (lv_at hl 1 rfl) ?_
  refine lv_aload_n hx hb d_L_law_765 rfl (lv_at hl 3 rfl) ?_
  refine lv_iload_n hx hb d_L_law_766 rfl (lv_at hl 0 rfl) ?_
  refine lv_iconst (v := 1) hx hb d_L_law_767 (by decide) ?_
  refine lv_iadd hx hb d_L_law_768 ?_
  refine va_sld (i := (nI i) + 1) hx hb hX hbl hbA hS (xvin (a := i + 1) (xadd (a := i) (b := 1) rfl rfl) (by omega) (by omega)) d_L_law_769 ?_
  refine lv_aload_n hx hb d_L_law_770 rfl (lv_at hl 3 rfl) ?_
  refine lv_iload_n hx hb d_L_law_771 rfl (lv_at hl 0 rfl) ?_
  refine lv_iconst (v := 2) hx hb d_L_law_772 (by decide) ?_
  refine lv_iadd hx hb d_L_law_773 ?_
  refine va_sld (i := (nI i) + 2) hx hb hX hbl hbA hS (xvin (a := i + 2) (xadd (a := i) (b := 2) rfl rfl) (by omega) (by omega)) d_L_law_774 ?_
  refine lv_aload_n hx hb d_L_law_775 rfl (lv_at hl 3 rfl) ?_
  refine lv_iload_n hx hb d_L_law_776 rfl (lv_at hl 0 rfl) ?_
  refine lv_iconst (v := 3) hx hb d_L_law_777 (by decide) ?_
  refine lv_iadd hx hb d_L_law_778 ?_
  refine va_sld (i := (nI i) + 3) hx hb hX hbl hbA hS (xvin (a := i + 3) (xadd (a := i) (b := 3) rfl rfl) (by omega) (by omega)) d_L_law_779 ?_
  refine lv_aload_n hx hb d_L_law_780 rfl (lv_at hl 3 rfl) ?_
  refine lv_iload_n hx hb d_L_law_781 rfl (lv_at hl 0 rfl) ?_
  refine lv_iconst (v := 4) hx hb d_L_law_782 (by decide) ?_
  refine lv_iadd hx hb d_L_law_783 ?_
  refine va_sld (i := (nI i) + 4) hx hb hX hbl hbA hS (xvin (a := i + 4) (xadd (a := i) (b := 4) rfl rfl) (by omega) (by omega)) d_L_law_784 ?_
  have cm := c_M_rule (l := l) (RepM_frame h200 hRM) hI hw (xs ((nI i) + 1).toNatClampNeg) (xs ((nI i) + 2).toNatClampNeg) (xs ((nI i) + 3).toNatClampNeg) (xs ((nI i) + 4).toNatClampNeg)
  rw [(h200 200 (Nat.le_refl _)).2] at cm
  refine xr_call (va_runV (As := [.int (xs ((nI i) + 1).toNatClampNeg), .int (xs ((nI i) + 2).toNatClampNeg), .int (xs ((nI i) + 3).toNatClampNeg), .int (xs ((nI i) + 4).toNatClampNeg)]) (rest := [.int ((f_rule σ (xs ((nI i) + 1).toNatClampNeg) (xs ((nI i) + 2).toNatClampNeg) (xs ((nI i) + 3).toNatClampNeg) (xs ((nI i) + 4).toNatClampNeg)).2)]) ⟨hx, hb, hml, hown, htw⟩ cm (cwV 4 htw (gV u_524 u_525 u_526 u_3 u_527) rfl rfl rfl hd_M_rule ⟨Nat.le_of_ble_eq_true rfl, Nat.le_of_ble_eq_true rfl⟩) ⟨xP_blind, hw.recv hK (ci := 5) (t := 200) rfl ((h200 200 (Nat.le_refl _)).1.trans hM0) ((h200 200 (Nat.le_refl _)).2), xP_of hK hN⟩ rfl rfl hl.1 rfl (lv_room (Nat.le_of_ble_eq_true rfl)) d_L_law_785 ⟨(by show cc + 1 + 0 ≤ 600000; omega), (by show ss + 4 + 0 ≤ 7302250; omega)⟩) hS (fun v H_ locs hp hS => ?_)
  obtain ⟨rfl, w2, hw, hRM, hlt⟩ := hp
  refine W.eq (g2 := F0 m 788 ls [.int ((f_rule σ (xs ((nI i) + 1).toNatClampNeg) (xs ((nI i) + 2).toNatClampNeg) (xs ((nI i) + 3).toNatClampNeg) (xs ((nI i) + 4).toNatClampNeg)).2), .int ((f_rule σ (xs ((nI i) + 1).toNatClampNeg) (xs ((nI i) + 2).toNatClampNeg) (xs ((nI i) + 3).toNatClampNeg) (xs ((nI i) + 4).toNatClampNeg)).2)]) rfl ?_
  refine lv_icmp_eq (tgt := 872) hx hb d_L_law_788 (by decide) (fun c_1 => ?_) (fun c_1 => absurd rfl c_1)
  refine W.widen (k := cc + 4) (n := ss + 49) (by show cc + 1 + 0 ≤ cc + 4; omega) (by show ss + 4 + 0 ≤ ss + 49; omega) ?_
  have hJ : Inv (f_rule σ (xs ((nI i) + 1).toNatClampNeg) (xs ((nI i) + 2).toNatClampNeg) (xs ((nI i) + 3).toNatClampNeg) (xs ((nI i) + 4).toNatClampNeg)).1 := IF_rule hI
  exact kk _ _ _ ⟨hl, hS, _, ad1, w2, hJ, RepX_frame hJ.1 hJ.2.1 hJ.2.2.1 (fun t ht => ⟨hlt t ht, rfl⟩) hRX, hRM, hw, h00, (h200 200 (Nat.le_refl _)).2⟩
set_option maxHeartbeats 4000000 in
set_option maxRecDepth 100000 in
theorem law_cls {p : Program} {l : Launch} {e : Env} {s : State} {m : MethodId} {below : List Frame} {meth : Method} {c : Code} {b L : Nat} {xs : Nat → Int32} {D : va_G} {K : Nat → ClassId} {q0 q1 i cc ss : Nat} {H : Heap} {locs : List Loc} {ls : Array Slot} {Q : State → Prop} (C : LC p s m c b L xs D K) (hi : i + 5 ≤ L) (hcc : cc + 4 ≤ 600000) (hss : ss + 49 ≤ 7302250) (I : LI D K s b q0 q1 i H locs ls)
    (kk : ∀ (H1 : Heap) (locs1 : List Loc) (ls1 : Array Slot), LI D K s b q0 q1 i H1 locs1 ls1 → W p l e room_1 s m #[Value.ref b] below meth c H1 locs1 (cc + 4) (ss + 49) Q (F0 m 872 ls1 [])) : W p l e room_1 s m #[Value.ref b] below meth c H locs cc ss Q (F0 m 793 ls []) := by
  obtain ⟨hx, hb, hml, hown, htw, hX, hbl, hL, hK, hN⟩ := C
  obtain ⟨hl, hS, σ, ad, w, hI, hRX, hRM, hw, rfl, rfl⟩ := I
  have hbA : ¬ (fun q : Nat => s.heap.size ≤ q) b := Nat.not_le.mpr hbl
  obtain ⟨fs, hM0⟩ := RepM_at hRM
  refine lv_aload_n hx hb d_L_law_793 rfl (lv_at hl 2 rfl) ?_
  refine lv_aload_n hx hb d_L_law_794 rfl (lv_at hl 3 rfl) ?_
  refine lv_iload_n hx hb d_L_law_795 rfl (lv_at hl 0 rfl) ?_
  refine lv_iconst (v := 1) hx hb d_L_law_796 (by decide) ?_
  refine lv_iadd hx hb d_L_law_797 ?_
  refine va_sld (i := (nI i) + 1) hx hb hX hbl hbA hS (xvin (a := i + 1) (xadd (a := i) (b := 1) rfl rfl) (by omega) (by omega)) d_L_law_798 ?_
  refine xr_call (va_runV (As := [.int (xs ((nI i) + 1).toNatClampNeg)]) (rest := []) ⟨hx, hb, hml, hown, htw⟩ (c_A_cls (l := l) hRX hI hw (xs ((nI i) + 1).toNatClampNeg)) (cwV 1 htw (gV u_301 u_302 u_303 u_1 u_304) rfl rfl rfl hd_A_cls ⟨Nat.le_of_ble_eq_true rfl, Nat.le_of_ble_eq_true rfl⟩) ⟨xP_blind, hw.recv hK (ci := 0) (t := 0) rfl hRX.1 rfl, xP_of hK hN⟩ rfl rfl hl.1 rfl (lv_room (Nat.le_of_ble_eq_true rfl)) d_L_law_799 ⟨(by show cc + 0 ≤ 600000; omega), (by show ss + 0 ≤ 7302250; omega)⟩) hS (fun v H_ locs hp hS => ?_)
  obtain ⟨rfl, hHe⟩ := hp
  rw [hHe] at hS ⊢
  refine W.eq (g2 := F0 m 802 ls [.int (f_cls σ (xs ((nI i) + 1).toNatClampNeg))]) rfl ?_
  refine lv_aload_n hx hb d_L_law_802 rfl (lv_at hl 1 rfl) ?_
  refine lv_aload_n hx hb d_L_law_803 rfl (lv_at hl 3 rfl) ?_
  refine lv_iload_n hx hb d_L_law_804 rfl (lv_at hl 0 rfl) ?_
  refine lv_iconst (v := 1) hx hb d_L_law_805 (by decide) ?_
  refine lv_iadd hx hb d_L_law_806 ?_
  refine va_sld (i := (nI i) + 1) hx hb hX hbl hbA hS (xvin (a := i + 1) (xadd (a := i) (b := 1) rfl rfl) (by omega) (by omega)) d_L_law_807 ?_
  refine xr_call (va_runV (As := [.int (xs ((nI i) + 1).toNatClampNeg)]) (rest := [.int (f_cls σ (xs ((nI i) + 1).toNatClampNeg))]) ⟨hx, hb, hml, hown, htw⟩ (c_M_cls (l := l) hRM hI hw (xs ((nI i) + 1).toNatClampNeg)) (cwV 1 htw (gV u_529 u_530 u_531 u_3 u_532) rfl rfl rfl hd_M_cls ⟨Nat.le_of_ble_eq_true rfl, Nat.le_of_ble_eq_true rfl⟩) ⟨xP_blind, hw.recv hK (ci := 5) (t := 200) rfl hM0 rfl, xP_of hK hN⟩ rfl rfl hl.1 rfl (lv_room (Nat.le_of_ble_eq_true rfl)) d_L_law_808 ⟨(by show cc + 0 + 0 ≤ 600000; omega), (by show ss + 0 + 0 ≤ 7302250; omega)⟩) hS (fun v H_ locs hp hS => ?_)
  obtain ⟨rfl, hHe⟩ := hp
  rw [hHe] at hS ⊢
  refine W.eq (g2 := F0 m 811 ls [.int (f_cls σ (xs ((nI i) + 1).toNatClampNeg)), .int (f_cls σ (xs ((nI i) + 1).toNatClampNeg))]) rfl ?_
  refine lv_icmp_eq (tgt := 872) hx hb d_L_law_811 (by decide) (fun c_1 => ?_) (fun c_1 => absurd rfl c_1)
  refine W.widen (k := cc + 4) (n := ss + 49) (by show cc + 0 + 0 ≤ cc + 4; omega) (by show ss + 0 + 0 ≤ ss + 49; omega) ?_
  exact kk _ _ _ ⟨hl, hS, σ, ad, w, hI, hRX, hRM, hw, rfl, rfl⟩
set_option maxHeartbeats 4000000 in
set_option maxRecDepth 100000 in
theorem law_mix {p : Program} {l : Launch} {e : Env} {s : State} {m : MethodId} {below : List Frame} {meth : Method} {c : Code} {b L : Nat} {xs : Nat → Int32} {D : va_G} {K : Nat → ClassId} {q0 q1 i cc ss : Nat} {H : Heap} {locs : List Loc} {ls : Array Slot} {Q : State → Prop} (C : LC p s m c b L xs D K) (hi : i + 5 ≤ L) (hcc : cc + 4 ≤ 600000) (hss : ss + 49 ≤ 7302250) (I : LI D K s b q0 q1 i H locs ls)
    (kk : ∀ (H1 : Heap) (locs1 : List Loc) (ls1 : Array Slot), LI D K s b q0 q1 i H1 locs1 ls1 → W p l e room_1 s m #[Value.ref b] below meth c H1 locs1 (cc + 4) (ss + 49) Q (F0 m 872 ls1 [])) : W p l e room_1 s m #[Value.ref b] below meth c H locs cc ss Q (F0 m 816 ls []) := by
  obtain ⟨hx, hb, hml, hown, htw, hX, hbl, hL, hK, hN⟩ := C
  obtain ⟨hl, hS, σ, ad, w, hI, hRX, hRM, hw, rfl, rfl⟩ := I
  have hbA : ¬ (fun q : Nat => s.heap.size ≤ q) b := Nat.not_le.mpr hbl
  obtain ⟨fs, hM0⟩ := RepM_at hRM
  refine lv_aload_n hx hb d_L_law_816 rfl (lv_at hl 2 rfl) ?_
  refine lv_aload_n hx hb d_L_law_817 rfl (lv_at hl 3 rfl) ?_
  refine lv_iload_n hx hb d_L_law_818 rfl (lv_at hl 0 rfl) ?_
  refine lv_iconst (v := 1) hx hb d_L_law_819 (by decide) ?_
  refine lv_iadd hx hb d_L_law_820 ?_
  refine va_sld (i := (nI i) + 1) hx hb hX hbl hbA hS (xvin (a := i + 1) (xadd (a := i) (b := 1) rfl rfl) (by omega) (by omega)) d_L_law_821 ?_
  refine lv_aload_n hx hb d_L_law_822 rfl (lv_at hl 3 rfl) ?_
  refine lv_iload_n hx hb d_L_law_823 rfl (lv_at hl 0 rfl) ?_
  refine lv_iconst (v := 2) hx hb d_L_law_824 (by decide) ?_
  refine lv_iadd hx hb d_L_law_825 ?_
  refine va_sld (i := (nI i) + 2) hx hb hX hbl hbA hS (xvin (a := i + 2) (xadd (a := i) (b := 2) rfl rfl) (by omega) (by omega)) d_L_law_826 ?_
  refine xr_call (va_runV (As := [.int (xs ((nI i) + 1).toNatClampNeg), .int (xs ((nI i) + 2).toNatClampNeg)]) (rest := []) ⟨hx, hb, hml, hown, htw⟩ (c_A_mix (l := l) hRX hI hw hS.1 (xs ((nI i) + 1).toNatClampNeg) (xs ((nI i) + 2).toNatClampNeg)) (cwV 2 htw (gV u_311 u_312 u_313 u_1 u_314) rfl rfl rfl hd_A_mix ⟨Nat.le_of_ble_eq_true rfl, Nat.le_of_ble_eq_true rfl⟩) ⟨xP_blind, hw.recv hK (ci := 0) (t := 0) rfl hRX.1 rfl, xP_of hK hN⟩ rfl rfl hl.1 rfl (lv_room (Nat.le_of_ble_eq_true rfl)) d_L_law_827 ⟨(by show cc + 4 ≤ 600000; omega), (by show ss + 49 ≤ 7302250; omega)⟩) hS (fun v H_ locs hp hS => ?_)
  obtain ⟨rfl, ad1, w1, hw, hRX, h00, h200⟩ := hp
  refine W.eq (g2 := F0 m 830 ls [.int ((f_mix σ (xs ((nI i) + 1).toNatClampNeg) (xs ((nI i) + 2).toNatClampNeg)).2)]) rfl ?_
  refine lv_aload_n hx hb d_L_law_830 rfl (lv_at hl 1 rfl) ?_
  refine lv_aload_n hx hb d_L_law_831 rfl (lv_at hl 3 rfl) ?_
  refine lv_iload_n hx hb d_L_law_832 rfl (lv_at hl 0 rfl) ?_
  refine lv_iconst (v := 1) hx hb d_L_law_833 (by decide) ?_
  refine lv_iadd hx hb d_L_law_834 ?_
  refine va_sld (i := (nI i) + 1) hx hb hX hbl hbA hS (xvin (a := i + 1) (xadd (a := i) (b := 1) rfl rfl) (by omega) (by omega)) d_L_law_835 ?_
  refine lv_aload_n hx hb d_L_law_836 rfl (lv_at hl 3 rfl) ?_
  refine lv_iload_n hx hb d_L_law_837 rfl (lv_at hl 0 rfl) ?_
  refine lv_iconst (v := 2) hx hb d_L_law_838 (by decide) ?_
  refine lv_iadd hx hb d_L_law_839 ?_
  refine va_sld (i := (nI i) + 2) hx hb hX hbl hbA hS (xvin (a := i + 2) (xadd (a := i) (b := 2) rfl rfl) (by omega) (by omega)) d_L_law_840 ?_
  have cm := c_M_mix (l := l) (RepM_frame h200 hRM) hI hw (xs ((nI i) + 1).toNatClampNeg) (xs ((nI i) + 2).toNatClampNeg)
  rw [(h200 200 (Nat.le_refl _)).2] at cm
  refine xr_call (va_runV (As := [.int (xs ((nI i) + 1).toNatClampNeg), .int (xs ((nI i) + 2).toNatClampNeg)]) (rest := [.int ((f_mix σ (xs ((nI i) + 1).toNatClampNeg) (xs ((nI i) + 2).toNatClampNeg)).2)]) ⟨hx, hb, hml, hown, htw⟩ cm (cwV 2 htw (gV u_534 u_535 u_536 u_3 u_537) rfl rfl rfl hd_M_mix ⟨Nat.le_of_ble_eq_true rfl, Nat.le_of_ble_eq_true rfl⟩) ⟨xP_blind, hw.recv hK (ci := 5) (t := 200) rfl ((h200 200 (Nat.le_refl _)).1.trans hM0) ((h200 200 (Nat.le_refl _)).2), xP_of hK hN⟩ rfl rfl hl.1 rfl (lv_room (Nat.le_of_ble_eq_true rfl)) d_L_law_841 ⟨(by show cc + 4 + 0 ≤ 600000; omega), (by show ss + 49 + 0 ≤ 7302250; omega)⟩) hS (fun v H_ locs hp hS => ?_)
  obtain ⟨rfl, w2, hw, hRM, hlt⟩ := hp
  refine W.eq (g2 := F0 m 844 ls [.int ((f_mix σ (xs ((nI i) + 1).toNatClampNeg) (xs ((nI i) + 2).toNatClampNeg)).2), .int ((f_mix σ (xs ((nI i) + 1).toNatClampNeg) (xs ((nI i) + 2).toNatClampNeg)).2)]) rfl ?_
  refine lv_icmp_eq (tgt := 872) hx hb d_L_law_844 (by decide) (fun c_1 => ?_) (fun c_1 => absurd rfl c_1)
  refine W.widen (k := cc + 4) (n := ss + 49) (by show cc + 4 + 0 ≤ cc + 4; omega) (by show ss + 49 + 0 ≤ ss + 49; omega) ?_
  have hJ : Inv (f_mix σ (xs ((nI i) + 1).toNatClampNeg) (xs ((nI i) + 2).toNatClampNeg)).1 := IF_mix hI
  exact kk _ _ _ ⟨hl, hS, _, ad1, w2, hJ, RepX_frame hJ.1 hJ.2.1 hJ.2.2.1 (fun t ht => ⟨hlt t ht, rfl⟩) hRX, hRM, hw, h00, (h200 200 (Nat.le_refl _)).2⟩
set_option maxHeartbeats 4000000 in
set_option maxRecDepth 100000 in
theorem law_dispute {p : Program} {l : Launch} {e : Env} {s : State} {m : MethodId} {below : List Frame} {meth : Method} {c : Code} {b L : Nat} {xs : Nat → Int32} {D : va_G} {K : Nat → ClassId} {q0 q1 i cc ss : Nat} {H : Heap} {locs : List Loc} {ls : Array Slot} {Q : State → Prop} (C : LC p s m c b L xs D K) (hi : i + 5 ≤ L) (hcc : cc + 4 ≤ 600000) (hss : ss + 49 ≤ 7302250) (I : LI D K s b q0 q1 i H locs ls)
    (kk : ∀ (H1 : Heap) (locs1 : List Loc) (ls1 : Array Slot), LI D K s b q0 q1 i H1 locs1 ls1 → W p l e room_1 s m #[Value.ref b] below meth c H1 locs1 (cc + 4) (ss + 49) Q (F0 m 872 ls1 [])) : W p l e room_1 s m #[Value.ref b] below meth c H locs cc ss Q (F0 m 849 ls []) := by
  obtain ⟨hx, hb, hml, hown, htw, hX, hbl, hL, hK, hN⟩ := C
  obtain ⟨hl, hS, σ, ad, w, hI, hRX, hRM, hw, rfl, rfl⟩ := I
  have hbA : ¬ (fun q : Nat => s.heap.size ≤ q) b := Nat.not_le.mpr hbl
  obtain ⟨fs, hM0⟩ := RepM_at hRM
  refine lv_aload_n hx hb d_L_law_849 rfl (lv_at hl 2 rfl) ?_
  refine lv_aload_n hx hb d_L_law_850 rfl (lv_at hl 3 rfl) ?_
  refine lv_iload_n hx hb d_L_law_851 rfl (lv_at hl 0 rfl) ?_
  refine lv_iconst (v := 1) hx hb d_L_law_852 (by decide) ?_
  refine lv_iadd hx hb d_L_law_853 ?_
  refine va_sld (i := (nI i) + 1) hx hb hX hbl hbA hS (xvin (a := i + 1) (xadd (a := i) (b := 1) rfl rfl) (by omega) (by omega)) d_L_law_854 ?_
  refine xr_call (va_runV (As := [.int (xs ((nI i) + 1).toNatClampNeg)]) (rest := []) ⟨hx, hb, hml, hown, htw⟩ (c_A_dispute (l := l) hRX hI hw (xs ((nI i) + 1).toNatClampNeg)) (cwV 1 htw (gV u_319 u_320 u_321 u_1 u_322) rfl rfl rfl hd_A_dispute ⟨Nat.le_of_ble_eq_true rfl, Nat.le_of_ble_eq_true rfl⟩) ⟨xP_blind, hw.recv hK (ci := 0) (t := 0) rfl hRX.1 rfl, xP_of hK hN⟩ rfl rfl hl.1 rfl (lv_room (Nat.le_of_ble_eq_true rfl)) d_L_law_855 ⟨(by show cc + 0 ≤ 600000; omega), (by show ss + 0 ≤ 7302250; omega)⟩) hS (fun v H_ locs hp hS => ?_)
  obtain ⟨rfl, hHe⟩ := hp
  rw [hHe] at hS ⊢
  refine W.eq (g2 := F0 m 858 ls [.int (f_dispute σ (xs ((nI i) + 1).toNatClampNeg))]) rfl ?_
  refine lv_aload_n hx hb d_L_law_858 rfl (lv_at hl 1 rfl) ?_
  refine lv_aload_n hx hb d_L_law_859 rfl (lv_at hl 3 rfl) ?_
  refine lv_iload_n hx hb d_L_law_860 rfl (lv_at hl 0 rfl) ?_
  refine lv_iconst (v := 1) hx hb d_L_law_861 (by decide) ?_
  refine lv_iadd hx hb d_L_law_862 ?_
  refine va_sld (i := (nI i) + 1) hx hb hX hbl hbA hS (xvin (a := i + 1) (xadd (a := i) (b := 1) rfl rfl) (by omega) (by omega)) d_L_law_863 ?_
  refine xr_call (va_runV (As := [.int (xs ((nI i) + 1).toNatClampNeg)]) (rest := [.int (f_dispute σ (xs ((nI i) + 1).toNatClampNeg))]) ⟨hx, hb, hml, hown, htw⟩ (c_M_dispute (l := l) hRM hI hw (xs ((nI i) + 1).toNatClampNeg)) (cwV 1 htw (gV u_538 u_539 u_540 u_3 u_541) rfl rfl rfl hd_M_dispute ⟨Nat.le_of_ble_eq_true rfl, Nat.le_of_ble_eq_true rfl⟩) ⟨xP_blind, hw.recv hK (ci := 5) (t := 200) rfl hM0 rfl, xP_of hK hN⟩ rfl rfl hl.1 rfl (lv_room (Nat.le_of_ble_eq_true rfl)) d_L_law_864 ⟨(by show cc + 0 + 0 ≤ 600000; omega), (by show ss + 0 + 0 ≤ 7302250; omega)⟩) hS (fun v H_ locs hp hS => ?_)
  obtain ⟨rfl, hHe⟩ := hp
  rw [hHe] at hS ⊢
  refine W.eq (g2 := F0 m 867 ls [.int (f_dispute σ (xs ((nI i) + 1).toNatClampNeg)), .int (f_dispute σ (xs ((nI i) + 1).toNatClampNeg))]) rfl ?_
  refine lv_icmp_eq (tgt := 872) hx hb d_L_law_867 (by decide) (fun c_1 => ?_) (fun c_1 => absurd rfl c_1)
  refine W.widen (k := cc + 4) (n := ss + 49) (by show cc + 0 + 0 ≤ cc + 4; omega) (by show ss + 0 + 0 ≤ ss + 49; omega) ?_
  exact kk _ _ _ ⟨hl, hS, σ, ad, w, hI, hRX, hRM, hw, rfl, rfl⟩
