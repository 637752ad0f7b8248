set_option maxHeartbeats 4000000 in
set_option maxRecDepth 100000 in
theorem law_loop {p : Program} {l : Launch} {e : Env} {s : State} {m : MethodId} {below : List Frame} {meth : Method} {c : Code} {b L : Nat} {xs : Nat → Int32} {D : va_G} {K : Nat → ClassId} {q0 q1 : Nat} {H : Heap} {locs : List Loc} {ls : Array Slot} (C : LC p s m c b L xs D K) (hr : meth.sig.returnType = ret) (hlocks : meth.locks = false) (I : LI D K s b q0 q1 (5 * 0) H locs ls) : W p l e room_1 s m #[Value.ref b] below meth c H locs 40 700 (lw_Z below #[Value.ref b] s) (F0 m 18 ls []) := by
  refine xloopC 40 4 700 49 512 (fun n H locs ls => LI D K s b q0 q1 (5 * n) H locs ls) I (fun n H locs ls hn I ih => ?_)
  obtain ⟨hx, hb, hml, hown, htw, hX, hbl, hL, hK, hN⟩ := id C
  obtain ⟨hl, hS, -⟩ := id I
  have hbA : ¬ (fun q : Nat => s.heap.size ≤ q) b := Nat.not_le.mpr hbl
  refine lv_iload_n hx hb d_L_law_18 rfl (lv_at hl 0 rfl) ?_
  refine lv_aload_n hx hb d_L_law_19 rfl (lv_at hl 3 rfl) ?_
  refine va_slen hx hb hX hbl hbA hS d_L_law_20 ?_
  refine lv_iconst (v := 5) hx hb d_L_law_21 (by decide) ?_
  refine lv_isub hx hb d_L_law_22 ?_
  have hlen : (Int32.ofNat L - 5).toInt = (L : Int) - 5 := pk_sub_toInt (a := L) (b := 5) (by omega) (by omega)
  have hpos : (nI (5 * n)).toInt = ((5 * n : Nat) : Int) := nI_toInt (by omega)
  refine lv_icmp_gt (tgt := 878) hx hb d_L_law_23 (by decide) (fun cg => ?_) (fun cg => ?_)
  · refine lv_iconst (v := 1) hx hb d_L_law_878 (by decide) ?_
    refine va_forget (fun q hq => hS.2.2 q hq) ?_
    refine W.widen (k := 600000) (n := 7302250) (by omega) (by omega) ?_
    exact lw_ret hx hb hr hlocks d_L_law_879
  · have hi : 5 * n + 5 ≤ L := by
      rw [Int32.lt_iff_toInt_lt, hlen, hpos] at cg
      omega
    have hn2 : n < 512 := by omega
    have kk : ∀ (H1 : Heap) (locs1 : List Loc) (ls1 : Array Slot), LI D K s b q0 q1 (5 * n) H1 locs1 ls1 → W p l e room_1 s m #[Value.ref b] below meth c H1 locs1 (40 + 4 * n + 4) (700 + 49 * n + 49) (lw_Z below #[Value.ref b] s) (F0 m 872 ls1 []) := by
      intro H1 locs1 ls1 I1
      obtain ⟨hl, hS, hE⟩ := I1
      refine lv_iinc (v := nI (5 * (n + 1))) (lv' := [(3, .int (nI (5 * (n + 1)))), (2, .ref q1), (1, .ref q0), (0, .ref b)]) hx hb d_L_law_872 hl (k := 0) rfl (nI_add (5 * n) 5) (by decide) rfl (fun ls hl => ?_)
      refine lv_goto (tgt := 18) hx hb d_L_law_875 (by decide) ?_
      exact ih hn2 _ _ _ ⟨hl, hS, hE⟩
    refine lv_aload_n hx hb d_L_law_26 rfl (lv_at hl 3 rfl) ?_
    refine lv_iload_n hx hb d_L_law_27 rfl (lv_at hl 0 rfl) ?_
    refine va_sld (i := nI (5 * n)) hx hb hX hbl hbA hS (xvin (a := 5 * n) rfl (by omega) (by omega)) d_L_law_28 ?_
    refine lv_bipush (v := 31) hx hb d_L_law_29 (by decide) ?_
    refine lv_iand hx hb d_L_law_31 ?_
    obtain ⟨j, hj, ej⟩ := pk_andE (xs (nI (5 * n)).toNatClampNeg) (m := 31) 5 (by decide +kernel)
    rw [ej]
    by_cases hj2 : j ≤ 20
    · rcases (show j = 0 ∨ j = 1 ∨ j = 2 ∨ j = 3 ∨ j = 4 ∨ j = 5 ∨ j = 6 ∨ j = 7 ∨ j = 8 ∨ j = 9 ∨ j = 10 ∨ j = 11 ∨ j = 12 ∨ j = 13 ∨ j = 14 ∨ j = 15 ∨ j = 16 ∨ j = 17 ∨ j = 18 ∨ j = 19 ∨ j = 20 by omega) with rfl | rfl | rfl | rfl | rfl | rfl | rfl | rfl | rfl | rfl | rfl | rfl | rfl | rfl | rfl | rfl | rfl | rfl | rfl | rfl | rfl
      · exact lv_tableIn (off := 100) (tgt := 132) hx hb d_L_law_32 (by decide +kernel) (by decide +kernel) (by decide +kernel) (by decide) (law_batch C hi (by omega) (by omega) I kk)
      · exact lv_tableIn (off := 153) (tgt := 185) hx hb d_L_law_32 (by decide +kernel) (by decide +kernel) (by decide +kernel) (by decide) (law_parts C hi (by omega) (by omega) I kk)
      · exact lv_tableIn (off := 196) (tgt := 228) hx hb d_L_law_32 (by decide +kernel) (by decide +kernel) (by decide +kernel) (by decide) (law_today C hi (by omega) (by omega) I kk)
      · exact lv_tableIn (off := 219) (tgt := 251) hx hb d_L_law_32 (by decide +kernel) (by decide +kernel) (by decide +kernel) (by decide) (law_stage C hi (by omega) (by omega) I kk)
      · exact lv_tableIn (off := 262) (tgt := 294) hx hb d_L_law_32 (by decide +kernel) (by decide +kernel) (by decide +kernel) (by decide) (law_run C hi (by omega) (by omega) I kk)
      · exact lv_tableIn (off := 285) (tgt := 317) hx hb d_L_law_32 (by decide +kernel) (by decide +kernel) (by decide +kernel) (by decide) (law_taken C hi (by omega) (by omega) I kk)
      · exact lv_tableIn (off := 329) (tgt := 361) hx hb d_L_law_32 (by decide +kernel) (by decide +kernel) (by decide +kernel) (by decide) (law_left C hi (by omega) (by omega) I kk)
      · exact lv_tableIn (off := 363) (tgt := 395) hx hb d_L_law_32 (by decide +kernel) (by decide +kernel) (by decide +kernel) (by decide) (law_grams C hi (by omega) (by omega) I kk)
      · exact lv_tableIn (off := 387) (tgt := 419) hx hb d_L_law_32 (by decide +kernel) (by decide +kernel) (by decide +kernel) (by decide) (law_stock C hi (by omega) (by omega) I kk)
      · exact lv_tableIn (off := 421) (tgt := 453) hx hb d_L_law_32 (by decide +kernel) (by decide +kernel) (by decide +kernel) (by decide) (law_price C hi (by omega) (by omega) I kk)
      · exact lv_tableIn (off := 494) (tgt := 526) hx hb d_L_law_32 (by decide +kernel) (by decide +kernel) (by decide +kernel) (by decide) (law_worth C hi (by omega) (by omega) I kk)
      · exact lv_tableIn (off := 528) (tgt := 560) hx hb d_L_law_32 (by decide +kernel) (by decide +kernel) (by decide +kernel) (by decide) (law_sell C hi (by omega) (by omega) I kk)
      · exact lv_tableIn (off := 552) (tgt := 584) hx hb d_L_law_32 (by decide +kernel) (by decide +kernel) (by decide +kernel) (by decide) (law_money C hi (by omega) (by omega) I kk)
      · exact lv_tableIn (off := 566) (tgt := 598) hx hb d_L_law_32 (by decide +kernel) (by decide +kernel) (by decide +kernel) (by decide) (law_assay C hi (by omega) (by omega) I kk)
      · exact lv_tableIn (off := 619) (tgt := 651) hx hb d_L_law_32 (by decide +kernel) (by decide +kernel) (by decide +kernel) (by decide) (law_settled C hi (by omega) (by omega) I kk)
      · exact lv_tableIn (off := 652) (tgt := 684) hx hb d_L_law_32 (by decide +kernel) (by decide +kernel) (by decide +kernel) (by decide) (law_disputed C hi (by omega) (by omega) I kk)
      · exact lv_tableIn (off := 685) (tgt := 717) hx hb d_L_law_32 (by decide +kernel) (by decide +kernel) (by decide +kernel) (by decide) (law_tolerance C hi (by omega) (by omega) I kk)
      · exact lv_tableIn (off := 708) (tgt := 740) hx hb d_L_law_32 (by decide +kernel) (by decide +kernel) (by decide +kernel) (by decide) (law_rule C hi (by omega) (by omega) I kk)
      · exact lv_tableIn (off := 761) (tgt := 793) hx hb d_L_law_32 (by decide +kernel) (by decide +kernel) (by decide +kernel) (by decide) (law_cls C hi (by omega) (by omega) I kk)
      · exact lv_tableIn (off := 784) (tgt := 816) hx hb d_L_law_32 (by decide +kernel) (by decide +kernel) (by decide +kernel) (by decide) (law_mix C hi (by omega) (by omega) I kk)
      · exact lv_tableIn (off := 817) (tgt := 849) hx hb d_L_law_32 (by decide +kernel) (by decide +kernel) (by decide +kernel) (by decide) (law_dispute C hi (by omega) (by omega) I kk)
    · refine lv_tableOut (tgt := 872) hx hb d_L_law_32 (Or.inr (by rw [nI_toInt (by omega)]; omega)) (by decide) ?_
      refine W.widen (k := 40 + 4 * n + 4) (n := 700 + 49 * n + 49) (by omega) (by omega) ?_
      exact kk _ _ _ I
