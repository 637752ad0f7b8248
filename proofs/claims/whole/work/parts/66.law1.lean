set_option maxHeartbeats 4000000 in
set_option maxRecDepth 100000 in
theorem law_batch {p : Program} {l : Launch} {e : Env} {s : State} {m : MethodId} {below : List Frame} {meth : Method} {c : Code} {b L : Nat} {xs : Nat → Int32} {D : va_G} {K : Nat → ClassId} {q0 q1 i cc ss : Nat} {H : Heap} {locs : List Loc} {ls : Array Slot} {Q : State → Prop} (C : LC p s m c b L xs D K) (hi : i + 5 ≤ L) (hcc : cc + 4 ≤ 600000) (hss : ss + 49 ≤ 7302250) (I : LI D K s b q0 q1 i H locs ls)
    (kk : ∀ (H1 : Heap) (locs1 : List Loc) (ls1 : Array Slot), LI D K s b q0 q1 i H1 locs1 ls1 → W p l e room_1 s m #[Value.ref b] below meth c H1 locs1 (cc + 4) (ss + 49) Q (F0 m 872 ls1 [])) : W p l e room_1 s m #[Value.ref b] below meth c H locs cc ss Q (F0 m 132 ls []) := by
  obtain ⟨hx, hb, hml, hown, htw, hX, hbl, hL, hK, hN⟩ := C
  obtain ⟨hl, hS, σ, ad, w, hI, hRX, hRM, hw, rfl, rfl⟩ := I
  have hbA : ¬ (fun q : Nat => s.heap.size ≤ q) b := Nat.not_le.mpr hbl
  obtain ⟨fs, hM0⟩ := RepM_at hRM
  refine lv_aload_n hx hb d_L_law_132 rfl (lv_at hl 2 rfl) ?_
  refine lv_aload_n hx hb d_L_law_133 rfl (lv_at hl 3 rfl) ?_
  refine lv_iload_n hx hb d_L_law_134 rfl (lv_at hl 0 rfl) ?_
  refine lv_iconst (v := 1) hx hb d_L_law_135 (by decide) ?_
  refine lv_iadd hx hb d_L_law_136 ?_
  refine va_sld (i := (nI i) + 1) hx hb hX hbl hbA hS (xvin (a := i + 1) (xadd (a := i) (b := 1) rfl rfl) (by omega) (by omega)) d_L_law_137 ?_
  refine lv_i2l hx hb d_L_law_138 rfl ?_
  refine lv_bipush (v := 32) hx hb d_L_law_139 (by decide) ?_
  refine lv_lshl hx hb d_L_law_141 rfl ?_
  refine lv_aload_n hx hb d_L_law_142 rfl (lv_at hl 3 rfl) ?_
  refine lv_iload_n hx hb d_L_law_143 rfl (lv_at hl 0 rfl) ?_
  refine lv_iconst (v := 2) hx hb d_L_law_144 (by decide) ?_
  refine lv_iadd hx hb d_L_law_145 ?_
  refine va_sld (i := (nI i) + 2) hx hb hX hbl hbA hS (xvin (a := i + 2) (xadd (a := i) (b := 2) rfl rfl) (by omega) (by omega)) d_L_law_146 ?_
  refine lv_i2l hx hb d_L_law_147 rfl ?_
  refine lv_ldc2 (v := 4294967295) hx hb hown (htw _ u_542) d_L_law_148 ?_
  refine lv_land hx hb d_L_law_151 ?_
  refine lv_lor hx hb d_L_law_152 ?_
  refine xr_call (va_runV (As := [.long ((((xs ((nI i) + 1).toNatClampNeg).toInt64) <<< ((32 : Int32).toInt64 &&& 63)) ||| (((xs ((nI i) + 2).toNatClampNeg).toInt64) &&& 4294967295))]) (rest := []) ⟨hx, hb, hml, hown, htw⟩ (c_A_batch (l := l) hRX hI hw hS.1 ((((xs ((nI i) + 1).toNatClampNeg).toInt64) <<< ((32 : Int32).toInt64 &&& 63)) ||| (((xs ((nI i) + 2).toNatClampNeg).toInt64) &&& 4294967295))) (cwV 1 htw (gV u_72 u_73 u_74 u_1 u_75) rfl rfl rfl hd_A_batch ⟨Nat.le_of_ble_eq_true rfl, Nat.le_of_ble_eq_true rfl⟩) ⟨xP_blind, hw.recv hK (ci := 0) (t := 0) rfl hRX.1 rfl, xP_of hK hN⟩ rfl rfl hl.1 rfl (lv_room (Nat.le_of_ble_eq_true rfl)) d_L_law_153 ⟨(by show cc + 4 ≤ 600000; omega), (by show ss + 49 ≤ 7302250; omega)⟩) hS (fun v H_ locs hp hS => ?_)
  obtain ⟨rfl, ad1, w1, hw, hRX, h00, h200⟩ := hp
  refine W.eq (g2 := F0 m 156 ls [.int ((f_batch σ ((((xs ((nI i) + 1).toNatClampNeg).toInt64) <<< ((32 : Int32).toInt64 &&& 63)) ||| (((xs ((nI i) + 2).toNatClampNeg).toInt64) &&& 4294967295))).2)]) rfl ?_
  refine lv_aload_n hx hb d_L_law_156 rfl (lv_at hl 1 rfl) ?_
  refine lv_aload_n hx hb d_L_law_157 rfl (lv_at hl 3 rfl) ?_
  refine lv_iload_n hx hb d_L_law_158 rfl (lv_at hl 0 rfl) ?_
  refine lv_iconst (v := 1) hx hb d_L_law_159 (by decide) ?_
  refine lv_iadd hx hb d_L_law_160 ?_
  refine va_sld (i := (nI i) + 1) hx hb hX hbl hbA hS (xvin (a := i + 1) (xadd (a := i) (b := 1) rfl rfl) (by omega) (by omega)) d_L_law_161 ?_
  refine lv_i2l hx hb d_L_law_162 rfl ?_
  refine lv_bipush (v := 32) hx hb d_L_law_163 (by decide) ?_
  refine lv_lshl hx hb d_L_law_165 rfl ?_
  refine lv_aload_n hx hb d_L_law_166 rfl (lv_at hl 3 rfl) ?_
  refine lv_iload_n hx hb d_L_law_167 rfl (lv_at hl 0 rfl) ?_
  refine lv_iconst (v := 2) hx hb d_L_law_168 (by decide) ?_
  refine lv_iadd hx hb d_L_law_169 ?_
  refine va_sld (i := (nI i) + 2) hx hb hX hbl hbA hS (xvin (a := i + 2) (xadd (a := i) (b := 2) rfl rfl) (by omega) (by omega)) d_L_law_170 ?_
  refine lv_i2l hx hb d_L_law_171 rfl ?_
  refine lv_ldc2 (v := 4294967295) hx hb hown (htw _ u_542) d_L_law_172 ?_
  refine lv_land hx hb d_L_law_175 ?_
  refine lv_lor hx hb d_L_law_176 ?_
  have cm := c_M_batch (l := l) (RepM_frame h200 hRM) hI hw ((((xs ((nI i) + 1).toNatClampNeg).toInt64) <<< ((32 : Int32).toInt64 &&& 63)) ||| (((xs ((nI i) + 2).toNatClampNeg).toInt64) &&& 4294967295))
  rw [(h200 200 (Nat.le_refl _)).2] at cm
  refine xr_call (va_runV (As := [.long ((((xs ((nI i) + 1).toNatClampNeg).toInt64) <<< ((32 : Int32).toInt64 &&& 63)) ||| (((xs ((nI i) + 2).toNatClampNeg).toInt64) &&& 4294967295))]) (rest := [.int ((f_batch σ ((((xs ((nI i) + 1).toNatClampNeg).toInt64) <<< ((32 : Int32).toInt64 &&& 63)) ||| (((xs ((nI i) + 2).toNatClampNeg).toInt64) &&& 4294967295))).2)]) ⟨hx, hb, hml, hown, htw⟩ cm (cwV 1 htw (gV u_414 u_415 u_416 u_3 u_417) rfl rfl rfl hd_M_batch ⟨Nat.le_of_ble_eq_true rfl, Nat.le_of_ble_eq_true rfl⟩) ⟨xP_blind, hw.recv hK (ci := 5) (t := 200) rfl ((h200 200 (Nat.le_refl _)).1.trans hM0) ((h200 200 (Nat.le_refl _)).2), xP_of hK hN⟩ rfl rfl hl.1 rfl (lv_room (Nat.le_of_ble_eq_true rfl)) d_L_law_177 ⟨(by show cc + 4 + 0 ≤ 600000; omega), (by show ss + 49 + 0 ≤ 7302250; omega)⟩) hS (fun v H_ locs hp hS => ?_)
  obtain ⟨rfl, w2, hw, hRM, hlt⟩ := hp
  refine W.eq (g2 := F0 m 180 ls [.int ((f_batch σ ((((xs ((nI i) + 1).toNatClampNeg).toInt64) <<< ((32 : Int32).toInt64 &&& 63)) ||| (((xs ((nI i) + 2).toNatClampNeg).toInt64) &&& 4294967295))).2), .int ((f_batch σ ((((xs ((nI i) + 1).toNatClampNeg).toInt64) <<< ((32 : Int32).toInt64 &&& 63)) ||| (((xs ((nI i) + 2).toNatClampNeg).toInt64) &&& 4294967295))).2)]) rfl ?_
  refine lv_icmp_eq (tgt := 872) hx hb d_L_law_180 (by decide) (fun c_1 => ?_) (fun c_1 => absurd rfl c_1)
  refine W.widen (k := cc + 4) (n := ss + 49) (by show cc + 4 + 0 ≤ cc + 4; omega) (by show ss + 49 + 0 ≤ ss + 49; omega) ?_
  have hJ : Inv (f_batch σ ((((xs ((nI i) + 1).toNatClampNeg).toInt64) <<< ((32 : Int32).toInt64 &&& 63)) ||| (((xs ((nI i) + 2).toNatClampNeg).toInt64) &&& 4294967295))).1 := IF_batch hI
  exact kk _ _ _ ⟨hl, hS, _, ad1, w2, hJ, RepX_frame hJ.1 hJ.2.1 hJ.2.2.1 (fun t ht => ⟨hlt t ht, rfl⟩) hRX, hRM, hw, h00, (h200 200 (Nat.le_refl _)).2⟩
set_option maxHeartbeats 4000000 in
set_option maxRecDepth 100000 in
theorem law_parts {p : Program} {l : Launch} {e : Env} {s : State} {m : MethodId} {below : List Frame} {meth : Method} {c : Code} {b L : Nat} {xs : Nat → Int32} {D : va_G} {K : Nat → ClassId} {q0 q1 i cc ss : Nat} {H : Heap} {locs : List Loc} {ls : Array Slot} {Q : State → Prop} (C : LC p s m c b L xs D K) (hi : i + 5 ≤ L) (hcc : cc + 4 ≤ 600000) (hss : ss + 49 ≤ 7302250) (I : LI D K s b q0 q1 i H locs ls)
    (kk : ∀ (H1 : Heap) (locs1 : List Loc) (ls1 : Array Slot), LI D K s b q0 q1 i H1 locs1 ls1 → W p l e room_1 s m #[Value.ref b] below meth c H1 locs1 (cc + 4) (ss + 49) Q (F0 m 872 ls1 [])) : W p l e room_1 s m #[Value.ref b] below meth c H locs cc ss Q (F0 m 185 ls []) := by
  obtain ⟨hx, hb, hml, hown, htw, hX, hbl, hL, hK, hN⟩ := C
  obtain ⟨hl, hS, σ, ad, w, hI, hRX, hRM, hw, rfl, rfl⟩ := I
  have hbA : ¬ (fun q : Nat => s.heap.size ≤ q) b := Nat.not_le.mpr hbl
  obtain ⟨fs, hM0⟩ := RepM_at hRM
  refine lv_aload_n hx hb d_L_law_185 rfl (lv_at hl 2 rfl) ?_
  refine lv_aload_n hx hb d_L_law_186 rfl (lv_at hl 3 rfl) ?_
  refine lv_iload_n hx hb d_L_law_187 rfl (lv_at hl 0 rfl) ?_
  refine lv_iconst (v := 1) hx hb d_L_law_188 (by decide) ?_
  refine lv_iadd hx hb d_L_law_189 ?_
  refine va_sld (i := (nI i) + 1) hx hb hX hbl hbA hS (xvin (a := i + 1) (xadd (a := i) (b := 1) rfl rfl) (by omega) (by omega)) d_L_law_190 ?_
  refine lv_aload_n hx hb d_L_law_191 rfl (lv_at hl 3 rfl) ?_
  refine lv_iload_n hx hb d_L_law_192 rfl (lv_at hl 0 rfl) ?_
  refine lv_iconst (v := 2) hx hb d_L_law_193 (by decide) ?_
  refine lv_iadd hx hb d_L_law_194 ?_
  refine va_sld (i := (nI i) + 2) hx hb hX hbl hbA hS (xvin (a := i + 2) (xadd (a := i) (b := 2) rfl rfl) (by omega) (by omega)) d_L_law_195 ?_
  refine lv_aload_n hx hb d_L_law_196 rfl (lv_at hl 3 rfl) ?_
  refine lv_iload_n hx hb d_L_law_197 rfl (lv_at hl 0 rfl) ?_
  refine lv_iconst (v := 3) hx hb d_L_law_198 (by decide) ?_
  refine lv_iadd hx hb d_L_law_199 ?_
  refine va_sld (i := (nI i) + 3) hx hb hX hbl hbA hS (xvin (a := i + 3) (xadd (a := i) (b := 3) rfl rfl) (by omega) (by omega)) d_L_law_200 ?_
  refine xr_call (va_runV (As := [.int (xs ((nI i) + 1).toNatClampNeg), .int (xs ((nI i) + 2).toNatClampNeg), .int (xs ((nI i) + 3).toNatClampNeg)]) (rest := []) ⟨hx, hb, hml, hown, htw⟩ (c_A_parts (l := l) hRX hI hw (xs ((nI i) + 1).toNatClampNeg) (xs ((nI i) + 2).toNatClampNeg) (xs ((nI i) + 3).toNatClampNeg)) (cwV 3 htw (gV u_127 u_128 u_129 u_1 u_130) rfl rfl rfl hd_A_parts ⟨Nat.le_of_ble_eq_true rfl, Nat.le_of_ble_eq_true rfl⟩) ⟨xP_blind, hw.recv hK (ci := 0) (t := 0) rfl hRX.1 rfl, xP_of hK hN⟩ rfl rfl hl.1 rfl (lv_room (Nat.le_of_ble_eq_true rfl)) d_L_law_201 ⟨(by show cc + 0 ≤ 600000; omega), (by show ss + 0 ≤ 7302250; omega)⟩) hS (fun v H_ locs hp hS => ?_)
  obtain ⟨rfl, ad1, w1, hw, hRX, h00, h200⟩ := hp
  refine W.eq (g2 := F0 m 204 ls [.int ((f_parts σ (xs ((nI i) + 1).toNatClampNeg) (xs ((nI i) + 2).toNatClampNeg) (xs ((nI i) + 3).toNatClampNeg)).2)]) rfl ?_
  refine lv_aload_n hx hb d_L_law_204 rfl (lv_at hl 1 rfl) ?_
  refine lv_aload_n hx hb d_L_law_205 rfl (lv_at hl 3 rfl) ?_
  refine lv_iload_n hx hb d_L_law_206 rfl (lv_at hl 0 rfl) ?_
  refine lv_iconst (v := 1) hx hb d_L_law_207 (by decide) ?_
  refine lv_iadd hx hb d_L_law_208 ?_
  refine va_sld (i := (nI i) + 1) hx hb hX hbl hbA hS (xvin (a := i + 1) (xadd (a := i) (b := 1) rfl rfl) (by omega) (by omega)) d_L_law_209 ?_
  refine lv_aload_n hx hb d_L_law_210 rfl (lv_at hl 3 rfl) ?_
  refine lv_iload_n hx hb d_L_law_211 rfl (lv_at hl 0 rfl) ?_
  refine lv_iconst (v := 2) hx hb d_L_law_212 (by decide) ?_
  refine lv_iadd hx hb d_L_law_213 ?_
  refine va_sld (i := (nI i) + 2) hx hb hX hbl hbA hS (xvin (a := i + 2) (xadd (a := i) (b := 2) rfl rfl) (by omega) (by omega)) d_L_law_214 ?_
  refine lv_aload_n hx hb d_L_law_215 rfl (lv_at hl 3 rfl) ?_
  refine lv_iload_n hx hb d_L_law_216 rfl (lv_at hl 0 rfl) ?_
  refine lv_iconst (v := 3) hx hb d_L_law_217 (by decide) ?_
  refine lv_iadd hx hb d_L_law_218 ?_
  refine va_sld (i := (nI i) + 3) hx hb hX hbl hbA hS (xvin (a := i + 3) (xadd (a := i) (b := 3) rfl rfl) (by omega) (by omega)) d_L_law_219 ?_
  have cm := c_M_parts (l := l) (RepM_frame h200 hRM) hI hw (xs ((nI i) + 1).toNatClampNeg) (xs ((nI i) + 2).toNatClampNeg) (xs ((nI i) + 3).toNatClampNeg)
  rw [(h200 200 (Nat.le_refl _)).2] at cm
  refine xr_call (va_runV (As := [.int (xs ((nI i) + 1).toNatClampNeg), .int (xs ((nI i) + 2).toNatClampNeg), .int (xs ((nI i) + 3).toNatClampNeg)]) (rest := [.int ((f_parts σ (xs ((nI i) + 1).toNatClampNeg) (xs ((nI i) + 2).toNatClampNeg) (xs ((nI i) + 3).toNatClampNeg)).2)]) ⟨hx, hb, hml, hown, htw⟩ cm (cwV 3 htw (gV u_426 u_427 u_428 u_3 u_429) rfl rfl rfl hd_M_parts ⟨Nat.le_of_ble_eq_true rfl, Nat.le_of_ble_eq_true rfl⟩) ⟨xP_blind, hw.recv hK (ci := 5) (t := 200) rfl ((h200 200 (Nat.le_refl _)).1.trans hM0) ((h200 200 (Nat.le_refl _)).2), xP_of hK hN⟩ rfl rfl hl.1 rfl (lv_room (Nat.le_of_ble_eq_true rfl)) d_L_law_220 ⟨(by show cc + 0 + 0 ≤ 600000; omega), (by show ss + 0 + 0 ≤ 7302250; omega)⟩) hS (fun v H_ locs hp hS => ?_)
  obtain ⟨rfl, w2, hw, hRM, hlt⟩ := hp
  refine W.eq (g2 := F0 m 223 ls [.int ((f_parts σ (xs ((nI i) + 1).toNatClampNeg) (xs ((nI i) + 2).toNatClampNeg) (xs ((nI i) + 3).toNatClampNeg)).2), .int ((f_parts σ (xs ((nI i) + 1).toNatClampNeg) (xs ((nI i) + 2).toNatClampNeg) (xs ((nI i) + 3).toNatClampNeg)).2)]) rfl ?_
  refine lv_icmp_eq (tgt := 872) hx hb d_L_law_223 (by decide) (fun c_1 => ?_) (fun c_1 => absurd rfl c_1)
  refine W.widen (k := cc + 4) (n := ss + 49) (by show cc + 0 + 0 ≤ cc + 4; omega) (by show ss + 0 + 0 ≤ ss + 49; omega) ?_
  have hJ : Inv (f_parts σ (xs ((nI i) + 1).toNatClampNeg) (xs ((nI i) + 2).toNatClampNeg) (xs ((nI i) + 3).toNatClampNeg)).1 := IF_parts hI
  exact kk _ _ _ ⟨hl, hS, _, ad1, w2, hJ, RepX_frame hJ.1 hJ.2.1 hJ.2.2.1 (fun t ht => ⟨hlt t ht, rfl⟩) hRX, hRM, hw, h00, (h200 200 (Nat.le_refl _)).2⟩
set_option maxHeartbeats 4000000 in
set_option maxRecDepth 100000 in
theorem law_today {p : Program} {l : Launch} {e : Env} {s : State} {m : MethodId} {below : List Frame} {meth : Method} {c : Code} {b L : Nat} {xs : Nat → Int32} {D : va_G} {K : Nat → ClassId} {q0 q1 i cc ss : Nat} {H : Heap} {locs : List Loc} {ls : Array Slot} {Q : State → Prop} (C : LC p s m c b L xs D K) (hi : i + 5 ≤ L) (hcc : cc + 4 ≤ 600000) (hss : ss + 49 ≤ 7302250) (I : LI D K s b q0 q1 i H locs ls)
    (kk : ∀ (H1 : Heap) (locs1 : List Loc) (ls1 : Array Slot), LI D K s b q0 q1 i H1 locs1 ls1 → W p l e room_1 s m #[Value.ref b] below meth c H1 locs1 (cc + 4) (ss + 49) Q (F0 m 872 ls1 [])) : W p l e room_1 s m #[Value.ref b] below meth c H locs cc ss Q (F0 m 228 ls []) := by
  obtain ⟨hx, hb, hml, hown, htw, hX, hbl, hL, hK, hN⟩ := C
  obtain ⟨hl, hS, σ, ad, w, hI, hRX, hRM, hw, rfl, rfl⟩ := I
  have hbA : ¬ (fun q : Nat => s.heap.size ≤ q) b := Nat.not_le.mpr hbl
  obtain ⟨fs, hM0⟩ := RepM_at hRM
  refine lv_aload_n hx hb d_L_law_228 rfl (lv_at hl 2 rfl) ?_
  refine lv_aload_n hx hb d_L_law_229 rfl (lv_at hl 3 rfl) ?_
  refine lv_iload_n hx hb d_L_law_230 rfl (lv_at hl 0 rfl) ?_
  refine lv_iconst (v := 1) hx hb d_L_law_231 (by decide) ?_
  refine lv_iadd hx hb d_L_law_232 ?_
  refine va_sld (i := (nI i) + 1) hx hb hX hbl hbA hS (xvin (a := i + 1) (xadd (a := i) (b := 1) rfl rfl) (by omega) (by omega)) d_L_law_233 ?_
  refine xr_call (va_runV (As := [.int (xs ((nI i) + 1).toNatClampNeg)]) (rest := []) ⟨hx, hb, hml, hown, htw⟩ (c_A_today (l := l) hRX hI hw (xs ((nI i) + 1).toNatClampNeg)) (cwV 1 htw (gV u_139 u_140 u_141 u_1 u_142) rfl rfl rfl hd_A_today ⟨Nat.le_of_ble_eq_true rfl, Nat.le_of_ble_eq_true rfl⟩) ⟨xP_blind, hw.recv hK (ci := 0) (t := 0) rfl hRX.1 rfl, xP_of hK hN⟩ rfl rfl hl.1 rfl (lv_room (Nat.le_of_ble_eq_true rfl)) d_L_law_234 ⟨(by show cc + 0 ≤ 600000; omega), (by show ss + 0 ≤ 7302250; omega)⟩) hS (fun v H_ locs hp hS => ?_)
  obtain ⟨rfl, ad1, w1, hw, hRX, h00, h200⟩ := hp
  refine W.eq (g2 := F0 m 237 ls [.int ((f_today σ (xs ((nI i) + 1).toNatClampNeg)).2)]) rfl ?_
  refine lv_aload_n hx hb d_L_law_237 rfl (lv_at hl 1 rfl) ?_
  refine lv_aload_n hx hb d_L_law_238 rfl (lv_at hl 3 rfl) ?_
  refine lv_iload_n hx hb d_L_law_239 rfl (lv_at hl 0 rfl) ?_
  refine lv_iconst (v := 1) hx hb d_L_law_240 (by decide) ?_
  refine lv_iadd hx hb d_L_law_241 ?_
  refine va_sld (i := (nI i) + 1) hx hb hX hbl hbA hS (xvin (a := i + 1) (xadd (a := i) (b := 1) rfl rfl) (by omega) (by omega)) d_L_law_242 ?_
  have cm := c_M_today (l := l) (RepM_frame h200 hRM) hI hw (xs ((nI i) + 1).toNatClampNeg)
  rw [(h200 200 (Nat.le_refl _)).2] at cm
  refine xr_call (va_runV (As := [.int (xs ((nI i) + 1).toNatClampNeg)]) (rest := [.int ((f_today σ (xs ((nI i) + 1).toNatClampNeg)).2)]) ⟨hx, hb, hml, hown, htw⟩ cm (cwV 1 htw (gV u_438 u_439 u_440 u_3 u_441) rfl rfl rfl hd_M_today ⟨Nat.le_of_ble_eq_true rfl, Nat.le_of_ble_eq_true rfl⟩) ⟨xP_blind, hw.recv hK (ci := 5) (t := 200) rfl ((h200 200 (Nat.le_refl _)).1.trans hM0) ((h200 200 (Nat.le_refl _)).2), xP_of hK hN⟩ rfl rfl hl.1 rfl (lv_room (Nat.le_of_ble_eq_true rfl)) d_L_law_243 ⟨(by show cc + 0 + 0 ≤ 600000; omega), (by show ss + 0 + 0 ≤ 7302250; omega)⟩) hS (fun v H_ locs hp hS => ?_)
  obtain ⟨rfl, w2, hw, hRM, hlt⟩ := hp
  refine W.eq (g2 := F0 m 246 ls [.int ((f_today σ (xs ((nI i) + 1).toNatClampNeg)).2), .int ((f_today σ (xs ((nI i) + 1).toNatClampNeg)).2)]) rfl ?_
  refine lv_icmp_eq (tgt := 872) hx hb d_L_law_246 (by decide) (fun c_1 => ?_) (fun c_1 => absurd rfl c_1)
  refine W.widen (k := cc + 4) (n := ss + 49) (by show cc + 0 + 0 ≤ cc + 4; omega) (by show ss + 0 + 0 ≤ ss + 49; omega) ?_
  have hJ : Inv (f_today σ (xs ((nI i) + 1).toNatClampNeg)).1 := IF_today hI
  exact kk _ _ _ ⟨hl, hS, _, ad1, w2, hJ, RepX_frame hJ.1 hJ.2.1 hJ.2.2.1 (fun t ht => ⟨hlt t ht, rfl⟩) hRX, hRM, hw, h00, (h200 200 (Nat.le_refl _)).2⟩
set_option maxHeartbeats 4000000 in
set_option maxRecDepth 100000 in
theorem law_stage {p : Program} {l : Launch} {e : Env} {s : State} {m : MethodId} {below : List Frame} {meth : Method} {c : Code} {b L : Nat} {xs : Nat → Int32} {D : va_G} {K : Nat → ClassId} {q0 q1 i cc ss : Nat} {H : Heap} {locs : List Loc} {ls : Array Slot} {Q : State → Prop} (C : LC p s m c b L xs D K) (hi : i + 5 ≤ L) (hcc : cc + 4 ≤ 600000) (hss : ss + 49 ≤ 7302250) (I : LI D K s b q0 q1 i H locs ls)
    (kk : ∀ (H1 : Heap) (locs1 : List Loc) (ls1 : Array Slot), LI D K s b q0 q1 i H1 locs1 ls1 → W p l e room_1 s m #[Value.ref b] below meth c H1 locs1 (cc + 4) (ss + 49) Q (F0 m 872 ls1 [])) : W p l e room_1 s m #[Value.ref b] below meth c H locs cc ss Q (F0 m 251 ls []) := by
  obtain ⟨hx, hb, hml, hown, htw, hX, hbl, hL, hK, hN⟩ := C
  obtain ⟨hl, hS, σ, ad, w, hI, hRX, hRM, hw, rfl, rfl⟩ := I
  have hbA : ¬ (fun q : Nat => s.heap.size ≤ q) b := Nat.not_le.mpr hbl
  obtain ⟨fs, hM0⟩ := RepM_at hRM
  refine lv_aload_n hx hb d_L_law_251 rfl (lv_at hl 2 rfl) ?_
  refine lv_aload_n hx hb d_L_law_252 rfl (lv_at hl 3 rfl) ?_
  refine lv_iload_n hx hb d_L_law_253 rfl (lv_at hl 0 rfl) ?_
  refine lv_iconst (v := 1) hx hb d_L_law_254 (by decide) ?_
  refine lv_iadd hx hb d_L_law_255 ?_
  refine va_sld (i := (nI i) + 1) hx hb hX hbl hbA hS (xvin (a := i + 1) (xadd (a := i) (b := 1) rfl rfl) (by omega) (by omega)) d_L_law_256 ?_
  refine lv_aload_n hx hb d_L_law_257 rfl (lv_at hl 3 rfl) ?_
  refine lv_iload_n hx hb d_L_law_258 rfl (lv_at hl 0 rfl) ?_
  refine lv_iconst (v := 2) hx hb d_L_law_259 (by decide) ?_
  refine lv_iadd hx hb d_L_law_260 ?_
  refine va_sld (i := (nI i) + 2) hx hb hX hbl hbA hS (xvin (a := i + 2) (xadd (a := i) (b := 2) rfl rfl) (by omega) (by omega)) d_L_law_261 ?_
  refine lv_aload_n hx hb d_L_law_262 rfl (lv_at hl 3 rfl) ?_
  refine lv_iload_n hx hb d_L_law_263 rfl (lv_at hl 0 rfl) ?_
  refine lv_iconst (v := 3) hx hb d_L_law_264 (by decide) ?_
  refine lv_iadd hx hb d_L_law_265 ?_
  refine va_sld (i := (nI i) + 3) hx hb hX hbl hbA hS (xvin (a := i + 3) (xadd (a := i) (b := 3) rfl rfl) (by omega) (by omega)) d_L_law_266 ?_
  refine xr_call (va_runV (As := [.int (xs ((nI i) + 1).toNatClampNeg), .int (xs ((nI i) + 2).toNatClampNeg), .int (xs ((nI i) + 3).toNatClampNeg)]) (rest := []) ⟨hx, hb, hml, hown, htw⟩ (c_A_stage (l := l) hRX hI hw hS.1 (xs ((nI i) + 1).toNatClampNeg) (xs ((nI i) + 2).toNatClampNeg) (xs ((nI i) + 3).toNatClampNeg)) (cwV 3 htw (gV u_144 u_145 u_146 u_1 u_147) rfl rfl rfl hd_A_stage ⟨Nat.le_of_ble_eq_true rfl, Nat.le_of_ble_eq_true rfl⟩) ⟨xP_blind, hw.recv hK (ci := 0) (t := 0) rfl hRX.1 rfl, xP_of hK hN⟩ rfl rfl hl.1 rfl (lv_room (Nat.le_of_ble_eq_true rfl)) d_L_law_267 ⟨(by show cc + 2 ≤ 600000; omega), (by show ss + 8 ≤ 7302250; omega)⟩) hS (fun v H_ locs hp hS => ?_)
  obtain ⟨rfl, ad1, w1, hw, hRX, h00, h200⟩ := hp
  refine W.eq (g2 := F0 m 270 ls [.int ((f_stage σ (xs ((nI i) + 1).toNatClampNeg) (xs ((nI i) + 2).toNatClampNeg) (xs ((nI i) + 3).toNatClampNeg)).2)]) rfl ?_
  refine lv_aload_n hx hb d_L_law_270 rfl (lv_at hl 1 rfl) ?_
  refine lv_aload_n hx hb d_L_law_271 rfl (lv_at hl 3 rfl) ?_
  refine lv_iload_n hx hb d_L_law_272 rfl (lv_at hl 0 rfl) ?_
  refine lv_iconst (v := 1) hx hb d_L_law_273 (by decide) ?_
  refine lv_iadd hx hb d_L_law_274 ?_
  refine va_sld (i := (nI i) + 1) hx hb hX hbl hbA hS (xvin (a := i + 1) (xadd (a := i) (b := 1) rfl rfl) (by omega) (by omega)) d_L_law_275 ?_
  refine lv_aload_n hx hb d_L_law_276 rfl (lv_at hl 3 rfl) ?_
  refine lv_iload_n hx hb d_L_law_277 rfl (lv_at hl 0 rfl) ?_
  refine lv_iconst (v := 2) hx hb d_L_law_278 (by decide) ?_
  refine lv_iadd hx hb d_L_law_279 ?_
  refine va_sld (i := (nI i) + 2) hx hb hX hbl hbA hS (xvin (a := i + 2) (xadd (a := i) (b := 2) rfl rfl) (by omega) (by omega)) d_L_law_280 ?_
  refine lv_aload_n hx hb d_L_law_281 rfl (lv_at hl 3 rfl) ?_
  refine lv_iload_n hx hb d_L_law_282 rfl (lv_at hl 0 rfl) ?_
  refine lv_iconst (v := 3) hx hb d_L_law_283 (by decide) ?_
  refine lv_iadd hx hb d_L_law_284 ?_
  refine va_sld (i := (nI i) + 3) hx hb hX hbl hbA hS (xvin (a := i + 3) (xadd (a := i) (b := 3) rfl rfl) (by omega) (by omega)) d_L_law_285 ?_
  have cm := c_M_stage (l := l) (RepM_frame h200 hRM) hI hw (xs ((nI i) + 1).toNatClampNeg) (xs ((nI i) + 2).toNatClampNeg) (xs ((nI i) + 3).toNatClampNeg)
  rw [(h200 200 (Nat.le_refl _)).2] at cm
  refine xr_call (va_runV (As := [.int (xs ((nI i) + 1).toNatClampNeg), .int (xs ((nI i) + 2).toNatClampNeg), .int (xs ((nI i) + 3).toNatClampNeg)]) (rest := [.int ((f_stage σ (xs ((nI i) + 1).toNatClampNeg) (xs ((nI i) + 2).toNatClampNeg) (xs ((nI i) + 3).toNatClampNeg)).2)]) ⟨hx, hb, hml, hown, htw⟩ cm (cwV 3 htw (gV u_452 u_453 u_454 u_3 u_455) rfl rfl rfl hd_M_stage ⟨Nat.le_of_ble_eq_true rfl, Nat.le_of_ble_eq_true rfl⟩) ⟨xP_blind, hw.recv hK (ci := 5) (t := 200) rfl ((h200 200 (Nat.le_refl _)).1.trans hM0) ((h200 200 (Nat.le_refl _)).2), xP_of hK hN⟩ rfl rfl hl.1 rfl (lv_room (Nat.le_of_ble_eq_true rfl)) d_L_law_286 ⟨(by show cc + 2 + 0 ≤ 600000; omega), (by show ss + 8 + 0 ≤ 7302250; omega)⟩) hS (fun v H_ locs hp hS => ?_)
  obtain ⟨rfl, w2, hw, hRM, hlt⟩ := hp
  refine W.eq (g2 := F0 m 289 ls [.int ((f_stage σ (xs ((nI i) + 1).toNatClampNeg) (xs ((nI i) + 2).toNatClampNeg) (xs ((nI i) + 3).toNatClampNeg)).2), .int ((f_stage σ (xs ((nI i) + 1).toNatClampNeg) (xs ((nI i) + 2).toNatClampNeg) (xs ((nI i) + 3).toNatClampNeg)).2)]) rfl ?_
  refine lv_icmp_eq (tgt := 872) hx hb d_L_law_289 (by decide) (fun c_1 => ?_) (fun c_1 => absurd rfl c_1)
  refine W.widen (k := cc + 4) (n := ss + 49) (by show cc + 2 + 0 ≤ cc + 4; omega) (by show ss + 8 + 0 ≤ ss + 49; omega) ?_
  have hJ : Inv (f_stage σ (xs ((nI i) + 1).toNatClampNeg) (xs ((nI i) + 2).toNatClampNeg) (xs ((nI i) + 3).toNatClampNeg)).1 := IF_stage hI
  exact kk _ _ _ ⟨hl, hS, _, ad1, w2, hJ, RepX_frame hJ.1 hJ.2.1 hJ.2.2.1 (fun t ht => ⟨hlt t ht, rfl⟩) hRX, hRM, hw, h00, (h200 200 (Nat.le_refl _)).2⟩
set_option maxHeartbeats 4000000 in
set_option maxRecDepth 100000 in
theorem law_run {p : Program} {l : Launch} {e : Env} {s : State} {m : MethodId} {below : List Frame} {meth : Method} {c : Code} {b L : Nat} {xs : Nat → Int32} {D : va_G} {K : Nat → ClassId} {q0 q1 i cc ss : Nat} {H : Heap} {locs : List Loc} {ls : Array Slot} {Q : State → Prop} (C : LC p s m c b L xs D K) (hi : i + 5 ≤ L) (hcc : cc + 4 ≤ 600000) (hss : ss + 49 ≤ 7302250) (I : LI D K s b q0 q1 i H locs ls)
    (kk : ∀ (H1 : Heap) (locs1 : List Loc) (ls1 : Array Slot), LI D K s b q0 q1 i H1 locs1 ls1 → W p l e room_1 s m #[Value.ref b] below meth c H1 locs1 (cc + 4) (ss + 49) Q (F0 m 872 ls1 [])) : W p l e room_1 s m #[Value.ref b] below meth c H locs cc ss Q (F0 m 294 ls []) := by
  obtain ⟨hx, hb, hml, hown, htw, hX, hbl, hL, hK, hN⟩ := C
  obtain ⟨hl, hS, σ, ad, w, hI, hRX, hRM, hw, rfl, rfl⟩ := I
  have hbA : ¬ (fun q : Nat => s.heap.size ≤ q) b := Nat.not_le.mpr hbl
  obtain ⟨fs, hM0⟩ := RepM_at hRM
  refine lv_aload_n hx hb d_L_law_294 rfl (lv_at hl 2 rfl) ?_
  refine lv_aload_n hx hb d_L_law_295 rfl (lv_at hl 3 rfl) ?_
  refine lv_iload_n hx hb d_L_law_296 rfl (lv_at hl 0 rfl) ?_
  refine lv_iconst (v := 1) hx hb d_L_law_297 (by decide) ?_
  refine lv_iadd hx hb d_L_law_298 ?_
  refine va_sld (i := (nI i) + 1) hx hb hX hbl hbA hS (xvin (a := i + 1) (xadd (a := i) (b := 1) rfl rfl) (by omega) (by omega)) d_L_law_299 ?_
  refine xr_call (va_runV (As := [.int (xs ((nI i) + 1).toNatClampNeg)]) (rest := []) ⟨hx, hb, hml, hown, htw⟩ (c_A_run (l := l) hRX hI hw (xs ((nI i) + 1).toNatClampNeg)) (cwV 1 htw (gV u_168 u_169 u_170 u_1 u_171) rfl rfl rfl hd_A_run ⟨Nat.le_of_ble_eq_true rfl, Nat.le_of_ble_eq_true rfl⟩) ⟨xP_blind, hw.recv hK (ci := 0) (t := 0) rfl hRX.1 rfl, xP_of hK hN⟩ rfl rfl hl.1 rfl (lv_room (Nat.le_of_ble_eq_true rfl)) d_L_law_300 ⟨(by show cc + 0 ≤ 600000; omega), (by show ss + 0 ≤ 7302250; omega)⟩) hS (fun v H_ locs hp hS => ?_)
  obtain ⟨rfl, ad1, w1, hw, hRX, h00, h200⟩ := hp
  refine W.eq (g2 := F0 m 303 ls [.int ((f_run σ (xs ((nI i) + 1).toNatClampNeg)).2)]) rfl ?_
  refine lv_aload_n hx hb d_L_law_303 rfl (lv_at hl 1 rfl) ?_
  refine lv_aload_n hx hb d_L_law_304 rfl (lv_at hl 3 rfl) ?_
  refine lv_iload_n hx hb d_L_law_305 rfl (lv_at hl 0 rfl) ?_
  refine lv_iconst (v := 1) hx hb d_L_law_306 (by decide) ?_
  refine lv_iadd hx hb d_L_law_307 ?_
  refine va_sld (i := (nI i) + 1) hx hb hX hbl hbA hS (xvin (a := i + 1) (xadd (a := i) (b := 1) rfl rfl) (by omega) (by omega)) d_L_law_308 ?_
  have cm := c_M_run (l := l) (RepM_frame h200 hRM) hI hw (xs ((nI i) + 1).toNatClampNeg)
  rw [(h200 200 (Nat.le_refl _)).2] at cm
  refine xr_call (va_runV (As := [.int (xs ((nI i) + 1).toNatClampNeg)]) (rest := [.int ((f_run σ (xs ((nI i) + 1).toNatClampNeg)).2)]) ⟨hx, hb, hml, hown, htw⟩ cm (cwV 1 htw (gV u_457 u_458 u_459 u_3 u_460) rfl rfl rfl hd_M_run ⟨Nat.le_of_ble_eq_true rfl, Nat.le_of_ble_eq_true rfl⟩) ⟨xP_blind, hw.recv hK (ci := 5) (t := 200) rfl ((h200 200 (Nat.le_refl _)).1.trans hM0) ((h200 200 (Nat.le_refl _)).2), xP_of hK hN⟩ rfl rfl hl.1 rfl (lv_room (Nat.le_of_ble_eq_true rfl)) d_L_law_309 ⟨(by show cc + 0 + 0 ≤ 600000; omega), (by show ss + 0 + 0 ≤ 7302250; omega)⟩) hS (fun v H_ locs hp hS => ?_)
  obtain ⟨rfl, w2, hw, hRM, hlt⟩ := hp
  refine W.eq (g2 := F0 m 312 ls [.int ((f_run σ (xs ((nI i) + 1).toNatClampNeg)).2), .int ((f_run σ (xs ((nI i) + 1).toNatClampNeg)).2)]) rfl ?_
  refine lv_icmp_eq (tgt := 872) hx hb d_L_law_312 (by decide) (fun c_1 => ?_) (fun c_1 => absurd rfl c_1)
  refine W.widen (k := cc + 4) (n := ss + 49) (by show cc + 0 + 0 ≤ cc + 4; omega) (by show ss + 0 + 0 ≤ ss + 49; omega) ?_
  have hJ : Inv (f_run σ (xs ((nI i) + 1).toNatClampNeg)).1 := IF_run hI
  exact kk _ _ _ ⟨hl, hS, _, ad1, w2, hJ, RepX_frame hJ.1 hJ.2.1 hJ.2.2.1 (fun t ht => ⟨hlt t ht, rfl⟩) hRX, hRM, hw, h00, (h200 200 (Nat.le_refl _)).2⟩
set_option maxHeartbeats 4000000 in
set_option maxRecDepth 100000 in
theorem law_taken {p : Program} {l : Launch} {e : Env} {s : State} {m : MethodId} {below : List Frame} {meth : Method} {c : Code} {b L : Nat} {xs : Nat → Int32} {D : va_G} {K : Nat → ClassId} {q0 q1 i cc ss : Nat} {H : Heap} {locs : List Loc} {ls : Array Slot} {Q : State → Prop} (C : LC p s m c b L xs D K) (hi : i + 5 ≤ L) (hcc : cc + 4 ≤ 600000) (hss : ss + 49 ≤ 7302250) (I : LI D K s b q0 q1 i H locs ls)
    (kk : ∀ (H1 : Heap) (locs1 : List Loc) (ls1 : Array Slot), LI D K s b q0 q1 i H1 locs1 ls1 → W p l e room_1 s m #[Value.ref b] below meth c H1 locs1 (cc + 4) (ss + 49) Q (F0 m 872 ls1 [])) : W p l e room_1 s m #[Value.ref b] below meth c H locs cc ss Q (F0 m 317 ls []) := by
  obtain ⟨hx, hb, hml, hown, htw, hX, hbl, hL, hK, hN⟩ := C
  obtain ⟨hl, hS, σ, ad, w, hI, hRX, hRM, hw, rfl, rfl⟩ := I
  have hbA : ¬ (fun q : Nat => s.heap.size ≤ q) b := Nat.not_le.mpr hbl
  obtain ⟨fs, hM0⟩ := RepM_at hRM
  refine lv_aload_n hx hb d_L_law_317 rfl (lv_at hl 2 rfl) ?_
  refine lv_aload_n hx hb d_L_law_318 rfl (lv_at hl 3 rfl) ?_
  refine lv_iload_n hx hb d_L_law_319 rfl (lv_at hl 0 rfl) ?_
  refine lv_iconst (v := 1) hx hb d_L_law_320 (by decide) ?_
  refine lv_iadd hx hb d_L_law_321 ?_
  refine va_sld (i := (nI i) + 1) hx hb hX hbl hbA hS (xvin (a := i + 1) (xadd (a := i) (b := 1) rfl rfl) (by omega) (by omega)) d_L_law_322 ?_
  refine lv_aload_n hx hb d_L_law_323 rfl (lv_at hl 3 rfl) ?_
  refine lv_iload_n hx hb d_L_law_324 rfl (lv_at hl 0 rfl) ?_
  refine lv_iconst (v := 2) hx hb d_L_law_325 (by decide) ?_
  refine lv_iadd hx hb d_L_law_326 ?_
  refine va_sld (i := (nI i) + 2) hx hb hX hbl hbA hS (xvin (a := i + 2) (xadd (a := i) (b := 2) rfl rfl) (by omega) (by omega)) d_L_law_327 ?_
  refine lv_aload_n hx hb d_L_law_328 rfl (lv_at hl 3 rfl) ?_
  refine lv_iload_n hx hb d_L_law_329 rfl (lv_at hl 0 rfl) ?_
  refine lv_iconst (v := 3) hx hb d_L_law_330 (by decide) ?_
  refine lv_iadd hx hb d_L_law_331 ?_
  refine va_sld (i := (nI i) + 3) hx hb hX hbl hbA hS (xvin (a := i + 3) (xadd (a := i) (b := 3) rfl rfl) (by omega) (by omega)) d_L_law_332 ?_
  refine xr_call (va_runV (As := [.int (xs ((nI i) + 1).toNatClampNeg), .int (xs ((nI i) + 2).toNatClampNeg), .int (xs ((nI i) + 3).toNatClampNeg)]) (rest := []) ⟨hx, hb, hml, hown, htw⟩ (c_A_taken (l := l) hRX hI hw (xs ((nI i) + 1).toNatClampNeg) (xs ((nI i) + 2).toNatClampNeg) (xs ((nI i) + 3).toNatClampNeg)) (cwV 3 htw (gV u_187 u_188 u_189 u_1 u_190) rfl rfl rfl hd_A_taken ⟨Nat.le_of_ble_eq_true rfl, Nat.le_of_ble_eq_true rfl⟩) ⟨xP_blind, hw.recv hK (ci := 0) (t := 0) rfl hRX.1 rfl, xP_of hK hN⟩ rfl rfl hl.1 rfl (lv_room (Nat.le_of_ble_eq_true rfl)) d_L_law_333 ⟨(by show cc + 0 ≤ 600000; omega), (by show ss + 0 ≤ 7302250; omega)⟩) hS (fun v H_ locs hp hS => ?_)
  obtain ⟨rfl, hHe⟩ := hp
  rw [hHe] at hS ⊢
  refine W.eq (g2 := F0 m 336 ls [.long (f_taken σ (xs ((nI i) + 1).toNatClampNeg) (xs ((nI i) + 2).toNatClampNeg) (xs ((nI i) + 3).toNatClampNeg))]) rfl ?_
  refine lv_aload_n hx hb d_L_law_336 rfl (lv_at hl 1 rfl) ?_
  refine lv_aload_n hx hb d_L_law_337 rfl (lv_at hl 3 rfl) ?_
  refine lv_iload_n hx hb d_L_law_338 rfl (lv_at hl 0 rfl) ?_
  refine lv_iconst (v := 1) hx hb d_L_law_339 (by decide) ?_
  refine lv_iadd hx hb d_L_law_340 ?_
  refine va_sld (i := (nI i) + 1) hx hb hX hbl hbA hS (xvin (a := i + 1) (xadd (a := i) (b := 1) rfl rfl) (by omega) (by omega)) d_L_law_341 ?_
  refine lv_aload_n hx hb d_L_law_342 rfl (lv_at hl 3 rfl) ?_
  refine lv_iload_n hx hb d_L_law_343 rfl (lv_at hl 0 rfl) ?_
  refine lv_iconst (v := 2) hx hb d_L_law_344 (by decide) ?_
  refine lv_iadd hx hb d_L_law_345 ?_
  refine va_sld (i := (nI i) + 2) hx hb hX hbl hbA hS (xvin (a := i + 2) (xadd (a := i) (b := 2) rfl rfl) (by omega) (by omega)) d_L_law_346 ?_
  refine lv_aload_n hx hb d_L_law_347 rfl (lv_at hl 3 rfl) ?_
  refine lv_iload_n hx hb d_L_law_348 rfl (lv_at hl 0 rfl) ?_
  refine lv_iconst (v := 3) hx hb d_L_law_349 (by decide) ?_
  refine lv_iadd hx hb d_L_law_350 ?_
  refine va_sld (i := (nI i) + 3) hx hb hX hbl hbA hS (xvin (a := i + 3) (xadd (a := i) (b := 3) rfl rfl) (by omega) (by omega)) d_L_law_351 ?_
  refine xr_call (va_runV (As := [.int (xs ((nI i) + 1).toNatClampNeg), .int (xs ((nI i) + 2).toNatClampNeg), .int (xs ((nI i) + 3).toNatClampNeg)]) (rest := [.long (f_taken σ (xs ((nI i) + 1).toNatClampNeg) (xs ((nI i) + 2).toNatClampNeg) (xs ((nI i) + 3).toNatClampNeg))]) ⟨hx, hb, hml, hown, htw⟩ (c_M_taken (l := l) hRM hI hw (xs ((nI i) + 1).toNatClampNeg) (xs ((nI i) + 2).toNatClampNeg) (xs ((nI i) + 3).toNatClampNeg)) (cwV 3 htw (gV u_461 u_462 u_463 u_3 u_464) rfl rfl rfl hd_M_taken ⟨Nat.le_of_ble_eq_true rfl, Nat.le_of_ble_eq_true rfl⟩) ⟨xP_blind, hw.recv hK (ci := 5) (t := 200) rfl hM0 rfl, xP_of hK hN⟩ rfl rfl hl.1 rfl (lv_room (Nat.le_of_ble_eq_true rfl)) d_L_law_352 ⟨(by show cc + 0 + 0 ≤ 600000; omega), (by show ss + 0 + 0 ≤ 7302250; omega)⟩) hS (fun v H_ locs hp hS => ?_)
  obtain ⟨rfl, hHe⟩ := hp
  rw [hHe] at hS ⊢
  refine W.eq (g2 := F0 m 355 ls [.long (f_taken σ (xs ((nI i) + 1).toNatClampNeg) (xs ((nI i) + 2).toNatClampNeg) (xs ((nI i) + 3).toNatClampNeg)), .long (f_taken σ (xs ((nI i) + 1).toNatClampNeg) (xs ((nI i) + 2).toNatClampNeg) (xs ((nI i) + 3).toNatClampNeg))]) rfl ?_
  refine xr_lc_eq (tgt := 872) hx hb d_L_law_355 d_L_law_356 (by decide) (fun c_1 => ?_) (fun c_1 => absurd rfl c_1)
  refine W.widen (k := cc + 4) (n := ss + 49) (by show cc + 0 + 0 ≤ cc + 4; omega) (by show ss + 0 + 0 ≤ ss + 49; omega) ?_
  exact kk _ _ _ ⟨hl, hS, σ, ad, w, hI, hRX, hRM, hw, rfl, rfl⟩
set_option maxHeartbeats 4000000 in
set_option maxRecDepth 100000 in
theorem law_left {p : Program} {l : Launch} {e : Env} {s : State} {m : MethodId} {below : List Frame} {meth : Method} {c : Code} {b L : Nat} {xs : Nat → Int32} {D : va_G} {K : Nat → ClassId} {q0 q1 i cc ss : Nat} {H : Heap} {locs : List Loc} {ls : Array Slot} {Q : State → Prop} (C : LC p s m c b L xs D K) (hi : i + 5 ≤ L) (hcc : cc + 4 ≤ 600000) (hss : ss + 49 ≤ 7302250) (I : LI D K s b q0 q1 i H locs ls)
    (kk : ∀ (H1 : Heap) (locs1 : List Loc) (ls1 : Array Slot), LI D K s b q0 q1 i H1 locs1 ls1 → W p l e room_1 s m #[Value.ref b] below meth c H1 locs1 (cc + 4) (ss + 49) Q (F0 m 872 ls1 [])) : W p l e room_1 s m #[Value.ref b] below meth c H locs cc ss Q (F0 m 361 ls []) := by
  obtain ⟨hx, hb, hml, hown, htw, hX, hbl, hL, hK, hN⟩ := C
  obtain ⟨hl, hS, σ, ad, w, hI, hRX, hRM, hw, rfl, rfl⟩ := I
  have hbA : ¬ (fun q : Nat => s.heap.size ≤ q) b := Nat.not_le.mpr hbl
  obtain ⟨fs, hM0⟩ := RepM_at hRM
  refine lv_aload_n hx hb d_L_law_361 rfl (lv_at hl 2 rfl) ?_
  refine lv_aload_n hx hb d_L_law_362 rfl (lv_at hl 3 rfl) ?_
  refine lv_iload_n hx hb d_L_law_363 rfl (lv_at hl 0 rfl) ?_
  refine lv_iconst (v := 1) hx hb d_L_law_364 (by decide) ?_
  refine lv_iadd hx hb d_L_law_365 ?_
  refine va_sld (i := (nI i) + 1) hx hb hX hbl hbA hS (xvin (a := i + 1) (xadd (a := i) (b := 1) rfl rfl) (by omega) (by omega)) d_L_law_366 ?_
  refine lv_aload_n hx hb d_L_law_367 rfl (lv_at hl 3 rfl) ?_
  refine lv_iload_n hx hb d_L_law_368 rfl (lv_at hl 0 rfl) ?_
  refine lv_iconst (v := 2) hx hb d_L_law_369 (by decide) ?_
  refine lv_iadd hx hb d_L_law_370 ?_
  refine va_sld (i := (nI i) + 2) hx hb hX hbl hbA hS (xvin (a := i + 2) (xadd (a := i) (b := 2) rfl rfl) (by omega) (by omega)) d_L_law_371 ?_
  refine xr_call (va_runV (As := [.int (xs ((nI i) + 1).toNatClampNeg), .int (xs ((nI i) + 2).toNatClampNeg)]) (rest := []) ⟨hx, hb, hml, hown, htw⟩ (c_A_left (l := l) hRX hI hw (xs ((nI i) + 1).toNatClampNeg) (xs ((nI i) + 2).toNatClampNeg)) (cwV 2 htw (gV u_192 u_193 u_194 u_1 u_195) rfl rfl rfl hd_A_left ⟨Nat.le_of_ble_eq_true rfl, Nat.le_of_ble_eq_true rfl⟩) ⟨xP_blind, hw.recv hK (ci := 0) (t := 0) rfl hRX.1 rfl, xP_of hK hN⟩ rfl rfl hl.1 rfl (lv_room (Nat.le_of_ble_eq_true rfl)) d_L_law_372 ⟨(by show cc + 0 ≤ 600000; omega), (by show ss + 0 ≤ 7302250; omega)⟩) hS (fun v H_ locs hp hS => ?_)
  obtain ⟨rfl, hHe⟩ := hp
  rw [hHe] at hS ⊢
  refine W.eq (g2 := F0 m 375 ls [.long (f_left σ (xs ((nI i) + 1).toNatClampNeg) (xs ((nI i) + 2).toNatClampNeg))]) rfl ?_
  refine lv_aload_n hx hb d_L_law_375 rfl (lv_at hl 1 rfl) ?_
  refine lv_aload_n hx hb d_L_law_376 rfl (lv_at hl 3 rfl) ?_
  refine lv_iload_n hx hb d_L_law_377 rfl (lv_at hl 0 rfl) ?_
  refine lv_iconst (v := 1) hx hb d_L_law_378 (by decide) ?_
  refine lv_iadd hx hb d_L_law_379 ?_
  refine va_sld (i := (nI i) + 1) hx hb hX hbl hbA hS (xvin (a := i + 1) (xadd (a := i) (b := 1) rfl rfl) (by omega) (by omega)) d_L_law_380 ?_
  refine lv_aload_n hx hb d_L_law_381 rfl (lv_at hl 3 rfl) ?_
  refine lv_iload_n hx hb d_L_law_382 rfl (lv_at hl 0 rfl) ?_
  refine lv_iconst (v := 2) hx hb d_L_law_383 (by decide) ?_
  refine lv_iadd hx hb d_L_law_384 ?_
  refine va_sld (i := (nI i) + 2) hx hb hX hbl hbA hS (xvin (a := i + 2) (xadd (a := i) (b := 2) rfl rfl) (by omega) (by omega)) d_L_law_385 ?_
  refine xr_call (va_runV (As := [.int (xs ((nI i) + 1).toNatClampNeg), .int (xs ((nI i) + 2).toNatClampNeg)]) (rest := [.long (f_left σ (xs ((nI i) + 1).toNatClampNeg) (xs ((nI i) + 2).toNatClampNeg))]) ⟨hx, hb, hml, hown, htw⟩ (c_M_left (l := l) hRM hI hw (xs ((nI i) + 1).toNatClampNeg) (xs ((nI i) + 2).toNatClampNeg)) (cwV 2 htw (gV u_443 u_444 u_445 u_3 u_446) rfl rfl rfl hd_M_left ⟨Nat.le_of_ble_eq_true rfl, Nat.le_of_ble_eq_true rfl⟩) ⟨xP_blind, hw.recv hK (ci := 5) (t := 200) rfl hM0 rfl, xP_of hK hN⟩ rfl rfl hl.1 rfl (lv_room (Nat.le_of_ble_eq_true rfl)) d_L_law_386 ⟨(by show cc + 0 + 0 ≤ 600000; omega), (by show ss + 0 + 0 ≤ 7302250; omega)⟩) hS (fun v H_ locs hp hS => ?_)
  obtain ⟨rfl, hHe⟩ := hp
  rw [hHe] at hS ⊢
  refine W.eq (g2 := F0 m 389 ls [.long (f_left σ (xs ((nI i) + 1).toNatClampNeg) (xs ((nI i) + 2).toNatClampNeg)), .long (f_left σ (xs ((nI i) + 1).toNatClampNeg) (xs ((nI i) + 2).toNatClampNeg))]) rfl ?_
  refine xr_lc_eq (tgt := 872) hx hb d_L_law_389 d_L_law_390 (by decide) (fun c_1 => ?_) (fun c_1 => absurd rfl c_1)
  refine W.widen (k := cc + 4) (n := ss + 49) (by show cc + 0 + 0 ≤ cc + 4; omega) (by show ss + 0 + 0 ≤ ss + 49; omega) ?_
  exact kk _ _ _ ⟨hl, hS, σ, ad, w, hI, hRX, hRM, hw, rfl, rfl⟩
