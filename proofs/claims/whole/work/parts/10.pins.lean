set_option maxHeartbeats 4000000 in
set_option maxRecDepth 100000 in
theorem c_A_isWithin {l : Launch} {D : va_G} {K : Nat → ClassId} {B : Nat} {H : Heap} (u1 u2 u3 : Int64) : xC l D K B y_A_isWithin b_A_isWithin 6 (some .boolean) rm_A_isWithin [.long u1, .long u2, .long u3] H (fun v H1 => v = some (.int (bI (xin u1 u2 u3))) ∧ H1 = H) := by
  refine Met.ofW (cc := b_A_isWithin) (maxL := 6) (ret := (some .boolean)) (by decide) rfl ?_
  intro p e s m args below meth c s₁ B0 hml hv
  obtain ⟨rfl, hsz, hK, hN⟩ := hv
  have hx := B0.exec
  have hb := B0.bytes
  have hr := B0.returns
  have htw : ∀ w ∈ xW0, w.before [.long u1, .long u2, .long u3].toArray s = true := fun w h => atoms_spec (ws := Cond.code y_A_isWithin b_A_isWithin 6 (some .boolean) :: xW0) B0.pre w (List.mem_cons_of_mem _ h)
  have hown : s.vm.findClass R_A = some m.cls := findClass_of_methodNamed B0.named
  have hlocks := B0.notSynchronized
  subst hsz
  have hS : va_S (fun q => B ≤ q) s.heap s.heap [] := va_S.rf
  have hl := lv_entry ([.long u1, .long u2, .long u3]) (n := 6) (Nat.le_of_ble_eq_true rfl)
  rw [lg_entry_eq]
  generalize (lg_sl ([.long u1, .long u2, .long u3]) ++ List.replicate (6 - (lg_sl ([.long u1, .long u2, .long u3])).length) Slot.unset).toArray = ls at hl ⊢
  have hl : lv_has ls 6 [(0, .long u1), (2, .long u2), (4, .long u3)] := hl
  have hH : s.heap = s.heap := rfl
  refine lv_lload_n hx hb d_A_isWithin_0 rfl (lv_at hl 0 rfl) ?_
  refine lv_lload_n hx hb d_A_isWithin_1 rfl (lv_at hl 1 rfl) ?_
  refine xr_lc_lt (tgt := 17) hx hb d_A_isWithin_2 d_A_isWithin_3 (by decide) (fun c_1 => ?_) (fun c_1 => ?_)
  · refine lv_iconst (v := 0) hx hb d_A_isWithin_17 (by decide) ?_
    exact W.zret (v := 0) hx hb hr (by decide) (fun t ht _ => ⟨_, rfl, ⟨bI_0 (xin_1 c_1), ht⟩, hS.F ht⟩) hS.2.2 d_A_isWithin_18
  · refine lv_lload_n hx hb d_A_isWithin_6 rfl (lv_at hl 0 rfl) ?_
    refine lv_lload hx hb d_A_isWithin_7 (lv_at hl 2 rfl) ?_
    refine xr_lc_gt (tgt := 17) hx hb d_A_isWithin_9 d_A_isWithin_10 (by decide) (fun c_2 => ?_) (fun c_2 => ?_)
    · refine lv_iconst (v := 0) hx hb d_A_isWithin_17 (by decide) ?_
      exact W.zret (v := 0) hx hb hr (by decide) (fun t ht _ => ⟨_, rfl, ⟨bI_0 (xin_2 c_2), ht⟩, hS.F ht⟩) hS.2.2 d_A_isWithin_18
    · refine lv_iconst (v := 1) hx hb d_A_isWithin_13 (by decide) ?_
      refine lv_goto (tgt := 18) hx hb d_A_isWithin_14 (by decide) ?_
      exact W.zret (v := 1) hx hb hr (by decide) (fun t ht _ => ⟨_, rfl, ⟨bI_1 (xin_t c_1 c_2), ht⟩, hS.F ht⟩) hS.2.2 d_A_isWithin_18
set_option maxHeartbeats 4000000 in
set_option maxRecDepth 100000 in
theorem c_M_isIn {l : Launch} {D : va_G} {K : Nat → ClassId} {B : Nat} {H : Heap} (u1 u2 u3 : Int64) : xC l D K B y_M_isIn b_M_isIn 6 (some .boolean) rm_M_isIn [.long u1, .long u2, .long u3] H (fun v H1 => v = some (.int (bI (xin u1 u2 u3))) ∧ H1 = H) := by
  refine Met.ofW (cc := b_M_isIn) (maxL := 6) (ret := (some .boolean)) (by decide) rfl ?_
  intro p e s m args below meth c s₁ B0 hml hv
  obtain ⟨rfl, hsz, hK, hN⟩ := hv
  have hx := B0.exec
  have hb := B0.bytes
  have hr := B0.returns
  have htw : ∀ w ∈ xW0, w.before [.long u1, .long u2, .long u3].toArray s = true := fun w h => atoms_spec (ws := Cond.code y_M_isIn b_M_isIn 6 (some .boolean) :: xW0) B0.pre w (List.mem_cons_of_mem _ h)
  have hown : s.vm.findClass R_M = some m.cls := findClass_of_methodNamed B0.named
  have hlocks := B0.notSynchronized
  subst hsz
  have hS : va_S (fun q => B ≤ q) s.heap s.heap [] := va_S.rf
  have hl := lv_entry ([.long u1, .long u2, .long u3]) (n := 6) (Nat.le_of_ble_eq_true rfl)
  rw [lg_entry_eq]
  generalize (lg_sl ([.long u1, .long u2, .long u3]) ++ List.replicate (6 - (lg_sl ([.long u1, .long u2, .long u3])).length) Slot.unset).toArray = ls at hl ⊢
  have hl : lv_has ls 6 [(0, .long u1), (2, .long u2), (4, .long u3)] := hl
  have hH : s.heap = s.heap := rfl
  refine lv_lload_n hx hb d_M_isIn_0 rfl (lv_at hl 0 rfl) ?_
  refine lv_lload_n hx hb d_M_isIn_1 rfl (lv_at hl 1 rfl) ?_
  refine xr_lc_lt (tgt := 17) hx hb d_M_isIn_2 d_M_isIn_3 (by decide) (fun c_1 => ?_) (fun c_1 => ?_)
  · refine lv_iconst (v := 0) hx hb d_M_isIn_17 (by decide) ?_
    exact W.zret (v := 0) hx hb hr (by decide) (fun t ht _ => ⟨_, rfl, ⟨bI_0 (xin_1 c_1), ht⟩, hS.F ht⟩) hS.2.2 d_M_isIn_18
  · refine lv_lload_n hx hb d_M_isIn_6 rfl (lv_at hl 0 rfl) ?_
    refine lv_lload hx hb d_M_isIn_7 (lv_at hl 2 rfl) ?_
    refine xr_lc_gt (tgt := 17) hx hb d_M_isIn_9 d_M_isIn_10 (by decide) (fun c_2 => ?_) (fun c_2 => ?_)
    · refine lv_iconst (v := 0) hx hb d_M_isIn_17 (by decide) ?_
      exact W.zret (v := 0) hx hb hr (by decide) (fun t ht _ => ⟨_, rfl, ⟨bI_0 (xin_2 c_2), ht⟩, hS.F ht⟩) hS.2.2 d_M_isIn_18
    · refine lv_iconst (v := 1) hx hb d_M_isIn_13 (by decide) ?_
      refine lv_goto (tgt := 18) hx hb d_M_isIn_14 (by decide) ?_
      exact W.zret (v := 1) hx hb hr (by decide) (fun t ht _ => ⟨_, rfl, ⟨bI_1 (xin_t c_1 c_2), ht⟩, hS.F ht⟩) hS.2.2 d_M_isIn_18
set_option maxHeartbeats 4000000 in
set_option maxRecDepth 100000 in
theorem c_A_isMetal {l : Launch} {D : va_G} {K : Nat → ClassId} {B : Nat} {H : Heap} (x1 : Int32) : xC l D K B y_A_isMetal b_A_isMetal 1 (some .boolean) rm_A_isMetal [.int x1] H (fun v H1 => v = some (.int (bI (xm x1))) ∧ H1 = H) := by
  refine Met.ofW (cc := b_A_isMetal) (maxL := 1) (ret := (some .boolean)) (by decide) rfl ?_
  intro p e s m args below meth c s₁ B0 hml hv
  obtain ⟨rfl, hsz, hK, hN⟩ := hv
  have hx := B0.exec
  have hb := B0.bytes
  have hr := B0.returns
  have htw : ∀ w ∈ xW0, w.before [.int x1].toArray s = true := fun w h => atoms_spec (ws := Cond.code y_A_isMetal b_A_isMetal 1 (some .boolean) :: xW0) B0.pre w (List.mem_cons_of_mem _ h)
  have hown : s.vm.findClass R_A = some m.cls := findClass_of_methodNamed B0.named
  have hlocks := B0.notSynchronized
  subst hsz
  have hS : va_S (fun q => B ≤ q) s.heap s.heap [] := va_S.rf
  have hl := lv_entry ([.int x1]) (n := 1) (Nat.le_of_ble_eq_true rfl)
  rw [lg_entry_eq]
  generalize (lg_sl ([.int x1]) ++ List.replicate (1 - (lg_sl ([.int x1])).length) Slot.unset).toArray = ls at hl ⊢
  have hl : lv_has ls 1 [(0, .int x1)] := hl
  have hH : s.heap = s.heap := rfl
  refine lv_iload_n hx hb d_A_isMetal_0 rfl (lv_at hl 0 rfl) ?_
  refine lv_if_lt (tgt := 13) hx hb d_A_isMetal_1 (by decide) (fun c_1 => ?_) (fun c_1 => ?_)
  · refine lv_iconst (v := 0) hx hb d_A_isMetal_13 (by decide) ?_
    exact W.zret (v := 0) hx hb hr (by decide) (fun t ht _ => ⟨_, rfl, ⟨bI_0 (xm_0 c_1), ht⟩, hS.F ht⟩) hS.2.2 d_A_isMetal_14
  · refine lv_iload_n hx hb d_A_isMetal_4 rfl (lv_at hl 0 rfl) ?_
    refine lv_iconst (v := 4) hx hb d_A_isMetal_5 (by decide) ?_
    refine lv_icmp_ge (tgt := 13) hx hb d_A_isMetal_6 (by decide) (fun c_2 => ?_) (fun c_2 => ?_)
    · refine lv_iconst (v := 0) hx hb d_A_isMetal_13 (by decide) ?_
      exact W.zret (v := 0) hx hb hr (by decide) (fun t ht _ => ⟨_, rfl, ⟨bI_0 (xm_4 c_2), ht⟩, hS.F ht⟩) hS.2.2 d_A_isMetal_14
    · refine lv_iconst (v := 1) hx hb d_A_isMetal_9 (by decide) ?_
      refine lv_goto (tgt := 14) hx hb d_A_isMetal_10 (by decide) ?_
      exact W.zret (v := 1) hx hb hr (by decide) (fun t ht _ => ⟨_, rfl, ⟨bI_1 (xm_t c_1 c_2), ht⟩, hS.F ht⟩) hS.2.2 d_A_isMetal_14
set_option maxHeartbeats 4000000 in
set_option maxRecDepth 100000 in
theorem c_M_isMetal {l : Launch} {D : va_G} {K : Nat → ClassId} {B : Nat} {H : Heap} (x1 : Int32) : xC l D K B y_M_isMetal b_M_isMetal 1 (some .boolean) rm_M_isMetal [.int x1] H (fun v H1 => v = some (.int (bI (xm x1))) ∧ H1 = H) := by
  refine Met.ofW (cc := b_M_isMetal) (maxL := 1) (ret := (some .boolean)) (by decide) rfl ?_
  intro p e s m args below meth c s₁ B0 hml hv
  obtain ⟨rfl, hsz, hK, hN⟩ := hv
  have hx := B0.exec
  have hb := B0.bytes
  have hr := B0.returns
  have htw : ∀ w ∈ xW0, w.before [.int x1].toArray s = true := fun w h => atoms_spec (ws := Cond.code y_M_isMetal b_M_isMetal 1 (some .boolean) :: xW0) B0.pre w (List.mem_cons_of_mem _ h)
  have hown : s.vm.findClass R_M = some m.cls := findClass_of_methodNamed B0.named
  have hlocks := B0.notSynchronized
  subst hsz
  have hS : va_S (fun q => B ≤ q) s.heap s.heap [] := va_S.rf
  have hl := lv_entry ([.int x1]) (n := 1) (Nat.le_of_ble_eq_true rfl)
  rw [lg_entry_eq]
  generalize (lg_sl ([.int x1]) ++ List.replicate (1 - (lg_sl ([.int x1])).length) Slot.unset).toArray = ls at hl ⊢
  have hl : lv_has ls 1 [(0, .int x1)] := hl
  have hH : s.heap = s.heap := rfl
  refine lv_iload_n hx hb d_M_isMetal_0 rfl (lv_at hl 0 rfl) ?_
  refine lv_if_lt (tgt := 13) hx hb d_M_isMetal_1 (by decide) (fun c_1 => ?_) (fun c_1 => ?_)
  · refine lv_iconst (v := 0) hx hb d_M_isMetal_13 (by decide) ?_
    exact W.zret (v := 0) hx hb hr (by decide) (fun t ht _ => ⟨_, rfl, ⟨bI_0 (xm_0 c_1), ht⟩, hS.F ht⟩) hS.2.2 d_M_isMetal_14
  · refine lv_iload_n hx hb d_M_isMetal_4 rfl (lv_at hl 0 rfl) ?_
    refine lv_iconst (v := 4) hx hb d_M_isMetal_5 (by decide) ?_
    refine lv_icmp_ge (tgt := 13) hx hb d_M_isMetal_6 (by decide) (fun c_2 => ?_) (fun c_2 => ?_)
    · refine lv_iconst (v := 0) hx hb d_M_isMetal_13 (by decide) ?_
      exact W.zret (v := 0) hx hb hr (by decide) (fun t ht _ => ⟨_, rfl, ⟨bI_0 (xm_4 c_2), ht⟩, hS.F ht⟩) hS.2.2 d_M_isMetal_14
    · refine lv_iconst (v := 1) hx hb d_M_isMetal_9 (by decide) ?_
      refine lv_goto (tgt := 14) hx hb d_M_isMetal_10 (by decide) ?_
      exact W.zret (v := 1) hx hb hr (by decide) (fun t ht _ => ⟨_, rfl, ⟨bI_1 (xm_t c_1 c_2), ht⟩, hS.F ht⟩) hS.2.2 d_M_isMetal_14
