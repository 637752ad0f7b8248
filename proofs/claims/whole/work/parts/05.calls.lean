section XLZ
variable {p : Program} {l : Launch} {e : Env} {R : Room} {s : State} {m : MethodId} {args : Array Value} {below : List Frame} {meth : Method} {c : Code} {H : Heap} {locs : List Loc} {cells slots : Nat} {Q : State → Prop}
variable {cc : ByteArray} {pc : Nat} {ls : Array Slot} {rest : List Value} {D : va_G} {cl : List vw_C} {a B : Nat} {tys : List (ClassId × FieldType)} {ad : Nat → Nat} {w : Nat → Option va_E} {H0 : Heap}
theorem xr_zast (hexec : p.tables.exec = Jvm.exec) (hb : c.code = cc) (hK : va_K D cl tys s) (hw : xw D cl B ad w H) (hS : va_S (fun q => B ≤ q) H0 H locs) (t t0 : Nat) {cA : ClassId} {n : Nat} {f : Nat → Int32} (he : w t = some (.inl (cA, n, .inl f))) (ha : ad t = a) (ht : tys[t0]? = some (cA, .boolean)) {i x : Int32} (hin : vp_in i n) (hn : narrow .boolean (.int x) = .int x) (hdg : decode cc pc = .ok (.bastore, 1))
    (kk : ∀ (H1 : Heap) (locs1 : List Loc), xw D cl B ad (xu w t (.inl (cA, n, .inl (upd f i.toNatClampNeg x)))) H1 → va_S (fun q => B ≤ q) H0 H1 locs1 → W p l e R s m args below meth c H1 locs1 cells slots Q (F0 m (pc + 1) ls rest)) : W p l e R s m args below meth c H locs cells slots Q (F0 m pc ls (.int x :: .int i :: .ref a :: rest)) := by
  subst ha
  have hx : vp_nar .boolean x = x := by unfold vp_nar; rw [hn]
  refine W.zast hexec hb (hw.1 t _ he) ((hK.2 t0 _ ht).1 n (fun j => .int (f j))) (fun q => by cases q) (by show ¬ (i < 0 ∨ (arrV _ _ _).slots.size ≤ _); rw [arrV_size]; exact hin) rfl rfl hdg fun H1 e z oq => ?_
  refine kk H1 _ (hw.set he ?_ oq) (hS.put z oq (hw.2.2 t (by rw [he]; exact fun z => by cases z)))
  show H1[ad t]? = some (vp_cell _ _)
  rw [e]
  rw [vp_cell_i, vp_cell_i, arrV_store]
  congr 2
  funext q
  by_cases hq : q = i.toNatClampNeg
  · subst hq
    simp [updV, upd, hn]
  · simp [updV, upd, hq]
end XLZ
theorem xadd {x y : Int32} {a b : Nat} (hx : x = nI a) (hy : y = nI b) : x + y = nI (a + b) := by rw [hx, hy, nI_add]
theorem xmul {x y : Int32} {a b : Nat} (hx : x = nI a) (hy : y = nI b) : x * y = nI (a * b) := by rw [hx, hy, pk_mul]
theorem xsub {x : Int32} {a b : Nat} (hx : x = nI a) (h : b ≤ a) : x - nI b = nI (a - b) := by rw [hx, pk_sub h]
theorem xvin {x : Int32} {a n : Nat} (hx : x = nI a) (h : a < n) (hn : n < 2147483648) : vp_in x n := by rw [hx]; exact vp_in_nI h hn
theorem xcl {x : Int32} {a : Nat} (hx : x = nI a) (h : a < 2147483648) : x.toNatClampNeg = a := by rw [hx]; exact nI_clamp h
/-- a method's words among the words -/
theorem gV {own C : String} {idx : Nat} {y : MethodName} {b : ByteArray} {n : Nat} {r : Option FieldType} (h1 : Cond.methodLink own idx y ∈ xW0) (h2 : Cond.instanceMethod y ∈ xW0) (h3 : Cond.selects C y y ∈ xW0) (h4 : Cond.initialized C ∈ xW0) (h5 : Cond.code y b n r ∈ xW0) : GoodIn xW0 (wsV own idx C y (Cond.code y b n r :: xW0)) := by
  refine gAll (fun _ h => h) (fun w hw => ?_)
  simp only [wsV, List.mem_append, List.mem_cons, List.not_mem_nil, or_false] at hw
  rcases hw with (rfl | rfl | rfl | rfl) | rfl | h
  · exact h1
  · exact h2
  · exact h3
  · exact h4
  · exact h5
  · exact h
theorem gS {own C : String} {idx : Nat} {y : MethodName} {b : ByteArray} {n : Nat} {r : Option FieldType} (h1 : Cond.methodLink own idx y ∈ xW0) (h2 : Cond.static y ∈ xW0) (h4 : Cond.initialized C ∈ xW0) (h5 : Cond.code y b n r ∈ xW0) (hC : y.cls = C := by rfl) : GoodIn xW0 (va_wsS own idx y (Cond.code y b n r :: xW0)) := by
  subst hC
  refine gAll (fun _ h => h) (fun w hw => ?_)
  simp only [va_wsS, List.mem_append, List.mem_cons, List.not_mem_nil, or_false] at hw
  rcases hw with (rfl | rfl | rfl) | rfl | h
  · exact h1
  · exact h2
  · exact h4
  · exact h5
  · exact h
theorem gC {y : MethodName} {b : ByteArray} {n : Nat} {r : Option FieldType} (h5 : Cond.code y b n r ∈ xW0) : GoodIn xW0 (Cond.code y b n r :: xW0) := by
  refine gAll (fun _ h => h) (fun w hw => ?_)
  rcases List.mem_cons.mp hw with rfl | h
  · exact h5
  · exact h
/-- the array classes -/
abbrev xT (K : Nat → ClassId) : List (ClassId × FieldType) := [(K 0, .int), (K 1, .long), (K 2, .object R_B), (K 3, .object R_S), (K 4, .object R_R), (K 5, .boolean)]
/-- a contract of this system -/
abbrev xC (l : Launch) (D : va_G) (K : Nat → ClassId) (B : Nat) (y : MethodName) (b : ByteArray) (n : Nat) (r : Option FieldType) (rm : Room) (av : List Value) (H : Heap) (post : Option Value → Heap → Prop) : Prop := xM l y (Cond.code y b n r :: xW0) rm D vwCl (xT K) xNW B av H post
abbrev rm_A_init : Room := { frames := 2, cells := 7, slots := 77, locals := 40 }
theorem hd_A_init : y_A_init.cls = R_A ∧ y_A_init.cls ≠ "java/lang/invoke/MethodHandle" ∧ y_A_init.cls ≠ "java/lang/invoke/VarHandle" ∧ (parseMethodDescriptor y_A_init.desc).map (fun d => d.parameters.length) = some 0 := by decide +kernel
abbrev rm_P_init : Room := { frames := 1, cells := 3, slots := 52, locals := 20 }
theorem hd_P_init : y_P_init.cls = R_P ∧ y_P_init.cls ≠ "java/lang/invoke/MethodHandle" ∧ y_P_init.cls ≠ "java/lang/invoke/VarHandle" ∧ (parseMethodDescriptor y_P_init.desc).map (fun d => d.parameters.length) = some 0 := by decide +kernel
abbrev rm_A_batch : Room := { frames := 2, cells := 4, slots := 49, locals := 47 }
theorem hd_A_batch : y_A_batch.cls = R_A ∧ y_A_batch.cls ≠ "java/lang/invoke/MethodHandle" ∧ y_A_batch.cls ≠ "java/lang/invoke/VarHandle" ∧ (parseMethodDescriptor y_A_batch.desc).map (fun d => d.parameters.length) = some 1 := by decide +kernel
abbrev rm_A_isWithin : Room := { frames := 0, cells := 0, slots := 0, locals := 0 }
theorem hd_A_isWithin : y_A_isWithin.cls = R_A ∧ y_A_isWithin.cls ≠ "java/lang/invoke/MethodHandle" ∧ y_A_isWithin.cls ≠ "java/lang/invoke/VarHandle" ∧ (parseMethodDescriptor y_A_isWithin.desc).map (fun d => d.parameters.length) = some 3 := by decide +kernel
abbrev rm_B_init : Room := { frames := 1, cells := 3, slots := 40, locals := 23 }
theorem hd_B_init : y_B_init.cls = R_B ∧ y_B_init.cls ≠ "java/lang/invoke/MethodHandle" ∧ y_B_init.cls ≠ "java/lang/invoke/VarHandle" ∧ (parseMethodDescriptor y_B_init.desc).map (fun d => d.parameters.length) = some 3 := by decide +kernel
abbrev rm_J_fillI : Room := { frames := 0, cells := 0, slots := 0, locals := 0 }
theorem hd_J_fillI : y_J_fillI.cls = R_J ∧ y_J_fillI.cls ≠ "java/lang/invoke/MethodHandle" ∧ y_J_fillI.cls ≠ "java/lang/invoke/VarHandle" ∧ (parseMethodDescriptor y_J_fillI.desc).map (fun d => d.parameters.length) = some 2 := by decide +kernel
abbrev rm_A_keepBatch : Room := { frames := 0, cells := 0, slots := 0, locals := 0 }
theorem hd_A_keepBatch : y_A_keepBatch.cls = R_A ∧ y_A_keepBatch.cls ≠ "java/lang/invoke/MethodHandle" ∧ y_A_keepBatch.cls ≠ "java/lang/invoke/VarHandle" ∧ (parseMethodDescriptor y_A_keepBatch.desc).map (fun d => d.parameters.length) = some 1 := by decide +kernel
abbrev rm_A_parts : Room := { frames := 1, cells := 0, slots := 0, locals := 25 }
theorem hd_A_parts : y_A_parts.cls = R_A ∧ y_A_parts.cls ≠ "java/lang/invoke/MethodHandle" ∧ y_A_parts.cls ≠ "java/lang/invoke/VarHandle" ∧ (parseMethodDescriptor y_A_parts.desc).map (fun d => d.parameters.length) = some 3 := by decide +kernel
abbrev rm_A_batchAt : Room := { frames := 0, cells := 0, slots := 0, locals := 0 }
theorem hd_A_batchAt : y_A_batchAt.cls = R_A ∧ y_A_batchAt.cls ≠ "java/lang/invoke/MethodHandle" ∧ y_A_batchAt.cls ≠ "java/lang/invoke/VarHandle" ∧ (parseMethodDescriptor y_A_batchAt.desc).map (fun d => d.parameters.length) = some 1 := by decide +kernel
abbrev rm_A_isMetal : Room := { frames := 0, cells := 0, slots := 0, locals := 0 }
theorem hd_A_isMetal : y_A_isMetal.cls = R_A ∧ y_A_isMetal.cls ≠ "java/lang/invoke/MethodHandle" ∧ y_A_isMetal.cls ≠ "java/lang/invoke/VarHandle" ∧ (parseMethodDescriptor y_A_isMetal.desc).map (fun d => d.parameters.length) = some 1 := by decide +kernel
abbrev rm_A_today : Room := { frames := 1, cells := 0, slots := 0, locals := 25 }
theorem hd_A_today : y_A_today.cls = R_A ∧ y_A_today.cls ≠ "java/lang/invoke/MethodHandle" ∧ y_A_today.cls ≠ "java/lang/invoke/VarHandle" ∧ (parseMethodDescriptor y_A_today.desc).map (fun d => d.parameters.length) = some 1 := by decide +kernel
abbrev rm_A_stage : Room := { frames := 2, cells := 2, slots := 8, locals := 43 }
theorem hd_A_stage : y_A_stage.cls = R_A ∧ y_A_stage.cls ≠ "java/lang/invoke/MethodHandle" ∧ y_A_stage.cls ≠ "java/lang/invoke/VarHandle" ∧ (parseMethodDescriptor y_A_stage.desc).map (fun d => d.parameters.length) = some 3 := by decide +kernel
abbrev rm_S_init : Room := { frames := 1, cells := 1, slots := 4, locals := 20 }
theorem hd_S_init : y_S_init.cls = R_S ∧ y_S_init.cls ≠ "java/lang/invoke/MethodHandle" ∧ y_S_init.cls ≠ "java/lang/invoke/VarHandle" ∧ (parseMethodDescriptor y_S_init.desc).map (fun d => d.parameters.length) = some 3 := by decide +kernel
abbrev rm_A_run : Room := { frames := 2, cells := 0, slots := 0, locals := 51 }
theorem hd_A_run : y_A_run.cls = R_A ∧ y_A_run.cls ≠ "java/lang/invoke/MethodHandle" ∧ y_A_run.cls ≠ "java/lang/invoke/VarHandle" ∧ (parseMethodDescriptor y_A_run.desc).map (fun d => d.parameters.length) = some 1 := by decide +kernel
abbrev rm_A_passThrough : Room := { frames := 1, cells := 0, slots := 0, locals := 23 }
theorem hd_A_passThrough : y_A_passThrough.cls = R_A ∧ y_A_passThrough.cls ≠ "java/lang/invoke/MethodHandle" ∧ y_A_passThrough.cls ≠ "java/lang/invoke/VarHandle" ∧ (parseMethodDescriptor y_A_passThrough.desc).map (fun d => d.parameters.length) = some 2 := by decide +kernel
abbrev rm_A_stageAt : Room := { frames := 0, cells := 0, slots := 0, locals := 0 }
theorem hd_A_stageAt : y_A_stageAt.cls = R_A ∧ y_A_stageAt.cls ≠ "java/lang/invoke/MethodHandle" ∧ y_A_stageAt.cls ≠ "java/lang/invoke/VarHandle" ∧ (parseMethodDescriptor y_A_stageAt.desc).map (fun d => d.parameters.length) = some 1 := by decide +kernel
abbrev rm_S_thousandthsOf : Room := { frames := 0, cells := 0, slots := 0, locals := 0 }
theorem hd_S_thousandthsOf : y_S_thousandthsOf.cls = R_S ∧ y_S_thousandthsOf.cls ≠ "java/lang/invoke/MethodHandle" ∧ y_S_thousandthsOf.cls ≠ "java/lang/invoke/VarHandle" ∧ (parseMethodDescriptor y_S_thousandthsOf.desc).map (fun d => d.parameters.length) = some 1 := by decide +kernel
abbrev rm_A_taken : Room := { frames := 1, cells := 0, slots := 0, locals := 21 }
theorem hd_A_taken : y_A_taken.cls = R_A ∧ y_A_taken.cls ≠ "java/lang/invoke/MethodHandle" ∧ y_A_taken.cls ≠ "java/lang/invoke/VarHandle" ∧ (parseMethodDescriptor y_A_taken.desc).map (fun d => d.parameters.length) = some 3 := by decide +kernel
abbrev rm_A_left : Room := { frames := 1, cells := 0, slots := 0, locals := 21 }
theorem hd_A_left : y_A_left.cls = R_A ∧ y_A_left.cls ≠ "java/lang/invoke/MethodHandle" ∧ y_A_left.cls ≠ "java/lang/invoke/VarHandle" ∧ (parseMethodDescriptor y_A_left.desc).map (fun d => d.parameters.length) = some 2 := by decide +kernel
abbrev rm_A_grams : Room := { frames := 1, cells := 0, slots := 0, locals := 21 }
theorem hd_A_grams : y_A_grams.cls = R_A ∧ y_A_grams.cls ≠ "java/lang/invoke/MethodHandle" ∧ y_A_grams.cls ≠ "java/lang/invoke/VarHandle" ∧ (parseMethodDescriptor y_A_grams.desc).map (fun d => d.parameters.length) = some 1 := by decide +kernel
abbrev rm_A_stock : Room := { frames := 1, cells := 0, slots := 0, locals := 21 }
theorem hd_A_stock : y_A_stock.cls = R_A ∧ y_A_stock.cls ≠ "java/lang/invoke/MethodHandle" ∧ y_A_stock.cls ≠ "java/lang/invoke/VarHandle" ∧ (parseMethodDescriptor y_A_stock.desc).map (fun d => d.parameters.length) = some 2 := by decide +kernel
abbrev rm_A_price : Room := { frames := 3, cells := 0, slots := 0, locals := 67 }
theorem hd_A_price : y_A_price.cls = R_A ∧ y_A_price.cls ≠ "java/lang/invoke/MethodHandle" ∧ y_A_price.cls ≠ "java/lang/invoke/VarHandle" ∧ (parseMethodDescriptor y_A_price.desc).map (fun d => d.parameters.length) = some 3 := by decide +kernel
abbrev rm_P_append : Room := { frames := 2, cells := 0, slots := 0, locals := 41 }
theorem hd_P_append : y_P_append.cls = R_P ∧ y_P_append.cls ≠ "java/lang/invoke/MethodHandle" ∧ y_P_append.cls ≠ "java/lang/invoke/VarHandle" ∧ (parseMethodDescriptor y_P_append.desc).map (fun d => d.parameters.length) = some 3 := by decide +kernel
abbrev rm_P_countOf : Room := { frames := 1, cells := 0, slots := 0, locals := 20 }
theorem hd_P_countOf : y_P_countOf.cls = R_P ∧ y_P_countOf.cls ≠ "java/lang/invoke/MethodHandle" ∧ y_P_countOf.cls ≠ "java/lang/invoke/VarHandle" ∧ (parseMethodDescriptor y_P_countOf.desc).map (fun d => d.parameters.length) = some 1 := by decide +kernel
abbrev rm_A_worth : Room := { frames := 4, cells := 0, slots := 0, locals := 97 }
theorem hd_A_worth : y_A_worth.cls = R_A ∧ y_A_worth.cls ≠ "java/lang/invoke/MethodHandle" ∧ y_A_worth.cls ≠ "java/lang/invoke/VarHandle" ∧ (parseMethodDescriptor y_A_worth.desc).map (fun d => d.parameters.length) = some 2 := by decide +kernel
abbrev rm_P_centsFor : Room := { frames := 3, cells := 0, slots := 0, locals := 68 }
theorem hd_P_centsFor : y_P_centsFor.cls = R_P ∧ y_P_centsFor.cls ≠ "java/lang/invoke/MethodHandle" ∧ y_P_centsFor.cls ≠ "java/lang/invoke/VarHandle" ∧ (parseMethodDescriptor y_P_centsFor.desc).map (fun d => d.parameters.length) = some 2 := by decide +kernel
abbrev rm_P_centsOn : Room := { frames := 2, cells := 0, slots := 0, locals := 41 }
theorem hd_P_centsOn : y_P_centsOn.cls = R_P ∧ y_P_centsOn.cls ≠ "java/lang/invoke/MethodHandle" ∧ y_P_centsOn.cls ≠ "java/lang/invoke/VarHandle" ∧ (parseMethodDescriptor y_P_centsOn.desc).map (fun d => d.parameters.length) = some 2 := by decide +kernel
abbrev rm_A_sell : Room := { frames := 4, cells := 0, slots := 0, locals := 97 }
theorem hd_A_sell : y_A_sell.cls = R_A ∧ y_A_sell.cls ≠ "java/lang/invoke/MethodHandle" ∧ y_A_sell.cls ≠ "java/lang/invoke/VarHandle" ∧ (parseMethodDescriptor y_A_sell.desc).map (fun d => d.parameters.length) = some 1 := by decide +kernel
abbrev rm_J_fillJ : Room := { frames := 0, cells := 0, slots := 0, locals := 0 }
theorem hd_J_fillJ : y_J_fillJ.cls = R_J ∧ y_J_fillJ.cls ≠ "java/lang/invoke/MethodHandle" ∧ y_J_fillJ.cls ≠ "java/lang/invoke/VarHandle" ∧ (parseMethodDescriptor y_J_fillJ.desc).map (fun d => d.parameters.length) = some 2 := by decide +kernel
abbrev rm_A_money : Room := { frames := 0, cells := 0, slots := 0, locals := 0 }
theorem hd_A_money : y_A_money.cls = R_A ∧ y_A_money.cls ≠ "java/lang/invoke/MethodHandle" ∧ y_A_money.cls ≠ "java/lang/invoke/VarHandle" ∧ (parseMethodDescriptor y_A_money.desc).map (fun d => d.parameters.length) = some 0 := by decide +kernel
abbrev rm_A_assay : Room := { frames := 1, cells := 0, slots := 0, locals := 25 }
theorem hd_A_assay : y_A_assay.cls = R_A ∧ y_A_assay.cls ≠ "java/lang/invoke/MethodHandle" ∧ y_A_assay.cls ≠ "java/lang/invoke/VarHandle" ∧ (parseMethodDescriptor y_A_assay.desc).map (fun d => d.parameters.length) = some 4 := by decide +kernel
abbrev rm_A_settled : Room := { frames := 3, cells := 0, slots := 0, locals := 66 }
theorem hd_A_settled : y_A_settled.cls = R_A ∧ y_A_settled.cls ≠ "java/lang/invoke/MethodHandle" ∧ y_A_settled.cls ≠ "java/lang/invoke/VarHandle" ∧ (parseMethodDescriptor y_A_settled.desc).map (fun d => d.parameters.length) = some 2 := by decide +kernel
abbrev rm_B_middleOf : Room := { frames := 2, cells := 0, slots := 0, locals := 42 }
theorem hd_B_middleOf : y_B_middleOf.cls = R_B ∧ y_B_middleOf.cls ≠ "java/lang/invoke/MethodHandle" ∧ y_B_middleOf.cls ≠ "java/lang/invoke/VarHandle" ∧ (parseMethodDescriptor y_B_middleOf.desc).map (fun d => d.parameters.length) = some 1 := by decide +kernel
abbrev rm_B_allTold : Room := { frames := 1, cells := 0, slots := 0, locals := 20 }
theorem hd_B_allTold : y_B_allTold.cls = R_B ∧ y_B_allTold.cls ≠ "java/lang/invoke/MethodHandle" ∧ y_B_allTold.cls ≠ "java/lang/invoke/VarHandle" ∧ (parseMethodDescriptor y_B_allTold.desc).map (fun d => d.parameters.length) = some 1 := by decide +kernel
abbrev rm_A_disputed : Room := { frames := 3, cells := 0, slots := 0, locals := 66 }
theorem hd_A_disputed : y_A_disputed.cls = R_A ∧ y_A_disputed.cls ≠ "java/lang/invoke/MethodHandle" ∧ y_A_disputed.cls ≠ "java/lang/invoke/VarHandle" ∧ (parseMethodDescriptor y_A_disputed.desc).map (fun d => d.parameters.length) = some 2 := by decide +kernel
abbrev rm_B_spreadOf : Room := { frames := 2, cells := 0, slots := 0, locals := 42 }
theorem hd_B_spreadOf : y_B_spreadOf.cls = R_B ∧ y_B_spreadOf.cls ≠ "java/lang/invoke/MethodHandle" ∧ y_B_spreadOf.cls ≠ "java/lang/invoke/VarHandle" ∧ (parseMethodDescriptor y_B_spreadOf.desc).map (fun d => d.parameters.length) = some 1 := by decide +kernel
abbrev rm_A_tolerance : Room := { frames := 1, cells := 0, slots := 0, locals := 25 }
theorem hd_A_tolerance : y_A_tolerance.cls = R_A ∧ y_A_tolerance.cls ≠ "java/lang/invoke/MethodHandle" ∧ y_A_tolerance.cls ≠ "java/lang/invoke/VarHandle" ∧ (parseMethodDescriptor y_A_tolerance.desc).map (fun d => d.parameters.length) = some 1 := by decide +kernel
abbrev rm_A_rule : Room := { frames := 2, cells := 1, slots := 4, locals := 44 }
theorem hd_A_rule : y_A_rule.cls = R_A ∧ y_A_rule.cls ≠ "java/lang/invoke/MethodHandle" ∧ y_A_rule.cls ≠ "java/lang/invoke/VarHandle" ∧ (parseMethodDescriptor y_A_rule.desc).map (fun d => d.parameters.length) = some 4 := by decide +kernel
abbrev rm_R_init : Room := { frames := 1, cells := 0, slots := 0, locals := 20 }
theorem hd_R_init : y_R_init.cls = R_R ∧ y_R_init.cls ≠ "java/lang/invoke/MethodHandle" ∧ y_R_init.cls ≠ "java/lang/invoke/VarHandle" ∧ (parseMethodDescriptor y_R_init.desc).map (fun d => d.parameters.length) = some 4 := by decide +kernel
abbrev rm_A_cls : Room := { frames := 4, cells := 0, slots := 0, locals := 90 }
theorem hd_A_cls : y_A_cls.cls = R_A ∧ y_A_cls.cls ≠ "java/lang/invoke/MethodHandle" ∧ y_A_cls.cls ≠ "java/lang/invoke/VarHandle" ∧ (parseMethodDescriptor y_A_cls.desc).map (fun d => d.parameters.length) = some 1 := by decide +kernel
abbrev rm_R_fits : Room := { frames := 3, cells := 0, slots := 0, locals := 66 }
theorem hd_R_fits : y_R_fits.cls = R_R ∧ y_R_fits.cls ≠ "java/lang/invoke/MethodHandle" ∧ y_R_fits.cls ≠ "java/lang/invoke/VarHandle" ∧ (parseMethodDescriptor y_R_fits.desc).map (fun d => d.parameters.length) = some 3 := by decide +kernel
abbrev rm_A_mix : Room := { frames := 3, cells := 4, slots := 49, locals := 70 }
theorem hd_A_mix : y_A_mix.cls = R_A ∧ y_A_mix.cls ≠ "java/lang/invoke/MethodHandle" ∧ y_A_mix.cls ≠ "java/lang/invoke/VarHandle" ∧ (parseMethodDescriptor y_A_mix.desc).map (fun d => d.parameters.length) = some 2 := by decide +kernel
abbrev rm_A_mixtureOf : Room := { frames := 2, cells := 4, slots := 49, locals := 47 }
theorem hd_A_mixtureOf : y_A_mixtureOf.cls = R_A ∧ y_A_mixtureOf.cls ≠ "java/lang/invoke/MethodHandle" ∧ y_A_mixtureOf.cls ≠ "java/lang/invoke/VarHandle" ∧ (parseMethodDescriptor y_A_mixtureOf.desc).map (fun d => d.parameters.length) = some 2 := by decide +kernel
abbrev rm_A_dispute : Room := { frames := 4, cells := 0, slots := 0, locals := 88 }
theorem hd_A_dispute : y_A_dispute.cls = R_A ∧ y_A_dispute.cls ≠ "java/lang/invoke/MethodHandle" ∧ y_A_dispute.cls ≠ "java/lang/invoke/VarHandle" ∧ (parseMethodDescriptor y_A_dispute.desc).map (fun d => d.parameters.length) = some 1 := by decide +kernel
abbrev rm_B_hasSpreadAbove : Room := { frames := 3, cells := 0, slots := 0, locals := 66 }
theorem hd_B_hasSpreadAbove : y_B_hasSpreadAbove.cls = R_B ∧ y_B_hasSpreadAbove.cls ≠ "java/lang/invoke/MethodHandle" ∧ y_B_hasSpreadAbove.cls ≠ "java/lang/invoke/VarHandle" ∧ (parseMethodDescriptor y_B_hasSpreadAbove.desc).map (fun d => d.parameters.length) = some 1 := by decide +kernel
abbrev rm_M_init : Room := { frames := 1, cells := 20, slots := 494, locals := 20 }
theorem hd_M_init : y_M_init.cls = R_M ∧ y_M_init.cls ≠ "java/lang/invoke/MethodHandle" ∧ y_M_init.cls ≠ "java/lang/invoke/VarHandle" ∧ (parseMethodDescriptor y_M_init.desc).map (fun d => d.parameters.length) = some 0 := by decide +kernel
abbrev rm_M_batch : Room := { frames := 1, cells := 0, slots := 0, locals := 25 }
theorem hd_M_batch : y_M_batch.cls = R_M ∧ y_M_batch.cls ≠ "java/lang/invoke/MethodHandle" ∧ y_M_batch.cls ≠ "java/lang/invoke/VarHandle" ∧ (parseMethodDescriptor y_M_batch.desc).map (fun d => d.parameters.length) = some 1 := by decide +kernel
abbrev rm_M_isIn : Room := { frames := 0, cells := 0, slots := 0, locals := 0 }
theorem hd_M_isIn : y_M_isIn.cls = R_M ∧ y_M_isIn.cls ≠ "java/lang/invoke/MethodHandle" ∧ y_M_isIn.cls ≠ "java/lang/invoke/VarHandle" ∧ (parseMethodDescriptor y_M_isIn.desc).map (fun d => d.parameters.length) = some 3 := by decide +kernel
abbrev rm_M_add : Room := { frames := 0, cells := 0, slots := 0, locals := 0 }
theorem hd_M_add : y_M_add.cls = R_M ∧ y_M_add.cls ≠ "java/lang/invoke/MethodHandle" ∧ y_M_add.cls ≠ "java/lang/invoke/VarHandle" ∧ (parseMethodDescriptor y_M_add.desc).map (fun d => d.parameters.length) = some 2 := by decide +kernel
abbrev rm_M_parts : Room := { frames := 1, cells := 0, slots := 0, locals := 25 }
theorem hd_M_parts : y_M_parts.cls = R_M ∧ y_M_parts.cls ≠ "java/lang/invoke/MethodHandle" ∧ y_M_parts.cls ≠ "java/lang/invoke/VarHandle" ∧ (parseMethodDescriptor y_M_parts.desc).map (fun d => d.parameters.length) = some 3 := by decide +kernel
abbrev rm_M_isBatch : Room := { frames := 0, cells := 0, slots := 0, locals := 0 }
theorem hd_M_isBatch : y_M_isBatch.cls = R_M ∧ y_M_isBatch.cls ≠ "java/lang/invoke/MethodHandle" ∧ y_M_isBatch.cls ≠ "java/lang/invoke/VarHandle" ∧ (parseMethodDescriptor y_M_isBatch.desc).map (fun d => d.parameters.length) = some 1 := by decide +kernel
abbrev rm_M_isMetal : Room := { frames := 0, cells := 0, slots := 0, locals := 0 }
theorem hd_M_isMetal : y_M_isMetal.cls = R_M ∧ y_M_isMetal.cls ≠ "java/lang/invoke/MethodHandle" ∧ y_M_isMetal.cls ≠ "java/lang/invoke/VarHandle" ∧ (parseMethodDescriptor y_M_isMetal.desc).map (fun d => d.parameters.length) = some 1 := by decide +kernel
abbrev rm_M_today : Room := { frames := 1, cells := 0, slots := 0, locals := 25 }
theorem hd_M_today : y_M_today.cls = R_M ∧ y_M_today.cls ≠ "java/lang/invoke/MethodHandle" ∧ y_M_today.cls ≠ "java/lang/invoke/VarHandle" ∧ (parseMethodDescriptor y_M_today.desc).map (fun d => d.parameters.length) = some 1 := by decide +kernel
abbrev rm_M_left : Room := { frames := 1, cells := 0, slots := 0, locals := 21 }
theorem hd_M_left : y_M_left.cls = R_M ∧ y_M_left.cls ≠ "java/lang/invoke/MethodHandle" ∧ y_M_left.cls ≠ "java/lang/invoke/VarHandle" ∧ (parseMethodDescriptor y_M_left.desc).map (fun d => d.parameters.length) = some 2 := by decide +kernel
abbrev rm_M_grams : Room := { frames := 1, cells := 0, slots := 0, locals := 21 }
theorem hd_M_grams : y_M_grams.cls = R_M ∧ y_M_grams.cls ≠ "java/lang/invoke/MethodHandle" ∧ y_M_grams.cls ≠ "java/lang/invoke/VarHandle" ∧ (parseMethodDescriptor y_M_grams.desc).map (fun d => d.parameters.length) = some 1 := by decide +kernel
abbrev rm_M_stage : Room := { frames := 1, cells := 0, slots := 0, locals := 25 }
theorem hd_M_stage : y_M_stage.cls = R_M ∧ y_M_stage.cls ≠ "java/lang/invoke/MethodHandle" ∧ y_M_stage.cls ≠ "java/lang/invoke/VarHandle" ∧ (parseMethodDescriptor y_M_stage.desc).map (fun d => d.parameters.length) = some 3 := by decide +kernel
abbrev rm_M_run : Room := { frames := 1, cells := 0, slots := 0, locals := 21 }
theorem hd_M_run : y_M_run.cls = R_M ∧ y_M_run.cls ≠ "java/lang/invoke/MethodHandle" ∧ y_M_run.cls ≠ "java/lang/invoke/VarHandle" ∧ (parseMethodDescriptor y_M_run.desc).map (fun d => d.parameters.length) = some 1 := by decide +kernel
abbrev rm_M_taken : Room := { frames := 1, cells := 0, slots := 0, locals := 21 }
theorem hd_M_taken : y_M_taken.cls = R_M ∧ y_M_taken.cls ≠ "java/lang/invoke/MethodHandle" ∧ y_M_taken.cls ≠ "java/lang/invoke/VarHandle" ∧ (parseMethodDescriptor y_M_taken.desc).map (fun d => d.parameters.length) = some 3 := by decide +kernel
abbrev rm_M_stock : Room := { frames := 1, cells := 0, slots := 0, locals := 21 }
theorem hd_M_stock : y_M_stock.cls = R_M ∧ y_M_stock.cls ≠ "java/lang/invoke/MethodHandle" ∧ y_M_stock.cls ≠ "java/lang/invoke/VarHandle" ∧ (parseMethodDescriptor y_M_stock.desc).map (fun d => d.parameters.length) = some 2 := by decide +kernel
abbrev rm_M_isStage : Room := { frames := 0, cells := 0, slots := 0, locals := 0 }
theorem hd_M_isStage : y_M_isStage.cls = R_M ∧ y_M_isStage.cls ≠ "java/lang/invoke/MethodHandle" ∧ y_M_isStage.cls ≠ "java/lang/invoke/VarHandle" ∧ (parseMethodDescriptor y_M_isStage.desc).map (fun d => d.parameters.length) = some 1 := by decide +kernel
abbrev rm_M_price : Room := { frames := 1, cells := 0, slots := 0, locals := 25 }
theorem hd_M_price : y_M_price.cls = R_M ∧ y_M_price.cls ≠ "java/lang/invoke/MethodHandle" ∧ y_M_price.cls ≠ "java/lang/invoke/VarHandle" ∧ (parseMethodDescriptor y_M_price.desc).map (fun d => d.parameters.length) = some 3 := by decide +kernel
abbrev rm_M_worth : Room := { frames := 2, cells := 0, slots := 0, locals := 53 }
theorem hd_M_worth : y_M_worth.cls = R_M ∧ y_M_worth.cls ≠ "java/lang/invoke/MethodHandle" ∧ y_M_worth.cls ≠ "java/lang/invoke/VarHandle" ∧ (parseMethodDescriptor y_M_worth.desc).map (fun d => d.parameters.length) = some 2 := by decide +kernel
abbrev rm_M_worthOf : Room := { frames := 1, cells := 0, slots := 0, locals := 25 }
theorem hd_M_worthOf : y_M_worthOf.cls = R_M ∧ y_M_worthOf.cls ≠ "java/lang/invoke/MethodHandle" ∧ y_M_worthOf.cls ≠ "java/lang/invoke/VarHandle" ∧ (parseMethodDescriptor y_M_worthOf.desc).map (fun d => d.parameters.length) = some 3 := by decide +kernel
abbrev rm_M_priceOn : Room := { frames := 0, cells := 0, slots := 0, locals := 0 }
theorem hd_M_priceOn : y_M_priceOn.cls = R_M ∧ y_M_priceOn.cls ≠ "java/lang/invoke/MethodHandle" ∧ y_M_priceOn.cls ≠ "java/lang/invoke/VarHandle" ∧ (parseMethodDescriptor y_M_priceOn.desc).map (fun d => d.parameters.length) = some 2 := by decide +kernel
abbrev rm_M_sell : Room := { frames := 2, cells := 0, slots := 0, locals := 53 }
theorem hd_M_sell : y_M_sell.cls = R_M ∧ y_M_sell.cls ≠ "java/lang/invoke/MethodHandle" ∧ y_M_sell.cls ≠ "java/lang/invoke/VarHandle" ∧ (parseMethodDescriptor y_M_sell.desc).map (fun d => d.parameters.length) = some 1 := by decide +kernel
abbrev rm_M_money : Room := { frames := 0, cells := 0, slots := 0, locals := 0 }
theorem hd_M_money : y_M_money.cls = R_M ∧ y_M_money.cls ≠ "java/lang/invoke/MethodHandle" ∧ y_M_money.cls ≠ "java/lang/invoke/VarHandle" ∧ (parseMethodDescriptor y_M_money.desc).map (fun d => d.parameters.length) = some 0 := by decide +kernel
abbrev rm_M_assay : Room := { frames := 1, cells := 0, slots := 0, locals := 25 }
theorem hd_M_assay : y_M_assay.cls = R_M ∧ y_M_assay.cls ≠ "java/lang/invoke/MethodHandle" ∧ y_M_assay.cls ≠ "java/lang/invoke/VarHandle" ∧ (parseMethodDescriptor y_M_assay.desc).map (fun d => d.parameters.length) = some 4 := by decide +kernel
abbrev rm_M_settled : Room := { frames := 2, cells := 0, slots := 0, locals := 50 }
theorem hd_M_settled : y_M_settled.cls = R_M ∧ y_M_settled.cls ≠ "java/lang/invoke/MethodHandle" ∧ y_M_settled.cls ≠ "java/lang/invoke/VarHandle" ∧ (parseMethodDescriptor y_M_settled.desc).map (fun d => d.parameters.length) = some 2 := by decide +kernel
abbrev rm_M_told : Room := { frames := 1, cells := 0, slots := 0, locals := 21 }
theorem hd_M_told : y_M_told.cls = R_M ∧ y_M_told.cls ≠ "java/lang/invoke/MethodHandle" ∧ y_M_told.cls ≠ "java/lang/invoke/VarHandle" ∧ (parseMethodDescriptor y_M_told.desc).map (fun d => d.parameters.length) = some 3 := by decide +kernel
abbrev rm_M_least : Room := { frames := 0, cells := 0, slots := 0, locals := 0 }
theorem hd_M_least : y_M_least.cls = R_M ∧ y_M_least.cls ≠ "java/lang/invoke/MethodHandle" ∧ y_M_least.cls ≠ "java/lang/invoke/VarHandle" ∧ (parseMethodDescriptor y_M_least.desc).map (fun d => d.parameters.length) = some 2 := by decide +kernel
abbrev rm_M_greatest : Room := { frames := 0, cells := 0, slots := 0, locals := 0 }
theorem hd_M_greatest : y_M_greatest.cls = R_M ∧ y_M_greatest.cls ≠ "java/lang/invoke/MethodHandle" ∧ y_M_greatest.cls ≠ "java/lang/invoke/VarHandle" ∧ (parseMethodDescriptor y_M_greatest.desc).map (fun d => d.parameters.length) = some 2 := by decide +kernel
abbrev rm_M_disputed : Room := { frames := 2, cells := 0, slots := 0, locals := 50 }
theorem hd_M_disputed : y_M_disputed.cls = R_M ∧ y_M_disputed.cls ≠ "java/lang/invoke/MethodHandle" ∧ y_M_disputed.cls ≠ "java/lang/invoke/VarHandle" ∧ (parseMethodDescriptor y_M_disputed.desc).map (fun d => d.parameters.length) = some 2 := by decide +kernel
abbrev rm_M_tolerance : Room := { frames := 1, cells := 0, slots := 0, locals := 25 }
theorem hd_M_tolerance : y_M_tolerance.cls = R_M ∧ y_M_tolerance.cls ≠ "java/lang/invoke/MethodHandle" ∧ y_M_tolerance.cls ≠ "java/lang/invoke/VarHandle" ∧ (parseMethodDescriptor y_M_tolerance.desc).map (fun d => d.parameters.length) = some 1 := by decide +kernel
abbrev rm_M_rule : Room := { frames := 1, cells := 0, slots := 0, locals := 25 }
theorem hd_M_rule : y_M_rule.cls = R_M ∧ y_M_rule.cls ≠ "java/lang/invoke/MethodHandle" ∧ y_M_rule.cls ≠ "java/lang/invoke/VarHandle" ∧ (parseMethodDescriptor y_M_rule.desc).map (fun d => d.parameters.length) = some 4 := by decide +kernel
abbrev rm_M_cls : Room := { frames := 3, cells := 0, slots := 0, locals := 72 }
theorem hd_M_cls : y_M_cls.cls = R_M ∧ y_M_cls.cls ≠ "java/lang/invoke/MethodHandle" ∧ y_M_cls.cls ≠ "java/lang/invoke/VarHandle" ∧ (parseMethodDescriptor y_M_cls.desc).map (fun d => d.parameters.length) = some 1 := by decide +kernel
abbrev rm_M_mix : Room := { frames := 1, cells := 0, slots := 0, locals := 24 }
theorem hd_M_mix : y_M_mix.cls = R_M ∧ y_M_mix.cls ≠ "java/lang/invoke/MethodHandle" ∧ y_M_mix.cls ≠ "java/lang/invoke/VarHandle" ∧ (parseMethodDescriptor y_M_mix.desc).map (fun d => d.parameters.length) = some 2 := by decide +kernel
abbrev rm_M_dispute : Room := { frames := 3, cells := 0, slots := 0, locals := 72 }
theorem hd_M_dispute : y_M_dispute.cls = R_M ∧ y_M_dispute.cls ≠ "java/lang/invoke/MethodHandle" ∧ y_M_dispute.cls ≠ "java/lang/invoke/VarHandle" ∧ (parseMethodDescriptor y_M_dispute.desc).map (fun d => d.parameters.length) = some 1 := by decide +kernel
