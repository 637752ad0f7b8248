/-! THE LAYER: a world is a function from tags to cells; every contract is said of a heap H0, its world, and what the tables say -/
/-- the world: the cell of tag t lies at ad t; tags are apart; all lie at B or above -/
def xw (D : va_G) (cl : List vw_C) (B : Nat) (ad : Nat → Nat) (w : Nat → Option va_E) (H : Heap) : Prop :=
  (∀ (t : Nat) (e : va_E), w t = some e → va_at D cl (ad t, e) H) ∧ (∀ t u : Nat, w t ≠ none → w u ≠ none → ad t = ad u → t = u) ∧ ∀ t : Nat, w t ≠ none → B ≤ ad t
def xu (w : Nat → Option va_E) (t : Nat) (e : va_E) : Nat → Option va_E := fun u => if u = t then some e else w u
def xa (ad : Nat → Nat) (t a : Nat) : Nat → Nat := fun u => if u = t then a else ad u
theorem xu_eq {w : Nat → Option va_E} {t : Nat} {e : va_E} : xu w t e t = some e := by simp [xu]
theorem xu_ne {w : Nat → Option va_E} {t u : Nat} {e : va_E} (h : u ≠ t) : xu w t e u = w u := by simp [xu, h]
theorem xa_eq {ad : Nat → Nat} {t a : Nat} : xa ad t a t = a := by simp [xa]
theorem xa_ne {ad : Nat → Nat} {t u a : Nat} (h : u ≠ t) : xa ad t a u = ad u := by simp [xa, h]
theorem xu_some {w : Nat → Option va_E} {t u : Nat} {e : va_E} {f : va_E} (h : w t = some f) : w u ≠ none ↔ xu w t e u ≠ none := by
  unfold xu
  by_cases hu : u = t
  · subst hu; simp [h]
  · simp [hu]
theorem xw.set {D : va_G} {cl : List vw_C} {B : Nat} {ad : Nat → Nat} {w : Nat → Option va_E} {H H1 : Heap} {t : Nat} {e0 e : va_E} (h : xw D cl B ad w H) (ht : w t = some e0) (he : va_at D cl (ad t, e) H1) (oq : ∀ q : Nat, q ≠ ad t → H1[q]? = H[q]?) : xw D cl B ad (xu w t e) H1 := by
  refine ⟨fun u f hu => ?_, fun u v hu hv huv => h.2.1 u v ((xu_some ht).mpr hu) ((xu_some ht).mpr hv) huv, fun u hu => h.2.2 u ((xu_some ht).mpr hu)⟩
  by_cases hut : u = t
  · subst hut
    rw [xu_eq] at hu
    obtain rfl := Option.some.inj hu
    exact he
  · rw [xu_ne hut] at hu
    exact (h.1 u f hu).kept (oq _ (fun hh => hut (h.2.1 u t (by rw [hu]; exact fun z => by cases z) (by rw [ht]; exact fun z => by cases z) hh)))
theorem xw.new {D : va_G} {cl : List vw_C} {B : Nat} {ad : Nat → Nat} {w : Nat → Option va_E} {H H1 : Heap} (t : Nat) {e : va_E} (h : xw D cl B ad w H) (he : va_at D cl (H.size, e) H1) (hB : B ≤ H.size) (oq : ∀ q : Nat, q < H.size → H1[q]? = H[q]?) : xw D cl B (xa ad t H.size) (xu w t e) H1 := by
  have hlt : ∀ u, w u ≠ none → ad u < H.size := fun u hu => by
    cases hc : w u with
    | none => exact absurd hc hu
    | some f => exact (h.1 u f hc).lt
  refine ⟨fun u f hu => ?_, fun u v hu hv huv => ?_, fun u hu => ?_⟩
  · by_cases hut : u = t
    · subst hut
      rw [xu_eq] at hu
      obtain rfl := Option.some.inj hu
      rw [xa_eq]; exact he
    · rw [xu_ne hut] at hu
      rw [xa_ne hut]
      exact (h.1 u f hu).kept (oq _ (h.1 u f hu).lt)
  · by_cases hut : u = t
    · by_cases hvt : v = t
      · rw [hut, hvt]
      · subst hut
        rw [xu_ne hvt] at hv
        rw [xa_eq, xa_ne hvt] at huv
        exact absurd huv.symm (Nat.ne_of_lt (hlt v hv))
    · rw [xu_ne hut] at hu
      rw [xa_ne hut] at huv
      by_cases hvt : v = t
      · subst hvt
        rw [xa_eq] at huv
        exact absurd huv (Nat.ne_of_lt (hlt u hu))
      · rw [xu_ne hvt] at hv
        rw [xa_ne hvt] at huv
        exact h.2.1 u v hu hv huv
  · by_cases hut : u = t
    · subst hut
      rw [xa_eq]; exact hB
    · rw [xu_ne hut] at hu
      rw [xa_ne hut]; exact h.2.2 u hu
/-- what the tables say beyond the words: nest links, array classes over own classes -/
def xg (w : Cond) : Prop := (∃ a i x h, w = .methodLinkNest a i x h) ∨ (∃ a i b n d h, w = .fieldLinkNest a i b n d h) ∨ ∃ C, w = .arrayOver (.object C)
def xN (NW : List Cond) (U : State) : Prop := ∀ w ∈ NW, va_Nw w U ∧ xg w
theorem xN.warm {NW : List Cond} {s U : State} (hW : s.WarmedH U.vm) (h : xN NW s) : xN NW U := fun w hw => by
  obtain ⟨h1, h2⟩ := h w hw
  refine ⟨?_, h2⟩
  rcases h2 with ⟨a, i, x, g, rfl⟩ | ⟨a, i, b, n, d, g, rfl⟩ | ⟨C, rfl⟩
  · exact va_Nw.warmM hW h1
  · exact va_Nw.warmF hW h1
  · exact va_AO.moved hW.alike h1
theorem xN.same {NW : List Cond} {u U : State} (hv : u.vm = U.vm) (h : xN NW u) : xN NW U := fun w hw => by
  obtain ⟨h1, h2⟩ := h w hw
  refine ⟨?_, h2⟩
  rcases h2 with ⟨a, i, x, g, rfl⟩ | ⟨a, i, b, n, d, g, rfl⟩ | ⟨C, rfl⟩
  · exact va_Nw.same rfl hv h1
  · exact va_Nw.same rfl hv h1
  · exact va_AO.moved (u := u) (U := U) (by rw [hv]; exact Vm.Alike.refl _) h1
/-- a contract's start: the arguments, the heap, the tables -/
def xP (D : va_G) (cl : List vw_C) (tys : List (ClassId × FieldType)) (NW : List Cond) (av : List Value) (H0 : Heap) : Array Value → State → Prop := va_Pc av (fun U => U.heap = H0 ∧ va_K D cl tys U ∧ xN NW U)
/-- its end: the answer and the heap behind it; nothing below B has changed -/
def xQ (B : Nat) (post : Option Value → Heap → Prop) : Array Value → State → Outcome → State → Prop := fun _ st o t => ∃ v : Option Value, o = .returned v ∧ post v t.heap ∧ va_F (fun q => B ≤ q) st t
def xM (l : Launch) (y : MethodName) (ws : List Cond) (rm : Room) (D : va_G) (cl : List vw_C) (tys : List (ClassId × FieldType)) (NW : List Cond) (B : Nat) (av : List Value) (H0 : Heap) (post : Option Value → Heap → Prop) : Prop :=
  Met l y ws rm (xP D cl tys NW av H0) (xQ B post) rm.cells rm.slots (fun q => B ≤ q)
theorem xP_blind {D : va_G} {cl : List vw_C} {tys : List (ClassId × FieldType)} {NW : List Cond} {av : List Value} {H0 : Heap} : FrameBlind (xP D cl tys NW av H0) := fun a U g mk q => by
  obtain ⟨q0, q1, q2, q3⟩ := q
  exact ⟨q0, q1, va_K.moved (u := U) (U := U.calling g mk a) (Vm.Alike.refl U.vm) q2, xN.same (u := U) rfl q3⟩
theorem xP_of {D : va_G} {cl : List vw_C} {tys : List (ClassId × FieldType)} {NW : List Cond} {av : List Value} {H : Heap} {s : State} (hK : va_K D cl tys s) (hN : xN NW s) : ∀ U : State, U.heap = H → s.WarmedH U.vm → xP D cl tys NW av H av.toArray U :=
  fun _ hU hW => ⟨rfl, hU, va_K.moved hW.alike hK, hN.warm hW⟩
theorem xw.recv {s : State} {H : Heap} {D : va_G} {cl : List vw_C} {B t a ci : Nat} {ad : Nat → Nat} {w : Nat → Option va_E} {q : vw_C} {fs : List Value} {tys : List (ClassId × FieldType)} (h : xw D cl B ad w H) (hK : va_K D cl tys s) (hc : cl[ci]? = some q) (he : w t = some (.inr (ci, fs))) (ha : ad t = a) : ∃ cell : Cell, H[a]? = some cell ∧ cell.vm.isStatics = false ∧ s.vm.findClass q.1 = some cell.cls := by
  subst ha
  obtain ⟨q', h1, cell, g1, g2, g3, -⟩ := h.1 t _ he
  exact ⟨cell, g1, by rw [g3]; rfl, by rw [g2]; exact (hK.1 ci q hc).2.1⟩
section XLR
variable {p : Program} {l : Launch} {e : Env} {R : Room} {s : State} {m : MethodId} {args : Array Value} {below : List Frame} {meth : Method} {c : Code} {H : Heap} {locs : List Loc} {cells slots : Nat} {Q : State → Prop}
variable {cc : ByteArray} {pc : Nat} {ls : Array Slot} {rest : List Value} {D : va_G} {cl : List vw_C} {a B : Nat} {tys : List (ClassId × FieldType)} {ad : Nat → Nat} {w : Nat → Option va_E} {H0 : Heap}
theorem xr_one {t : Nat} {e : va_E} (hw : xw D cl B ad w H) (he : w t = some e) (ha : ad t = a) : va_P D cl [(a, e)] H := fun k q hk => by
  have hz : k < 1 := (List.getElem?_eq_some_iff.mp hk).1
  rw [show k = 0 by omega] at hk
  cases hk
  rw [← ha]; exact hw.1 t e he
theorem xr_get (hexec : p.tables.exec = Jvm.exec) (hb : c.code = cc) {own ref C : String} {T : u_T} {N ci index : Nat} {Ts : List Cond} (hts : ∀ w ∈ Ts, w.before args s = true) (hin : ∀ w ∈ u_ws C T N, w ∈ Ts) (hown : s.vm.findClass own = some m.cls) (hK : va_K D cl tys s) (hw : xw D cl B ad w H) (t : Nat) {fs : List Value} (he : w t = some (.inr (ci, fs))) (ha : ad t = a) (hc : cl[ci]? = some (C, T, N)) (k : Nat) (hk : k < N) (hlink : (Cond.fieldLink own index ref (T k).2.1 (T k).2.2.1).before args s = true) (hsame : ∀ x, s.fieldFound? (T k).1 (T k).2.1 (T k).2.2.1 = some x → s.fieldFound? ref (T k).2.1 (T k).2.2.1 = some x) {v : Value} (hv : fs[k]? = some v) (hdg : decode cc pc = .ok (.getfield index, 3))
    (kk : W p l e R s m args below meth c H locs cells slots Q (F0 m (pc + 3) ls (v :: rest))) : W p l e R s m args below meth c H locs cells slots Q (F0 m pc ls (.ref a :: rest)) :=
  va_get hexec hb hts hin hown hK (xr_one hw he ha) 0 rfl hc k hk hlink hsame hv hdg kk
theorem xr_put (hexec : p.tables.exec = Jvm.exec) (hb : c.code = cc) {own ref C : String} {T : u_T} {N ci index : Nat} {Ts : List Cond} (hts : ∀ w ∈ Ts, w.before args s = true) (hin : ∀ w ∈ u_ws C T N, w ∈ Ts) (ty0 : Nat → FieldType) (hty : ∀ k, k < N → parseFieldDescriptor (T k).2.2.1 = some (ty0 k)) (hnm : ∀ a, a < N → ∀ b, b < N → a ≠ b → (T a).2.1 ≠ (T b).2.1) (hown : s.vm.findClass own = some m.cls) (hK : va_K D cl tys s) (hw : xw D cl B ad w H) (hS : va_S (fun q => B ≤ q) H0 H locs) (t : Nat) {fs : List Value} (he : w t = some (.inr (ci, fs))) (ha : ad t = a) (hc : cl[ci]? = some (C, T, N)) (k : Nat) (hk : k < N) (hlink : (Cond.fieldLink own index ref (T k).2.1 (T k).2.2.1).before args s = true) (hsame : ∀ x, s.fieldFound? (T k).1 (T k).2.1 (T k).2.2.1 = some x → s.fieldFound? ref (T k).2.1 (T k).2.2.1 = some x) (hfin : (T k).2.2.2 = false) {ty : FieldType} {v : Value} (hd : parseFieldDescriptor (T k).2.2.1 = some ty) (hn : narrow ty v = v) (hfit : fits ty v = true) (hl : k < fs.length)
    (hdg : decode cc pc = .ok (.putfield index, 3)) (kk : ∀ (H1 : Heap) (locs1 : List Loc), xw D cl B ad (xu w t (.inr (ci, fs.set k v))) H1 → va_S (fun q => B ≤ q) H0 H1 locs1 → W p l e R s m args below meth c H1 locs1 cells slots Q (F0 m (pc + 3) ls rest)) : W p l e R s m args below meth c H locs cells slots Q (F0 m pc ls (v :: .ref a :: rest)) := by
  subst ha
  have hap := va_apart (own := own) hts hin ty0 hty hnm hK hc
  obtain ⟨r, h1, cell, q1, q2, q3, q4⟩ := hw.1 t _ he
  have hr : r = (C, T, N) := Option.some.inj (h1.symm.trans hc)
  subst hr
  obtain ⟨hS0, hfc, kC, hkC, hkind⟩ := hK.1 ci _ hc
  obtain ⟨cf, kf, fi, f, hi, hsl⟩ := hS0 k hk
  have hlay := hts _ (hin _ (u_in_lay hk))
  unfold u_lay at hlay
  rw [if_neg (by rw [hfin]; decide)] at hlay
  have hst := (u_facts hfc hkC (u_lays hts hin hk) hi).1
  have h6 := u_store hfc hkC hkind hlay hi hd hn hfit
  refine W.putK hexec hb (f := f) ⟨hown, hlink, ⟨_, _, _, hsame _ hi⟩, hst⟩ (by rw [q2]; exact h6) q1 q3 (by rw [hsl]; exact k2_hasslot (q4 k hk)) rfl rfl hdg fun H' e1 e2 e3 => ?_
  rw [hsl] at e1 ⊢
  exact kk H' _ (hw.set he ⟨_, hc, t_OB.to (V := updV (vp_V fs) k v) ⟨_, e1, q2, q3, t_set q4 hap hk v⟩ (fun j _ => vp_updV_set hl v j)⟩ e3) (hS.put e2 e3 (hw.2.2 t (by rw [he]; exact fun z => by cases z)))
theorem xr_putF (hexec : p.tables.exec = Jvm.exec) (hb : c.code = cc) {own ref C : String} {T : u_T} {N ci index : Nat} {Ts : List Cond} (hts : ∀ w ∈ Ts, w.before args s = true) (hin : ∀ w ∈ u_ws C T N, w ∈ Ts) (ty0 : Nat → FieldType) (hty : ∀ k, k < N → parseFieldDescriptor (T k).2.2.1 = some (ty0 k)) (hnm : ∀ a, a < N → ∀ b, b < N → a ≠ b → (T a).2.1 ≠ (T b).2.1) (hown : s.vm.findClass own = some m.cls) (hK : va_K D cl tys s) (hw : xw D cl B ad w H) (hS : va_S (fun q => B ≤ q) H0 H locs) (t : Nat) {fs : List Value} (he : w t = some (.inr (ci, fs))) (ha : ad t = a) (hc : cl[ci]? = some (C, T, N)) (k : Nat) (hk : k < N) (hlink : (Cond.fieldLink own index ref (T k).2.1 (T k).2.2.1).before args s = true) (hsame : ∀ x, s.fieldFound? (T k).1 (T k).2.1 (T k).2.2.1 = some x → s.fieldFound? ref (T k).2.1 (T k).2.2.1 = some x) (hfin : (T k).2.2.2 = true) (hin2 : meth.name = "<init>") (hdecl : (T k).1 = own) {ty : FieldType} {v : Value} (hd : parseFieldDescriptor (T k).2.2.1 = some ty) (hn : narrow ty v = v) (hfit : fits ty v = true) (hl : k < fs.length)
    (hdg : decode cc pc = .ok (.putfield index, 3)) (kk : ∀ (H1 : Heap) (locs1 : List Loc), xw D cl B ad (xu w t (.inr (ci, fs.set k v))) H1 → va_S (fun q => B ≤ q) H0 H1 locs1 → W p l e R s m args below meth c H1 locs1 cells slots Q (F0 m (pc + 3) ls rest)) : W p l e R s m args below meth c H locs cells slots Q (F0 m pc ls (v :: .ref a :: rest)) := by
  subst ha
  have hap := va_apart (own := own) hts hin ty0 hty hnm hK hc
  obtain ⟨r, h1, cell, q1, q2, q3, q4⟩ := hw.1 t _ he
  have hr : r = (C, T, N) := Option.some.inj (h1.symm.trans hc)
  subst hr
  obtain ⟨hS0, hfc, kC, hkC, hkind⟩ := hK.1 ci _ hc
  obtain ⟨cf, kf, fi, f, hi, hsl⟩ := hS0 k hk
  have hlay := hts _ (hin _ (u_in_lay hk))
  unfold u_lay at hlay
  rw [if_pos hfin] at hlay
  have hst := (u_facts hfc hkC (u_lays hts hin hk) hi).1
  have hcf : m.cls = cf := by
    obtain ⟨_, _, c', _, _, _, -, -, hf', -, -, -, hown2, -⟩ := Cond.laysFinal_spec hlay
    have e1 : c' = cf := by have := hi.symm.trans hf'; simp at this; exact this.1.symm
    rw [hdecl] at hown2
    rw [← e1]; exact Option.some.inj (hown.symm.trans hown2)
  have h6 := u_fits hfc hkC hkind (Or.inr hlay) hi hd hn hfit
  refine W.putFinK hexec hb hown hlink (hsame _ hi) hst hcf hin2 (by rw [q2]; exact h6) q1 q3 (by rw [hsl]; exact k2_hasslot (q4 k hk)) rfl rfl hdg fun H' e1 e2 e3 => ?_
  rw [hsl] at e1 ⊢
  exact kk H' _ (hw.set he ⟨_, hc, t_OB.to (V := updV (vp_V fs) k v) ⟨_, e1, q2, q3, t_set q4 hap hk v⟩ (fun j _ => vp_updV_set hl v j)⟩ e3) (hS.put e2 e3 (hw.2.2 t (by rw [he]; exact fun z => by cases z)))
theorem xr_iald (hexec : p.tables.exec = Jvm.exec) (hb : c.code = cc) (hK : va_K D cl tys s) (hw : xw D cl B ad w H) (t t0 : Nat) {cA : ClassId} {n : Nat} {f : Nat → Int32} (he : w t = some (.inl (cA, n, .inl f))) (ha : ad t = a) (ht : tys[t0]? = some (cA, .int)) {i : Int32} (hin : vp_in i n) (hdg : decode cc pc = .ok (.iaload, 1))
    (kk : W p l e R s m args below meth c H locs cells slots Q (F0 m (pc + 1) ls (.int (f i.toNatClampNeg) :: rest))) : W p l e R s m args below meth c H locs cells slots Q (F0 m pc ls (.int i :: .ref a :: rest)) :=
  va_iald hexec hb hK (xr_one hw he ha) 0 t0 rfl ht hin hdg kk
theorem xr_zald (hexec : p.tables.exec = Jvm.exec) (hb : c.code = cc) (hK : va_K D cl tys s) (hw : xw D cl B ad w H) (t t0 : Nat) {cA : ClassId} {n : Nat} {f : Nat → Int32} (he : w t = some (.inl (cA, n, .inl f))) (ha : ad t = a) (ht : tys[t0]? = some (cA, .boolean)) {i : Int32} (hin : vp_in i n) (hdg : decode cc pc = .ok (.baload, 1))
    (kk : W p l e R s m args below meth c H locs cells slots Q (F0 m (pc + 1) ls (.int (f i.toNatClampNeg) :: rest))) : W p l e R s m args below meth c H locs cells slots Q (F0 m pc ls (.int i :: .ref a :: rest)) :=
  va_zald hexec hb hK (xr_one hw he ha) 0 t0 rfl ht hin hdg kk
theorem xr_lald (hexec : p.tables.exec = Jvm.exec) (hb : c.code = cc) (hK : va_K D cl tys s) (hw : xw D cl B ad w H) (t t0 : Nat) {cA : ClassId} {n : Nat} {f : Nat → Int64} (he : w t = some (.inl (cA, n, .inr (.inl f)))) (ha : ad t = a) (ht : tys[t0]? = some (cA, .long)) {i : Int32} (hin : vp_in i n) (hdg : decode cc pc = .ok (.laload, 1))
    (kk : W p l e R s m args below meth c H locs cells slots Q (F0 m (pc + 1) ls (.long (f i.toNatClampNeg) :: rest))) : W p l e R s m args below meth c H locs cells slots Q (F0 m pc ls (.int i :: .ref a :: rest)) :=
  va_lald hexec hb hK (xr_one hw he ha) 0 t0 rfl ht hin hdg kk
theorem xr_aldq (hexec : p.tables.exec = Jvm.exec) (hb : c.code = cc) (hK : va_K D cl tys s) (hw : xw D cl B ad w H) (t t0 : Nat) {cA : ClassId} {C : String} {n : Nat} {f : Nat → Option Nat} (he : w t = some (.inl (cA, n, .inr (.inr (.inr (.inr f)))))) (ha : ad t = a) (ht : tys[t0]? = some (cA, .object C)) {i : Int32} (hin : vp_in i n) (hdg : decode cc pc = .ok (.aaload, 1))
    (kk : W p l e R s m args below meth c H locs cells slots Q (F0 m (pc + 1) ls (va_rf (f i.toNatClampNeg) :: rest))) : W p l e R s m args below meth c H locs cells slots Q (F0 m pc ls (.int i :: .ref a :: rest)) :=
  va_aldq hexec hb hK (xr_one hw he ha) 0 t0 rfl ht hin hdg kk
theorem xr_alen (hexec : p.tables.exec = Jvm.exec) (hb : c.code = cc) (hK : va_K D cl tys s) (hw : xw D cl B ad w H) (t t0 : Nat) {cA : ClassId} {x : vp_A} (he : w t = some (.inl (cA, x))) (ha : ad t = a) {ty : FieldType} (ht : tys[t0]? = some (cA, ty)) {v : Int32} (hv : Int32.ofNat x.1 = v) (hdg : decode cc pc = .ok (.arraylength, 1))
    (kk : W p l e R s m args below meth c H locs cells slots Q (F0 m (pc + 1) ls (.int v :: rest))) : W p l e R s m args below meth c H locs cells slots Q (F0 m pc ls (.ref a :: rest)) :=
  va_alen hexec hb hK (xr_one hw he ha) 0 t0 rfl ht hv hdg kk
theorem xr_iast (hexec : p.tables.exec = Jvm.exec) (hb : c.code = cc) (hK : va_K D cl tys s) (hw : xw D cl B ad w H) (hS : va_S (fun q => B ≤ q) H0 H locs) (t t0 : Nat) {cA : ClassId} {n : Nat} {f : Nat → Int32} (he : w t = some (.inl (cA, n, .inl f))) (ha : ad t = a) (ht : tys[t0]? = some (cA, .int)) {i x : Int32} (hin : vp_in i n) (hdg : decode cc pc = .ok (.iastore, 1))
    (kk : ∀ (H1 : Heap) (locs1 : List Loc), xw D cl B ad (xu w t (.inl (cA, n, .inl (upd f i.toNatClampNeg x)))) H1 → va_S (fun q => B ≤ q) H0 H1 locs1 → W p l e R s m args below meth c H1 locs1 cells slots Q (F0 m (pc + 1) ls rest)) : W p l e R s m args below meth c H locs cells slots Q (F0 m pc ls (.int x :: .int i :: .ref a :: rest)) := by
  subst ha
  refine W.iast hexec hb (hw.1 t _ he) ((hK.2 t0 _ ht).1 n (fun j => .int (f j))) (fun q => by cases q) (by show ¬ (i < 0 ∨ (arrV _ _ _).slots.size ≤ _); rw [arrV_size]; exact hin) rfl rfl hdg fun H1 e z oq => ?_
  refine kk H1 _ (hw.set he ?_ oq) (hS.put z oq (hw.2.2 t (by rw [he]; exact fun z => by cases z)))
  show H1[ad t]? = some (vp_cell _ _)
  rw [e]
  rw [vp_cell_i, vp_cell_i, arrV_store]
  congr 2
  funext q
  by_cases hq : q = i.toNatClampNeg
  · subst hq
    simp [updV, upd]
  · simp [updV, upd, hq]
theorem xr_last (hexec : p.tables.exec = Jvm.exec) (hb : c.code = cc) (hK : va_K D cl tys s) (hw : xw D cl B ad w H) (hS : va_S (fun q => B ≤ q) H0 H locs) (t t0 : Nat) {cA : ClassId} {n : Nat} {f : Nat → Int64} (he : w t = some (.inl (cA, n, .inr (.inl f)))) (ha : ad t = a) (ht : tys[t0]? = some (cA, .long)) {i : Int32} {x : Int64} (hin : vp_in i n) (hdg : decode cc pc = .ok (.lastore, 1))
    (kk : ∀ (H1 : Heap) (locs1 : List Loc), xw D cl B ad (xu w t (.inl (cA, n, .inr (.inl (vp_updL f i.toNatClampNeg x))))) H1 → va_S (fun q => B ≤ q) H0 H1 locs1 → W p l e R s m args below meth c H1 locs1 cells slots Q (F0 m (pc + 1) ls rest)) : W p l e R s m args below meth c H locs cells slots Q (F0 m pc ls (.long x :: .int i :: .ref a :: rest)) := by
  subst ha
  refine W.last hexec hb (hw.1 t _ he) ((hK.2 t0 _ ht).1 n (fun j => .long (f j))) (fun q => by cases q) (by show ¬ (i < 0 ∨ (arrV _ _ _).slots.size ≤ _); rw [arrV_size]; exact hin) rfl rfl hdg fun H1 e z oq => ?_
  refine kk H1 _ (hw.set he ?_ oq) (hS.put z oq (hw.2.2 t (by rw [he]; exact fun z => by cases z)))
  show H1[ad t]? = some (vp_cell _ _)
  rw [e]
  rw [vp_cell_l, vp_cell_l, arrV_store]
  congr 2
  funext q
  by_cases hq : q = i.toNatClampNeg
  · subst hq
    simp [updV, vp_updL]
  · simp [updV, vp_updL, hq]
theorem xr_astq (hexec : p.tables.exec = Jvm.exec) (hb : c.code = cc) (hK : va_K D cl tys s) (hw : xw D cl B ad w H) (hS : va_S (fun q => B ≤ q) H0 H locs) (t t0 u ci : Nat) {cA : ClassId} {r : vw_C} {n v : Nat} {vs : List Value} {f : Nat → Option Nat} (he : w t = some (.inl (cA, n, .inr (.inr (.inr (.inr f)))))) (ha : ad t = a) (ht : tys[t0]? = some (cA, .object r.1)) (hv : w u = some (.inr (ci, vs))) (hav : ad u = v) (hc : cl[ci]? = some r) {i : Int32} (hin : vp_in i n) (hdg : decode cc pc = .ok (.aastore, 1))
    (kk : ∀ (H1 : Heap) (locs1 : List Loc), xw D cl B ad (xu w t (.inl (cA, n, .inr (.inr (.inr (.inr (va_up f i.toNatClampNeg (some v)))))))) H1 → va_S (fun q => B ≤ q) H0 H1 locs1 → W p l e R s m args below meth c H1 locs1 cells slots Q (F0 m (pc + 1) ls rest)) : W p l e R s m args below meth c H locs cells slots Q (F0 m pc ls (.ref v :: .int i :: .ref a :: rest)) := by
  subst ha
  subst hav
  have hlt : i.toNatClampNeg < n := Nat.not_le.mp fun q => hin (Or.inr q)
  have h0 : ¬ i < 0 := fun q => hin (Or.inl q)
  obtain ⟨r', hr', cellV, g1, g2, g3, -⟩ := hw.1 u _ hv
  have hcls := (hK.1 ci r hc).2
  obtain ⟨kA, comp, k1, k2, k3, -⟩ := (hK.2 t0 _ ht).2
  have hcomp : comp = D.1 ci := Option.some.inj (k3.symm.trans hcls.1)
  subst hcomp
  obtain ⟨kC, hkC, -⟩ := hcls.2
  refine W.aast hexec hb (hw.1 t _ he) (fun q h => by cases h) (fun h => by cases h) k1 k2 rfl hkC ⟨h0, by show _ < (arrV _ _ _).slots.size; rw [arrV_size]; exact hlt⟩ g1 (fun q h => by rw [g3] at h; cases h) (by rw [g2]; exact hkC) (by rw [g2]; exact va_assign hcls) rfl rfl hdg fun H1 e z oq => ?_
  refine kk H1 _ (hw.set he ?_ oq) (hS.put z oq (hw.2.2 t (by rw [he]; exact fun z => by cases z)))
  show H1[ad t]? = some (vp_cell _ _)
  rw [e]
  rw [vp_cell_q, vp_cell_q, arrV_store]
  congr 2
  funext q
  by_cases hq : q = i.toNatClampNeg
  · subst hq
    simp [updV, va_up, va_rf]
  · simp [updV, va_up, hq]
theorem xS_grow {H1 : Heap} {B : Nat} (hS : va_S (fun q => B ≤ q) H0 H locs) (z : H.size ≤ H1.size) (o1 : ∀ q : Nat, q < H.size → H1[q]? = H[q]?) : va_S (fun q => B ≤ q) H0 H1 locs :=
  ⟨Nat.le_trans hS.1 z, fun x h1 h2 => (o1 x (Nat.lt_of_lt_of_le h1 hS.1)).trans (hS.2.1 x h1 h2), hS.2.2⟩
/-- a new object, under a tag of our choice -/
theorem xr_new (hexec : p.tables.exec = Jvm.exec) (hb : c.code = cc) {own C : String} {T : u_T} {N ci index : Nat} {Ts : List Cond} (hts : ∀ w ∈ Ts, w.before args s = true) (hin : ∀ w ∈ u_ws C T N, w ∈ Ts) (ty : Nat → FieldType) (hty : ∀ k, k < N → parseFieldDescriptor (T k).2.2.1 = some (ty k)) (hown : s.vm.findClass own = some m.cls) (hcl : (Cond.classLink own index C).before args s = true) (hinst : (Cond.instantiable C N).before args s = true) (hini : (Cond.initialized C).before args s = true)
    (hK : va_K D cl tys s) (hw : xw D cl B ad w H) (hS : va_S (fun q => B ≤ q) H0 H locs) (hB : B ≤ H0.size) (t : Nat) (hc : cl[ci]? = some (C, T, N)) {fs : List Value} (hfs : ∀ j, j < N → defaultValue (ty j) = vp_V fs j) (hcells : cells + 1 ≤ R.cells) (hslots : slots + N ≤ R.slots) (hdg : decode cc pc = .ok (.new index, 3))
    (kk : ∀ (H1 : Heap) (ad1 : Nat → Nat) (q : Nat), ad1 = xa ad t q → H.size ≤ q → xw D cl B ad1 (xu w t (.inr (ci, fs))) H1 → va_S (fun q => B ≤ q) H0 H1 locs →
      W p l e R s m args below meth c H1 locs (cells + 1) (slots + N) Q (F0 m (pc + 3) ls (.ref q :: rest))) : W p l e R s m args below meth c H locs cells slots Q (F0 m pc ls rest) := by
  have hKn := hK.1 ci _ hc
  refine W.newcK hexec hb hown hcl hinst hini rfl hdg hcells hslots hKn.2.1 rfl fun H1 kC hkC e1 z1 o1 => ?_
  exact kk H1 _ H.size rfl (Nat.le_refl _) (hw.new t ⟨_, hc, (u_born ty hts hin hKn hkC e1 hty).to hfs⟩ (Nat.le_trans hB hS.1) o1) (xS_grow hS (by omega) o1)
theorem xr_newa (hexec : p.tables.exec = Jvm.exec) (hb : c.code = cc) {atype : ArrayType} (harr : (Cond.arrayClass (newarray.typeOf atype)).before args s = true) {ty : FieldType} (hty : newarray.typeOf atype = ty) (hK : va_K D cl tys s) (hw : xw D cl B ad w H) (hS : va_S (fun q => B ≤ q) H0 H locs) (hB : B ≤ H0.size) (t t0 : Nat) {cA : ClassId} (ht : tys[t0]? = some (cA, ty)) (hno : ∀ C, ty ≠ .object C)
    {n : Int32} {N' : Nat} {a0 : vp_A} (ha : ∀ cA : ClassId, vp_cell cA a0 = arrV cA N' (fun _ => defaultValue ty)) (hn : ¬ n < 0) (hN : n.toNatClampNeg = N') (hbytes : N' * componentBytes ty ≤ 536870912) (hcells : cells + 1 ≤ R.cells) (hslots : slots + N' ≤ R.slots) (hdg : decode cc pc = .ok (.newarray atype, 2))
    (kk : ∀ (H1 : Heap) (ad1 : Nat → Nat) (q : Nat), ad1 = xa ad t q → H.size ≤ q → xw D cl B ad1 (xu w t (.inl (cA, a0))) H1 → va_S (fun q => B ≤ q) H0 H1 locs →
      W p l e R s m args below meth c H1 locs (cells + 1) (slots + N') Q (F0 m (pc + 2) ls (.ref q :: rest))) : W p l e R s m args below meth c H locs cells slots Q (F0 m pc ls (.int n :: rest)) := by
  subst hty
  refine va_newaK hexec hb harr rfl hdg rfl hn hN hbytes hcells hslots rfl fun H1 cA' e1 z1 o1 hAr hNm => ?_
  have hcc : cA' = cA := by
    have h2 := (hK.2 t0 _ ht).2
    have h3 : s.vm.findClass ("[" ++ (newarray.typeOf atype).toString) = some cA := by
      cases atype <;> exact h2
    exact Option.some.inj (hNm.symm.trans h3)
  subst hcc
  refine kk H1 _ H.size rfl (Nat.le_refl _) (hw.new t ?_ (Nat.le_trans hB hS.1) o1) (xS_grow hS (by omega) o1)
  show H1[H.size]? = some (vp_cell _ _)
  rw [ha]
  exact e1
theorem xr_newq (hexec : p.tables.exec = Jvm.exec) (hb : c.code = cc) {own C : String} {index : Nat} (hown : s.vm.findClass own = some m.cls) (hclink : (Cond.classLink own index C).before args s = true) (hover : va_AO C s) (hK : va_K D cl tys s) (hw : xw D cl B ad w H) (hS : va_S (fun q => B ≤ q) H0 H locs) (hB : B ≤ H0.size) (t t0 : Nat) {cA : ClassId} (ht : tys[t0]? = some (cA, .object C))
    {n : Int32} {N' : Nat} (hn : ¬ n < 0) (hN : n.toNatClampNeg = N') (hbytes : N' * 4 ≤ 536870912) (hcells : cells + 1 ≤ R.cells) (hslots : slots + N' ≤ R.slots) (hdg : decode cc pc = .ok (.anewarray index, 3))
    (kk : ∀ (H1 : Heap) (ad1 : Nat → Nat) (q : Nat), ad1 = xa ad t q → H.size ≤ q → xw D cl B ad1 (xu w t (.inl (cA, N', .inr (.inr (.inr (.inr (fun _ => none))))))) H1 → va_S (fun q => B ≤ q) H0 H1 locs →
      W p l e R s m args below meth c H1 locs (cells + 1) (slots + N') Q (F0 m (pc + 3) ls (.ref q :: rest))) : W p l e R s m args below meth c H locs cells slots Q (F0 m pc ls (.int n :: rest)) := by
  subst hN
  refine W.anew hexec hb hown hclink (va_AO.use hover) rfl hdg rfl hn hbytes hcells hslots fun cA' kA comp f1 f2 f3 f4 => ?_
  have hcc : cA' = cA := by
    obtain ⟨_, _, _, _, _, h4⟩ := (hK.2 t0 _ ht).2
    exact Option.some.inj (f1.symm.trans h4)
  subst hcc
  generalize hH1 : H.push ({ cls := cA', slots := Array.replicate n.toNatClampNeg .null, vm := .none } : Cell) = H1
  have z1 : H1.size = H.size + 1 := by rw [← hH1, Array.size_push]
  have e1 : H1[H.size]? = some (arrV cA' n.toNatClampNeg (fun _ => .null)) := by rw [← hH1, Array.getElem?_push_size, ← arrV_new]
  have o1 : ∀ q : Nat, q < H.size → H1[q]? = H[q]? := fun q hq => by rw [← hH1, Array.getElem?_push, if_neg (Nat.ne_of_lt hq)]
  refine kk H1 _ H.size rfl (Nat.le_refl _) (hw.new t ?_ (Nat.le_trans hB hS.1) o1) (xS_grow hS (by omega) o1)
  show H1[H.size]? = some (vp_cell _ _)
  rw [vp_cell_q]
  exact e1
/-- behind a call -/
theorem xr_call {st0 : List Value} {av : Array Value} {mc ms : Nat} {post : Option Value → Heap → Prop} (hr : va_Run p l e R s m args below meth c H locs cells slots mc ms (F0 m pc ls st0) rest (xQ B post av) (fun q => B ≤ q)) (hS : va_S (fun q => B ≤ q) H0 H locs)
    (kk : ∀ (v : Option Value) (H1 : Heap) (locs1 : List Loc), post v H1 → va_S (fun q => B ≤ q) H0 H1 locs1 → W p l e R s m args below meth c H1 locs1 (cells + mc) (slots + ms) Q (F0 m (pc + 3) ls (v.toList ++ rest))) : W p l e R s m args below meth c H locs cells slots Q (F0 m pc ls st0) := by
  intro T hT X
  obtain ⟨v, st₀, t, T', L, h0, X', hL, e1, e2, ⟨v2, hv, hp, hz, hk⟩, st⟩ := hr T hT X
  cases hv
  rw [h0] at hz hk
  obtain ⟨t2, a1, b1⟩ := kk v T'.heap (locs ++ L) (by rw [e1]; exact hp)
    ⟨Nat.le_trans hS.1 (by rw [e1]; exact hz), fun q h1 h2 => by rw [e1, hk q (Nat.lt_of_lt_of_le h1 hS.1) h2]; exact hS.2.1 q h1 h2, fun q hq => by
      rcases List.mem_append.mp hq with h | h
      · exact hS.2.2 q h
      · exact hL q h⟩ T' rfl X'
  exact ⟨t2, st t2 a1, b1⟩
end XLR
section XLC
variable {p : Program} {l : Launch} {e : Env} {R : Room} {s : State} {m : MethodId} {args : Array Value} {below : List Frame} {meth : Method} {c : Code} {H : Heap} {locs : List Loc} {cells slots : Nat} {Q : State → Prop}
variable {cc : ByteArray} {pc : Nat} {ls : Array Slot} {rest : List Value}
theorem xr_lc_lt (hexec : p.tables.exec = Jvm.exec) (hb : c.code = cc) {x y : Int64} {off : Int} {tgt : Nat} (hd1 : decode cc pc = .ok (.lcmp, 1)) (hd2 : decode cc (pc + 1) = .ok (.ifCond .lt off, 3)) (ht : ((pc + 1 : Nat) : Int) + off = (tgt : Int)) (kt : x < y → W p l e R s m args below meth c H locs cells slots Q (F0 m tgt ls rest)) (kf : ¬ x < y → W p l e R s m args below meth c H locs cells slots Q (F0 m (pc + 1 + 3) ls rest)) : W p l e R s m args below meth c H locs cells slots Q (F0 m pc ls (.long y :: .long x :: rest)) :=
  W.lcmp hexec hb hd1 (lv_if_lt hexec hb hd2 ht (fun h => kt ((lg_cmp_lt x y).mp h)) (fun h => kf (fun z => h ((lg_cmp_lt x y).mpr z))))
theorem xr_lc_gt (hexec : p.tables.exec = Jvm.exec) (hb : c.code = cc) {x y : Int64} {off : Int} {tgt : Nat} (hd1 : decode cc pc = .ok (.lcmp, 1)) (hd2 : decode cc (pc + 1) = .ok (.ifCond .gt off, 3)) (ht : ((pc + 1 : Nat) : Int) + off = (tgt : Int)) (kt : y < x → W p l e R s m args below meth c H locs cells slots Q (F0 m tgt ls rest)) (kf : ¬ y < x → W p l e R s m args below meth c H locs cells slots Q (F0 m (pc + 1 + 3) ls rest)) : W p l e R s m args below meth c H locs cells slots Q (F0 m pc ls (.long y :: .long x :: rest)) :=
  W.lcmp hexec hb hd1 (lv_if_gt hexec hb hd2 ht (fun h => kt ((lg_cmp_gt x y).mp h)) (fun h => kf (fun z => h ((lg_cmp_gt x y).mpr z))))
theorem xr_lc_ge (hexec : p.tables.exec = Jvm.exec) (hb : c.code = cc) {x y : Int64} {off : Int} {tgt : Nat} (hd1 : decode cc pc = .ok (.lcmp, 1)) (hd2 : decode cc (pc + 1) = .ok (.ifCond .ge off, 3)) (ht : ((pc + 1 : Nat) : Int) + off = (tgt : Int)) (kt : y ≤ x → W p l e R s m args below meth c H locs cells slots Q (F0 m tgt ls rest)) (kf : ¬ y ≤ x → W p l e R s m args below meth c H locs cells slots Q (F0 m (pc + 1 + 3) ls rest)) : W p l e R s m args below meth c H locs cells slots Q (F0 m pc ls (.long y :: .long x :: rest)) :=
  W.lcmp hexec hb hd1 (lv_if_ge hexec hb hd2 ht (fun h => kt ((lg_cmp_ge x y).mp h)) (fun h => kf (fun z => h ((lg_cmp_ge x y).mpr z))))
theorem xr_lc_le (hexec : p.tables.exec = Jvm.exec) (hb : c.code = cc) {x y : Int64} {off : Int} {tgt : Nat} (hd1 : decode cc pc = .ok (.lcmp, 1)) (hd2 : decode cc (pc + 1) = .ok (.ifCond .le off, 3)) (ht : ((pc + 1 : Nat) : Int) + off = (tgt : Int)) (kt : x ≤ y → W p l e R s m args below meth c H locs cells slots Q (F0 m tgt ls rest)) (kf : ¬ x ≤ y → W p l e R s m args below meth c H locs cells slots Q (F0 m (pc + 1 + 3) ls rest)) : W p l e R s m args below meth c H locs cells slots Q (F0 m pc ls (.long y :: .long x :: rest)) :=
  W.lcmp hexec hb hd1 (lv_if_le hexec hb hd2 ht (fun h => kt ((lg_cmp_le x y).mp h)) (fun h => kf (fun z => h ((lg_cmp_le x y).mpr z))))
theorem xr_lc_eq (hexec : p.tables.exec = Jvm.exec) (hb : c.code = cc) {x y : Int64} {off : Int} {tgt : Nat} (hd1 : decode cc pc = .ok (.lcmp, 1)) (hd2 : decode cc (pc + 1) = .ok (.ifCond .eq off, 3)) (ht : ((pc + 1 : Nat) : Int) + off = (tgt : Int)) (kt : x = y → W p l e R s m args below meth c H locs cells slots Q (F0 m tgt ls rest)) (kf : ¬ x = y → W p l e R s m args below meth c H locs cells slots Q (F0 m (pc + 1 + 3) ls rest)) : W p l e R s m args below meth c H locs cells slots Q (F0 m pc ls (.long y :: .long x :: rest)) :=
  W.lcmp hexec hb hd1 (lv_if_eq hexec hb hd2 ht (fun h => kt ((lg_cmp_eq x y).mp h)) (fun h => kf (fun z => h ((lg_cmp_eq x y).mpr z))))
theorem xr_lc_ne (hexec : p.tables.exec = Jvm.exec) (hb : c.code = cc) {x y : Int64} {off : Int} {tgt : Nat} (hd1 : decode cc pc = .ok (.lcmp, 1)) (hd2 : decode cc (pc + 1) = .ok (.ifCond .ne off, 3)) (ht : ((pc + 1 : Nat) : Int) + off = (tgt : Int)) (kt : ¬ x = y → W p l e R s m args below meth c H locs cells slots Q (F0 m tgt ls rest)) (kf : x = y → W p l e R s m args below meth c H locs cells slots Q (F0 m (pc + 1 + 3) ls rest)) : W p l e R s m args below meth c H locs cells slots Q (F0 m pc ls (.long y :: .long x :: rest)) :=
  W.lcmp hexec hb hd1 (lv_if_ne hexec hb hd2 ht (fun h => kt (fun z => h ((lg_cmp_eq x y).mpr z))) (fun h => kf ((lg_cmp_eq x y).mp h)))
end XLC
/-- a truth value as the machine has it -/
def bI (b : Bool) : Int32 := if b then 1 else 0
theorem bI_f {b : Bool} : bI b = 0 ↔ b = false := by cases b <;> decide
theorem bI_t {b : Bool} : ¬ bI b = 0 ↔ b = true := by cases b <;> decide
theorem bI_nar {b : Bool} : narrow .boolean (.int (bI b)) = .int (bI b) := by cases b <;> rfl
theorem bI_fit {b : Bool} : fits .boolean (.int (bI b)) = true := by cases b <;> rfl
theorem bI_1 {b : Bool} (h : b = true) : some (Value.int 1) = some (Value.int (bI b)) := by subst h; rfl
theorem bI_0 {b : Bool} (h : b = false) : some (Value.int 0) = some (Value.int (bI b)) := by subst h; rfl
theorem bI_inj {a b : Bool} : bI a = bI b ↔ a = b := by cases a <;> cases b <;> decide
