/-! Rows over single cells: a cell read or written at its address, whatever else the heap holds; a world as a family of cells. -/
/-- only the cell a has changed -/
def rr_ch (a : Nat) (H H1 : Heap) : Prop := H1.size = H.size ∧ ∀ q : Nat, q ≠ a → H1[q]? = H[q]?
/-- cells have come, none has changed -/
def rr_gr (H H1 : Heap) : Prop := H1.size = H.size + 1 ∧ ∀ q : Nat, q < H.size → H1[q]? = H[q]?
/-- what a method's walk stands on -/
abbrev CX (p : Program) (m : MethodId) (c : Code) (cc : ByteArray) (nL : Nat) (s : State) (args : Array Value) (Ts : List Cond) (own : String) (D : va_G) (cl : List vw_C) (tys : List (ClassId × FieldType)) : Prop :=
  CallFix p m c cc nL s args Ts own ∧ va_K D cl tys s
theorem rr_one {D : va_G} {cl : List vw_C} {q : Nat × va_E} {H : Heap} (h : va_at D cl q H) : va_P D cl [q] H := by
  intro k x hx
  have hz : k < 1 := (List.getElem?_eq_some_iff.mp hx).1
  rw [show k = 0 by omega] at hx
  cases hx
  exact h
theorem rr_gr.at {D : va_G} {cl : List vw_C} {q : Nat × va_E} {H H1 : Heap} (g : rr_gr H H1) (h : va_at D cl q H) : va_at D cl q H1 := h.kept (g.2 _ h.lt)
theorem rr_ch.at {D : va_G} {cl : List vw_C} {q : Nat × va_E} {a : Nat} {H H1 : Heap} (g : rr_ch a H H1) (h : va_at D cl q H) (hne : q.1 ≠ a) : va_at D cl q H1 := h.kept (g.2 _ hne)
section RR
variable {p : Program} {l : Launch} {e : Env} {R : Room} {s : State} {m : MethodId} {args : Array Value} {below : List Frame} {meth : Method} {c : Code} {H : Heap} {locs : List Loc} {cells slots : Nat} {Q : State → Prop}
variable {cc : ByteArray} {nL pc : Nat} {ls : Array Slot} {rest : List Value} {D : va_G} {cl : List vw_C} {A : Nat → Prop} {a : Nat} {tys : List (ClassId × FieldType)} {H0 : Heap} {Ts : List Cond} {own : String}
theorem rr_get (X : CX p m c cc nL s args Ts own D cl tys) {C : String} {T : u_T} {N ci index : Nat} (hin : ∀ w ∈ u_ws C T N, w ∈ Ts) (hc : cl[ci]? = some (C, T, N)) (k : Nat) (hk : k < N) (hl : Cond.fieldLink own index (T k).1 (T k).2.1 (T k).2.2.1 ∈ Ts) {fs : List Value} (hP : va_at D cl (a, .inr (ci, fs)) H) {v : Value} (hv : fs[k]? = some v) (hdg : decode cc pc = .ok (.getfield index, 3))
    (kk : W p l e R s m args below meth c H locs cells slots Q (F0 m (pc + 3) ls (v :: rest))) : W p l e R s m args below meth c H locs cells slots Q (F0 m pc ls (.ref a :: rest)) :=
  va_get X.1.1 X.1.2.1 X.1.2.2.2.2 hin X.1.2.2.2.1 X.2 (rr_one hP) 0 rfl hc k hk (X.1.2.2.2.2 _ hl) (fun _ h => h) hv hdg kk
theorem rr_put (X : CX p m c cc nL s args Ts own D cl tys) {C : String} {T : u_T} {N ci index : Nat} (hin : ∀ w ∈ u_ws C T N, w ∈ Ts) (ty0 : Nat → FieldType) (hty : ∀ k, k < N → parseFieldDescriptor (T k).2.2.1 = some (ty0 k)) (hnm : ∀ a, a < N → ∀ b, b < N → a ≠ b → (T a).2.1 ≠ (T b).2.1) (hc : cl[ci]? = some (C, T, N)) (k : Nat) (hk : k < N) (hli : Cond.fieldLink own index (T k).1 (T k).2.1 (T k).2.2.1 ∈ Ts) (hfin : (T k).2.2.2 = false) {ty : FieldType} (hd : parseFieldDescriptor (T k).2.2.1 = some ty)
    {fs : List Value} (hP : va_at D cl (a, .inr (ci, fs)) H) (hS0 : va_S A H0 H locs) (hAa : A a) {v : Value} (hn : narrow ty v = v) (hfit : fits ty v = true) (hl : k < fs.length) (hdg : decode cc pc = .ok (.putfield index, 3))
    (kk : ∀ (H1 : Heap) (locs1 : List Loc), va_at D cl (a, .inr (ci, fs.set k v)) H1 → rr_ch a H H1 → va_S A H0 H1 locs1 → W p l e R s m args below meth c H1 locs1 cells slots Q (F0 m (pc + 3) ls rest)) : W p l e R s m args below meth c H locs cells slots Q (F0 m pc ls (v :: .ref a :: rest)) := by
  obtain ⟨⟨hexec, hb, -, hown, hts⟩, hK⟩ := X
  have hap := va_apart (own := own) hts hin ty0 hty hnm hK hc
  obtain ⟨r, h1, cell, q1, q2, q3, q4⟩ := hP
  have hr : r = (C, T, N) := Option.some.inj (h1.symm.trans hc)
  subst hr
  obtain ⟨hS, hfc, kC, hkC, hkind⟩ := hK.1 ci _ hc
  obtain ⟨cf, kf, fi, f, hi, hsl⟩ := hS k hk
  have hlay := hts _ (hin _ (u_in_lay hk))
  unfold u_lay at hlay
  rw [if_neg (by rw [hfin]; decide)] at hlay
  have hst := (u_facts hfc hkC (u_lays hts hin hk) hi).1
  have h6 := u_store hfc hkC hkind hlay hi hd hn hfit
  refine W.putK hexec hb (f := f) ⟨hown, hts _ hli, ⟨_, _, _, hi⟩, hst⟩ (by rw [q2]; exact h6) q1 q3 (by rw [hsl]; exact k2_hasslot (q4 k hk)) rfl rfl hdg fun H' e1 e2 e3 => ?_
  rw [hsl] at e1 ⊢
  exact kk H' _ ⟨_, hc, t_OB.to (V := updV (vp_V fs) k v) ⟨_, e1, q2, q3, t_set q4 hap hk v⟩ (fun j _ => vp_updV_set hl v j)⟩ ⟨e2, e3⟩ (hS0.put e2 e3 hAa)
theorem rr_putF (X : CX p m c cc nL s args Ts own D cl tys) {C : String} {T : u_T} {N ci index : Nat} (hin : ∀ w ∈ u_ws C T N, w ∈ Ts) (ty0 : Nat → FieldType) (hty : ∀ k, k < N → parseFieldDescriptor (T k).2.2.1 = some (ty0 k)) (hnm : ∀ a, a < N → ∀ b, b < N → a ≠ b → (T a).2.1 ≠ (T b).2.1) (hc : cl[ci]? = some (C, T, N)) (k : Nat) (hk : k < N) (hli : Cond.fieldLink own index (T k).1 (T k).2.1 (T k).2.2.1 ∈ Ts) (hfin : (T k).2.2.2 = true) (hdecl : (T k).1 = own) {ty : FieldType} (hd : parseFieldDescriptor (T k).2.2.1 = some ty)
    (hin2 : meth.name = "<init>") {fs : List Value} (hP : va_at D cl (a, .inr (ci, fs)) H) (hS0 : va_S A H0 H locs) (hAa : A a) {v : Value} (hn : narrow ty v = v) (hfit : fits ty v = true) (hl : k < fs.length) (hdg : decode cc pc = .ok (.putfield index, 3))
    (kk : ∀ (H1 : Heap) (locs1 : List Loc), va_at D cl (a, .inr (ci, fs.set k v)) H1 → rr_ch a H H1 → va_S A H0 H1 locs1 → W p l e R s m args below meth c H1 locs1 cells slots Q (F0 m (pc + 3) ls rest)) : W p l e R s m args below meth c H locs cells slots Q (F0 m pc ls (v :: .ref a :: rest)) := by
  obtain ⟨⟨hexec, hb, -, hown, hts⟩, hK⟩ := X
  have hap := va_apart (own := own) hts hin ty0 hty hnm hK hc
  obtain ⟨r, h1, cell, q1, q2, q3, q4⟩ := hP
  have hr : r = (C, T, N) := Option.some.inj (h1.symm.trans hc)
  subst hr
  obtain ⟨hS, hfc, kC, hkC, hkind⟩ := hK.1 ci _ hc
  obtain ⟨cf, kf, fi, f, hi, hsl⟩ := hS k hk
  have hlay := hts _ (hin _ (u_in_lay hk))
  unfold u_lay at hlay
  rw [if_pos hfin] at hlay
  have hst := (u_facts hfc hkC (u_lays hts hin hk) hi).1
  have hcf : m.cls = cf := by
    obtain ⟨_, _, c', _, _, _, -, -, hf', -, -, -, hown2, -⟩ := Cond.laysFinal_spec hlay
    have e1 : c' = cf := by have := hi.symm.trans hf'; simp at this; exact this.1.symm
    rw [hdecl] at hown2
    rw [← e1]; exact Option.some.inj (hown.symm.trans hown2)
  have h6 := u_fits hfc hkC hkind (Or.inr hlay) hi hd hn hfit
  refine W.putFinK hexec hb hown (hts _ hli) hi hst hcf hin2 (by rw [q2]; exact h6) q1 q3 (by rw [hsl]; exact k2_hasslot (q4 k hk)) rfl rfl hdg fun H' e1 e2 e3 => ?_
  rw [hsl] at e1 ⊢
  exact kk H' _ ⟨_, hc, t_OB.to (V := updV (vp_V fs) k v) ⟨_, e1, q2, q3, t_set q4 hap hk v⟩ (fun j _ => vp_updV_set hl v j)⟩ ⟨e2, e3⟩ (hS0.put e2 e3 hAa)
theorem rr_iald (X : CX p m c cc nL s args Ts own D cl tys) (t0 : Nat) {cA : ClassId} {n : Nat} {f : Nat → Int32} (hP : va_at D cl (a, .inl (cA, n, .inl f)) H) (ht : tys[t0]? = some (cA, .int)) {i : Int32} (hin : vp_in i n) (hdg : decode cc pc = .ok (.iaload, 1))
    (kk : W p l e R s m args below meth c H locs cells slots Q (F0 m (pc + 1) ls (.int (f i.toNatClampNeg) :: rest))) : W p l e R s m args below meth c H locs cells slots Q (F0 m pc ls (.int i :: .ref a :: rest)) :=
  va_iald X.1.1 X.1.2.1 X.2 (rr_one hP) 0 t0 rfl ht hin hdg kk
theorem rr_zald (X : CX p m c cc nL s args Ts own D cl tys) (t0 : Nat) {cA : ClassId} {n : Nat} {f : Nat → Int32} (hP : va_at D cl (a, .inl (cA, n, .inl f)) H) (ht : tys[t0]? = some (cA, .boolean)) {i : Int32} (hin : vp_in i n) (hdg : decode cc pc = .ok (.baload, 1))
    (kk : W p l e R s m args below meth c H locs cells slots Q (F0 m (pc + 1) ls (.int (f i.toNatClampNeg) :: rest))) : W p l e R s m args below meth c H locs cells slots Q (F0 m pc ls (.int i :: .ref a :: rest)) :=
  va_zald X.1.1 X.1.2.1 X.2 (rr_one hP) 0 t0 rfl ht hin hdg kk
theorem rr_lald (X : CX p m c cc nL s args Ts own D cl tys) (t0 : Nat) {cA : ClassId} {n : Nat} {f : Nat → Int64} (hP : va_at D cl (a, .inl (cA, n, .inr (.inl f))) H) (ht : tys[t0]? = some (cA, .long)) {i : Int32} (hin : vp_in i n) (hdg : decode cc pc = .ok (.laload, 1))
    (kk : W p l e R s m args below meth c H locs cells slots Q (F0 m (pc + 1) ls (.long (f i.toNatClampNeg) :: rest))) : W p l e R s m args below meth c H locs cells slots Q (F0 m pc ls (.int i :: .ref a :: rest)) :=
  va_lald X.1.1 X.1.2.1 X.2 (rr_one hP) 0 t0 rfl ht hin hdg kk
theorem rr_aldq (X : CX p m c cc nL s args Ts own D cl tys) (t0 : Nat) {cA : ClassId} {C : String} {n : Nat} {f : Nat → Option Nat} (hP : va_at D cl (a, .inl (cA, n, .inr (.inr (.inr (.inr f))))) H) (ht : tys[t0]? = some (cA, .object C)) {i : Int32} (hin : vp_in i n) (hdg : decode cc pc = .ok (.aaload, 1))
    (kk : W p l e R s m args below meth c H locs cells slots Q (F0 m (pc + 1) ls (va_rf (f i.toNatClampNeg) :: rest))) : W p l e R s m args below meth c H locs cells slots Q (F0 m pc ls (.int i :: .ref a :: rest)) :=
  va_aldq X.1.1 X.1.2.1 X.2 (rr_one hP) 0 t0 rfl ht hin hdg kk
theorem rr_alen (X : CX p m c cc nL s args Ts own D cl tys) (t0 : Nat) {cA : ClassId} {x : vp_A} (hP : va_at D cl (a, .inl (cA, x)) H) {ty : FieldType} (ht : tys[t0]? = some (cA, ty)) {v : Int32} (hv : Int32.ofNat x.1 = v) (hdg : decode cc pc = .ok (.arraylength, 1))
    (kk : W p l e R s m args below meth c H locs cells slots Q (F0 m (pc + 1) ls (.int v :: rest))) : W p l e R s m args below meth c H locs cells slots Q (F0 m pc ls (.ref a :: rest)) :=
  va_alen X.1.1 X.1.2.1 X.2 (rr_one hP) 0 t0 rfl ht hv hdg kk
theorem rr_iast (X : CX p m c cc nL s args Ts own D cl tys) (t0 : Nat) {cA : ClassId} {n : Nat} {f : Nat → Int32} (hP : va_at D cl (a, .inl (cA, n, .inl f)) H) (ht : tys[t0]? = some (cA, .int)) (hS : va_S A H0 H locs) (hAa : A a) {i : Int32} {x : Int32} (hin : vp_in i n) (hdg : decode cc pc = .ok (.iastore, 1))
    (kk : ∀ (H1 : Heap) (locs1 : List Loc), va_at D cl (a, .inl (cA, n, .inl (upd f i.toNatClampNeg x))) H1 → rr_ch a H H1 → va_S A H0 H1 locs1 → W p l e R s m args below meth c H1 locs1 cells slots Q (F0 m (pc + 1) ls rest)) : W p l e R s m args below meth c H locs cells slots Q (F0 m pc ls (.int x :: .int i :: .ref a :: rest)) := by
  refine W.iast X.1.1 X.1.2.1 hP ((X.2.2 t0 _ ht).1 n (fun j => .int (f j))) (fun q => by cases q) (by show ¬ (i < 0 ∨ (arrV _ _ _).slots.size ≤ _); rw [arrV_size]; exact hin) rfl rfl hdg fun H1 e z oq => ?_
  refine kk H1 _ ?_ ⟨z, oq⟩ (hS.put z oq hAa)
  show H1[a]? = some (vp_cell _ _)
  rw [e]
  rw [vp_cell_i, vp_cell_i, arrV_store]
  congr 2
  funext q
  by_cases hq : q = i.toNatClampNeg
  · subst hq
    simp [updV, upd]
  · simp [updV, upd, hq]
theorem rr_zast (X : CX p m c cc nL s args Ts own D cl tys) (t0 : Nat) {cA : ClassId} {n : Nat} {f : Nat → Int32} (hP : va_at D cl (a, .inl (cA, n, .inl f)) H) (ht : tys[t0]? = some (cA, .boolean)) (hS : va_S A H0 H locs) (hAa : A a) {i : Int32} {x : Int32} (hin : vp_in i n) (hn : narrow .boolean (.int x) = .int x) (hdg : decode cc pc = .ok (.bastore, 1))
    (kk : ∀ (H1 : Heap) (locs1 : List Loc), va_at D cl (a, .inl (cA, n, .inl (upd f i.toNatClampNeg x))) H1 → rr_ch a H H1 → va_S A H0 H1 locs1 → W p l e R s m args below meth c H1 locs1 cells slots Q (F0 m (pc + 1) ls rest)) : W p l e R s m args below meth c H locs cells slots Q (F0 m pc ls (.int x :: .int i :: .ref a :: rest)) := by
  refine W.zast X.1.1 X.1.2.1 hP ((X.2.2 t0 _ ht).1 n (fun j => .int (f j))) (fun q => by cases q) (by show ¬ (i < 0 ∨ (arrV _ _ _).slots.size ≤ _); rw [arrV_size]; exact hin) rfl rfl hdg fun H1 e z oq => ?_
  refine kk H1 _ ?_ ⟨z, oq⟩ (hS.put z oq hAa)
  show H1[a]? = some (vp_cell _ _)
  rw [e, hn]
  rw [vp_cell_i, vp_cell_i, arrV_store]
  congr 2
  funext q
  by_cases hq : q = i.toNatClampNeg
  · subst hq
    simp [updV, upd]
  · simp [updV, upd, hq]
theorem rr_last (X : CX p m c cc nL s args Ts own D cl tys) (t0 : Nat) {cA : ClassId} {n : Nat} {f : Nat → Int64} (hP : va_at D cl (a, .inl (cA, n, .inr (.inl f))) H) (ht : tys[t0]? = some (cA, .long)) (hS : va_S A H0 H locs) (hAa : A a) {i : Int32} {x : Int64} (hin : vp_in i n) (hdg : decode cc pc = .ok (.lastore, 1))
    (kk : ∀ (H1 : Heap) (locs1 : List Loc), va_at D cl (a, .inl (cA, n, .inr (.inl (vp_updL f i.toNatClampNeg x)))) H1 → rr_ch a H H1 → va_S A H0 H1 locs1 → W p l e R s m args below meth c H1 locs1 cells slots Q (F0 m (pc + 1) ls rest)) : W p l e R s m args below meth c H locs cells slots Q (F0 m pc ls (.long x :: .int i :: .ref a :: rest)) := by
  refine W.last X.1.1 X.1.2.1 hP ((X.2.2 t0 _ ht).1 n (fun j => .long (f j))) (fun q => by cases q) (by show ¬ (i < 0 ∨ (arrV _ _ _).slots.size ≤ _); rw [arrV_size]; exact hin) rfl rfl hdg fun H1 e z oq => ?_
  refine kk H1 _ ?_ ⟨z, oq⟩ (hS.put z oq hAa)
  show H1[a]? = some (vp_cell _ _)
  rw [e]
  rw [vp_cell_l, vp_cell_l, arrV_store]
  congr 2
  funext q
  by_cases hq : q = i.toNatClampNeg
  · subst hq
    simp [updV, vp_updL]
  · simp [updV, vp_updL, hq]
theorem rr_astq (X : CX p m c cc nL s args Ts own D cl tys) (t0 ci : Nat) {cA : ClassId} {r : vw_C} {n v : Nat} {vs : List Value} {f : Nat → Option Nat} (hP : va_at D cl (a, .inl (cA, n, .inr (.inr (.inr (.inr f))))) H) (ht : tys[t0]? = some (cA, .object r.1)) (hV : va_at D cl (v, .inr (ci, vs)) H) (hc : cl[ci]? = some r) (hS : va_S A H0 H locs) (hAa : A a) {i : Int32} (hin : vp_in i n) (hdg : decode cc pc = .ok (.aastore, 1))
    (kk : ∀ (H1 : Heap) (locs1 : List Loc), va_at D cl (a, .inl (cA, n, .inr (.inr (.inr (.inr (va_up f i.toNatClampNeg (some v))))))) H1 → rr_ch a H H1 → va_S A H0 H1 locs1 → W p l e R s m args below meth c H1 locs1 cells slots Q (F0 m (pc + 1) ls rest)) : W p l e R s m args below meth c H locs cells slots Q (F0 m pc ls (.ref v :: .int i :: .ref a :: rest)) := by
  obtain ⟨⟨hexec, hb, -, hown, hts⟩, hK⟩ := X
  have hlt : i.toNatClampNeg < n := Nat.not_le.mp fun q => hin (Or.inr q)
  have h0 : ¬ i < 0 := fun q => hin (Or.inl q)
  obtain ⟨r', hr', cellV, g1, g2, g3, -⟩ := hV
  have hcls := (hK.1 ci r hc).2
  obtain ⟨kA, comp, k1, k2, k3, -⟩ := (hK.2 t0 _ ht).2
  have hcomp : comp = D.1 ci := Option.some.inj (k3.symm.trans hcls.1)
  subst hcomp
  obtain ⟨kC, hkC, -⟩ := hcls.2
  refine W.aast hexec hb hP (fun q h => by cases h) (fun h => by cases h) k1 k2 rfl hkC ⟨h0, by show _ < (arrV _ _ _).slots.size; rw [arrV_size]; exact hlt⟩ g1 (fun q h => by rw [g3] at h; cases h) (by rw [g2]; exact hkC) (by rw [g2]; exact va_assign hcls) rfl rfl hdg fun H1 e z oq => ?_
  refine kk H1 _ ?_ ⟨z, oq⟩ (hS.put z oq hAa)
  show H1[a]? = some (vp_cell _ _)
  rw [e]
  rw [vp_cell_q, vp_cell_q, arrV_store]
  congr 2
  funext q
  by_cases hq : q = i.toNatClampNeg
  · subst hq
    simp [updV, va_up, va_rf]
  · simp [updV, va_up, hq]
theorem rr_S_gr {H1 : Heap} (hS : va_S A H0 H locs) (g : rr_gr H H1) : va_S A H0 H1 locs :=
  ⟨Nat.le_trans hS.1 (by rw [g.1]; omega), fun x h1 h2 => (g.2 x (Nat.lt_of_lt_of_le h1 hS.1)).trans (hS.2.1 x h1 h2), hS.2.2⟩
theorem rr_new (X : CX p m c cc nL s args Ts own D cl tys) {C : String} {T : u_T} {N ci index : Nat} (hin : ∀ w ∈ u_ws C T N, w ∈ Ts) (ty : Nat → FieldType) (hty : ∀ k, k < N → parseFieldDescriptor (T k).2.2.1 = some (ty k)) (hcl : Cond.classLink own index C ∈ Ts) (hinst : Cond.instantiable C N ∈ Ts) (hini : Cond.initialized C ∈ Ts) (hc : cl[ci]? = some (C, T, N)) {fs : List Value} (hfs : ∀ j, j < N → defaultValue (ty j) = vp_V fs j)
    (hS : va_S A H0 H locs) (hcells : cells + 1 ≤ R.cells) (hslots : slots + N ≤ R.slots) (hdg : decode cc pc = .ok (.new index, 3))
    (kk : ∀ (H1 : Heap), va_at D cl (H.size, .inr (ci, fs)) H1 → rr_gr H H1 → va_S A H0 H1 locs →
      W p l e R s m args below meth c H1 locs (cells + 1) (slots + N) Q (F0 m (pc + 3) ls (.ref H.size :: rest))) : W p l e R s m args below meth c H locs cells slots Q (F0 m pc ls rest) := by
  obtain ⟨⟨hexec, hb, -, hown, hts⟩, hK⟩ := X
  have hKn := hK.1 ci _ hc
  refine W.newcK hexec hb hown (hts _ hcl) (hts _ hinst) (hts _ hini) rfl hdg hcells hslots hKn.2.1 rfl fun H1 kC hkC e1 z1 o1 => ?_
  exact kk H1 ⟨_, hc, (u_born ty hts hin hKn hkC e1 hty).to hfs⟩ ⟨z1, o1⟩ (rr_S_gr hS ⟨z1, o1⟩)
theorem rr_newa (X : CX p m c cc nL s args Ts own D cl tys) {atype : ArrayType} (harr : Cond.arrayClass (newarray.typeOf atype) ∈ Ts) (t0 : Nat) {cA : ClassId} (ht : tys[t0]? = some (cA, newarray.typeOf atype)) (hS : va_S A H0 H locs)
    {n : Int32} {N' : Nat} {a0 : vp_A} (ha : ∀ cA : ClassId, vp_cell cA a0 = arrV cA N' (fun _ => defaultValue (newarray.typeOf atype))) (hn : ¬ n < 0) (hN : n.toNatClampNeg = N') (hbytes : N' * componentBytes (newarray.typeOf atype) ≤ 536870912) (hcells : cells + 1 ≤ R.cells) (hslots : slots + N' ≤ R.slots) (hdg : decode cc pc = .ok (.newarray atype, 2))
    (kk : ∀ (H1 : Heap), va_at D cl (H.size, .inl (cA, a0)) H1 → rr_gr H H1 → va_S A H0 H1 locs →
      W p l e R s m args below meth c H1 locs (cells + 1) (slots + N') Q (F0 m (pc + 2) ls (.ref H.size :: rest))) : W p l e R s m args below meth c H locs cells slots Q (F0 m pc ls (.int n :: rest)) := by
  obtain ⟨⟨hexec, hb, -, hown, hts⟩, hK⟩ := X
  refine va_newaK hexec hb (hts _ harr) rfl hdg rfl hn hN hbytes hcells hslots rfl fun H1 cA' e1 z1 o1 hAr hNm => ?_
  have hc : cA' = cA := by
    have h2 := (hK.2 t0 _ ht).2
    have h3 : s.vm.findClass ("[" ++ (newarray.typeOf atype).toString) = some cA := by cases atype <;> exact h2
    exact Option.some.inj (hNm.symm.trans h3)
  subst hc
  refine kk H1 ?_ ⟨z1, o1⟩ (rr_S_gr hS ⟨z1, o1⟩)
  show H1[H.size]? = some (vp_cell _ _)
  rw [ha]
  exact e1
theorem rr_newq (X : CX p m c cc nL s args Ts own D cl tys) {C : String} {index : Nat} (hclink : Cond.classLink own index C ∈ Ts) (hover : va_AO C s) (t0 : Nat) {cA : ClassId} (ht : tys[t0]? = some (cA, .object C)) (hS : va_S A H0 H locs)
    {n : Int32} {N' : Nat} (hn : ¬ n < 0) (hN : n.toNatClampNeg = N') (hbytes : N' * 4 ≤ 536870912) (hcells : cells + 1 ≤ R.cells) (hslots : slots + N' ≤ R.slots) (hdg : decode cc pc = .ok (.anewarray index, 3))
    (kk : ∀ (H1 : Heap), va_at D cl (H.size, .inl (cA, N', .inr (.inr (.inr (.inr (fun _ => none)))))) H1 → rr_gr H H1 → va_S A H0 H1 locs →
      W p l e R s m args below meth c H1 locs (cells + 1) (slots + N') Q (F0 m (pc + 3) ls (.ref H.size :: rest))) : W p l e R s m args below meth c H locs cells slots Q (F0 m pc ls (.int n :: rest)) := by
  obtain ⟨⟨hexec, hb, -, hown, hts⟩, hK⟩ := X
  subst hN
  refine W.anew hexec hb hown (hts _ hclink) (va_AO.use hover) rfl hdg rfl hn hbytes hcells hslots fun cA' kA comp f1 f2 f3 f4 => ?_
  have hc : cA' = cA := by
    obtain ⟨_, _, -, -, -, h3⟩ := (hK.2 t0 _ ht).2
    exact Option.some.inj (f1.symm.trans h3)
  subst hc
  generalize hH1 : H.push ({ cls := cA', slots := Array.replicate n.toNatClampNeg .null, vm := .none } : Cell) = H1
  have z1 : H1.size = H.size + 1 := by rw [← hH1, Array.size_push]
  have e1 : H1[H.size]? = some (arrV cA' n.toNatClampNeg (fun _ => .null)) := by rw [← hH1, Array.getElem?_push_size, ← arrV_new]
  have o1 : ∀ q : Nat, q < H.size → H1[q]? = H[q]? := fun q hq => by rw [← hH1, Array.getElem?_push, if_neg (Nat.ne_of_lt hq)]
  refine kk H1 ?_ ⟨z1, o1⟩ (rr_S_gr hS ⟨z1, o1⟩)
  show H1[H.size]? = some (vp_cell _ _)
  rw [vp_cell_q]
  exact e1
end RR
/-! the same with the index as a natural number -/
theorem rn_in {i : Int32} {t n : Nat} (hi : i = nI t) (ht : t < n) (hn : n < 2 ^ 31) : vp_in i n := by rw [hi]; exact vp_in_nI ht hn
theorem rn_cl {i : Int32} {t n : Nat} (hi : i = nI t) (ht : t < n) (hn : n < 2 ^ 31) : i.toNatClampNeg = t := by rw [hi]; exact nI_clamp (by omega)
section RN
variable {p : Program} {l : Launch} {e : Env} {R : Room} {s : State} {m : MethodId} {args : Array Value} {below : List Frame} {meth : Method} {c : Code} {H : Heap} {locs : List Loc} {cells slots : Nat} {Q : State → Prop}
variable {cc : ByteArray} {nL pc : Nat} {ls : Array Slot} {rest : List Value} {D : va_G} {cl : List vw_C} {A : Nat → Prop} {a : Nat} {tys : List (ClassId × FieldType)} {H0 : Heap} {Ts : List Cond} {own : String}
theorem rn_iald (X : CX p m c cc nL s args Ts own D cl tys) (t0 : Nat) {cA : ClassId} {n : Nat} {f : Nat → Int32} (hP : va_at D cl (a, .inl (cA, n, .inl f)) H) (ht : tys[t0]? = some (cA, .int)) {i : Int32} {t : Nat} (hi : i = nI t) (hlt : t < n) (hn : n < 2 ^ 31) (hdg : decode cc pc = .ok (.iaload, 1))
    (kk : W p l e R s m args below meth c H locs cells slots Q (F0 m (pc + 1) ls (.int (f t) :: rest))) : W p l e R s m args below meth c H locs cells slots Q (F0 m pc ls (.int i :: .ref a :: rest)) :=
  rr_iald X t0 hP ht (rn_in hi hlt hn) hdg (by rw [rn_cl hi hlt hn]; exact kk)
theorem rn_zald (X : CX p m c cc nL s args Ts own D cl tys) (t0 : Nat) {cA : ClassId} {n : Nat} {f : Nat → Int32} (hP : va_at D cl (a, .inl (cA, n, .inl f)) H) (ht : tys[t0]? = some (cA, .boolean)) {i : Int32} {t : Nat} (hi : i = nI t) (hlt : t < n) (hn : n < 2 ^ 31) (hdg : decode cc pc = .ok (.baload, 1))
    (kk : W p l e R s m args below meth c H locs cells slots Q (F0 m (pc + 1) ls (.int (f t) :: rest))) : W p l e R s m args below meth c H locs cells slots Q (F0 m pc ls (.int i :: .ref a :: rest)) :=
  rr_zald X t0 hP ht (rn_in hi hlt hn) hdg (by rw [rn_cl hi hlt hn]; exact kk)
theorem rn_lald (X : CX p m c cc nL s args Ts own D cl tys) (t0 : Nat) {cA : ClassId} {n : Nat} {f : Nat → Int64} (hP : va_at D cl (a, .inl (cA, n, .inr (.inl f))) H) (ht : tys[t0]? = some (cA, .long)) {i : Int32} {t : Nat} (hi : i = nI t) (hlt : t < n) (hn : n < 2 ^ 31) (hdg : decode cc pc = .ok (.laload, 1))
    (kk : W p l e R s m args below meth c H locs cells slots Q (F0 m (pc + 1) ls (.long (f t) :: rest))) : W p l e R s m args below meth c H locs cells slots Q (F0 m pc ls (.int i :: .ref a :: rest)) :=
  rr_lald X t0 hP ht (rn_in hi hlt hn) hdg (by rw [rn_cl hi hlt hn]; exact kk)
theorem rn_aldq (X : CX p m c cc nL s args Ts own D cl tys) (t0 : Nat) {cA : ClassId} {C : String} {n : Nat} {f : Nat → Option Nat} (hP : va_at D cl (a, .inl (cA, n, .inr (.inr (.inr (.inr f))))) H) (ht : tys[t0]? = some (cA, .object C)) {i : Int32} {t : Nat} (hi : i = nI t) (hlt : t < n) (hn : n < 2 ^ 31) (hdg : decode cc pc = .ok (.aaload, 1))
    (kk : W p l e R s m args below meth c H locs cells slots Q (F0 m (pc + 1) ls (va_rf (f t) :: rest))) : W p l e R s m args below meth c H locs cells slots Q (F0 m pc ls (.int i :: .ref a :: rest)) :=
  rr_aldq X t0 hP ht (rn_in hi hlt hn) hdg (by rw [rn_cl hi hlt hn]; exact kk)
theorem rn_iast (X : CX p m c cc nL s args Ts own D cl tys) (t0 : Nat) {cA : ClassId} {n : Nat} {f : Nat → Int32} (hP : va_at D cl (a, .inl (cA, n, .inl f)) H) (ht : tys[t0]? = some (cA, .int)) (hS : va_S A H0 H locs) (hAa : A a) {i : Int32} {x : Int32} {t : Nat} (hi : i = nI t) (hlt : t < n) (hn : n < 2 ^ 31) (hdg : decode cc pc = .ok (.iastore, 1))
    (kk : ∀ (H1 : Heap) (locs1 : List Loc), va_at D cl (a, .inl (cA, n, .inl (upd f t x))) H1 → rr_ch a H H1 → va_S A H0 H1 locs1 → W p l e R s m args below meth c H1 locs1 cells slots Q (F0 m (pc + 1) ls rest)) : W p l e R s m args below meth c H locs cells slots Q (F0 m pc ls (.int x :: .int i :: .ref a :: rest)) :=
  rr_iast X t0 hP ht hS hAa (rn_in hi hlt hn) hdg (by rw [rn_cl hi hlt hn]; exact kk)
theorem rn_zast (X : CX p m c cc nL s args Ts own D cl tys) (t0 : Nat) {cA : ClassId} {n : Nat} {f : Nat → Int32} (hP : va_at D cl (a, .inl (cA, n, .inl f)) H) (ht : tys[t0]? = some (cA, .boolean)) (hS : va_S A H0 H locs) (hAa : A a) {i : Int32} {x : Int32} {t : Nat} (hi : i = nI t) (hlt : t < n) (hn : n < 2 ^ 31) (hnr : narrow .boolean (.int x) = .int x) (hdg : decode cc pc = .ok (.bastore, 1))
    (kk : ∀ (H1 : Heap) (locs1 : List Loc), va_at D cl (a, .inl (cA, n, .inl (upd f t x))) H1 → rr_ch a H H1 → va_S A H0 H1 locs1 → W p l e R s m args below meth c H1 locs1 cells slots Q (F0 m (pc + 1) ls rest)) : W p l e R s m args below meth c H locs cells slots Q (F0 m pc ls (.int x :: .int i :: .ref a :: rest)) :=
  rr_zast X t0 hP ht hS hAa (rn_in hi hlt hn) hnr hdg (by rw [rn_cl hi hlt hn]; exact kk)
theorem rn_last (X : CX p m c cc nL s args Ts own D cl tys) (t0 : Nat) {cA : ClassId} {n : Nat} {f : Nat → Int64} (hP : va_at D cl (a, .inl (cA, n, .inr (.inl f))) H) (ht : tys[t0]? = some (cA, .long)) (hS : va_S A H0 H locs) (hAa : A a) {i : Int32} {x : Int64} {t : Nat} (hi : i = nI t) (hlt : t < n) (hn : n < 2 ^ 31) (hdg : decode cc pc = .ok (.lastore, 1))
    (kk : ∀ (H1 : Heap) (locs1 : List Loc), va_at D cl (a, .inl (cA, n, .inr (.inl (vp_updL f t x)))) H1 → rr_ch a H H1 → va_S A H0 H1 locs1 → W p l e R s m args below meth c H1 locs1 cells slots Q (F0 m (pc + 1) ls rest)) : W p l e R s m args below meth c H locs cells slots Q (F0 m pc ls (.long x :: .int i :: .ref a :: rest)) :=
  rr_last X t0 hP ht hS hAa (rn_in hi hlt hn) hdg (by rw [rn_cl hi hlt hn]; exact kk)
theorem rn_astq (X : CX p m c cc nL s args Ts own D cl tys) (t0 ci : Nat) {cA : ClassId} {r : vw_C} {n v : Nat} {vs : List Value} {f : Nat → Option Nat} (hP : va_at D cl (a, .inl (cA, n, .inr (.inr (.inr (.inr f))))) H) (ht : tys[t0]? = some (cA, .object r.1)) (hV : va_at D cl (v, .inr (ci, vs)) H) (hc : cl[ci]? = some r) (hS : va_S A H0 H locs) (hAa : A a) {i : Int32} {t : Nat} (hi : i = nI t) (hlt : t < n) (hn : n < 2 ^ 31) (hdg : decode cc pc = .ok (.aastore, 1))
    (kk : ∀ (H1 : Heap) (locs1 : List Loc), va_at D cl (a, .inl (cA, n, .inr (.inr (.inr (.inr (va_up f t (some v))))))) H1 → rr_ch a H H1 → va_S A H0 H1 locs1 → W p l e R s m args below meth c H1 locs1 cells slots Q (F0 m (pc + 1) ls rest)) : W p l e R s m args below meth c H locs cells slots Q (F0 m pc ls (.ref v :: .int i :: .ref a :: rest)) :=
  rr_astq X t0 ci hP ht hV hc hS hAa (rn_in hi hlt hn) hdg (by rw [rn_cl hi hlt hn]; exact kk)
end RN
/-! comparisons of longs -/
theorem lgc_ge {x y : Int64} : (0 ≤ lg_cmp x y) ↔ y ≤ x := lg_cmp_ge x y
theorem lgc_lt {x y : Int64} : (lg_cmp x y < 0) ↔ x < y := lg_cmp_lt x y
theorem lgc_le {x y : Int64} : (lg_cmp x y ≤ 0) ↔ x ≤ y := lg_cmp_le x y
theorem lgc_gt {x y : Int64} : (0 < lg_cmp x y) ↔ y < x := lg_cmp_gt x y
theorem lgc_eq {x y : Int64} : (lg_cmp x y = 0) ↔ x = y := lg_cmp_eq x y
theorem lgc_ne {x y : Int64} : (lg_cmp x y = 0) ↔ x = y := lg_cmp_eq x y
/-! ===== a world: a family of cells by kind and number ===== -/
/-- cells 'cell k i' at the addresses 'lay k i', all apart -/
def Wf (D : va_G) (cl : List vw_C) (val : Nat → Nat → Prop) (lay : Nat → Nat → Nat) (cell : Nat → Nat → va_E) (H : Heap) : Prop :=
  (∀ k i, val k i → va_at D cl (lay k i, cell k i) H) ∧ ∀ k i k' i', val k i → val k' i' → lay k i = lay k' i' → k = k' ∧ i = i'
def Wdom (val : Nat → Nat → Prop) (lay : Nat → Nat → Nat) : Nat → Prop := fun q => ∃ k i, val k i ∧ lay k i = q
def Wfr (val : Nat → Nat → Prop) (lay : Nat → Nat → Nat) (sz : Nat) : Nat → Prop := fun q => Wdom val lay q ∨ sz ≤ q
def Wpre (D : va_G) (cl : List vw_C) (tys : List (ClassId × FieldType)) (val : Nat → Nat → Prop) (lay : Nat → Nat → Nat) (cell : Nat → Nat → va_E) (sz : Nat) (U : State) : Prop :=
  U.heap.size = sz ∧ Wf D cl val lay cell U.heap ∧ va_K D cl tys U
theorem Wpre.blind {D : va_G} {cl : List vw_C} {tys : List (ClassId × FieldType)} {val : Nat → Nat → Prop} {lay : Nat → Nat → Nat} {cell : Nat → Nat → va_E} {sz : Nat} {av : List Value} : FrameBlind (va_Pc av (Wpre D cl tys val lay cell sz)) :=
  fun a U g mk q => by
    obtain ⟨q0, q1, q2, q3⟩ := q
    exact ⟨q0, q1, q2, va_K.moved (u := U) (U := U.calling g mk a) (Vm.Alike.refl U.vm) q3⟩
theorem Wf.put {D : va_G} {cl : List vw_C} {val : Nat → Nat → Prop} {lay : Nat → Nat → Nat} {cell cell' : Nat → Nat → va_E} {H H1 : Heap} (h : Wf D cl val lay cell H) {k i : Nat} {e : va_E} (hv : val k i) (hat : va_at D cl (lay k i, e) H1) (hch : rr_ch (lay k i) H H1) (h1 : e = cell' k i) (h2 : ∀ k' i', val k' i' → ¬ (k' = k ∧ i' = i) → cell' k' i' = cell k' i') : Wf D cl val lay cell' H1 := by
  refine ⟨fun k' i' hv' => ?_, h.2⟩
  by_cases hc : k' = k ∧ i' = i
  · obtain ⟨rfl, rfl⟩ := hc
    rw [← h1]; exact hat
  · rw [h2 k' i' hv' hc]
    exact hch.at (h.1 k' i' hv') (fun q => hc (h.2 _ _ _ _ hv' hv q))
theorem Wf.kept {D : va_G} {cl : List vw_C} {val : Nat → Nat → Prop} {lay : Nat → Nat → Nat} {cell : Nat → Nat → va_E} {H H1 : Heap} (h : Wf D cl val lay cell H) (hk : ∀ q, Wdom val lay q → H1[q]? = H[q]?) : Wf D cl val lay cell H1 :=
  ⟨fun k i hv => (h.1 k i hv).kept (hk _ ⟨k, i, hv, rfl⟩), h.2⟩
theorem Wf.lt {D : va_G} {cl : List vw_C} {val : Nat → Nat → Prop} {lay : Nat → Nat → Nat} {cell : Nat → Nat → va_E} {H : Heap} (h : Wf D cl val lay cell H) {q : Nat} (hq : Wdom val lay q) : q < H.size := by
  obtain ⟨k, i, hv, rfl⟩ := hq
  exact (h.1 k i hv).lt
theorem Wf.gr {D : va_G} {cl : List vw_C} {val : Nat → Nat → Prop} {lay : Nat → Nat → Nat} {cell : Nat → Nat → va_E} {H H1 : Heap} (h : Wf D cl val lay cell H) (g : rr_gr H H1) : Wf D cl val lay cell H1 := h.kept (fun q hq => g.2 q (h.lt hq))
/-- a world at the end of a method -/
abbrev WB {S : Type} (D : va_G) (cl : List vw_C) (tys : List (ClassId × FieldType)) (val : S → Nat → Nat → Prop) (lay : S → Nat → Nat → Nat) (cell : S → Nat → Nat → va_E) (u : S) (t : State) : Prop :=
  Wf D cl (val u) (lay u) (cell u) t.heap ∧ va_K D cl tys t
section WC
variable {p : Program} {l : Launch} {e : Env} {R : Room} {s : State} {m : MethodId} {args : Array Value} {below : List Frame} {meth : Method} {c : Code} {H : Heap} {locs : List Loc} {cells slots : Nat} {Q : State → Prop}
variable {cc bytes : ByteArray} {nL pc maxL mc ms n index : Nat} {ls : Array Slot} {rest As : List Value} {D : va_G} {cl : List vw_C} {A : Nat → Prop} {b : Nat} {tys : List (ClassId × FieldType)} {H0 : Heap} {Ts ws : List Cond} {own C : String} {y : MethodName} {ret : Option FieldType} {rm : Room}
variable {S : Type} {val : S → Nat → Nat → Prop} {lay : S → Nat → Nat → Nat} {cell : S → Nat → Nat → va_E} {u0 : S}
theorem wc_pre (X : CX p m c cc nL s args Ts own D cl tys) (hW : Wf D cl (val u0) (lay u0) (cell u0) H) {av : List Value} : ∀ U : State, U.heap = H → s.WarmedH U.vm → va_Pc av (Wpre D cl tys (val u0) (lay u0) (cell u0) H.size) av.toArray U :=
  fun U hU hw => ⟨rfl, by rw [hU], by rw [hU]; exact hW, va_K.moved hw.alike X.2⟩
theorem wc_runV (X : CX p m c cc nL s args Ts own D cl tys) {Qc : Array Value → State → Outcome → State → Prop} {free : Addr → Prop} (hM : Met l y ws rm (va_Pc (.ref b :: As) (Wpre D cl tys (val u0) (lay u0) (cell u0) H.size)) Qc mc ms free) (cw : CallW R s args own C index y bytes maxL ret ws rm mc ms n)
    (hW : Wf D cl (val u0) (lay u0) (cell u0) H) {ci : Nat} {fs : List Value} {T : u_T} {N : Nat} (hrec : va_at D cl (b, .inr (ci, fs)) H) (hc : cl[ci]? = some (C, T, N)) (hn : As.length = n) (hsize : ls.size = nL) {st : List Value} (hst : st = As.reverse ++ .ref b :: rest) (hroom : (rest.map fun v => v.category).sum ≤ 8) (hdg : decode cc pc = .ok (.invokevirtual index, 3)) (hf : cells + mc ≤ R.cells ∧ slots + ms ≤ R.slots) :
    va_Run p l e R s m args below meth c H locs cells slots mc ms (F0 m pc ls st) rest (Qc (Value.ref b :: As).toArray) free :=
  va_runV X.1 hM cw ⟨Wpre.blind, va_recv X.2 (rr_one hrec) hc (q0 := 0) rfl, wc_pre X hW⟩ rfl hn hsize hst (lv_room hroom) hdg hf
theorem wc_calli (X : CX p m c cc nL s args Ts own D cl tys) {post : Int32 → S → Prop} (hM : Met l y ws rm (va_Pc (.ref b :: As) (Wpre D cl tys (val u0) (lay u0) (cell u0) H.size)) (va_Qi post (WB D cl tys val lay cell) (Wfr (val u0) (lay u0) H.size)) mc ms (Wfr (val u0) (lay u0) H.size)) (cw : CallW R s args own C index y bytes maxL ret ws rm mc ms n)
    (hW : Wf D cl (val u0) (lay u0) (cell u0) H) (hS : va_S A H0 H locs) (hA : ∀ q, Wfr (val u0) (lay u0) H.size q → A q) {ci : Nat} {fs : List Value} {T : u_T} {N : Nat} (hrec : va_at D cl (b, .inr (ci, fs)) H) (hc : cl[ci]? = some (C, T, N)) (hn : As.length = n) (hsize : ls.size = nL) {st : List Value} (hst : st = As.reverse ++ .ref b :: rest) (hroom : (rest.map fun v => v.category).sum ≤ 8) (hdg : decode cc pc = .ok (.invokevirtual index, 3)) (hf : cells + mc ≤ R.cells ∧ slots + ms ≤ R.slots)
    (kk : ∀ (r : Int32) (u : S) (H1 : Heap) (locs1 : List Loc), post r u → Wf D cl (val u) (lay u) (cell u) H1 → H.size ≤ H1.size → (∀ q : Nat, q < H.size → ¬ Wfr (val u0) (lay u0) H.size q → H1[q]? = H[q]?) → va_S A H0 H1 locs1 → W p l e R s m args below meth c H1 locs1 (cells + mc) (slots + ms) Q (F0 m (pc + 3) ls (.int r :: rest))) : W p l e R s m args below meth c H locs cells slots Q (F0 m pc ls st) :=
  va_calli (wc_runV X hM cw hW hrec hc hn hsize hst hroom hdg hf) hS (fun q _ h => hA q h) hA (fun r u t H1 locs1 ht _ hp hB hz hk hS1 => kk r u H1 locs1 hp (by rw [← ht]; exact hB.1) hz hk hS1)
theorem wc_callv (X : CX p m c cc nL s args Ts own D cl tys) {post : S → Prop} (hM : Met l y ws rm (va_Pc (.ref b :: As) (Wpre D cl tys (val u0) (lay u0) (cell u0) H.size)) (va_Qv post (WB D cl tys val lay cell) (Wfr (val u0) (lay u0) H.size)) mc ms (Wfr (val u0) (lay u0) H.size)) (cw : CallW R s args own C index y bytes maxL ret ws rm mc ms n)
    (hW : Wf D cl (val u0) (lay u0) (cell u0) H) (hS : va_S A H0 H locs) (hA : ∀ q, Wfr (val u0) (lay u0) H.size q → A q) {ci : Nat} {fs : List Value} {T : u_T} {N : Nat} (hrec : va_at D cl (b, .inr (ci, fs)) H) (hc : cl[ci]? = some (C, T, N)) (hn : As.length = n) (hsize : ls.size = nL) {st : List Value} (hst : st = As.reverse ++ .ref b :: rest) (hroom : (rest.map fun v => v.category).sum ≤ 8) (hdg : decode cc pc = .ok (.invokevirtual index, 3)) (hf : cells + mc ≤ R.cells ∧ slots + ms ≤ R.slots)
    (kk : ∀ (u : S) (H1 : Heap) (locs1 : List Loc), post u → Wf D cl (val u) (lay u) (cell u) H1 → H.size ≤ H1.size → (∀ q : Nat, q < H.size → ¬ Wfr (val u0) (lay u0) H.size q → H1[q]? = H[q]?) → va_S A H0 H1 locs1 → W p l e R s m args below meth c H1 locs1 (cells + mc) (slots + ms) Q (F0 m (pc + 3) ls rest)) : W p l e R s m args below meth c H locs cells slots Q (F0 m pc ls st) :=
  va_callv (wc_runV X hM cw hW hrec hc hn hsize hst hroom hdg hf) hS (fun q _ h => hA q h) hA (fun u t H1 locs1 ht _ hp hB hz hk hS1 => kk u H1 locs1 hp (by rw [← ht]; exact hB.1) hz hk hS1)
theorem wc_callq (X : CX p m c cc nL s args Ts own D cl tys) {post : Option Nat → S → Prop} (hM : Met l y ws rm (va_Pc (.ref b :: As) (Wpre D cl tys (val u0) (lay u0) (cell u0) H.size)) (va_Qq post (WB D cl tys val lay cell) (Wfr (val u0) (lay u0) H.size)) mc ms (Wfr (val u0) (lay u0) H.size)) (cw : CallW R s args own C index y bytes maxL ret ws rm mc ms n)
    (hW : Wf D cl (val u0) (lay u0) (cell u0) H) (hS : va_S A H0 H locs) (hA : ∀ q, Wfr (val u0) (lay u0) H.size q → A q) {ci : Nat} {fs : List Value} {T : u_T} {N : Nat} (hrec : va_at D cl (b, .inr (ci, fs)) H) (hc : cl[ci]? = some (C, T, N)) (hn : As.length = n) (hsize : ls.size = nL) {st : List Value} (hst : st = As.reverse ++ .ref b :: rest) (hroom : (rest.map fun v => v.category).sum ≤ 8) (hdg : decode cc pc = .ok (.invokevirtual index, 3)) (hf : cells + mc ≤ R.cells ∧ slots + ms ≤ R.slots)
    (kk : ∀ (r : Option Nat) (u : S) (H1 : Heap) (locs1 : List Loc), post r u → Wf D cl (val u) (lay u) (cell u) H1 → H.size ≤ H1.size → (∀ q : Nat, q < H.size → ¬ Wfr (val u0) (lay u0) H.size q → H1[q]? = H[q]?) → va_S A H0 H1 locs1 → W p l e R s m args below meth c H1 locs1 (cells + mc) (slots + ms) Q (F0 m (pc + 3) ls (va_rf r :: rest))) : W p l e R s m args below meth c H locs cells slots Q (F0 m pc ls st) :=
  va_callq (wc_runV X hM cw hW hrec hc hn hsize hst hroom hdg hf) hS (fun q _ h => hA q h) hA (fun r u t H1 locs1 ht _ hp hB hz hk hS1 => kk r u H1 locs1 hp (by rw [← ht]; exact hB.1) hz hk hS1)
end WC
