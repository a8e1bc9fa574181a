/-! The law's state: the class's world and the reference's, apart. -/
def LawSt (D : va_G) (ct : Nat → ClassId) (s : State) (layC layM : Nat → Nat → Nat) (dC dM : DC) (H : Heap) (locs : List Loc) : Prop :=
  WC D ct (layC, dC) H ∧ WM D ct (layM, dM) H ∧ (∀ q, Wdom (valC (layC, dC)) layC q → ¬ Wdom (valM (layM, dM)) layM q) ∧ (∀ q, Wdom (valC (layC, dC)) layC q → s.heap.size ≤ q) ∧ (∀ q, Wdom (valM (layM, dM)) layM q → s.heap.size ≤ q) ∧ va_S (fun q => s.heap.size ≤ q) s.heap H locs
theorem LawSt.aC {D : va_G} {ct : Nat → ClassId} {s : State} {layC layM : Nat → Nat → Nat} {dC dM : DC} {H : Heap} {locs : List Loc} (h : LawSt D ct s layC layM dC dM H locs) : ∀ q, Wfr (valC (layC, dC)) layC H.size q → s.heap.size ≤ q := fun q z => z.elim (h.2.2.2.1 q) (fun z => Nat.le_trans h.2.2.2.2.2.1 z)
theorem LawSt.aM {D : va_G} {ct : Nat → ClassId} {s : State} {layC layM : Nat → Nat → Nat} {dC dM : DC} {H : Heap} {locs : List Loc} (h : LawSt D ct s layC layM dC dM H locs) : ∀ q, Wfr (valM (layM, dM)) layM H.size q → s.heap.size ≤ q := fun q z => z.elim (h.2.2.2.2.1 q) (fun z => Nat.le_trans h.2.2.2.2.2.1 z)
theorem LawSt.afterC {D : va_G} {ct : Nat → ClassId} {s : State} {layC layC2 layM : Nat → Nat → Nat} {dC dC2 dM : DC} {H H1 : Heap} {locs locs1 : List Loc} (h : LawSt D ct s layC layM dC dM H locs) (hW : WC D ct (layC2, dC2) H1) (hdom : ∀ q, Wdom (valC (layC2, dC2)) layC2 q → Wfr (valC (layC, dC)) layC H.size q)
    (hk : ∀ q : Nat, q < H.size → ¬ Wfr (valC (layC, dC)) layC H.size q → H1[q]? = H[q]?) (hS : va_S (fun q => s.heap.size ≤ q) s.heap H1 locs1) : LawSt D ct s layC2 layM dC2 dM H1 locs1 := by
  have ha := h.aC
  obtain ⟨h1, h2, h3, h4, h5, h6⟩ := h
  refine ⟨hW, h2.kept (fun q hq => hk q (h2.lt hq) (fun z => z.elim (fun z => h3 q z hq) (fun z => absurd (h2.lt hq) (Nat.not_lt.mpr z)))), fun q hq hm => ?_, fun q hq => ha q (hdom q hq), h5, hS⟩
  exact (hdom q hq).elim (fun z => h3 q z hm) (fun z => absurd (h2.lt hm) (Nat.not_lt.mpr z))
theorem LawSt.afterM {D : va_G} {ct : Nat → ClassId} {s : State} {layC layM : Nat → Nat → Nat} {dC dM dM2 : DC} {H H1 : Heap} {locs locs1 : List Loc} (h : LawSt D ct s layC layM dC dM H locs) (hW : WM D ct (layM, dM2) H1)
    (hk : ∀ q : Nat, q < H.size → ¬ Wfr (valM (layM, dM)) layM H.size q → H1[q]? = H[q]?) (hS : va_S (fun q => s.heap.size ≤ q) s.heap H1 locs1) : LawSt D ct s layC layM dC dM2 H1 locs1 := by
  obtain ⟨h1, h2, h3, h4, h5, h6⟩ := h
  exact ⟨h1.kept (fun q hq => hk q (h1.lt hq) (fun z => z.elim (h3 q hq) (fun z => absurd (h1.lt hq) (Nat.not_lt.mpr z)))), hW, h3, h4, h5, hS⟩
theorem dom_kp {lay : Nat → Nat → Nat} {d d2 : DC} {sz : Nat} (h : kp d d2) : ∀ q, Wdom (valC (lay, d2)) lay q → Wfr (valC (lay, d)) lay sz q := by
  intro q hq
  obtain ⟨k, i, hv, e⟩ := hq
  refine Or.inl ⟨k, i, ?_, e⟩
  have en : dna (lay, d2).2 = dna d := h.na
  have et : dnt (lay, d2).2 = dnt d := h.nt
  unfold valC at hv ⊢
  rw [en, et] at hv
  exact hv
theorem kp_region (d : DC) (a : Int32) (f m : Int64) : kp d (sp_region d a f m).2 := by
  unfold sp_region; split
  · exact kp.rf
  · split
    · exact kp.rf
    · split
      · exact kp.rf
      · split
        · exact kp.rf
        · exact ⟨rfl, rfl, rfl⟩
theorem kp_holds (d : DC) (x k w : Int32) : kp d (sp_holds d x k w).2 := by
  unfold sp_holds; split
  · exact kp.rf
  · split
    · exact kp.rf
    · split
      · exact kp.rf
      · exact ⟨rfl, rfl, rfl⟩
theorem kp_hook (d : DC) (l x f : Int32) : kp d (sp_hook d l x f).2 := by
  unfold sp_hook; split
  · exact kp.rf
  · split
    · exact kp.rf
    · split
      · exact kp.rf
      · exact ⟨rfl, rfl, rfl⟩
theorem kp_fault (d : DC) (x k : Int32) : kp d (sp_fault d x k).2 := by
  unfold sp_fault; split
  · exact kp.rf
  · split
    · exact kp.rf
    · split
      · exact kp.rf
      · exact kp_raise _ _ _
theorem kp_access (d : DC) (x : Int32) (a : Int64) : kp d (sp_access d x a).2 := by
  unfold sp_access; split
  · exact kp.rf
  · split
    · exact kp.rf
    · split
      · exact kp.rf
      · exact kp_raise _ _ _
theorem kp_arrival (d : DC) (x : Int32) (t : Int64) : kp d (sp_arrival d x t).2 := by
  unfold sp_arrival; split
  · exact kp.rf
  · split
    · exact kp.rf
    · split
      · exact kp.rf
      · split
        · split
          · exact ⟨rfl, rfl, rfl⟩
          · exact ((kp_sL d 4 _ 0 t).tr (kp_sI _ 14 _ 0 0)).tr (kp_raise _ _ _)
        · exact ⟨rfl, rfl, rfl⟩
/-! what the contracts ask, out of the invariant -/
theorem Inv.na {d : DC} {n : Nat} (h : Inv d n) : dna d ≤ 16 := h.1.1.1
theorem Inv.nt {d : DC} {n : Nat} (h : Inv d n) : dnt d ≤ 60 := h.1.1.2
theorem Inv.ow {d : DC} {n : Nat} (h : Inv d n) : ∀ j, j < dnt d → dow d j < dna d := fun j hj => (h.1.2.1 j hj).1
theorem Inv.h15 {d : DC} {n : Nat} (h : Inv d n) : ∀ j, j < dnt d → gI d 15 j 0 = nI (dow d j + 1) := fun j hj => (h.1.2.1 j hj).2.1
theorem Inv.htold {d : DC} {n : Nat} (h : Inv d n) : ∀ j, j < dnt d → 0 ≤ gL d 4 j 0 := fun j hj => (h.1.2.1 j hj).2.2
theorem Inv.hrs {d : DC} {n : Nat} (h : Inv d n) : ∀ i, i < dna d → ∃ n, n ≤ 10 ∧ gI d 10 i 0 = nI n := fun i hi => (h.1.2.2.1 i hi).1
theorem Inv.hreg {d : DC} {n : Nat} (h : Inv d n) : ∀ i, i < dna d → ∃ n, n ≤ 8 ∧ gI d 9 i 0 = nI n ∧ ∀ k, k < n → 0 ≤ gL d 0 i k ∧ gL d 0 i k ≤ 1099511627776 ∧ gL d 1 i k ≤ 1099511627776 ∧ 1 ≤ gL d 1 i k := fun i hi => (h.1.2.2.1 i hi).2
theorem Inv.hrcs {d : DC} {n : Nat} (h : Inv d n) : ∀ i, i < dna d → ∃ n, n ≤ 8 ∧ gI d 9 i 0 = nI n := fun i hi => by
  obtain ⟨m, q1, q2, -⟩ := (h.1.2.2.1 i hi).2
  exact ⟨m, q1, q2⟩
theorem Inv.hhold {d : DC} {n : Nat} (h : Inv d n) : ∀ t, t < 128 → ∃ n, n ≤ 60 ∧ gI d 2 0 t = nI n := h.2.1.2.1
theorem Inv.hcl {d : DC} {n : Nat} (h : Inv d n) (hn : n ≤ 512) : ∀ i, i < 500 → nI i < gI d 5 0 0 → gI d 7 0 (4 * i) = gI d 20 0 i ∧ ∃ p, p < 128 ∧ gI d 21 0 i = nI p ∧ gI d 7 0 (4 * i + 1) = nI (p / 32) ∧ gI d 7 0 (4 * i + 2) = nI (p % 32 + 1) := fun i hi hc => by
  obtain ⟨-, -, c, h1, h2, h3⟩ := h.2.1
  rw [h2] at hc
  exact h3 i hi ((nI_ltI (by omega) (by omega)).mp hc)
section SC
variable {p : Program} {l : Launch} {e : Env} {R : Room} {s : State} {m : MethodId} {args : Array Value} {below : List Frame} {meth : Method} {c : Code} {H : Heap} {locs : List Loc} {cells slots : Nat} {Q : State → Prop}
variable {cc : ByteArray} {pc : Nat} {ls : Array Slot} {rest : List Value}
/-- the script's place t -/
theorem rn_sld (hexec : p.tables.exec = Jvm.exec) (hb : c.code = cc) {b L : Nat} {xs : Nat → Int32} (hX : va_X b L xs s s.heap) (hbl : b < s.heap.size) (hS : va_S (fun q => s.heap.size ≤ q) s.heap H locs) {i : Int32} {t : Nat} (hi : i = nI t) (ht : t < L) (hL : L ≤ 3072) (hdg : decode cc pc = .ok (.iaload, 1))
    (kk : W p l e R s m args below meth c H locs cells slots Q (F0 m (pc + 1) ls (.int (xs t) :: rest))) : W p l e R s m args below meth c H locs cells slots Q (F0 m pc ls (.int i :: .ref b :: rest)) :=
  va_sld hexec hb hX hbl (Nat.not_le.mpr hbl) hS (rn_in hi ht (by omega)) hdg (by rw [rn_cl hi ht (by omega)]; exact kk)
end SC
/-- the array classes -/
theorem arr_prim {ty : FieldType} {args : Array Value} {s : State} (h : (Cond.arrayClass ty).before args s = true) (hty : ∀ C, ty ≠ .object C) : ∃ cA : ClassId, ArrOfT s cA ty ∧ va_RA s cA ty := by
  obtain ⟨cA, kA, comp, hfind, hk, hkind⟩ := Cond.arrayClass_spec h
  refine ⟨cA, fun n z => ⟨fun k h => (by cases h), kA, hk, comp, hkind⟩, ?_⟩
  cases ty with
  | object C => exact absurd rfl (hty C)
  | _ => exact hfind
theorem arr_obj {C : String} {args : Array Value} {s : State} (h : (Cond.arrayOver (.object C)).before args s = true) : ∃ cA : ClassId, ArrOfT s cA (.object C) ∧ va_RA s cA (.object C) := by
  obtain ⟨comp, cA, kA, hcomp, hidx, hkA, hkindA, hnameA⟩ := Cond.arrayOver_spec h
  exact ⟨cA, fun n z => ⟨fun k h => (by cases h), kA, hkA, comp, hkindA⟩, kA, comp, hkA, hkindA, hcomp, hnameA⟩
