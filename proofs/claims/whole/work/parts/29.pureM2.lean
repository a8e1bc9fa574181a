theorem rz_at (g : Nat → Nat → Int64) (o : Nat) {i : Nat} (h : i < 8) : rz g (8 * (o + 1) + i) = g o i := by
  unfold rz
  rw [if_neg (by omega), show (8 * (o + 1) + i) / 8 - 1 = o by omega, show (8 * (o + 1) + i) % 8 = i by omega]
section RE
variable {p : Program} {l : Launch} {e : Env} {R : Room} {s : State} {m : MethodId} {args : Array Value} {below : List Frame} {meth : Method} {c : Code} {H : Heap} {locs : List Loc} {cells slots : Nat} {Q : State → Prop}
variable {cc : ByteArray} {nL pc : Nat} {ls : Array Slot} {rest : List Value} {D : va_G} {cl : List vw_C} {a : Nat} {tys : List (ClassId × FieldType)} {Ts : List Cond} {own : String}
theorem rn_laldE (X : CX p m c cc nL s args Ts own D cl tys) (t0 : Nat) {cA : ClassId} {n : Nat} {f : Nat → Int64} (hP : va_at D cl (a, .inl (cA, n, .inr (.inl f))) H) (ht : tys[t0]? = some (cA, .long)) {i : Int32} {t : Nat} (hi : i = nI t) (hlt : t < n) (hn : n < 2 ^ 31) {v : Int64} (hf : f t = v) (hdg : decode cc pc = .ok (.laload, 1))
    (kk : W p l e R s m args below meth c H locs cells slots Q (F0 m (pc + 1) ls (.long v :: rest))) : W p l e R s m args below meth c H locs cells slots Q (F0 m pc ls (.int i :: .ref a :: rest)) :=
  rn_lald X t0 hP ht hi hlt hn hdg (by rw [hf]; exact kk)
theorem rn_ialdE (X : CX p m c cc nL s args Ts own D cl tys) (t0 : Nat) {cA : ClassId} {n : Nat} {f : Nat → Int32} (hP : va_at D cl (a, .inl (cA, n, .inl f)) H) (ht : tys[t0]? = some (cA, .int)) {i : Int32} {t : Nat} (hi : i = nI t) (hlt : t < n) (hn : n < 2 ^ 31) {v : Int32} (hf : f t = v) (hdg : decode cc pc = .ok (.iaload, 1))
    (kk : W p l e R s m args below meth c H locs cells slots Q (F0 m (pc + 1) ls (.int v :: rest))) : W p l e R s m args below meth c H locs cells slots Q (F0 m pc ls (.int i :: .ref a :: rest)) :=
  rn_iald X t0 hP ht hi hlt hn hdg (by rw [hf]; exact kk)
theorem rn_zaldE (X : CX p m c cc nL s args Ts own D cl tys) (t0 : Nat) {cA : ClassId} {n : Nat} {f : Nat → Int32} (hP : va_at D cl (a, .inl (cA, n, .inl f)) H) (ht : tys[t0]? = some (cA, .boolean)) {i : Int32} {t : Nat} (hi : i = nI t) (hlt : t < n) (hn : n < 2 ^ 31) {v : Int32} (hf : f t = v) (hdg : decode cc pc = .ok (.baload, 1))
    (kk : W p l e R s m args below meth c H locs cells slots Q (F0 m (pc + 1) ls (.int v :: rest))) : W p l e R s m args below meth c H locs cells slots Q (F0 m pc ls (.int i :: .ref a :: rest)) :=
  rn_zald X t0 hP ht hi hlt hn hdg (by rw [hf]; exact kk)
end RE
/-! comparisons with neighbours -/
theorem le2 {x : Int32} : x ≤ 2 ↔ x < 3 := by rw [i32le, i32lt]; show x.toInt ≤ 2 ↔ x.toInt < 3; omega
theorem le3 {x : Int32} : x ≤ 3 ↔ x < 4 := by rw [i32le, i32lt]; show x.toInt ≤ 3 ↔ x.toInt < 4; omega
theorem lt34 {x : Int32} : 3 < x ↔ 4 ≤ x := by rw [i32le, i32lt]; show 3 < x.toInt ↔ 4 ≤ x.toInt; omega
theorem le499 {x : Int32} : x ≤ 499 ↔ x < 500 := by rw [i32le, i32lt]; show x.toInt ≤ 499 ↔ x.toInt < 500; omega
theorem le0 {x : Int32} {n : Nat} (hx : x = nI n) (hn : n < 2 ^ 31) : x ≤ 0 ↔ x = 0 := by
  subst hx
  constructor
  · intro h
    rw [i32le, nI_toInt hn] at h
    have h2 : (n : Int) ≤ 0 := h
    have : n = 0 := by omega
    subst this; rfl
  · intro h; rw [h]; decide
theorem reg_ix (o k : Nat) : 8 * nI (o + 1) + nI k = nI (8 * (o + 1) + k) := by rw [show (8 : Int32) * nI (o + 1) = nI (8 * (o + 1)) from pk_mul 8 (o + 1), nI_add]
theorem hld_ix2 (a b : Nat) : 32 * nI a + nI (b + 1) - 1 = nI (32 * a + b) := by rw [show (32 : Int32) * nI a = nI (32 * a) from pk_mul 32 a, nI_add, show 32 * a + (b + 1) = 32 * a + b + 1 by omega]; exact nI_pred _
theorem come_eq (d : DC) (j : Nat) (t : Int64) : sI (sL (sI (sL d 4 j 0 t) 13 j 0 1) 3 j 0 t) 14 j 0 0 = sp_come d j t := by
  unfold sp_come
  exact sI_cm (sL (sL d 4 j 0 t) 3 j 0 t) j 0 j 0 1 0 (show 13 ≠ 14 by decide)
theorem neg_told {t u : Int64} (h : t < 0) (hu : 0 ≤ u) : ¬ u ≤ t := by
  rw [Int64.lt_iff_toInt_lt] at h
  rw [Int64.le_iff_toInt_le] at hu ⊢
  have h1 : t.toInt < 0 := h
  have h2 : 0 ≤ u.toInt := hu
  omega
/-- an address in a region: by the end, or by the distance -/
theorem reg_in {a st sz : Int64} (h0 : 0 ≤ st) (h1 : st ≤ 1099511627776) (h3 : sz ≤ 1099511627776) (h2 : 1 ≤ sz) (ha : st ≤ a) : a < st + sz ↔ a - st < sz := by
  rw [Int64.le_iff_toInt_le] at h0 h1 h2 h3 ha
  rw [Int64.lt_iff_toInt_lt, Int64.lt_iff_toInt_lt, Int64.toInt_add, Int64.toInt_sub]
  have e0 : (0 : Int64).toInt = 0 := rfl
  have e1 : (1099511627776 : Int64).toInt = 1099511627776 := rfl
  have e2 : (1 : Int64).toInt = 1 := rfl
  rw [e0] at h0
  rw [e1] at h1 h3
  rw [e2] at h2
  have hb := Int64.toInt_lt a
  rw [Int.bmod_def, Int.bmod_def]
  omega
theorem inB_s {st sz : Nat → Int64} {a : Int64} {n : Nat} : inB st sz a (n + 1) = true ↔ inB st sz a n = true ∨ (st n ≤ a ∧ a - st n < sz n) := by
  simp only [inB, Bool.or_eq_true, decide_eq_true_eq]
