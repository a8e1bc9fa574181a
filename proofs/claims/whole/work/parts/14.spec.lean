/-! What the system does, as functions of the data. Fields of ints: 0 up, 1 cleanings of kind 3 in this fault, 2 holders, 3 does, 4 fails, 5 counts of the two books, 7 the books' cells (class; the log's: both), 9 regions, 10 restarts, 11 ended, 12 alive, 13 has come, 14 delayed, 15 the task's application (reference), 20 and 21 cleaned tasks and things (reference). Longs: 0 starts, 1 sizes, 2 spacing, 3 came, 4 told. -/
/-- which of n objects, numbered from 1 on, x names -/
def ix (n : Nat) (x : Int32) : Option Nat := if 1 ≤ x ∧ x ≤ nI n then some (x.toNatClampNeg - 1) else none
theorem i32le {a b : Int32} : a ≤ b ↔ a.toInt ≤ b.toInt := Int32.le_iff_toInt_le
theorem i32lt {a b : Int32} : a < b ↔ a.toInt < b.toInt := Int32.lt_iff_toInt_lt
theorem nI_of1 {x : Int32} {n : Nat} (hn : n < 2 ^ 31) (h1 : 1 ≤ x) (h2 : x ≤ nI n) : ∃ j, j < n ∧ x = nI (j + 1) := by
  rw [i32le] at h1 h2
  rw [nI_toInt hn] at h2
  have h1' : (1 : Int) ≤ x.toInt := h1
  have h0 : ¬ x < 0 := by rw [i32lt]; show ¬ x.toInt < 0; omega
  obtain ⟨j, hj, rfl⟩ := nI_of h0
  rw [nI_toInt hj] at h1' h2
  refine ⟨j - 1, by omega, ?_⟩
  rw [show j - 1 + 1 = j by omega]
theorem ix_is {n j : Nat} (hj : j < n) (hn : n < 2 ^ 31) : ix n (nI (j + 1)) = some j := by
  unfold ix
  rw [if_pos ⟨by rw [i32le, nI_toInt (by omega)]; show (1 : Int) ≤ _; omega, nI_le (by omega) hn⟩, nI_clamp (by omega)]
  rfl
theorem ix_no {n : Nat} {x : Int32} (h : ¬ (1 ≤ x ∧ x ≤ nI n)) : ix n x = none := if_neg h
/-- how many places below n hold x -/
def cnt (f : Nat → Int32) (x : Int32) : Nat → Int32
  | 0 => 0
  | n + 1 => if f n = x then cnt f x n + 1 else cnt f x n
/-- whether one of the first n regions has the address -/
def inB (st sz : Nat → Int64) (a : Int64) : Nat → Bool
  | 0 => false
  | n + 1 => inB st sz a n || decide (st n ≤ a ∧ a - st n < sz n)
/-- one int field of the first n objects -/
def sA (d : DC) (k n : Nat) (v : Int32) : DC := (d.1, d.2.1, d.2.2.1, fun k' i' j' => if k' = k ∧ i' < n ∧ j' = 0 then v else d.2.2.2.1 k' i' j', d.2.2.2.2)
/-- 'alive' of the first n tasks of an application -/
def sW (d : DC) (o n : Nat) (v : Int32) : DC := (d.1, d.2.1, d.2.2.1, fun k' i' j' => if k' = 12 ∧ i' < n ∧ d.2.2.1 i' = o ∧ j' = 0 then v else d.2.2.2.1 k' i' j', d.2.2.2.2)
def sp_shut (d : DC) : DC := sA (sA (sI d 0 0 0 0) 12 (dnt d) 0) 11 (dna d) 1
/-- a row of a book -/
def sp_row (d : DC) (b : Nat) (a1 a2 a3 a4 : Int32) : DC :=
  if gI d 5 b 0 < 500 then sI (sI (sI (sI d 7 b (4 * (gI d 5 b 0).toNatClampNeg) a1) 7 b (4 * (gI d 5 b 0).toNatClampNeg + 1) a2) 7 b (4 * (gI d 5 b 0).toNatClampNeg + 2) a3) 7 b (4 * (gI d 5 b 0).toNatClampNeg + 3) a4 else d
def sp_write (d : DC) (b : Nat) (a1 a2 a3 a4 : Int32) : DC := sI (sp_row d b a1 a2 a3 a4) 5 b 0 (gI d 5 b 0 + 1)
/-- the reference's note of a cleaned thing -/
def sp_note (d : DC) (t j : Nat) : DC := if gI d 5 0 0 < 500 then sI (sI d 20 0 (gI d 5 0 0).toNatClampNeg (nI (j + 1))) 21 0 (gI d 5 0 0).toNatClampNeg (nI t) else d
/-- thing t of task j is cleaned -/
def sp_clean (d : DC) (t j : Nat) : DC :=
  let d1 := sp_write (sp_note (sI d 2 0 t 0) t j) 0 (nI (j + 1)) (nI (t / 32)) (nI (t % 32 + 1)) 0
  if t < 96 then d1 else if gI d 1 0 0 = 0 then sI d1 1 0 0 1 else sI (sp_shut d1) 1 0 0 2
def sp_el (j : Nat) : Nat → Nat → DC → DC
  | 0, _, d => d
  | n + 1, t, d => if gI d 0 0 0 = 0 then d else sp_el j n (t + 1) (if gI d 2 0 t = nI (j + 1) then sp_clean d t j else d)
def sp_end (d : DC) (j : Nat) : DC := sp_el j 128 0 (sI d 12 j 0 0)
def sp_al (o : Nat) : Nat → Nat → DC → DC
  | 0, _, d => d
  | n + 1, j, d => sp_al o n (j + 1) (if ¬ gI d 0 0 0 = 0 ∧ dow d j = o ∧ ¬ gI d 12 j 0 = 0 then sp_end d j else d)
def sp_all (d : DC) (o : Nat) : DC := sp_al o (dnt d) 0 d
def sp_start (d : DC) (o : Nat) : DC := sW (sI d 10 o 0 (gI d 10 o 0 - 1)) o (dnt d) 1
def sp_lev (d : DC) : Nat := if ¬ gI d 4 0 0 = 0 ∨ ¬ gI d 3 0 0 = 0 then 0 else if ¬ gI d 4 0 1 = 0 ∨ ¬ gI d 3 0 1 = 0 then 1 else if ¬ gI d 4 0 2 = 0 ∨ ¬ gI d 3 0 2 = 0 then 2 else 3
def sp_ask (d : DC) (l : Nat) : Int32 := if 3 ≤ l then 2 else if gI d 4 0 l = 0 then gI d 3 0 l else 5
def sp_act (d : DC) (a : Int32) (j : Nat) : DC := if a = 5 then sp_shut d else if a = 2 then sp_end d j else if a = 3 ∨ a = 4 then sp_all d (dow d j) else d
def sp_carry (d : DC) (a : Int32) (j : Nat) : Int32 × DC :=
  if gI (sp_act d a j) 0 0 0 = 0 then (5, sp_act d a j)
  else if a = 4 ∧ 0 < gI (sp_act d a j) 10 (dow d j) 0 then (4, sp_start (sp_act d a j) (dow d j))
  else if a = 3 ∨ a = 4 then (3, sI (sp_act d a j) 11 (dow d j) 0 1)
  else (a, sp_act d a j)
def sp_raise (d : DC) (j : Nat) (k : Int32) : Int32 × DC :=
  ((sp_carry (sI d 1 0 0 0) (sp_ask d (sp_lev d)) j).1, sp_write (sp_carry (sI d 1 0 0 0) (sp_ask d (sp_lev d)) j).2 1 (nI (j + 1)) k (nI (sp_lev d)) (sp_carry (sI d 1 0 0 0) (sp_ask d (sp_lev d)) j).1)
/-! the calls -/
def sp_application (d : DC) (r : Int32) : Int32 × DC := if r < 0 ∨ ¬ r ≤ 10 then (-2, d) else if gI d 0 0 0 = 0 then (-3, d) else if 16 ≤ dna d then (-4, d) else (nI (dna d + 1), sNa (sI d 10 (dna d) 0 r) (dna d + 1))
def sp_newT (d : DC) (i : Nat) (v : Int64) : DC := sNt (sOw (sI (sL (sI d 15 (dnt d) 0 (nI (i + 1))) 2 (dnt d) 0 v) 12 (dnt d) 0 1) (dnt d) i) (dnt d + 1)
def sp_task (d : DC) (a : Int32) (v : Int64) : Int32 × DC := match ix (dna d) a with
  | none => (-1, d)
  | some i => if v < 0 ∨ ¬ v ≤ 1000000 then (-2, d) else if gI d 0 0 0 = 0 ∨ ¬ gI d 11 i 0 = 0 then (-3, d) else if 60 ≤ dnt d then (-4, d) else (nI (dnt d + 1), sp_newT d i v)
def sp_addR (d : DC) (i : Nat) (f n : Int64) : DC := sI (sL (sL d 0 i (gI d 9 i 0).toNatClampNeg f) 1 i (gI d 9 i 0).toNatClampNeg n) 9 i 0 (gI d 9 i 0 + 1)
def sp_region (d : DC) (a : Int32) (f n : Int64) : Int32 × DC := match ix (dna d) a with
  | none => (-1, d)
  | some i => if f < 0 ∨ 1099511627776 < f ∨ n < 1 ∨ ¬ n ≤ 1099511627776 then (-2, d) else if gI d 0 0 0 = 0 then (-3, d) else if gI d 9 i 0 = 8 then (-4, d) else (gI d 9 i 0 + 1, sp_addR d i f n)
def sp_holds (d : DC) (x k w : Int32) : Int32 × DC := match ix (dnt d) x with
  | none => (-1, d)
  | some j => if k < 0 ∨ 4 ≤ k ∨ w < 1 ∨ ¬ w ≤ 32 then (-2, d) else if (gI d 0 0 0 = 0 ∨ gI d 12 j 0 = 0) ∨ ¬ gI d 2 0 (32 * k.toNatClampNeg + w.toNatClampNeg - 1) = 0 then (-3, d) else (cnt (gI (sI d 2 0 (32 * k.toNatClampNeg + w.toNatClampNeg - 1) (nI (j + 1))) 2 0) (nI (j + 1)) 128, sI d 2 0 (32 * k.toNatClampNeg + w.toNatClampNeg - 1) (nI (j + 1)))
def sp_fault (d : DC) (x k : Int32) : Int32 × DC := match ix (dnt d) x with
  | none => (-1, d)
  | some j => if k < 1 ∨ ¬ k ≤ 5 then (-2, d) else if gI d 0 0 0 = 0 ∨ gI d 12 j 0 = 0 then (-3, d) else sp_raise d j k
def sp_tell (d : DC) (b : Nat) (i w : Int32) : Int32 := if i = -1 ∧ w = 0 then gI d 5 b 0 else if i < 0 ∨ gI d 5 b 0 ≤ i ∨ ¬ i < 500 then -1 else if w < 0 ∨ ¬ w < nI (3 + b) then -2 else gI d 7 b (4 * i.toNatClampNeg + w.toNatClampNeg)
def sp_hook (d : DC) (l x f : Int32) : Int32 × DC := if l < 0 ∨ ¬ l < 3 then (-1, d) else if x < 0 ∨ ¬ x ≤ 5 then (-2, d) else if gI d 0 0 0 = 0 then (-3, d) else (1, sI (sI d 3 0 l.toNatClampNeg x) 4 0 l.toNatClampNeg f)
def sp_early (d : DC) (j : Nat) (t : Int64) : Prop := ¬ gI d 13 j 0 = 0 ∧ t - gL d 3 j 0 < gL d 2 j 0
def sp_come (d : DC) (j : Nat) (t : Int64) : DC := sL (sI (sI (sL d 4 j 0 t) 14 j 0 0) 13 j 0 1) 3 j 0 t
noncomputable def sp_arrival (d : DC) (x : Int32) (t : Int64) : Int32 × DC := match ix (dnt d) x with
  | none => (-1000, d)
  | some j => if ¬ gL d 4 j 0 ≤ t then (-2000, d) else if gI d 0 0 0 = 0 ∨ gI d 12 j 0 = 0 then (-3000, d) else
    if ¬ gI d 13 j 0 = 0 ∧ t - gL d 3 j 0 < gL d 2 j 0 then (if gI d 14 j 0 = 0 then (0, sI (sL d 4 j 0 t) 14 j 0 1) else (-(sp_raise (sI (sL d 4 j 0 t) 14 j 0 0) j 4).1, (sp_raise (sI (sL d 4 j 0 t) 14 j 0 0) j 4).2)) else (1, sp_come d j t)
def sp_in (d : DC) (i : Nat) (a : Int64) : Bool := inB (gL d 0 i) (gL d 1 i) a (gI d 9 i 0).toNatClampNeg
def sp_trusted (d : DC) (x : Int32) (a : Int64) : Int32 := match ix (dnt d) x with
  | none => -1
  | some j => if sp_in d (dow d j) a = true then 1 else 0
def sp_access (d : DC) (x : Int32) (a : Int64) : Int32 × DC := match ix (dnt d) x with
  | none => (-1000, d)
  | some j => if gI d 0 0 0 = 0 ∨ gI d 12 j 0 = 0 then (-3000, d) else if sp_in d (dow d j) a = true then (1, d) else (-(sp_raise d j 2).1, (sp_raise d j 2).2)
def sp_state (d : DC) (a : Int32) : Int32 := match ix (dna d) a with
  | none => -1
  | some i => if gI d 0 0 0 = 0 then 2 else if gI d 11 i 0 = 0 then 0 else 1
theorem nI_inc (i : Nat) : nI i + Int32.ofInt 1 = nI (i + 1) := nI_1 i
theorem lp_out {k : Nat} {i : Nat} (hk : k < 2 ^ 31) (hi : i ≤ k) (h : nI k ≤ nI i) : i = k := by
  have := (nI_leI hk (by omega)).mp h
  omega
theorem lp_in {k : Nat} {i : Nat} (hk : k < 2 ^ 31) (hi : i ≤ k) (h : ¬ nI k ≤ nI i) : i < k := by
  rcases Nat.lt_or_ge i k with q | q
  · exact q
  · exact absurd (nI_le q (by omega)) h
theorem cnt_y {f : Nat → Int32} {x : Int32} {n : Nat} (h : f n = x) : cnt f x (n + 1) = cnt f x n + 1 := by simp [cnt, h]
theorem cnt_n {f : Nat → Int32} {x : Int32} {n : Nat} (h : ¬ f n = x) : cnt f x (n + 1) = cnt f x n := by simp [cnt, h]
theorem inB_f {st sz : Nat → Int64} {a : Int64} {n : Nat} (h : inB st sz a n = false) (h2 : ¬ (st n ≤ a ∧ a - st n < sz n)) : inB st sz a (n + 1) = false := by simp only [inB, h, Bool.false_or]; exact decide_eq_false h2
theorem inB_t {st sz : Nat → Int64} {a : Int64} {n m : Nat} (hm : n < m) (h : st n ≤ a ∧ a - st n < sz n) : inB st sz a m = true := by
  induction m with
  | zero => omega
  | succ m ih =>
    rcases Nat.lt_or_ge n m with q | q
    · simp [inB, ih q]
    · have : n = m := by omega
      subst this
      simp only [inB, decide_eq_true h, Bool.or_true]
section RQ
variable {p : Program} {l : Launch} {e : Env} {R : Room} {s : State} {m : MethodId} {args : Array Value} {below : List Frame} {meth : Method} {c : Code} {H : Heap} {locs : List Loc} {cells slots : Nat} {Q : State → Prop}
variable {cc : ByteArray} {nL pc : Nat} {ls : Array Slot} {rest : List Value} {D : va_G} {cl : List vw_C} {a : Nat} {tys : List (ClassId × FieldType)} {Ts : List Cond} {own : String}
theorem rn_aldS (X : CX p m c cc nL s args Ts own D cl tys) (t0 : Nat) {cA : ClassId} {C : String} {n : Nat} {f : Nat → Option Nat} (hP : va_at D cl (a, .inl (cA, n, .inr (.inr (.inr (.inr f))))) H) (ht : tys[t0]? = some (cA, .object C)) {i : Int32} {t : Nat} (hi : i = nI t) (hlt : t < n) (hn : n < 2 ^ 31) {v : Nat} (hf : f t = some v) (hdg : decode cc pc = .ok (.aaload, 1))
    (kk : W p l e R s m args below meth c H locs cells slots Q (F0 m (pc + 1) ls (.ref v :: rest))) : W p l e R s m args below meth c H locs cells slots Q (F0 m pc ls (.int i :: .ref a :: rest)) :=
  rn_aldq X t0 hP ht hi hlt hn hdg (by rw [hf]; exact kk)
theorem rn_aldN (X : CX p m c cc nL s args Ts own D cl tys) (t0 : Nat) {cA : ClassId} {C : String} {n : Nat} {f : Nat → Option Nat} (hP : va_at D cl (a, .inl (cA, n, .inr (.inr (.inr (.inr f))))) H) (ht : tys[t0]? = some (cA, .object C)) {i : Int32} {t : Nat} (hi : i = nI t) (hlt : t < n) (hn : n < 2 ^ 31) (hf : f t = none) (hdg : decode cc pc = .ok (.aaload, 1))
    (kk : W p l e R s m args below meth c H locs cells slots Q (F0 m (pc + 1) ls (.null :: rest))) : W p l e R s m args below meth c H locs cells slots Q (F0 m pc ls (.int i :: .ref a :: rest)) :=
  rn_aldq X t0 hP ht hi hlt hn hdg (by rw [hf]; exact kk)
end RQ
/-! setting one field of all -/
def kp0 (d d2 : DC) : Prop := d2.1 = d.1 ∧ d2.2.1 = d.2.1 ∧ d2.2.2.1 = d.2.2.1
theorem dc_ext {d d2 : DC} (h : kp0 d d2) (hI : ∀ k i j, gI d k i j = gI d2 k i j) (hL : ∀ k i j, gL d k i j = gL d2 k i j) : d = d2 := by
  obtain ⟨a, b, c, e, f⟩ := d
  obtain ⟨a2, b2, c2, e2, f2⟩ := d2
  obtain ⟨h1, h2, h3⟩ := h
  simp only at h1 h2 h3
  subst h1; subst h2; subst h3
  have : e = e2 := funext fun k => funext fun i => funext fun j => hI k i j
  subst this
  have : f = f2 := funext fun k => funext fun i => funext fun j => hL k i j
  subst this
  rfl
theorem sA_0 (d : DC) (k : Nat) (v : Int32) : sA d k 0 v = d := dc_ext ⟨rfl, rfl, rfl⟩ (fun k' i' j' => by show (if k' = k ∧ i' < 0 ∧ j' = 0 then v else _) = _; rw [if_neg (by omega)]; rfl) (fun _ _ _ => rfl)
theorem sA_in {d : DC} {k i n : Nat} {v : Int32} (h : i < n) : sI (sA d k (min i n) v) k i 0 v = sA d k (min (i + 1) n) v := by
  refine dc_ext ⟨rfl, rfl, rfl⟩ (fun k' i' j' => ?_) (fun _ _ _ => rfl)
  show (if k' = k ∧ i' = i ∧ j' = 0 then v else if k' = k ∧ i' < min i n ∧ j' = 0 then v else d.2.2.2.1 k' i' j') = if k' = k ∧ i' < min (i + 1) n ∧ j' = 0 then v else d.2.2.2.1 k' i' j'
  by_cases h1 : k' = k ∧ i' = i ∧ j' = 0
  · rw [if_pos h1, if_pos ⟨h1.1, by omega, h1.2.2⟩]
  · rw [if_neg h1]
    by_cases h2 : k' = k ∧ i' < min i n ∧ j' = 0
    · rw [if_pos h2, if_pos ⟨h2.1, by omega, h2.2.2⟩]
    · rw [if_neg h2, if_neg (fun q => (Nat.lt_or_ge i' i).elim (fun z => h2 ⟨q.1, by omega, q.2.2⟩) (fun z => h1 ⟨q.1, by omega, q.2.2⟩))]
theorem sA_out {d : DC} {k i n : Nat} {v : Int32} (h : ¬ i < n) : sA d k (min i n) v = sA d k (min (i + 1) n) v := by
  rw [show min i n = n by omega, show min (i + 1) n = n by omega]
theorem sW_0 (d : DC) (o : Nat) (v : Int32) : sW d o 0 v = d := dc_ext ⟨rfl, rfl, rfl⟩ (fun k' i' j' => by show (if k' = 12 ∧ i' < 0 ∧ d.2.2.1 i' = o ∧ j' = 0 then v else _) = _; rw [if_neg (by omega)]; rfl) (fun _ _ _ => rfl)
theorem sW_in {d : DC} {o i n : Nat} {v : Int32} (h : i < n) (ho : dow d i = o) : sI (sW d o (min i n) v) 12 i 0 v = sW d o (min (i + 1) n) v := by
  refine dc_ext ⟨rfl, rfl, rfl⟩ (fun k' i' j' => ?_) (fun _ _ _ => rfl)
  show (if k' = 12 ∧ i' = i ∧ j' = 0 then v else if k' = 12 ∧ i' < min i n ∧ d.2.2.1 i' = o ∧ j' = 0 then v else d.2.2.2.1 k' i' j') = if k' = 12 ∧ i' < min (i + 1) n ∧ d.2.2.1 i' = o ∧ j' = 0 then v else d.2.2.2.1 k' i' j'
  by_cases h1 : k' = 12 ∧ i' = i ∧ j' = 0
  · rw [if_pos h1, if_pos ⟨h1.1, by omega, by rw [h1.2.1]; exact ho, h1.2.2⟩]
  · rw [if_neg h1]
    by_cases h2 : k' = 12 ∧ i' < min i n ∧ d.2.2.1 i' = o ∧ j' = 0
    · rw [if_pos h2, if_pos ⟨h2.1, by omega, h2.2.2⟩]
    · rw [if_neg h2, if_neg (fun q => (Nat.lt_or_ge i' i).elim (fun z => h2 ⟨q.1, by omega, q.2.2⟩) (fun z => h1 ⟨q.1, by omega, q.2.2.2⟩))]
theorem sW_no {d : DC} {o i n : Nat} {v : Int32} (h : ¬ (i < n ∧ dow d i = o)) : sW d o (min i n) v = sW d o (min (i + 1) n) v := by
  refine dc_ext ⟨rfl, rfl, rfl⟩ (fun k' i' j' => ?_) (fun _ _ _ => rfl)
  show (if k' = 12 ∧ i' < min i n ∧ d.2.2.1 i' = o ∧ j' = 0 then v else d.2.2.2.1 k' i' j') = if k' = 12 ∧ i' < min (i + 1) n ∧ d.2.2.1 i' = o ∧ j' = 0 then v else d.2.2.2.1 k' i' j'
  by_cases h2 : k' = 12 ∧ i' < min i n ∧ d.2.2.1 i' = o ∧ j' = 0
  · rw [if_pos h2, if_pos ⟨h2.1, by omega, h2.2.2⟩]
  · rw [if_neg h2, if_neg (fun q => (Nat.lt_or_ge i' i).elim (fun z => h2 ⟨q.1, by omega, q.2.2⟩) (fun z => h ⟨by omega, by rw [← show i' = i by omega]; exact q.2.2.1⟩))]
