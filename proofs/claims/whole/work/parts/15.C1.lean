/-- what a lookup by number answers -/
def num_post (lay : Nat → Nat) (n : Nat) (x : Int32) (r : Option Nat) : Prop := (∃ j, j < n ∧ x = nI (j + 1) ∧ ix n x = some j ∧ r = some (lay j)) ∨ (ix n x = none ∧ r = none)
theorem num_in {lay : Nat → Nat} {n : Nat} (t : Nat) (hn : n < 2 ^ 31 := by omega) (ht : t + 1 < 2 ^ 31 := by omega) : num_post lay n (nI (t + 1)) (if t < n then some (lay t) else none) := by
  by_cases h : t < n
  · exact Or.inl ⟨t, h, rfl, ix_is h hn, if_pos h⟩
  · refine Or.inr ⟨ix_no (fun q => h ?_), if_neg h⟩
    have q2 := q.2
    rw [i32le, nI_toInt (by omega), nI_toInt hn] at q2
    omega
theorem num_no {lay : Nat → Nat} {m n : Nat} {x : Int32} (hm : m ≤ n) (hn : n < 2 ^ 31) (h : x < 1 ∨ nI n < x) : num_post lay m x none := by
  refine Or.inr ⟨ix_no (fun q => ?_), rfl⟩
  rcases h with h | h
  · exact absurd q.1 (Int32.not_le.mpr h)
  · exact absurd (Int32.le_trans q.2 (nI_le hm hn)) (Int32.not_le.mpr h)
set_option maxHeartbeats 4000000 in
set_option maxRecDepth 100000 in
theorem c_P_canAct (l : Launch) (D : va_G) (ct : Nat → ClassId) (lay : Nat → Nat → Nat) (d : DC) (sz : Nat) (j : Nat) (hj : j < dnt d) :
    CoI valC cellC l D ct y_P_canAct b_P_canAct 2 (some .boolean) { frames := 0, cells := 0, slots := 0, locals := 0 } (lay, d) sz [.ref (lay 0 0), .ref (lay 11 j)] (fun r u => (r = if gI d 0 0 0 = 0 ∨ gI d 12 j 0 = 0 then 0 else 1) ∧ u = (lay, d)) := by
  refine co_of (by decide) (Nat.le_of_ble_eq_true rfl) (fun p e s m below meth c X hr hlocks hnm hsz hW ls hl => ?_)
  subst hsz
  have hx := X.1.1
  have hb := X.1.2.1
  have hS : va_S (Wfr (valC (lay, d)) lay s.heap.size) s.heap s.heap [] := va_S.rf
  have hl : lv_has ls 2 [(0, .ref (lay 0 0)), (1, .ref (lay 11 j))] := hl
  refine lv_aload_n hx hb d_P_canAct_0 rfl (lv_at hl 0 rfl) ?_
  refine gf_P_44 X (aC0 hW) rfl d_P_canAct_1 ?_
  refine lv_if_eq (tgt := 18) hx hb d_P_canAct_4 (by decide) (fun c_1 => ?_) (fun c_1 => ?_)
  · refine lv_iconst (v := 0) hx hb d_P_canAct_18 (by decide) ?_
    exact leafZ (val := valC) (cell := cellC) X hr hlocks hS (u2 := (lay, d)) hW (v := 0) rfl ⟨by simp [c_1], rfl⟩ d_P_canAct_19
  · refine lv_aload_n hx hb d_P_canAct_7 rfl (lv_at hl 1 rfl) ?_
    refine gf_P_124 X (aC11 hW hj) rfl d_P_canAct_8 ?_
    refine lv_if_eq (tgt := 18) hx hb d_P_canAct_11 (by decide) (fun c_2 => ?_) (fun c_2 => ?_)
    · refine lv_iconst (v := 0) hx hb d_P_canAct_18 (by decide) ?_
      exact leafZ (val := valC) (cell := cellC) X hr hlocks hS (u2 := (lay, d)) hW (v := 0) rfl ⟨by simp [c_1, c_2], rfl⟩ d_P_canAct_19
    · refine lv_iconst (v := 1) hx hb d_P_canAct_14 (by decide) ?_
      refine lv_goto (tgt := 19) hx hb d_P_canAct_15 (by decide) ?_
      exact leafZ (val := valC) (cell := cellC) X hr hlocks hS (u2 := (lay, d)) hW (v := 1) rfl ⟨by simp [c_1, c_2], rfl⟩ d_P_canAct_19
set_option maxHeartbeats 4000000 in
set_option maxRecDepth 100000 in
theorem c_T_isEarlyAt (l : Launch) (D : va_G) (ct : Nat → ClassId) (lay : Nat → Nat → Nat) (d : DC) (sz : Nat) (j : Nat) (hj : j < dnt d) (t : Int64) :
    CoI valC cellC l D ct y_T_isEarlyAt b_T_isEarlyAt 3 (some .boolean) { frames := 0, cells := 0, slots := 0, locals := 0 } (lay, d) sz [.ref (lay 11 j), .long t] (fun r u => (r = if ¬ gI d 13 j 0 = 0 ∧ t - gL d 3 j 0 < gL d 2 j 0 then 1 else 0) ∧ u = (lay, d)) := by
  refine co_of (by decide) (Nat.le_of_ble_eq_true rfl) (fun p e s m below meth c X hr hlocks hnm hsz hW ls hl => ?_)
  subst hsz
  have hx := X.1.1
  have hb := X.1.2.1
  have hS : va_S (Wfr (valC (lay, d)) lay s.heap.size) s.heap s.heap [] := va_S.rf
  have hl : lv_has ls 3 [(0, .ref (lay 11 j)), (1, .long t)] := hl
  refine lv_aload_n hx hb d_T_isEarlyAt_0 rfl (lv_at hl 0 rfl) ?_
  refine gf_T_25 X (aC11 hW hj) rfl d_T_isEarlyAt_1 ?_
  refine lv_if_eq (tgt := 25) hx hb d_T_isEarlyAt_4 (by decide) (fun c_1 => ?_) (fun c_1 => ?_)
  · refine lv_iconst (v := 0) hx hb d_T_isEarlyAt_25 (by decide) ?_
    exact leafZ (val := valC) (cell := cellC) X hr hlocks hS (u2 := (lay, d)) hW (v := 0) rfl ⟨by simp [c_1], rfl⟩ d_T_isEarlyAt_26
  · refine lv_lload_n hx hb d_T_isEarlyAt_7 rfl (lv_at hl 1 rfl) ?_
    refine lv_aload_n hx hb d_T_isEarlyAt_8 rfl (lv_at hl 0 rfl) ?_
    refine gf_T_28 X (aC11 hW hj) rfl d_T_isEarlyAt_9 ?_
    refine lv_lsub hx hb d_T_isEarlyAt_12 ?_
    refine lv_aload_n hx hb d_T_isEarlyAt_13 rfl (lv_at hl 0 rfl) ?_
    refine gf_T_21 X (aC11 hW hj) rfl d_T_isEarlyAt_14 ?_
    refine W.lcmp hx hb d_T_isEarlyAt_17 ?_
    refine lv_if_ge (tgt := 25) hx hb d_T_isEarlyAt_18 (by decide) (fun c_2 => ?_) (fun c_2 => ?_)
    · rw [lgc_ge] at c_2
      refine lv_iconst (v := 0) hx hb d_T_isEarlyAt_25 (by decide) ?_
      exact leafZ (val := valC) (cell := cellC) X hr hlocks hS (u2 := (lay, d)) hW (v := 0) rfl ⟨by simp [c_1, Int64.not_lt.mpr c_2], rfl⟩ d_T_isEarlyAt_26
    · rw [lgc_ge] at c_2
      refine lv_iconst (v := 1) hx hb d_T_isEarlyAt_21 (by decide) ?_
      refine lv_goto (tgt := 26) hx hb d_T_isEarlyAt_22 (by decide) ?_
      exact leafZ (val := valC) (cell := cellC) X hr hlocks hS (u2 := (lay, d)) hW (v := 1) rfl ⟨by simp [c_1, Int64.not_le.mp c_2], rfl⟩ d_T_isEarlyAt_26
set_option maxHeartbeats 4000000 in
set_option maxRecDepth 100000 in
theorem c_P_applicationNumbered (l : Launch) (D : va_G) (ct : Nat → ClassId) (lay : Nat → Nat → Nat) (d : DC) (sz : Nat) (x : Int32) (hn : dna d ≤ 16) :
    CoQ valC cellC l D ct y_P_applicationNumbered b_P_applicationNumbered 2 (some (.object "ProtectHooks$Application")) { frames := 0, cells := 0, slots := 0, locals := 0 } (lay, d) sz [.ref (lay 0 0), .int x] (fun r u => u = (lay, d) ∧ num_post (lay 8) (dna d) x r) := by
  refine co_of (by decide) (Nat.le_of_ble_eq_true rfl) (fun p e s m below meth c X hr hlocks hnm hsz hW ls hl => ?_)
  subst hsz
  have hx := X.1.1
  have hb := X.1.2.1
  have hS : va_S (Wfr (valC (lay, d)) lay s.heap.size) s.heap s.heap [] := va_S.rf
  have hl : lv_has ls 2 [(0, .ref (lay 0 0)), (1, .int x)] := hl
  refine lv_iload_n hx hb d_P_applicationNumbered_0 rfl (lv_at hl 1 rfl) ?_
  refine lv_iconst (v := 1) hx hb d_P_applicationNumbered_1 (by decide) ?_
  refine lv_icmp_lt (tgt := 22) hx hb d_P_applicationNumbered_2 (by decide) (fun c_1 => ?_) (fun c_1 => ?_)
  · refine lv_null hx hb d_P_applicationNumbered_22 ?_
    exact leafQ (val := valC) (cell := cellC) X hr hlocks hS (u2 := (lay, d)) hW (v := none) ⟨rfl, num_no (n := 16) hn (by decide) (Or.inl c_1)⟩ d_P_applicationNumbered_23
  · refine lv_iload_n hx hb d_P_applicationNumbered_5 rfl (lv_at hl 1 rfl) ?_
    refine lv_bipush (v := 16) hx hb d_P_applicationNumbered_6 (by decide) ?_
    refine lv_icmp_gt (tgt := 22) hx hb d_P_applicationNumbered_8 (by decide) (fun c_2 => ?_) (fun c_2 => ?_)
    · refine lv_null hx hb d_P_applicationNumbered_22 ?_
      exact leafQ (val := valC) (cell := cellC) X hr hlocks hS (u2 := (lay, d)) hW (v := none) ⟨rfl, num_no (n := 16) hn (by decide) (Or.inr c_2)⟩ d_P_applicationNumbered_23
    · refine lv_aload_n hx hb d_P_applicationNumbered_11 rfl (lv_at hl 0 rfl) ?_
      refine gf_P_11 X (aC0 hW) rfl d_P_applicationNumbered_12 ?_
      refine lv_iload_n hx hb d_P_applicationNumbered_15 rfl (lv_at hl 1 rfl) ?_
      refine lv_iconst (v := 1) hx hb d_P_applicationNumbered_16 (by decide) ?_
      refine lv_isub hx hb d_P_applicationNumbered_17 ?_
      have h1 : 1 ≤ x := Int32.not_lt.mp c_1
      have h2 : x ≤ nI 16 := Int32.not_lt.mp c_2
      obtain ⟨t, ht, rfl⟩ := nI_of1 (n := 16) (by decide) h1 h2
      refine rn_aldq X 3 (aC1 hW) rfl (t := t) (nI_pred t) ht (by decide) d_P_applicationNumbered_18 ?_
      refine lv_goto (tgt := 23) hx hb d_P_applicationNumbered_19 (by decide) ?_
      exact leafQ (val := valC) (cell := cellC) X hr hlocks hS (u2 := (lay, d)) hW (v := if t < dna d then some (lay 8 t) else none) ⟨rfl, num_in (lay := lay 8) t⟩ d_P_applicationNumbered_23
set_option maxHeartbeats 4000000 in
set_option maxRecDepth 100000 in
theorem c_P_taskNumbered (l : Launch) (D : va_G) (ct : Nat → ClassId) (lay : Nat → Nat → Nat) (d : DC) (sz : Nat) (x : Int32) (hn : dnt d ≤ 60) :
    CoQ valC cellC l D ct y_P_taskNumbered b_P_taskNumbered 2 (some (.object "ProtectHooks$Task")) { frames := 0, cells := 0, slots := 0, locals := 0 } (lay, d) sz [.ref (lay 0 0), .int x] (fun r u => u = (lay, d) ∧ num_post (lay 11) (dnt d) x r) := by
  refine co_of (by decide) (Nat.le_of_ble_eq_true rfl) (fun p e s m below meth c X hr hlocks hnm hsz hW ls hl => ?_)
  subst hsz
  have hx := X.1.1
  have hb := X.1.2.1
  have hS : va_S (Wfr (valC (lay, d)) lay s.heap.size) s.heap s.heap [] := va_S.rf
  have hl : lv_has ls 2 [(0, .ref (lay 0 0)), (1, .int x)] := hl
  refine lv_iload_n hx hb d_P_taskNumbered_0 rfl (lv_at hl 1 rfl) ?_
  refine lv_iconst (v := 1) hx hb d_P_taskNumbered_1 (by decide) ?_
  refine lv_icmp_lt (tgt := 22) hx hb d_P_taskNumbered_2 (by decide) (fun c_1 => ?_) (fun c_1 => ?_)
  · refine lv_null hx hb d_P_taskNumbered_22 ?_
    exact leafQ (val := valC) (cell := cellC) X hr hlocks hS (u2 := (lay, d)) hW (v := none) ⟨rfl, num_no (n := 60) hn (by decide) (Or.inl c_1)⟩ d_P_taskNumbered_23
  · refine lv_iload_n hx hb d_P_taskNumbered_5 rfl (lv_at hl 1 rfl) ?_
    refine lv_bipush (v := 60) hx hb d_P_taskNumbered_6 (by decide) ?_
    refine lv_icmp_gt (tgt := 22) hx hb d_P_taskNumbered_8 (by decide) (fun c_2 => ?_) (fun c_2 => ?_)
    · refine lv_null hx hb d_P_taskNumbered_22 ?_
      exact leafQ (val := valC) (cell := cellC) X hr hlocks hS (u2 := (lay, d)) hW (v := none) ⟨rfl, num_no (n := 60) hn (by decide) (Or.inr c_2)⟩ d_P_taskNumbered_23
    · refine lv_aload_n hx hb d_P_taskNumbered_11 rfl (lv_at hl 0 rfl) ?_
      refine gf_P_17 X (aC0 hW) rfl d_P_taskNumbered_12 ?_
      refine lv_iload_n hx hb d_P_taskNumbered_15 rfl (lv_at hl 1 rfl) ?_
      refine lv_iconst (v := 1) hx hb d_P_taskNumbered_16 (by decide) ?_
      refine lv_isub hx hb d_P_taskNumbered_17 ?_
      have h1 : 1 ≤ x := Int32.not_lt.mp c_1
      have h2 : x ≤ nI 60 := Int32.not_lt.mp c_2
      obtain ⟨t, ht, rfl⟩ := nI_of1 (n := 60) (by decide) h1 h2
      refine rn_aldq X 4 (aC2 hW) rfl (t := t) (nI_pred t) ht (by decide) d_P_taskNumbered_18 ?_
      refine lv_goto (tgt := 23) hx hb d_P_taskNumbered_19 (by decide) ?_
      exact leafQ (val := valC) (cell := cellC) X hr hlocks hS (u2 := (lay, d)) hW (v := if t < dnt d then some (lay 11 t) else none) ⟨rfl, num_in (lay := lay 11) t⟩ d_P_taskNumbered_23
