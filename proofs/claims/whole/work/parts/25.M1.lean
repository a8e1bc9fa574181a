theorem nom_in {n : Nat} {x : Int32} (h1 : 1 ≤ x) (h2 : x ≤ nI n) (hn : n ≤ 60) : ∃ j, j < n ∧ x = nI (j + 1) ∧ ix n x = some j ∧ (0 : Int32) = 0 := by
  obtain ⟨j, hj, e⟩ := nI_of1 (n := n) (by omega) h1 h2
  exact ⟨j, hj, e, by rw [e]; exact ix_is hj (by omega), rfl⟩
set_option maxHeartbeats 4000000 in
set_option maxRecDepth 100000 in
theorem c_M_noApplication (l : Launch) (D : va_G) (ct : Nat → ClassId) (lay : Nat → Nat → Nat) (d : DC) (sz : Nat) (x : Int32) (hn : dna d ≤ 60) :
    CoI valM cellM l D ct y_M_noApplication b_M_noApplication 2 (some .boolean) { frames := 0, cells := 0, slots := 0, locals := 0 } (lay, d) sz [.ref (lay 0 0), .int x] (fun r u => u = (lay, d) ∧ ((∃ j, j < dna d ∧ x = nI (j + 1) ∧ ix (dna d) x = some j ∧ r = 0) ∨ (ix (dna d) x = none ∧ r = 1))) := by
  refine co_of (by decide) (Nat.le_of_ble_eq_true rfl) (fun p e s m below meth c X hr hlocks hnm hsz hW ls hl => ?_)
  subst hsz
  have hx := X.1.1
  have hb := X.1.2.1
  have hS : va_S (Wfr (valM (lay, d)) lay s.heap.size) s.heap s.heap [] := va_S.rf
  have hl : lv_has ls 2 [(0, .ref (lay 0 0)), (1, .int x)] := hl
  refine lv_aload_n hx hb d_M_noApplication_0 rfl (lv_at hl 0 rfl) ?_
  refine lv_iconst (v := 0) hx hb d_M_noApplication_1 (by decide) ?_
  refine pf_M_66 X (aM0 hW) hS (wfr 0 0 ⟨by decide, rfl⟩) rfl rfl (Nat.le_of_ble_eq_true rfl) d_M_noApplication_2 (fun H locs hat hch hS => ?_)
  have hW := wpM_code hW hat hch
  refine lv_iload_n hx hb d_M_noApplication_5 rfl (lv_at hl 1 rfl) ?_
  refine lv_iconst (v := 1) hx hb d_M_noApplication_6 (by decide) ?_
  refine lv_icmp_lt (tgt := 18) hx hb d_M_noApplication_7 (by decide) (fun c_1 => ?_) (fun c_1 => ?_)
  · refine lv_iconst (v := 1) hx hb d_M_noApplication_18 (by decide) ?_
    refine lv_goto (tgt := 23) hx hb d_M_noApplication_19 (by decide) ?_
    exact leafZ (val := valM) (cell := cellM) X hr hlocks hS (u2 := (lay, d)) hW (v := 1) rfl ⟨rfl, Or.inr ⟨ix_no (fun q => absurd q.1 (Int32.not_le.mpr c_1)), rfl⟩⟩ d_M_noApplication_23
  · refine lv_iload_n hx hb d_M_noApplication_10 rfl (lv_at hl 1 rfl) ?_
    refine lv_aload_n hx hb d_M_noApplication_11 rfl (lv_at hl 0 rfl) ?_
    refine gf_M_70 X (aM0 hW) rfl d_M_noApplication_12 ?_
    refine lv_icmp_le (tgt := 22) hx hb d_M_noApplication_15 (by decide) (fun c_2 => ?_) (fun c_2 => ?_)
    · refine lv_iconst (v := 0) hx hb d_M_noApplication_22 (by decide) ?_
      exact leafZ (val := valM) (cell := cellM) X hr hlocks hS (u2 := (lay, d)) hW (v := 0) rfl ⟨rfl, Or.inl (nom_in (Int32.not_lt.mp c_1) c_2 hn)⟩ d_M_noApplication_23
    · refine lv_iconst (v := 1) hx hb d_M_noApplication_18 (by decide) ?_
      refine lv_goto (tgt := 23) hx hb d_M_noApplication_19 (by decide) ?_
      exact leafZ (val := valM) (cell := cellM) X hr hlocks hS (u2 := (lay, d)) hW (v := 1) rfl ⟨rfl, Or.inr ⟨ix_no (fun q => c_2 q.2), rfl⟩⟩ d_M_noApplication_23
set_option maxHeartbeats 4000000 in
set_option maxRecDepth 100000 in
theorem c_M_noTask (l : Launch) (D : va_G) (ct : Nat → ClassId) (lay : Nat → Nat → Nat) (d : DC) (sz : Nat) (x : Int32) (hn : dnt d ≤ 60) :
    CoI valM cellM l D ct y_M_noTask b_M_noTask 2 (some .boolean) { frames := 0, cells := 0, slots := 0, locals := 0 } (lay, d) sz [.ref (lay 0 0), .int x] (fun r u => u = (lay, d) ∧ ((∃ j, j < dnt d ∧ x = nI (j + 1) ∧ ix (dnt d) x = some j ∧ r = 0) ∨ (ix (dnt d) x = none ∧ r = 1))) := by
  refine co_of (by decide) (Nat.le_of_ble_eq_true rfl) (fun p e s m below meth c X hr hlocks hnm hsz hW ls hl => ?_)
  subst hsz
  have hx := X.1.1
  have hb := X.1.2.1
  have hS : va_S (Wfr (valM (lay, d)) lay s.heap.size) s.heap s.heap [] := va_S.rf
  have hl : lv_has ls 2 [(0, .ref (lay 0 0)), (1, .int x)] := hl
  refine lv_aload_n hx hb d_M_noTask_0 rfl (lv_at hl 0 rfl) ?_
  refine lv_iconst (v := 0) hx hb d_M_noTask_1 (by decide) ?_
  refine pf_M_66 X (aM0 hW) hS (wfr 0 0 ⟨by decide, rfl⟩) rfl rfl (Nat.le_of_ble_eq_true rfl) d_M_noTask_2 (fun H locs hat hch hS => ?_)
  have hW := wpM_code hW hat hch
  refine lv_iload_n hx hb d_M_noTask_5 rfl (lv_at hl 1 rfl) ?_
  refine lv_iconst (v := 1) hx hb d_M_noTask_6 (by decide) ?_
  refine lv_icmp_lt (tgt := 18) hx hb d_M_noTask_7 (by decide) (fun c_1 => ?_) (fun c_1 => ?_)
  · refine lv_iconst (v := 1) hx hb d_M_noTask_18 (by decide) ?_
    refine lv_goto (tgt := 23) hx hb d_M_noTask_19 (by decide) ?_
    exact leafZ (val := valM) (cell := cellM) X hr hlocks hS (u2 := (lay, d)) hW (v := 1) rfl ⟨rfl, Or.inr ⟨ix_no (fun q => absurd q.1 (Int32.not_le.mpr c_1)), rfl⟩⟩ d_M_noTask_23
  · refine lv_iload_n hx hb d_M_noTask_10 rfl (lv_at hl 1 rfl) ?_
    refine lv_aload_n hx hb d_M_noTask_11 rfl (lv_at hl 0 rfl) ?_
    refine gf_M_73 X (aM0 hW) rfl d_M_noTask_12 ?_
    refine lv_icmp_le (tgt := 22) hx hb d_M_noTask_15 (by decide) (fun c_2 => ?_) (fun c_2 => ?_)
    · refine lv_iconst (v := 0) hx hb d_M_noTask_22 (by decide) ?_
      exact leafZ (val := valM) (cell := cellM) X hr hlocks hS (u2 := (lay, d)) hW (v := 0) rfl ⟨rfl, Or.inl (nom_in (Int32.not_lt.mp c_1) c_2 hn)⟩ d_M_noTask_23
    · refine lv_iconst (v := 1) hx hb d_M_noTask_18 (by decide) ?_
      refine lv_goto (tgt := 23) hx hb d_M_noTask_19 (by decide) ?_
      exact leafZ (val := valM) (cell := cellM) X hr hlocks hS (u2 := (lay, d)) hW (v := 1) rfl ⟨rfl, Or.inr ⟨ix_no (fun q => c_2 q.2), rfl⟩⟩ d_M_noTask_23
set_option maxHeartbeats 4000000 in
set_option maxRecDepth 100000 in
theorem c_M_shutDown (l : Launch) (D : va_G) (ct : Nat → ClassId) (lay : Nat → Nat → Nat) (d : DC) (sz : Nat) (hna : dna d ≤ 16) (hnt : dnt d ≤ 60) :
    CoV valM cellM l D ct y_M_shutDown b_M_shutDown 2 { frames := 0, cells := 0, slots := 0, locals := 0 } (lay, d) sz [.ref (lay 0 0)] (fun u => u = (lay, sp_shut d)) := by
  refine co_of (by decide) (Nat.le_of_ble_eq_true rfl) (fun p e s m below meth c X hr hlocks hnm hsz hW ls hl => ?_)
  subst hsz
  have hx := X.1.1
  have hb := X.1.2.1
  have hS : va_S (Wfr (valM (lay, d)) lay s.heap.size) s.heap s.heap [] := va_S.rf
  have hl : lv_has ls 2 [(0, .ref (lay 0 0))] := hl
  refine lv_aload_n hx hb d_M_shutDown_0 rfl (lv_at hl 0 rfl) ?_
  refine lv_iconst (v := 1) hx hb d_M_shutDown_1 (by decide) ?_
  refine pf_M_76 X (aM0 hW) hS (wfr 0 0 ⟨by decide, rfl⟩) rfl rfl (Nat.le_of_ble_eq_true rfl) d_M_shutDown_2 (fun H locs hat hch hS => ?_)
  have hW := wpM_down hW hat hch
  refine lv_iconst (v := 1) hx hb d_M_shutDown_5 (by decide) ?_
  refine lv_istore_n (lv' := [(1, .int 1), (0, .ref (lay 0 0))]) hx hb d_M_shutDown_6 rfl hl (by decide) rfl (fun ls hl => ?_)
  have loop : ∀ (n i : Nat) (H : Heap) (locs : List Loc) (ls : Array Slot), i ≤ dnt d → dnt d + 1 ≤ i + n → WM D ct (lay, (sA (sI d 0 0 0 0) 12 (min i (dnt d)) 0)) H → va_S (Wfr (valM (lay, d)) lay s.heap.size) s.heap H locs → lv_has ls 2 [(1, .int (nI (i + 1))), (0, .ref (lay 0 0))] → W p l e { frames := 0, cells := 0, slots := 0, locals := 0 } s m [.ref (lay 0 0)].toArray below meth c H locs 0 0 (MQ below (va_Qv (fun u => u = (lay, sp_shut d)) (WB D classes (tysA ct) valM (fun u : CS => u.1) (cellM ct)) (Wfr (valM (lay, d)) lay s.heap.size)) [.ref (lay 0 0)].toArray s 0 0 (Wfr (valM (lay, d)) lay s.heap.size)) (F0 m 7 ls []) := by
    intro n
    induction n with
    | zero => intro i  H locs ls h1 h2; exact absurd h2 (by omega)
    | succ n ih =>
      intro i  H locs ls hi hn  hW hS hl
      refine lv_iload_n hx hb d_M_shutDown_7 rfl (lv_at hl 0 rfl) ?_
      refine lv_aload_n hx hb d_M_shutDown_8 rfl (lv_at hl 1 rfl) ?_
      refine gf_M_73 X (aM0 hW) rfl d_M_shutDown_9 ?_
      refine lv_icmp_gt (tgt := 28) hx hb d_M_shutDown_12 (by decide) (fun c_1 => ?_) (fun c_1 => ?_)
      · have hq : i = dnt d := lpm_out (by omega) hi c_1
        have hW : WM D ct (lay, sA (sI d 0 0 0 0) 12 (dnt d) 0) H := by rw [hq, Nat.min_self] at hW; exact hW
        refine lv_iconst (v := 1) hx hb d_M_shutDown_28 (by decide) ?_
        refine lv_istore_n (lv' := [(1, .int 1), (0, .ref (lay 0 0))]) hx hb d_M_shutDown_29 rfl hl (by decide) rfl (fun ls hl => ?_)
        have loop : ∀ (n i : Nat) (H : Heap) (locs : List Loc) (ls : Array Slot), i ≤ dna d → dna d + 1 ≤ i + n → WM D ct (lay, (sA (sA (sI d 0 0 0 0) 12 (dnt d) 0) 11 (min i (dna d)) 1)) H → va_S (Wfr (valM (lay, d)) lay s.heap.size) s.heap H locs → lv_has ls 2 [(1, .int (nI (i + 1))), (0, .ref (lay 0 0))] → W p l e { frames := 0, cells := 0, slots := 0, locals := 0 } s m [.ref (lay 0 0)].toArray below meth c H locs 0 0 (MQ below (va_Qv (fun u => u = (lay, sp_shut d)) (WB D classes (tysA ct) valM (fun u : CS => u.1) (cellM ct)) (Wfr (valM (lay, d)) lay s.heap.size)) [.ref (lay 0 0)].toArray s 0 0 (Wfr (valM (lay, d)) lay s.heap.size)) (F0 m 30 ls []) := by
          intro n
          induction n with
          | zero => intro i  H locs ls h1 h2; exact absurd h2 (by omega)
          | succ n ih =>
            intro i  H locs ls hi hn  hW hS hl
            refine lv_iload_n hx hb d_M_shutDown_30 rfl (lv_at hl 0 rfl) ?_
            refine lv_aload_n hx hb d_M_shutDown_31 rfl (lv_at hl 1 rfl) ?_
            refine gf_M_70 X (aM0 hW) rfl d_M_shutDown_32 ?_
            refine lv_icmp_gt (tgt := 51) hx hb d_M_shutDown_35 (by decide) (fun c_2 => ?_) (fun c_2 => ?_)
            · have hq : i = dna d := lpm_out (by omega) hi c_2
              have hW : WM D ct (lay, sp_shut d) H := by rw [hq, Nat.min_self] at hW; exact hW
              exact leafV (val := valM) (cell := cellM) X hr hlocks hS (u2 := (lay, (sp_shut d))) hW rfl d_M_shutDown_51
            · have hq : i < dna d := lpm_in (by omega) hi c_2
              refine lv_aload_n hx hb d_M_shutDown_38 rfl (lv_at hl 1 rfl) ?_
              refine gf_M_13 X (aM0 hW) rfl d_M_shutDown_39 ?_
              refine lv_iload_n hx hb d_M_shutDown_42 rfl (lv_at hl 0 rfl) ?_
              refine lv_iconst (v := 1) hx hb d_M_shutDown_43 (by decide) ?_
              refine rn_zast X 2 (aM2 hW) rfl hS (wfr 2 0 ⟨by decide, rfl⟩) (t := (i + 1)) rfl (by omega) (by decide) rfl d_M_shutDown_44 (fun H locs hat hch hS => ?_)
              have hW := wpM_aI11 (j := i) hW hat hch
              refine lv_iinc (v := nI ((i + 1) + 1)) (lv' := [(1, .int (nI ((i + 1) + 1))), (0, .ref (lay 0 0))]) hx hb d_M_shutDown_45 hl (k := 0) rfl (nI_inc _) (by decide) rfl (fun ls hl => ?_)
              refine lv_goto (tgt := 30) hx hb d_M_shutDown_48 (by decide) ?_
              exact ih (i + 1) H locs ls (by omega) (by omega) (by rw [← sA_in hq]; exact hW) hS (lv_sub hl [0, 1] rfl)
        exact loop (dna d + 1) 0 H locs ls (by omega) (by omega) (by rw [Nat.zero_min, sA_0]; exact hW) hS (lv_sub hl [0, 1] rfl)
      · have hq : i < dnt d := lpm_in (by omega) hi c_1
        refine lv_aload_n hx hb d_M_shutDown_15 rfl (lv_at hl 1 rfl) ?_
        refine gf_M_33 X (aM0 hW) rfl d_M_shutDown_16 ?_
        refine lv_iload_n hx hb d_M_shutDown_19 rfl (lv_at hl 0 rfl) ?_
        refine lv_iconst (v := 0) hx hb d_M_shutDown_20 (by decide) ?_
        refine rn_zast X 2 (aM8 hW) rfl hS (wfr 8 0 ⟨by decide, rfl⟩) (t := (i + 1)) rfl (by omega) (by decide) rfl d_M_shutDown_21 (fun H locs hat hch hS => ?_)
        have hW := wpM_aI12 (j := i) hW hat hch
        refine lv_iinc (v := nI ((i + 1) + 1)) (lv' := [(1, .int (nI ((i + 1) + 1))), (0, .ref (lay 0 0))]) hx hb d_M_shutDown_22 hl (k := 0) rfl (nI_inc _) (by decide) rfl (fun ls hl => ?_)
        refine lv_goto (tgt := 7) hx hb d_M_shutDown_25 (by decide) ?_
        exact ih (i + 1) H locs ls (by omega) (by omega) (by rw [← sA_in hq]; exact hW) hS (lv_sub hl [0, 1] rfl)
  exact loop (dnt d + 1) 0 H locs ls (by omega) (by omega) (by rw [Nat.zero_min, sA_0]; exact hW) hS (lv_sub hl [0, 1] rfl)
