set_option maxHeartbeats 4000000 in
theorem c_P_canAct (l : Launch) (D : va_G) (ct : Nat → ClassId) (lay : Nat → Nat → Nat) (d : DC) (sz j : Nat) (hj : j < dnt d) :
    CoI valC cellC l D ct y_P_canAct b_P_canAct 2 (some .boolean) { frames := 0, cells := 0, slots := 0, locals := 0 } (lay, d) sz [.ref (lay 0 0), .ref (lay 11 j)] (fun r u => (r = if gI d 0 0 0 = 0 then 0 else if gI d 12 j 0 = 0 then 0 else 1) ∧ u = (lay, d)) := by
  refine co_of (by decide) (by decide) (fun p e s m below meth c X hr hlocks hnm hsz hW ls hl => ?_)
  subst hsz
  have hx := X.1.1
  have hb := X.1.2.1
  have hS : va_S (Wfr (valC (lay, d)) lay s.heap.size) s.heap s.heap [] := va_S.rf
  have hl : lv_has ls 2 [(0, .ref (lay 0 0)), (1, .ref (lay 11 j))] := hl
  refine lv_aload_n hx hb d_P_canAct_0 rfl (lv_at hl 0 rfl) ?_
  refine gf_P_44 X (aC0 hW) rfl d_P_canAct_1 ?_
  refine lv_if_eq (tgt := 18) hx hb d_P_canAct_4 (by decide) (fun c_1 => ?_) (fun c_1 => ?_)
  · refine lv_iconst (v := 0) hx hb d_P_canAct_18 (by decide) ?_
    exact leafZ (val := valC) (cell := cellC) X hr hlocks hS (u2 := (lay, d)) hW rfl ⟨by simp [c_1], rfl⟩ d_P_canAct_19
  · refine lv_aload_n hx hb d_P_canAct_7 rfl (lv_at hl 1 rfl) ?_
    refine gf_P_124 X (aC11 hW hj) rfl d_P_canAct_8 ?_
    refine lv_if_eq (tgt := 18) hx hb d_P_canAct_11 (by decide) (fun c_2 => ?_) (fun c_2 => ?_)
    · refine lv_iconst (v := 0) hx hb d_P_canAct_18 (by decide) ?_
      exact leafZ (val := valC) (cell := cellC) X hr hlocks hS (u2 := (lay, d)) hW rfl ⟨by simp [c_1, c_2], rfl⟩ d_P_canAct_19
    · refine lv_iconst (v := 1) hx hb d_P_canAct_14 (by decide) ?_
      refine lv_goto (tgt := 19) hx hb d_P_canAct_15 (by decide) ?_
      exact leafZ (val := valC) (cell := cellC) X hr hlocks hS (u2 := (lay, d)) hW rfl ⟨by simp [c_1, c_2], rfl⟩ d_P_canAct_19
