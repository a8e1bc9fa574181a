set_option maxHeartbeats 4000000 in
set_option maxRecDepth 100000 in
theorem c_P_fault (l : Launch) (D : va_G) (ct : Nat → ClassId) (lay : Nat → Nat → Nat) (d : DC) (sz : Nat) (x k : Int32) (hna : dna d ≤ 16) (hnt : dnt d ≤ 60) (how : ∀ j, j < dnt d → dow d j < dna d) (B B1 : Nat) (hB : B + 7680 < 2147483647) (hB1 : B1 < 2147483647) (hok : okc d B B1) :
    CoI valC cellC l D ct y_P_fault b_P_fault 4 (some .int) { frames := 6, cells := 0, slots := 0, locals := 141 } (lay, d) sz [.ref (lay 0 0), .int x, .int k] (fun r u => r = (sp_fault d x k).1 ∧ u = (lay, (sp_fault d x k).2)) := by
  refine co_of (by decide) (Nat.le_of_ble_eq_true rfl) (fun p e s m below meth c X hr hlocks hnm hsz hW ls hl => ?_)
  subst hsz
  have hx := X.1.1
  have hb := X.1.2.1
  have hS : va_S (Wfr (valC (lay, d)) lay s.heap.size) s.heap s.heap [] := va_S.rf
  have hl : lv_has ls 4 [(0, .ref (lay 0 0)), (1, .int x), (2, .int k)] := hl
  refine lv_aload_n hx hb d_P_fault_0 rfl (lv_at hl 0 rfl) ?_
  refine lv_iload_n hx hb d_P_fault_1 rfl (lv_at hl 1 rfl) ?_
  refine wc_callq (val := valC) (lay := fun u : CS => u.1) (cell := cellC ct) (u0 := (lay, d)) X (c_P_taskNumbered l D ct lay d _ x hnt) (cw_P_77 X.1.2.2.2.2 rfl rfl ⟨Nat.le_of_ble_eq_true rfl, Nat.le_of_ble_eq_true rfl⟩) hW hS (fun q h => h.imp_right (fun z => Nat.le_trans hS.1 z)) (aC0 hW) rfl rfl hl.1 rfl (Nat.le_of_ble_eq_true rfl) d_P_fault_2 ⟨Nat.le_of_ble_eq_true rfl, Nat.le_of_ble_eq_true rfl⟩ (fun r u H locs hp hW hz hk hS => ?_)
  obtain ⟨rfl, hp⟩ := hp
  rcases hp with ⟨j, hj, ej, hix, rfl⟩ | ⟨hix, rfl⟩
  · have hW : WC D ct (lay, d) H := hW
    refine lv_astore_n (lv' := [(3, .ref (lay 11 j)), (0, .ref (lay 0 0)), (1, .int x), (2, .int k)]) hx hb d_P_fault_5 rfl hl (by decide) rfl (fun ls hl => ?_)
    refine lv_aload_n hx hb d_P_fault_6 rfl (lv_at hl 0 rfl) ?_
    refine lv_ifnonnull (tgt := 12) hx hb d_P_fault_7 (by decide) ?_
    refine lv_iload_n hx hb d_P_fault_12 rfl (lv_at hl 3 rfl) ?_
    refine lv_iconst (v := 1) hx hb d_P_fault_13 (by decide) ?_
    refine lv_icmp_lt (tgt := 22) hx hb d_P_fault_14 (by decide) (fun c_1 => ?_) (fun c_1 => ?_)
    · refine lv_bipush (v := -2) hx hb d_P_fault_22 (by decide) ?_
      exact leafI (val := valC) (cell := cellC) X hr hlocks hS (u2 := (lay, d)) hW (v := (-2)) ⟨by simp [sp_fault, hix, c_1], by simp [sp_fault, hix, c_1]⟩ d_P_fault_24
    · refine lv_iload_n hx hb d_P_fault_17 rfl (lv_at hl 3 rfl) ?_
      refine lv_iconst (v := 5) hx hb d_P_fault_18 (by decide) ?_
      refine lv_icmp_le (tgt := 25) hx hb d_P_fault_19 (by decide) (fun c_2 => ?_) (fun c_2 => ?_)
      · refine lv_aload_n hx hb d_P_fault_25 rfl (lv_at hl 1 rfl) ?_
        refine lv_aload_n hx hb d_P_fault_26 rfl (lv_at hl 0 rfl) ?_
        refine wc_calli (val := valC) (lay := fun u : CS => u.1) (cell := cellC ct) (u0 := (lay, d)) X (c_P_canAct l D ct lay d _ j hj) (cw_P_81 X.1.2.2.2.2 rfl rfl ⟨Nat.le_of_ble_eq_true rfl, Nat.le_of_ble_eq_true rfl⟩) hW hS (fun q h => h.imp_right (fun z => Nat.le_trans hS.1 z)) (aC0 hW) rfl rfl hl.1 rfl (Nat.le_of_ble_eq_true rfl) d_P_fault_27 ⟨Nat.le_of_ble_eq_true rfl, Nat.le_of_ble_eq_true rfl⟩ (fun r u H locs hp hW hz hk hS => ?_)
        obtain ⟨rfl, rfl⟩ := hp
        have hW : WC D ct (lay, d) H := hW
        by_cases hcan : gI d 0 0 0 = 0 ∨ gI d 12 j 0 = 0
        · rw [if_pos hcan]
          refine lv_if_ne (tgt := 36) hx hb d_P_fault_30 (by decide) (fun c_3 => absurd c_3 (by decide)) (fun _ => ?_)
          refine lv_bipush (v := -3) hx hb d_P_fault_33 (by decide) ?_
          exact leafI (val := valC) (cell := cellC) X hr hlocks hS (u2 := (lay, d)) hW (v := (-3)) ⟨by simp [sp_fault, hix, c_1, c_2, hcan], by simp [sp_fault, hix, c_1, c_2, hcan]⟩ d_P_fault_35
        · rw [if_neg hcan]
          refine lv_if_ne (tgt := 36) hx hb d_P_fault_30 (by decide) (fun _ => ?_) (fun c_4 => absurd c_4 (by decide))
          refine lv_aload_n hx hb d_P_fault_36 rfl (lv_at hl 1 rfl) ?_
          refine lv_aload_n hx hb d_P_fault_37 rfl (lv_at hl 0 rfl) ?_
          refine lv_iload_n hx hb d_P_fault_38 rfl (lv_at hl 3 rfl) ?_
          refine wc_calli (val := valC) (lay := fun u : CS => u.1) (cell := cellC ct) (u0 := (lay, d)) X (c_P_raise l D ct lay d _ j hj k hna hnt how B B1 hB hB1 hok) (cw_P_92 X.1.2.2.2.2 rfl rfl ⟨Nat.le_of_ble_eq_true rfl, Nat.le_of_ble_eq_true rfl⟩) hW hS (fun q h => h.imp_right (fun z => Nat.le_trans hS.1 z)) (aC0 hW) rfl rfl hl.1 rfl (Nat.le_of_ble_eq_true rfl) d_P_fault_39 ⟨Nat.le_of_ble_eq_true rfl, Nat.le_of_ble_eq_true rfl⟩ (fun r u H locs hp hW hz hk hS => ?_)
          obtain ⟨rfl, rfl⟩ := hp
          have hW : WC D ct (lay, (sp_raise d j k).2) H := hW
          exact leafI (val := valC) (cell := cellC) X hr hlocks hS (u2 := (lay, (sp_raise d j k).2)) hW (v := (sp_raise d j k).1) ⟨by simp [sp_fault, hix, c_1, c_2, hcan], by simp [sp_fault, hix, c_1, c_2, hcan]⟩ d_P_fault_42
      · refine lv_bipush (v := -2) hx hb d_P_fault_22 (by decide) ?_
        exact leafI (val := valC) (cell := cellC) X hr hlocks hS (u2 := (lay, d)) hW (v := (-2)) ⟨by simp [sp_fault, hix, c_1, c_2], by simp [sp_fault, hix, c_1, c_2]⟩ d_P_fault_24
  · have hW : WC D ct (lay, d) H := hW
    refine lv_astore_nN (lv' := [(3, .null), (0, .ref (lay 0 0)), (1, .int x), (2, .int k)]) hx hb d_P_fault_5 rfl hl (by decide) rfl (fun ls hl => ?_)
    refine lv_aload_nN hx hb d_P_fault_6 rfl (lv_at hl 0 rfl) ?_
    refine lv_ifnonnullN hx hb d_P_fault_7 ?_
    refine lv_iconst (v := -1) hx hb d_P_fault_10 (by decide) ?_
    exact leafI (val := valC) (cell := cellC) X hr hlocks hS (u2 := (lay, d)) hW (v := (-1)) ⟨by simp [sp_fault, hix], by simp [sp_fault, hix]⟩ d_P_fault_11
set_option maxHeartbeats 4000000 in
set_option maxRecDepth 100000 in
theorem c_P_state (l : Launch) (D : va_G) (ct : Nat → ClassId) (lay : Nat → Nat → Nat) (d : DC) (sz : Nat) (x : Int32) (hna : dna d ≤ 16) (how : ∀ j, j < dnt d → dow d j < dna d) :
    CoI valC cellC l D ct y_P_state b_P_state 3 (some .int) { frames := 1, cells := 0, slots := 0, locals := 21 } (lay, d) sz [.ref (lay 0 0), .int x] (fun r u => r = sp_state d x ∧ u = (lay, d)) := by
  refine co_of (by decide) (Nat.le_of_ble_eq_true rfl) (fun p e s m below meth c X hr hlocks hnm hsz hW ls hl => ?_)
  subst hsz
  have hx := X.1.1
  have hb := X.1.2.1
  have hS : va_S (Wfr (valC (lay, d)) lay s.heap.size) s.heap s.heap [] := va_S.rf
  have hl : lv_has ls 3 [(0, .ref (lay 0 0)), (1, .int x)] := hl
  refine lv_aload_n hx hb d_P_state_0 rfl (lv_at hl 0 rfl) ?_
  refine lv_iload_n hx hb d_P_state_1 rfl (lv_at hl 1 rfl) ?_
  refine wc_callq (val := valC) (lay := fun u : CS => u.1) (cell := cellC ct) (u0 := (lay, d)) X (c_P_applicationNumbered l D ct lay d _ x hna) (cw_P_53 X.1.2.2.2.2 rfl rfl ⟨Nat.le_of_ble_eq_true rfl, Nat.le_of_ble_eq_true rfl⟩) hW hS (fun q h => h.imp_right (fun z => Nat.le_trans hS.1 z)) (aC0 hW) rfl rfl hl.1 rfl (Nat.le_of_ble_eq_true rfl) d_P_state_2 ⟨Nat.le_of_ble_eq_true rfl, Nat.le_of_ble_eq_true rfl⟩ (fun r u H locs hp hW hz hk hS => ?_)
  obtain ⟨rfl, hp⟩ := hp
  rcases hp with ⟨j, hj, ej, hix, rfl⟩ | ⟨hix, rfl⟩
  · have hW : WC D ct (lay, d) H := hW
    refine lv_astore_n (lv' := [(2, .ref (lay 8 j)), (0, .ref (lay 0 0)), (1, .int x)]) hx hb d_P_state_5 rfl hl (by decide) rfl (fun ls hl => ?_)
    refine lv_aload_n hx hb d_P_state_6 rfl (lv_at hl 0 rfl) ?_
    refine lv_ifnonnull (tgt := 12) hx hb d_P_state_7 (by decide) ?_
    refine lv_aload_n hx hb d_P_state_12 rfl (lv_at hl 1 rfl) ?_
    refine gf_P_44 X (aC0 hW) rfl d_P_state_13 ?_
    refine lv_if_ne (tgt := 21) hx hb d_P_state_16 (by decide) (fun c_1 => ?_) (fun c_1 => ?_)
    · refine lv_aload_n hx hb d_P_state_21 rfl (lv_at hl 0 rfl) ?_
      refine gf_P_59 X (aC8 hW hj) rfl d_P_state_22 ?_
      refine lv_if_eq (tgt := 32) hx hb d_P_state_25 (by decide) (fun c_2 => ?_) (fun c_2 => ?_)
      · refine lv_iconst (v := 0) hx hb d_P_state_32 (by decide) ?_
        exact leafI (val := valC) (cell := cellC) X hr hlocks hS (u2 := (lay, d)) hW (v := 0) ⟨by simp [sp_state, hix, c_1, c_2], rfl⟩ d_P_state_33
      · refine lv_iconst (v := 1) hx hb d_P_state_28 (by decide) ?_
        refine lv_goto (tgt := 33) hx hb d_P_state_29 (by decide) ?_
        exact leafI (val := valC) (cell := cellC) X hr hlocks hS (u2 := (lay, d)) hW (v := 1) ⟨by simp [sp_state, hix, c_1, c_2], rfl⟩ d_P_state_33
    · refine lv_iconst (v := 2) hx hb d_P_state_19 (by decide) ?_
      exact leafI (val := valC) (cell := cellC) X hr hlocks hS (u2 := (lay, d)) hW (v := 2) ⟨by simp [sp_state, hix, c_1], rfl⟩ d_P_state_20
  · have hW : WC D ct (lay, d) H := hW
    refine lv_astore_nN (lv' := [(2, .null), (0, .ref (lay 0 0)), (1, .int x)]) hx hb d_P_state_5 rfl hl (by decide) rfl (fun ls hl => ?_)
    refine lv_aload_nN hx hb d_P_state_6 rfl (lv_at hl 0 rfl) ?_
    refine lv_ifnonnullN hx hb d_P_state_7 ?_
    refine lv_iconst (v := -1) hx hb d_P_state_10 (by decide) ?_
    exact leafI (val := valC) (cell := cellC) X hr hlocks hS (u2 := (lay, d)) hW (v := (-1)) ⟨by simp [sp_state, hix], rfl⟩ d_P_state_11
set_option maxHeartbeats 4000000 in
set_option maxRecDepth 100000 in
theorem c_P_cleaned (l : Launch) (D : va_G) (ct : Nat → ClassId) (lay : Nat → Nat → Nat) (d : DC) (sz : Nat) (i w : Int32) :
    CoI valC cellC l D ct y_P_cleaned b_P_cleaned 3 (some .int) { frames := 1, cells := 0, slots := 0, locals := 22 } (lay, d) sz [.ref (lay 0 0), .int i, .int w] (fun r u => r = sp_tell d 0 i w ∧ u = (lay, d)) := by
  refine co_of (by decide) (Nat.le_of_ble_eq_true rfl) (fun p e s m below meth c X hr hlocks hnm hsz hW ls hl => ?_)
  subst hsz
  have hx := X.1.1
  have hb := X.1.2.1
  have hS : va_S (Wfr (valC (lay, d)) lay s.heap.size) s.heap s.heap [] := va_S.rf
  have hl : lv_has ls 3 [(0, .ref (lay 0 0)), (1, .int i), (2, .int w)] := hl
  refine lv_aload_n hx hb d_P_cleaned_0 rfl (lv_at hl 0 rfl) ?_
  refine gf_P_37 X (aC0 hW) rfl d_P_cleaned_1 ?_
  refine lv_iload_n hx hb d_P_cleaned_4 rfl (lv_at hl 1 rfl) ?_
  refine lv_iload_n hx hb d_P_cleaned_5 rfl (lv_at hl 2 rfl) ?_
  refine wc_calli (val := valC) (lay := fun u : CS => u.1) (cell := cellC ct) (u0 := (lay, d)) X (c_B_tell l D ct lay d _ 0 (by decide) i w) (cw_P_96 X.1.2.2.2.2 rfl rfl ⟨Nat.le_of_ble_eq_true rfl, Nat.le_of_ble_eq_true rfl⟩) hW hS (fun q h => h.imp_right (fun z => Nat.le_trans hS.1 z)) (aC6 hW (by decide)) rfl rfl hl.1 rfl (Nat.le_of_ble_eq_true rfl) d_P_cleaned_6 ⟨Nat.le_of_ble_eq_true rfl, Nat.le_of_ble_eq_true rfl⟩ (fun r u H locs hp hW hz hk hS => ?_)
  obtain ⟨rfl, rfl⟩ := hp
  have hW : WC D ct (lay, d) H := hW
  exact leafI (val := valC) (cell := cellC) X hr hlocks hS (u2 := (lay, d)) hW (v := sp_tell d 0 i w) ⟨rfl, rfl⟩ d_P_cleaned_9
set_option maxHeartbeats 4000000 in
set_option maxRecDepth 100000 in
theorem c_P_log (l : Launch) (D : va_G) (ct : Nat → ClassId) (lay : Nat → Nat → Nat) (d : DC) (sz : Nat) (i w : Int32) :
    CoI valC cellC l D ct y_P_log b_P_log 3 (some .int) { frames := 1, cells := 0, slots := 0, locals := 22 } (lay, d) sz [.ref (lay 0 0), .int i, .int w] (fun r u => r = sp_tell d 1 i w ∧ u = (lay, d)) := by
  refine co_of (by decide) (Nat.le_of_ble_eq_true rfl) (fun p e s m below meth c X hr hlocks hnm hsz hW ls hl => ?_)
  subst hsz
  have hx := X.1.1
  have hb := X.1.2.1
  have hS : va_S (Wfr (valC (lay, d)) lay s.heap.size) s.heap s.heap [] := va_S.rf
  have hl : lv_has ls 3 [(0, .ref (lay 0 0)), (1, .int i), (2, .int w)] := hl
  refine lv_aload_n hx hb d_P_log_0 rfl (lv_at hl 0 rfl) ?_
  refine gf_P_41 X (aC0 hW) rfl d_P_log_1 ?_
  refine lv_iload_n hx hb d_P_log_4 rfl (lv_at hl 1 rfl) ?_
  refine lv_iload_n hx hb d_P_log_5 rfl (lv_at hl 2 rfl) ?_
  refine wc_calli (val := valC) (lay := fun u : CS => u.1) (cell := cellC ct) (u0 := (lay, d)) X (c_B_tell l D ct lay d _ 1 (by decide) i w) (cw_P_96 X.1.2.2.2.2 rfl rfl ⟨Nat.le_of_ble_eq_true rfl, Nat.le_of_ble_eq_true rfl⟩) hW hS (fun q h => h.imp_right (fun z => Nat.le_trans hS.1 z)) (aC6 hW (by decide)) rfl rfl hl.1 rfl (Nat.le_of_ble_eq_true rfl) d_P_log_6 ⟨Nat.le_of_ble_eq_true rfl, Nat.le_of_ble_eq_true rfl⟩ (fun r u H locs hp hW hz hk hS => ?_)
  obtain ⟨rfl, rfl⟩ := hp
  have hW : WC D ct (lay, d) H := hW
  exact leafI (val := valC) (cell := cellC) X hr hlocks hS (u2 := (lay, d)) hW (v := sp_tell d 1 i w) ⟨rfl, rfl⟩ d_P_log_9
set_option maxHeartbeats 4000000 in
set_option maxRecDepth 100000 in
theorem c_P_hook (l : Launch) (D : va_G) (ct : Nat → ClassId) (lay : Nat → Nat → Nat) (d : DC) (sz : Nat) (x y f : Int32) (hf : f = 0 ∨ f = 1) :
    CoI valC cellC l D ct y_P_hook b_P_hook 4 (some .int) { frames := 0, cells := 0, slots := 0, locals := 0 } (lay, d) sz [.ref (lay 0 0), .int x, .int y, .int f] (fun r u => r = (sp_hook d x y f).1 ∧ u = (lay, (sp_hook d x y f).2)) := by
  refine co_of (by decide) (Nat.le_of_ble_eq_true rfl) (fun p e s m below meth c X hr hlocks hnm hsz hW ls hl => ?_)
  subst hsz
  have hx := X.1.1
  have hb := X.1.2.1
  have hS : va_S (Wfr (valC (lay, d)) lay s.heap.size) s.heap s.heap [] := va_S.rf
  have hl : lv_has ls 4 [(0, .ref (lay 0 0)), (1, .int x), (2, .int y), (3, .int f)] := hl
  refine lv_iload_n hx hb d_P_hook_0 rfl (lv_at hl 1 rfl) ?_
  refine lv_if_lt (tgt := 9) hx hb d_P_hook_1 (by decide) (fun c_1 => ?_) (fun c_1 => ?_)
  · refine lv_iconst (v := -1) hx hb d_P_hook_9 (by decide) ?_
    exact leafI (val := valC) (cell := cellC) X hr hlocks hS (u2 := (lay, d)) hW (v := (-1)) ⟨by simp [sp_hook, c_1], by simp [sp_hook, c_1]⟩ d_P_hook_10
  · refine lv_iload_n hx hb d_P_hook_4 rfl (lv_at hl 1 rfl) ?_
    refine lv_iconst (v := 3) hx hb d_P_hook_5 (by decide) ?_
    refine lv_icmp_lt (tgt := 11) hx hb d_P_hook_6 (by decide) (fun c_2 => ?_) (fun c_2 => ?_)
    · refine lv_iload_n hx hb d_P_hook_11 rfl (lv_at hl 2 rfl) ?_
      refine lv_if_lt (tgt := 20) hx hb d_P_hook_12 (by decide) (fun c_3 => ?_) (fun c_3 => ?_)
      · refine lv_bipush (v := -2) hx hb d_P_hook_20 (by decide) ?_
        exact leafI (val := valC) (cell := cellC) X hr hlocks hS (u2 := (lay, d)) hW (v := (-2)) ⟨by simp [sp_hook, c_1, c_2, c_3], by simp [sp_hook, c_1, c_2, c_3]⟩ d_P_hook_22
      · refine lv_iload_n hx hb d_P_hook_15 rfl (lv_at hl 2 rfl) ?_
        refine lv_iconst (v := 5) hx hb d_P_hook_16 (by decide) ?_
        refine lv_icmp_le (tgt := 23) hx hb d_P_hook_17 (by decide) (fun c_4 => ?_) (fun c_4 => ?_)
        · refine lv_aload_n hx hb d_P_hook_23 rfl (lv_at hl 0 rfl) ?_
          refine gf_P_44 X (aC0 hW) rfl d_P_hook_24 ?_
          refine lv_if_ne (tgt := 33) hx hb d_P_hook_27 (by decide) (fun c_5 => ?_) (fun c_5 => ?_)
          · obtain ⟨l1, hl1, el⟩ := nI_of c_1
            have hl2 : l1 < 3 := (nI_ltI (b := 3) hl1 (by decide)).mp (el ▸ c_2)
            have hl3 : x.toNatClampNeg = l1 := by rw [el]; exact nI_clamp hl1
            refine lv_aload_n hx hb d_P_hook_33 rfl (lv_at hl 0 rfl) ?_
            refine gf_P_25 X (aC0 hW) rfl d_P_hook_34 ?_
            refine lv_iload_n hx hb d_P_hook_37 rfl (lv_at hl 1 rfl) ?_
            refine lv_iload_n hx hb d_P_hook_38 rfl (lv_at hl 2 rfl) ?_
            refine rn_iast X 0 (aC4 hW) rfl hS (wfr 4 0 rfl) (t := l1) el hl2 (by decide) d_P_hook_39 (fun H locs hat hch hS => ?_)
            have hW := wpC_aI3 hW hat hch
            refine lv_aload_n hx hb d_P_hook_40 rfl (lv_at hl 0 rfl) ?_
            refine gf_P_28 X (aC0 hW) rfl d_P_hook_41 ?_
            refine lv_iload_n hx hb d_P_hook_44 rfl (lv_at hl 1 rfl) ?_
            refine lv_iload_n hx hb d_P_hook_45 rfl (lv_at hl 3 rfl) ?_
            refine rn_zast X 2 (aC5 hW) rfl hS (wfr 5 0 rfl) (t := l1) el hl2 (by decide) (nrz hf) d_P_hook_46 (fun H locs hat hch hS => ?_)
            have hW := wpC_aI4 hW hat hch
            refine lv_iconst (v := 1) hx hb d_P_hook_47 (by decide) ?_
            exact leafI (val := valC) (cell := cellC) X hr hlocks hS (u2 := (lay, (sI (sI d 3 0 l1 y) 4 0 l1 f))) hW (v := 1) ⟨by simp [sp_hook, c_1, c_2, c_3, c_4, c_5], by simp [sp_hook, hl3, c_1, c_2, c_3, c_4, c_5]⟩ d_P_hook_48
          · refine lv_bipush (v := -3) hx hb d_P_hook_30 (by decide) ?_
            exact leafI (val := valC) (cell := cellC) X hr hlocks hS (u2 := (lay, d)) hW (v := (-3)) ⟨by simp [sp_hook, c_1, c_2, c_3, c_4, c_5], by simp [sp_hook, c_1, c_2, c_3, c_4, c_5]⟩ d_P_hook_32
        · refine lv_bipush (v := -2) hx hb d_P_hook_20 (by decide) ?_
          exact leafI (val := valC) (cell := cellC) X hr hlocks hS (u2 := (lay, d)) hW (v := (-2)) ⟨by simp [sp_hook, c_1, c_2, c_3, c_4], by simp [sp_hook, c_1, c_2, c_3, c_4]⟩ d_P_hook_22
    · refine lv_iconst (v := -1) hx hb d_P_hook_9 (by decide) ?_
      exact leafI (val := valC) (cell := cellC) X hr hlocks hS (u2 := (lay, d)) hW (v := (-1)) ⟨by simp [sp_hook, c_1, c_2], by simp [sp_hook, c_1, c_2]⟩ d_P_hook_10
set_option maxHeartbeats 4000000 in
set_option maxRecDepth 100000 in
theorem c_P_trusted (l : Launch) (D : va_G) (ct : Nat → ClassId) (lay : Nat → Nat → Nat) (d : DC) (sz : Nat) (x : Int32) (a : Int64) (hna : dna d ≤ 16) (hnt : dnt d ≤ 60) (how : ∀ j, j < dnt d → dow d j < dna d) (hrcs : ∀ i, i < dna d → ∃ n, n ≤ 8 ∧ gI d 9 i 0 = nI n) :
    CoI valC cellC l D ct y_P_trusted b_P_trusted 5 (some .int) { frames := 1, cells := 0, slots := 0, locals := 23 } (lay, d) sz [.ref (lay 0 0), .int x, .long a] (fun r u => r = sp_trusted d x a ∧ u = (lay, d)) := by
  refine co_of (by decide) (Nat.le_of_ble_eq_true rfl) (fun p e s m below meth c X hr hlocks hnm hsz hW ls hl => ?_)
  subst hsz
  have hx := X.1.1
  have hb := X.1.2.1
  have hS : va_S (Wfr (valC (lay, d)) lay s.heap.size) s.heap s.heap [] := va_S.rf
  have hl : lv_has ls 5 [(0, .ref (lay 0 0)), (1, .int x), (2, .long a)] := hl
  refine lv_aload_n hx hb d_P_trusted_0 rfl (lv_at hl 0 rfl) ?_
  refine lv_iload_n hx hb d_P_trusted_1 rfl (lv_at hl 1 rfl) ?_
  refine wc_callq (val := valC) (lay := fun u : CS => u.1) (cell := cellC ct) (u0 := (lay, d)) X (c_P_taskNumbered l D ct lay d _ x hnt) (cw_P_77 X.1.2.2.2.2 rfl rfl ⟨Nat.le_of_ble_eq_true rfl, Nat.le_of_ble_eq_true rfl⟩) hW hS (fun q h => h.imp_right (fun z => Nat.le_trans hS.1 z)) (aC0 hW) rfl rfl hl.1 rfl (Nat.le_of_ble_eq_true rfl) d_P_trusted_2 ⟨Nat.le_of_ble_eq_true rfl, Nat.le_of_ble_eq_true rfl⟩ (fun r u H locs hp hW hz hk hS => ?_)
  obtain ⟨rfl, hp⟩ := hp
  rcases hp with ⟨j, hj, ej, hix, rfl⟩ | ⟨hix, rfl⟩
  · have hW : WC D ct (lay, d) H := hW
    refine lv_astore (lv' := [(4, .ref (lay 11 j)), (0, .ref (lay 0 0)), (1, .int x), (2, .long a)]) hx hb d_P_trusted_5 hl (by decide) rfl (fun ls hl => ?_)
    refine lv_aload hx hb d_P_trusted_7 (lv_at hl 0 rfl) ?_
    refine lv_ifnonnull (tgt := 14) hx hb d_P_trusted_9 (by decide) ?_
    refine lv_aload hx hb d_P_trusted_14 (lv_at hl 0 rfl) ?_
    refine gf_P_117 X (aC11 hW hj) rfl d_P_trusted_16 ?_
    refine lv_lload_n hx hb d_P_trusted_19 rfl (lv_at hl 3 rfl) ?_
    obtain ⟨n0, hn0, hrc⟩ := hrcs (dow d j) (how j hj)
    refine wc_calli (val := valC) (lay := fun u : CS => u.1) (cell := cellC ct) (u0 := (lay, d)) X (c_A_hasAddress l D ct lay d _ (dow d j) (how j hj) a n0 hn0 hrc) (cw_P_121 X.1.2.2.2.2 rfl rfl ⟨Nat.le_of_ble_eq_true rfl, Nat.le_of_ble_eq_true rfl⟩) hW hS (fun q h => h.imp_right (fun z => Nat.le_trans hS.1 z)) (aC8 hW (how j hj)) rfl rfl hl.1 rfl (Nat.le_of_ble_eq_true rfl) d_P_trusted_20 ⟨Nat.le_of_ble_eq_true rfl, Nat.le_of_ble_eq_true rfl⟩ (fun r u H locs hp hW hz hk hS => ?_)
    obtain ⟨rfl, rfl⟩ := hp
    have hW : WC D ct (lay, d) H := hW
    by_cases hin : sp_in d (dow d j) a = true
    · rw [if_pos hin]
      refine lv_if_eq (tgt := 30) hx hb d_P_trusted_23 (by decide) (fun c_1 => absurd c_1 (by decide)) (fun _ => ?_)
      refine lv_iconst (v := 1) hx hb d_P_trusted_26 (by decide) ?_
      refine lv_goto (tgt := 31) hx hb d_P_trusted_27 (by decide) ?_
      exact leafI (val := valC) (cell := cellC) X hr hlocks hS (u2 := (lay, d)) hW (v := 1) ⟨by simp [sp_trusted, hix, hin], rfl⟩ d_P_trusted_31
    · rw [if_neg hin]
      refine lv_if_eq (tgt := 30) hx hb d_P_trusted_23 (by decide) (fun _ => ?_) (fun c_2 => absurd c_2 (by decide))
      refine lv_iconst (v := 0) hx hb d_P_trusted_30 (by decide) ?_
      exact leafI (val := valC) (cell := cellC) X hr hlocks hS (u2 := (lay, d)) hW (v := 0) ⟨by simp [sp_trusted, hix, hin], rfl⟩ d_P_trusted_31
  · have hW : WC D ct (lay, d) H := hW
    refine lv_astoreN (lv' := [(4, .null), (0, .ref (lay 0 0)), (1, .int x), (2, .long a)]) hx hb d_P_trusted_5 hl (by decide) rfl (fun ls hl => ?_)
    refine lv_aloadN hx hb d_P_trusted_7 (lv_at hl 0 rfl) ?_
    refine lv_ifnonnullN hx hb d_P_trusted_9 ?_
    refine lv_iconst (v := -1) hx hb d_P_trusted_12 (by decide) ?_
    exact leafI (val := valC) (cell := cellC) X hr hlocks hS (u2 := (lay, d)) hW (v := (-1)) ⟨by simp [sp_trusted, hix], rfl⟩ d_P_trusted_13
set_option maxHeartbeats 4000000 in
set_option maxRecDepth 100000 in
theorem c_P_access (l : Launch) (D : va_G) (ct : Nat → ClassId) (lay : Nat → Nat → Nat) (d : DC) (sz : Nat) (x : Int32) (a : Int64) (hna : dna d ≤ 16) (hnt : dnt d ≤ 60) (how : ∀ j, j < dnt d → dow d j < dna d) (B B1 : Nat) (hB : B + 7680 < 2147483647) (hB1 : B1 < 2147483647) (hok : okc d B B1) (hrcs : ∀ i, i < dna d → ∃ n, n ≤ 8 ∧ gI d 9 i 0 = nI n) :
    CoI valC cellC l D ct y_P_access b_P_access 5 (some .int) { frames := 6, cells := 0, slots := 0, locals := 141 } (lay, d) sz [.ref (lay 0 0), .int x, .long a] (fun r u => r = (sp_access d x a).1 ∧ u = (lay, (sp_access d x a).2)) := by
  refine co_of (by decide) (Nat.le_of_ble_eq_true rfl) (fun p e s m below meth c X hr hlocks hnm hsz hW ls hl => ?_)
  subst hsz
  have hx := X.1.1
  have hb := X.1.2.1
  have hS : va_S (Wfr (valC (lay, d)) lay s.heap.size) s.heap s.heap [] := va_S.rf
  have hl : lv_has ls 5 [(0, .ref (lay 0 0)), (1, .int x), (2, .long a)] := hl
  refine lv_aload_n hx hb d_P_access_0 rfl (lv_at hl 0 rfl) ?_
  refine lv_iload_n hx hb d_P_access_1 rfl (lv_at hl 1 rfl) ?_
  refine wc_callq (val := valC) (lay := fun u : CS => u.1) (cell := cellC ct) (u0 := (lay, d)) X (c_P_taskNumbered l D ct lay d _ x hnt) (cw_P_77 X.1.2.2.2.2 rfl rfl ⟨Nat.le_of_ble_eq_true rfl, Nat.le_of_ble_eq_true rfl⟩) hW hS (fun q h => h.imp_right (fun z => Nat.le_trans hS.1 z)) (aC0 hW) rfl rfl hl.1 rfl (Nat.le_of_ble_eq_true rfl) d_P_access_2 ⟨Nat.le_of_ble_eq_true rfl, Nat.le_of_ble_eq_true rfl⟩ (fun r u H locs hp hW hz hk hS => ?_)
  obtain ⟨rfl, hp⟩ := hp
  rcases hp with ⟨j, hj, ej, hix, rfl⟩ | ⟨hix, rfl⟩
  · have hW : WC D ct (lay, d) H := hW
    refine lv_astore (lv' := [(4, .ref (lay 11 j)), (0, .ref (lay 0 0)), (1, .int x), (2, .long a)]) hx hb d_P_access_5 hl (by decide) rfl (fun ls hl => ?_)
    refine lv_aload hx hb d_P_access_7 (lv_at hl 0 rfl) ?_
    refine lv_ifnonnull (tgt := 16) hx hb d_P_access_9 (by decide) ?_
    refine lv_aload_n hx hb d_P_access_16 rfl (lv_at hl 1 rfl) ?_
    refine lv_aload hx hb d_P_access_17 (lv_at hl 0 rfl) ?_
    refine wc_calli (val := valC) (lay := fun u : CS => u.1) (cell := cellC ct) (u0 := (lay, d)) X (c_P_canAct l D ct lay d _ j hj) (cw_P_81 X.1.2.2.2.2 rfl rfl ⟨Nat.le_of_ble_eq_true rfl, Nat.le_of_ble_eq_true rfl⟩) hW hS (fun q h => h.imp_right (fun z => Nat.le_trans hS.1 z)) (aC0 hW) rfl rfl hl.1 rfl (Nat.le_of_ble_eq_true rfl) d_P_access_19 ⟨Nat.le_of_ble_eq_true rfl, Nat.le_of_ble_eq_true rfl⟩ (fun r u H locs hp hW hz hk hS => ?_)
    obtain ⟨rfl, rfl⟩ := hp
    have hW : WC D ct (lay, d) H := hW
    by_cases hcan : gI d 0 0 0 = 0 ∨ gI d 12 j 0 = 0
    · rw [if_pos hcan]
      refine lv_if_ne (tgt := 29) hx hb d_P_access_22 (by decide) (fun c_1 => absurd c_1 (by decide)) (fun _ => ?_)
      refine lv_sipush (v := -3000) hx hb d_P_access_25 (by decide) ?_
      exact leafI (val := valC) (cell := cellC) X hr hlocks hS (u2 := (lay, d)) hW (v := (-3000)) ⟨by simp [sp_access, hix, hcan], by simp [sp_access, hix, hcan]⟩ d_P_access_28
    · rw [if_neg hcan]
      refine lv_if_ne (tgt := 29) hx hb d_P_access_22 (by decide) (fun _ => ?_) (fun c_2 => absurd c_2 (by decide))
      refine lv_aload hx hb d_P_access_29 (lv_at hl 0 rfl) ?_
      refine gf_P_117 X (aC11 hW hj) rfl d_P_access_31 ?_
      refine lv_lload_n hx hb d_P_access_34 rfl (lv_at hl 3 rfl) ?_
      obtain ⟨n0, hn0, hrc⟩ := hrcs (dow d j) (how j hj)
      refine wc_calli (val := valC) (lay := fun u : CS => u.1) (cell := cellC ct) (u0 := (lay, d)) X (c_A_hasAddress l D ct lay d _ (dow d j) (how j hj) a n0 hn0 hrc) (cw_P_121 X.1.2.2.2.2 rfl rfl ⟨Nat.le_of_ble_eq_true rfl, Nat.le_of_ble_eq_true rfl⟩) hW hS (fun q h => h.imp_right (fun z => Nat.le_trans hS.1 z)) (aC8 hW (how j hj)) rfl rfl hl.1 rfl (Nat.le_of_ble_eq_true rfl) d_P_access_35 ⟨Nat.le_of_ble_eq_true rfl, Nat.le_of_ble_eq_true rfl⟩ (fun r u H locs hp hW hz hk hS => ?_)
      obtain ⟨rfl, rfl⟩ := hp
      have hW : WC D ct (lay, d) H := hW
      by_cases hin : sp_in d (dow d j) a = true
      · rw [if_pos hin]
        refine lv_if_eq (tgt := 45) hx hb d_P_access_38 (by decide) (fun c_3 => absurd c_3 (by decide)) (fun _ => ?_)
        refine lv_iconst (v := 1) hx hb d_P_access_41 (by decide) ?_
        refine lv_goto (tgt := 53) hx hb d_P_access_42 (by decide) ?_
        exact leafI (val := valC) (cell := cellC) X hr hlocks hS (u2 := (lay, d)) hW (v := 1) ⟨by simp [sp_access, hix, hcan, hin], by simp [sp_access, hix, hcan, hin]⟩ d_P_access_53
      · rw [if_neg hin]
        refine lv_if_eq (tgt := 45) hx hb d_P_access_38 (by decide) (fun _ => ?_) (fun c_4 => absurd c_4 (by decide))
        refine lv_aload_n hx hb d_P_access_45 rfl (lv_at hl 1 rfl) ?_
        refine lv_aload hx hb d_P_access_46 (lv_at hl 0 rfl) ?_
        refine lv_iconst (v := 2) hx hb d_P_access_48 (by decide) ?_
        refine wc_calli (val := valC) (lay := fun u : CS => u.1) (cell := cellC ct) (u0 := (lay, d)) X (c_P_raise l D ct lay d _ j hj 2 hna hnt how B B1 hB hB1 hok) (cw_P_92 X.1.2.2.2.2 rfl rfl ⟨Nat.le_of_ble_eq_true rfl, Nat.le_of_ble_eq_true rfl⟩) hW hS (fun q h => h.imp_right (fun z => Nat.le_trans hS.1 z)) (aC0 hW) rfl rfl hl.1 rfl (Nat.le_of_ble_eq_true rfl) d_P_access_49 ⟨Nat.le_of_ble_eq_true rfl, Nat.le_of_ble_eq_true rfl⟩ (fun r u H locs hp hW hz hk hS => ?_)
        obtain ⟨rfl, rfl⟩ := hp
        have hW : WC D ct (lay, (sp_raise d j 2).2) H := hW
        refine lv_ineg hx hb d_P_access_52 ?_
        exact leafI (val := valC) (cell := cellC) X hr hlocks hS (u2 := (lay, (sp_raise d j 2).2)) hW (v := (-((sp_raise d j 2).1))) ⟨by simp [sp_access, hix, hcan, hin], by simp [sp_access, hix, hcan, hin]⟩ d_P_access_53
  · have hW : WC D ct (lay, d) H := hW
    refine lv_astoreN (lv' := [(4, .null), (0, .ref (lay 0 0)), (1, .int x), (2, .long a)]) hx hb d_P_access_5 hl (by decide) rfl (fun ls hl => ?_)
    refine lv_aloadN hx hb d_P_access_7 (lv_at hl 0 rfl) ?_
    refine lv_ifnonnullN hx hb d_P_access_9 ?_
    refine lv_sipush (v := -1000) hx hb d_P_access_12 (by decide) ?_
    exact leafI (val := valC) (cell := cellC) X hr hlocks hS (u2 := (lay, d)) hW (v := (-1000)) ⟨by simp [sp_access, hix], by simp [sp_access, hix]⟩ d_P_access_15
set_option maxHeartbeats 4000000 in
set_option maxRecDepth 100000 in
theorem c_P_arrival (l : Launch) (D : va_G) (ct : Nat → ClassId) (lay : Nat → Nat → Nat) (d : DC) (sz : Nat) (x : Int32) (t : Int64) (hna : dna d ≤ 16) (hnt : dnt d ≤ 60) (how : ∀ j, j < dnt d → dow d j < dna d) (B B1 : Nat) (hB : B + 7680 < 2147483647) (hB1 : B1 < 2147483647) (hok : okc d B B1) :
    CoI valC cellC l D ct y_P_arrival b_P_arrival 7 (some .int) { frames := 6, cells := 0, slots := 0, locals := 141 } (lay, d) sz [.ref (lay 0 0), .int x, .long t] (fun r u => r = (sp_arrival d x t).1 ∧ u = (lay, (sp_arrival d x t).2)) := by
  refine co_of (by decide) (Nat.le_of_ble_eq_true rfl) (fun p e s m below meth c X hr hlocks hnm hsz hW ls hl => ?_)
  subst hsz
  have hx := X.1.1
  have hb := X.1.2.1
  have hS : va_S (Wfr (valC (lay, d)) lay s.heap.size) s.heap s.heap [] := va_S.rf
  have hl : lv_has ls 7 [(0, .ref (lay 0 0)), (1, .int x), (2, .long t)] := hl
  refine lv_aload_n hx hb d_P_arrival_0 rfl (lv_at hl 0 rfl) ?_
  refine lv_iload_n hx hb d_P_arrival_1 rfl (lv_at hl 1 rfl) ?_
  refine wc_callq (val := valC) (lay := fun u : CS => u.1) (cell := cellC ct) (u0 := (lay, d)) X (c_P_taskNumbered l D ct lay d _ x hnt) (cw_P_77 X.1.2.2.2.2 rfl rfl ⟨Nat.le_of_ble_eq_true rfl, Nat.le_of_ble_eq_true rfl⟩) hW hS (fun q h => h.imp_right (fun z => Nat.le_trans hS.1 z)) (aC0 hW) rfl rfl hl.1 rfl (Nat.le_of_ble_eq_true rfl) d_P_arrival_2 ⟨Nat.le_of_ble_eq_true rfl, Nat.le_of_ble_eq_true rfl⟩ (fun r u H locs hp hW hz hk hS => ?_)
  obtain ⟨rfl, hp⟩ := hp
  rcases hp with ⟨j, hj, ej, hix, rfl⟩ | ⟨hix, rfl⟩
  · have hW : WC D ct (lay, d) H := hW
    refine lv_astore (lv' := [(4, .ref (lay 11 j)), (0, .ref (lay 0 0)), (1, .int x), (2, .long t)]) hx hb d_P_arrival_5 hl (by decide) rfl (fun ls hl => ?_)
    refine lv_aload hx hb d_P_arrival_7 (lv_at hl 0 rfl) ?_
    refine lv_ifnonnull (tgt := 16) hx hb d_P_arrival_9 (by decide) ?_
    refine lv_lload_n hx hb d_P_arrival_16 rfl (lv_at hl 3 rfl) ?_
    refine lv_aload hx hb d_P_arrival_17 (lv_at hl 0 rfl) ?_
    refine gf_P_100 X (aC11 hW hj) rfl d_P_arrival_19 ?_
    refine W.lcmp hx hb d_P_arrival_22 ?_
    refine lv_if_ge (tgt := 30) hx hb d_P_arrival_23 (by decide) (fun c_1 => ?_) (fun c_1 => ?_)
    · rw [lgc_ge] at c_1
      refine lv_aload_n hx hb d_P_arrival_30 rfl (lv_at hl 1 rfl) ?_
      refine lv_aload hx hb d_P_arrival_31 (lv_at hl 0 rfl) ?_
      refine wc_calli (val := valC) (lay := fun u : CS => u.1) (cell := cellC ct) (u0 := (lay, d)) X (c_P_canAct l D ct lay d _ j hj) (cw_P_81 X.1.2.2.2.2 rfl rfl ⟨Nat.le_of_ble_eq_true rfl, Nat.le_of_ble_eq_true rfl⟩) hW hS (fun q h => h.imp_right (fun z => Nat.le_trans hS.1 z)) (aC0 hW) rfl rfl hl.1 rfl (Nat.le_of_ble_eq_true rfl) d_P_arrival_33 ⟨Nat.le_of_ble_eq_true rfl, Nat.le_of_ble_eq_true rfl⟩ (fun r u H locs hp hW hz hk hS => ?_)
      obtain ⟨rfl, rfl⟩ := hp
      have hW : WC D ct (lay, d) H := hW
      by_cases hcan : gI d 0 0 0 = 0 ∨ gI d 12 j 0 = 0
      · rw [if_pos hcan]
        refine lv_if_ne (tgt := 43) hx hb d_P_arrival_36 (by decide) (fun c_2 => absurd c_2 (by decide)) (fun _ => ?_)
        refine lv_sipush (v := -3000) hx hb d_P_arrival_39 (by decide) ?_
        exact leafI (val := valC) (cell := cellC) X hr hlocks hS (u2 := (lay, d)) hW (v := (-3000)) ⟨by simp [sp_arrival, hix, c_1, hcan], by simp [sp_arrival, hix, c_1, hcan]⟩ d_P_arrival_42
      · rw [if_neg hcan]
        refine lv_if_ne (tgt := 43) hx hb d_P_arrival_36 (by decide) (fun _ => ?_) (fun c_3 => absurd c_3 (by decide))
        refine lv_aload hx hb d_P_arrival_43 (lv_at hl 0 rfl) ?_
        refine gf_P_104 X (aC11 hW hj) rfl d_P_arrival_45 ?_
        refine lv_istore (lv' := [(5, .int (gI d 14 j 0)), (4, .ref (lay 11 j)), (0, .ref (lay 0 0)), (1, .int x), (2, .long t)]) hx hb d_P_arrival_48 hl (by decide) rfl (fun ls hl => ?_)
        refine lv_aload hx hb d_P_arrival_50 (lv_at hl 1 rfl) ?_
        refine lv_lload_n hx hb d_P_arrival_52 rfl (lv_at hl 4 rfl) ?_
        refine wc_calli (val := valC) (lay := fun u : CS => u.1) (cell := cellC ct) (u0 := (lay, d)) X (c_T_isEarlyAt l D ct lay d _ j hj t) (cw_P_107 X.1.2.2.2.2 rfl rfl ⟨Nat.le_of_ble_eq_true rfl, Nat.le_of_ble_eq_true rfl⟩) hW hS (fun q h => h.imp_right (fun z => Nat.le_trans hS.1 z)) (aC11 hW hj) rfl rfl hl.1 rfl (Nat.le_of_ble_eq_true rfl) d_P_arrival_53 ⟨Nat.le_of_ble_eq_true rfl, Nat.le_of_ble_eq_true rfl⟩ (fun r u H locs hp hW hz hk hS => ?_)
        obtain ⟨rfl, rfl⟩ := hp
        have hW : WC D ct (lay, d) H := hW
        by_cases he : ¬ gI d 13 j 0 = 0 ∧ t - gL d 3 j 0 < gL d 2 j 0
        · rw [if_pos he]
          refine lv_istore (lv' := [(6, .int 1), (5, .int (gI d 14 j 0)), (4, .ref (lay 11 j)), (0, .ref (lay 0 0)), (1, .int x), (2, .long t)]) hx hb d_P_arrival_56 hl (by decide) rfl (fun ls hl => ?_)
          refine lv_aload hx hb d_P_arrival_58 (lv_at hl 2 rfl) ?_
          refine lv_lload_n hx hb d_P_arrival_60 rfl (lv_at hl 5 rfl) ?_
          refine pf_P_100 X (aC11 hW hj) hS (wfr 11 j hj) rfl rfl (Nat.le_of_ble_eq_true rfl) d_P_arrival_61 (fun H locs hat hch hS => ?_)
          have hW := wpC_L4 hW hj hat hch
          refine lv_aload hx hb d_P_arrival_64 (lv_at hl 2 rfl) ?_
          refine lv_iload hx hb d_P_arrival_66 (lv_at hl 0 rfl) ?_
          refine lv_if_eq (tgt := 80) hx hb d_P_arrival_68 (by decide) (fun c_4 => absurd c_4 (by decide)) (fun _ => ?_)
          refine lv_iload hx hb d_P_arrival_71 (lv_at hl 1 rfl) ?_
          refine lv_if_ne (tgt := 80) hx hb d_P_arrival_73 (by decide) (fun c_5 => ?_) (fun c_5 => ?_)
          · refine lv_iconst (v := 0) hx hb d_P_arrival_80 (by decide) ?_
            refine pf_P_104 X (aC11 hW hj) hS (wfr 11 j hj) rfl rfl (Nat.le_of_ble_eq_true rfl) d_P_arrival_81 (fun H locs hat hch hS => ?_)
            have hW := wpC_I14 hW hj hat hch
            refine lv_iload hx hb d_P_arrival_84 (lv_at hl 0 rfl) ?_
            refine lv_if_ne (tgt := 103) hx hb d_P_arrival_86 (by decide) (fun _ => ?_) (fun c_6 => absurd c_6 (by decide))
            refine lv_iload hx hb d_P_arrival_103 (lv_at hl 1 rfl) ?_
            refine lv_if_eq (tgt := 119) hx hb d_P_arrival_105 (by decide) (fun c_7 => ?_) (fun c_7 => ?_)
            · exact absurd c_7 c_5
            · refine lv_aload_n hx hb d_P_arrival_108 rfl (lv_at hl 3 rfl) ?_
              refine lv_aload hx hb d_P_arrival_109 (lv_at hl 2 rfl) ?_
              refine lv_iconst (v := 4) hx hb d_P_arrival_111 (by decide) ?_
              refine wc_calli (val := valC) (lay := fun u : CS => u.1) (cell := cellC ct) (u0 := (lay, (sI (sL d 4 j 0 t) 14 j 0 0))) X (c_P_raise l D ct lay (sI (sL d 4 j 0 t) 14 j 0 0) _ j hj 4 hna hnt how B B1 hB hB1 (okc.set (d := sL d 4 j 0 t) hok 14 j 0 0 (by decide))) (cw_P_92 X.1.2.2.2.2 rfl rfl ⟨Nat.le_of_ble_eq_true rfl, Nat.le_of_ble_eq_true rfl⟩) hW hS (fun q h => h.imp_right (fun z => Nat.le_trans hS.1 z)) (aC0 hW) rfl rfl hl.1 rfl (Nat.le_of_ble_eq_true rfl) d_P_arrival_112 ⟨Nat.le_of_ble_eq_true rfl, Nat.le_of_ble_eq_true rfl⟩ (fun r u H locs hp hW hz hk hS => ?_)
              obtain ⟨rfl, rfl⟩ := hp
              have hW : WC D ct (lay, (sp_raise (sI (sL d 4 j 0 t) 14 j 0 0) j 4).2) H := hW
              refine lv_ineg hx hb d_P_arrival_115 ?_
              refine lv_goto (tgt := 120) hx hb d_P_arrival_116 (by decide) ?_
              exact leafI (val := valC) (cell := cellC) X hr hlocks hS (u2 := (lay, (sp_raise (sI (sL d 4 j 0 t) 14 j 0 0) j 4).2)) hW (v := (-((sp_raise (sI (sL d 4 j 0 t) 14 j 0 0) j 4).1))) ⟨by simp [sp_arrival, hix, c_1, hcan, he, c_5], by simp [sp_arrival, hix, c_1, hcan, he, c_5]⟩ d_P_arrival_120
          · refine lv_iconst (v := 1) hx hb d_P_arrival_76 (by decide) ?_
            refine lv_goto (tgt := 81) hx hb d_P_arrival_77 (by decide) ?_
            refine pf_P_104 X (aC11 hW hj) hS (wfr 11 j hj) rfl rfl (Nat.le_of_ble_eq_true rfl) d_P_arrival_81 (fun H locs hat hch hS => ?_)
            have hW := wpC_I14 hW hj hat hch
            refine lv_iload hx hb d_P_arrival_84 (lv_at hl 0 rfl) ?_
            refine lv_if_ne (tgt := 103) hx hb d_P_arrival_86 (by decide) (fun _ => ?_) (fun c_8 => absurd c_8 (by decide))
            refine lv_iload hx hb d_P_arrival_103 (lv_at hl 1 rfl) ?_
            refine lv_if_eq (tgt := 119) hx hb d_P_arrival_105 (by decide) (fun c_9 => ?_) (fun c_9 => ?_)
            · refine lv_iconst (v := 0) hx hb d_P_arrival_119 (by decide) ?_
              exact leafI (val := valC) (cell := cellC) X hr hlocks hS (u2 := (lay, (sI (sL d 4 j 0 t) 14 j 0 1))) hW (v := 0) ⟨by simp [sp_arrival, hix, c_1, hcan, he, c_5], by simp [sp_arrival, hix, c_1, hcan, he, c_5]⟩ d_P_arrival_120
            · exact absurd c_5 c_9
        · rw [if_neg he]
          refine lv_istore (lv' := [(6, .int 0), (5, .int (gI d 14 j 0)), (4, .ref (lay 11 j)), (0, .ref (lay 0 0)), (1, .int x), (2, .long t)]) hx hb d_P_arrival_56 hl (by decide) rfl (fun ls hl => ?_)
          refine lv_aload hx hb d_P_arrival_58 (lv_at hl 2 rfl) ?_
          refine lv_lload_n hx hb d_P_arrival_60 rfl (lv_at hl 5 rfl) ?_
          refine pf_P_100 X (aC11 hW hj) hS (wfr 11 j hj) rfl rfl (Nat.le_of_ble_eq_true rfl) d_P_arrival_61 (fun H locs hat hch hS => ?_)
          have hW := wpC_L4 hW hj hat hch
          refine lv_aload hx hb d_P_arrival_64 (lv_at hl 2 rfl) ?_
          refine lv_iload hx hb d_P_arrival_66 (lv_at hl 0 rfl) ?_
          refine lv_if_eq (tgt := 80) hx hb d_P_arrival_68 (by decide) (fun _ => ?_) (fun c_10 => absurd c_10 (by decide))
          refine lv_iconst (v := 0) hx hb d_P_arrival_80 (by decide) ?_
          refine pf_P_104 X (aC11 hW hj) hS (wfr 11 j hj) rfl rfl (Nat.le_of_ble_eq_true rfl) d_P_arrival_81 (fun H locs hat hch hS => ?_)
          have hW := wpC_I14 hW hj hat hch
          refine lv_iload hx hb d_P_arrival_84 (lv_at hl 0 rfl) ?_
          refine lv_if_ne (tgt := 103) hx hb d_P_arrival_86 (by decide) (fun c_11 => absurd c_11 (by decide)) (fun _ => ?_)
          refine lv_aload hx hb d_P_arrival_89 (lv_at hl 2 rfl) ?_
          refine lv_iconst (v := 1) hx hb d_P_arrival_91 (by decide) ?_
          refine pf_P_111 X (aC11 hW hj) hS (wfr 11 j hj) rfl rfl (Nat.le_of_ble_eq_true rfl) d_P_arrival_92 (fun H locs hat hch hS => ?_)
          have hW := wpC_I13 hW hj hat hch
          refine lv_aload hx hb d_P_arrival_95 (lv_at hl 2 rfl) ?_
          refine lv_lload_n hx hb d_P_arrival_97 rfl (lv_at hl 5 rfl) ?_
          refine pf_P_114 X (aC11 hW hj) hS (wfr 11 j hj) rfl rfl (Nat.le_of_ble_eq_true rfl) d_P_arrival_98 (fun H locs hat hch hS => ?_)
          have hW := wpC_L3 hW hj hat hch
          refine lv_iconst (v := 1) hx hb d_P_arrival_101 (by decide) ?_
          exact leafI (val := valC) (cell := cellC) X hr hlocks hS (u2 := (lay, (sL (sI (sI (sL d 4 j 0 t) 14 j 0 0) 13 j 0 1) 3 j 0 t))) hW (v := 1) ⟨by simp [sp_arrival, hix, c_1, hcan, he], by simp [sp_arrival, sp_come, hix, c_1, hcan, he]⟩ d_P_arrival_102
    · rw [lgc_ge] at c_1
      refine lv_sipush (v := -2000) hx hb d_P_arrival_26 (by decide) ?_
      exact leafI (val := valC) (cell := cellC) X hr hlocks hS (u2 := (lay, d)) hW (v := (-2000)) ⟨by simp [sp_arrival, hix, c_1], by simp [sp_arrival, hix, c_1]⟩ d_P_arrival_29
  · have hW : WC D ct (lay, d) H := hW
    refine lv_astoreN (lv' := [(4, .null), (0, .ref (lay 0 0)), (1, .int x), (2, .long t)]) hx hb d_P_arrival_5 hl (by decide) rfl (fun ls hl => ?_)
    refine lv_aloadN hx hb d_P_arrival_7 (lv_at hl 0 rfl) ?_
    refine lv_ifnonnullN hx hb d_P_arrival_9 ?_
    refine lv_sipush (v := -1000) hx hb d_P_arrival_12 (by decide) ?_
    exact leafI (val := valC) (cell := cellC) X hr hlocks hS (u2 := (lay, d)) hW (v := (-1000)) ⟨by simp [sp_arrival, hix], by simp [sp_arrival, hix]⟩ d_P_arrival_15
theorem rc_add (d : DC) (i : Nat) (f n : Int64) : gI (sp_addR d i f n) 9 i 0 = gI d 9 i 0 + 1 := by simp [sp_addR, gI_sI, up3]
set_option maxHeartbeats 4000000 in
set_option maxRecDepth 100000 in
theorem c_P_region (l : Launch) (D : va_G) (ct : Nat → ClassId) (lay : Nat → Nat → Nat) (d : DC) (sz : Nat) (x : Int32) (f n : Int64) (hna : dna d ≤ 16) (how : ∀ j, j < dnt d → dow d j < dna d) (hrcs : ∀ i, i < dna d → ∃ n, n ≤ 8 ∧ gI d 9 i 0 = nI n) :
    CoI valC cellC l D ct y_P_region b_P_region 7 (some .int) { frames := 1, cells := 0, slots := 0, locals := 24 } (lay, d) sz [.ref (lay 0 0), .int x, .long f, .long n] (fun r u => r = (sp_region d x f n).1 ∧ u = (lay, (sp_region d x f n).2)) := by
  refine co_of (by decide) (Nat.le_of_ble_eq_true rfl) (fun p e s m below meth c X hr hlocks hnm hsz hW ls hl => ?_)
  subst hsz
  have hx := X.1.1
  have hb := X.1.2.1
  have hS : va_S (Wfr (valC (lay, d)) lay s.heap.size) s.heap s.heap [] := va_S.rf
  have hl : lv_has ls 7 [(0, .ref (lay 0 0)), (1, .int x), (2, .long f), (4, .long n)] := hl
  refine lv_aload_n hx hb d_P_region_0 rfl (lv_at hl 0 rfl) ?_
  refine lv_iload_n hx hb d_P_region_1 rfl (lv_at hl 1 rfl) ?_
  refine wc_callq (val := valC) (lay := fun u : CS => u.1) (cell := cellC ct) (u0 := (lay, d)) X (c_P_applicationNumbered l D ct lay d _ x hna) (cw_P_53 X.1.2.2.2.2 rfl rfl ⟨Nat.le_of_ble_eq_true rfl, Nat.le_of_ble_eq_true rfl⟩) hW hS (fun q h => h.imp_right (fun z => Nat.le_trans hS.1 z)) (aC0 hW) rfl rfl hl.1 rfl (Nat.le_of_ble_eq_true rfl) d_P_region_2 ⟨Nat.le_of_ble_eq_true rfl, Nat.le_of_ble_eq_true rfl⟩ (fun r u H locs hp hW hz hk hS => ?_)
  obtain ⟨rfl, hp⟩ := hp
  rcases hp with ⟨j, hj, ej, hix, rfl⟩ | ⟨hix, rfl⟩
  · have hW : WC D ct (lay, d) H := hW
    refine lv_astore (lv' := [(6, .ref (lay 8 j)), (0, .ref (lay 0 0)), (1, .int x), (2, .long f), (4, .long n)]) hx hb d_P_region_5 hl (by decide) rfl (fun ls hl => ?_)
    refine lv_aload hx hb d_P_region_7 (lv_at hl 0 rfl) ?_
    refine lv_ifnonnull (tgt := 14) hx hb d_P_region_9 (by decide) ?_
    refine lv_lload_n hx hb d_P_region_14 rfl (lv_at hl 3 rfl) ?_
    refine lv_lconst (v := 0) hx hb d_P_region_15 (by decide) ?_
    refine W.lcmp hx hb d_P_region_16 ?_
    refine lv_if_lt (tgt := 44) hx hb d_P_region_17 (by decide) (fun c_1 => ?_) (fun c_1 => ?_)
    · rw [lgc_lt] at c_1
      refine lv_bipush (v := -2) hx hb d_P_region_44 (by decide) ?_
      exact leafI (val := valC) (cell := cellC) X hr hlocks hS (u2 := (lay, d)) hW (v := (-2)) ⟨by simp [sp_region, rc_add, hix, c_1], by simp [sp_region, hix, c_1]⟩ d_P_region_46
    · rw [lgc_lt] at c_1
      refine lv_lload_n hx hb d_P_region_20 rfl (lv_at hl 3 rfl) ?_
      refine lv_ldc2 (v := 1099511627776) hx hb X.1.2.2.2.1 (X.1.2.2.2.2 _ (List.mem_of_getElem? (i := 132) rfl)) d_P_region_21 ?_
      refine W.lcmp hx hb d_P_region_24 ?_
      refine lv_if_gt (tgt := 44) hx hb d_P_region_25 (by decide) (fun c_2 => ?_) (fun c_2 => ?_)
      · rw [lgc_gt] at c_2
        refine lv_bipush (v := -2) hx hb d_P_region_44 (by decide) ?_
        exact leafI (val := valC) (cell := cellC) X hr hlocks hS (u2 := (lay, d)) hW (v := (-2)) ⟨by simp [sp_region, rc_add, hix, c_1, c_2], by simp [sp_region, hix, c_1, c_2]⟩ d_P_region_46
      · rw [lgc_gt] at c_2
        refine lv_lload hx hb d_P_region_28 (lv_at hl 4 rfl) ?_
        refine lv_lconst (v := 1) hx hb d_P_region_30 (by decide) ?_
        refine W.lcmp hx hb d_P_region_31 ?_
        refine lv_if_lt (tgt := 44) hx hb d_P_region_32 (by decide) (fun c_3 => ?_) (fun c_3 => ?_)
        · rw [lgc_lt] at c_3
          refine lv_bipush (v := -2) hx hb d_P_region_44 (by decide) ?_
          exact leafI (val := valC) (cell := cellC) X hr hlocks hS (u2 := (lay, d)) hW (v := (-2)) ⟨by simp [sp_region, rc_add, hix, c_1, c_2, c_3], by simp [sp_region, hix, c_1, c_2, c_3]⟩ d_P_region_46
        · rw [lgc_lt] at c_3
          refine lv_lload hx hb d_P_region_35 (lv_at hl 4 rfl) ?_
          refine lv_ldc2 (v := 1099511627776) hx hb X.1.2.2.2.1 (X.1.2.2.2.2 _ (List.mem_of_getElem? (i := 132) rfl)) d_P_region_37 ?_
          refine W.lcmp hx hb d_P_region_40 ?_
          refine lv_if_le (tgt := 47) hx hb d_P_region_41 (by decide) (fun c_4 => ?_) (fun c_4 => ?_)
          · rw [lgc_le] at c_4
            refine lv_aload_n hx hb d_P_region_47 rfl (lv_at hl 1 rfl) ?_
            refine gf_P_44 X (aC0 hW) rfl d_P_region_48 ?_
            refine lv_if_ne (tgt := 57) hx hb d_P_region_51 (by decide) (fun c_5 => ?_) (fun c_5 => ?_)
            · refine lv_aload hx hb d_P_region_57 (lv_at hl 0 rfl) ?_
              refine gf_P_70 X (aC8 hW hj) rfl d_P_region_59 ?_
              refine lv_bipush (v := 8) hx hb d_P_region_62 (by decide) ?_
              refine lv_icmp_lt (tgt := 70) hx hb d_P_region_64 (by decide) (fun c_6 => ?_) (fun c_6 => ?_)
              · obtain ⟨n0, hn0, hrc⟩ := hrcs j hj
                have hn1 : n0 < 8 := (nI_ltI (b := 8) (by omega) (by decide)).mp (hrc ▸ c_6)
                have c_6 : ¬ gI d 9 j 0 = 8 := fun q => by rw [hrc] at q; have := (nI_eq (b := 8) (by omega) (by decide)).mp q; omega
                refine lv_aload hx hb d_P_region_70 (lv_at hl 0 rfl) ?_
                refine lv_lload_n hx hb d_P_region_72 rfl (lv_at hl 3 rfl) ?_
                refine lv_lload hx hb d_P_region_73 (lv_at hl 4 rfl) ?_
                refine wc_callv (val := valC) (lay := fun u : CS => u.1) (cell := cellC ct) (u0 := (lay, d)) X (c_A_addRegion l D ct lay d _ j hj f n n0 hn1 hrc) (cw_P_73 X.1.2.2.2.2 rfl rfl ⟨Nat.le_of_ble_eq_true rfl, Nat.le_of_ble_eq_true rfl⟩) hW hS (fun q h => h.imp_right (fun z => Nat.le_trans hS.1 z)) (aC8 hW hj) rfl rfl hl.1 rfl (Nat.le_of_ble_eq_true rfl) d_P_region_75 ⟨Nat.le_of_ble_eq_true rfl, Nat.le_of_ble_eq_true rfl⟩ (fun u H locs hp hW hz hk hS => ?_)
                obtain rfl := hp
                have hW : WC D ct (lay, (sp_addR d j f n)) H := hW
                refine lv_aload hx hb d_P_region_78 (lv_at hl 0 rfl) ?_
                refine gf_P_70 X (aC8 hW hj) rfl d_P_region_80 ?_
                exact leafI (val := valC) (cell := cellC) X hr hlocks hS (u2 := (lay, (sp_addR d j f n))) hW (v := gI (sp_addR d j f n) 9 j 0) ⟨by simp [sp_region, rc_add, hix, c_1, c_2, c_3, c_4, c_5, c_6], by simp [sp_region, hix, c_1, c_2, c_3, c_4, c_5, c_6]⟩ d_P_region_83
              · obtain ⟨n0, hn0, hrc⟩ := hrcs j hj
                have c_6 : gI d 9 j 0 = 8 := by rw [hrc]; rw [hrc] at c_6; have : n0 = 8 := by { rcases Nat.lt_or_ge n0 8 with q | q; exact absurd (nI_lt (b := 8) q (by decide)) c_6; omega }; rw [this]; rfl
                refine lv_bipush (v := -4) hx hb d_P_region_67 (by decide) ?_
                exact leafI (val := valC) (cell := cellC) X hr hlocks hS (u2 := (lay, d)) hW (v := (-4)) ⟨by simp [sp_region, rc_add, hix, c_1, c_2, c_3, c_4, c_5, c_6], by simp [sp_region, hix, c_1, c_2, c_3, c_4, c_5, c_6]⟩ d_P_region_69
            · refine lv_bipush (v := -3) hx hb d_P_region_54 (by decide) ?_
              exact leafI (val := valC) (cell := cellC) X hr hlocks hS (u2 := (lay, d)) hW (v := (-3)) ⟨by simp [sp_region, rc_add, hix, c_1, c_2, c_3, c_4, c_5], by simp [sp_region, hix, c_1, c_2, c_3, c_4, c_5]⟩ d_P_region_56
          · rw [lgc_le] at c_4
            refine lv_bipush (v := -2) hx hb d_P_region_44 (by decide) ?_
            exact leafI (val := valC) (cell := cellC) X hr hlocks hS (u2 := (lay, d)) hW (v := (-2)) ⟨by simp [sp_region, rc_add, hix, c_1, c_2, c_3, c_4], by simp [sp_region, hix, c_1, c_2, c_3, c_4]⟩ d_P_region_46
  · have hW : WC D ct (lay, d) H := hW
    refine lv_astoreN (lv' := [(6, .null), (0, .ref (lay 0 0)), (1, .int x), (2, .long f), (4, .long n)]) hx hb d_P_region_5 hl (by decide) rfl (fun ls hl => ?_)
    refine lv_aloadN hx hb d_P_region_7 (lv_at hl 0 rfl) ?_
    refine lv_ifnonnullN hx hb d_P_region_9 ?_
    refine lv_iconst (v := -1) hx hb d_P_region_12 (by decide) ?_
    exact leafI (val := valC) (cell := cellC) X hr hlocks hS (u2 := (lay, d)) hW (v := (-1)) ⟨by simp [sp_region, rc_add, hix], by simp [sp_region, hix]⟩ d_P_region_13
theorem hld_ix (a b : Nat) : nI a * 32 + nI (b + 1) - 1 = nI (32 * a + b) := by rw [show nI a * 32 = nI (a * 32) from pk_mul a 32, nI_add, show a * 32 + (b + 1) = 32 * a + b + 1 by omega]; exact nI_pred _
set_option maxHeartbeats 4000000 in
set_option maxRecDepth 100000 in
theorem c_P_holds (l : Launch) (D : va_G) (ct : Nat → ClassId) (lay : Nat → Nat → Nat) (d : DC) (sz : Nat) (x k w : Int32) (hna : dna d ≤ 16) (hnt : dnt d ≤ 60) (how : ∀ j, j < dnt d → dow d j < dna d) :
    CoI valC cellC l D ct y_P_holds b_P_holds 6 (some .int) { frames := 1, cells := 0, slots := 0, locals := 26 } (lay, d) sz [.ref (lay 0 0), .int x, .int k, .int w] (fun r u => r = (sp_holds d x k w).1 ∧ u = (lay, (sp_holds d x k w).2)) := by
  refine co_of (by decide) (Nat.le_of_ble_eq_true rfl) (fun p e s m below meth c X hr hlocks hnm hsz hW ls hl => ?_)
  subst hsz
  have hx := X.1.1
  have hb := X.1.2.1
  have hS : va_S (Wfr (valC (lay, d)) lay s.heap.size) s.heap s.heap [] := va_S.rf
  have hl : lv_has ls 6 [(0, .ref (lay 0 0)), (1, .int x), (2, .int k), (3, .int w)] := hl
  refine lv_aload_n hx hb d_P_holds_0 rfl (lv_at hl 0 rfl) ?_
  refine lv_iload_n hx hb d_P_holds_1 rfl (lv_at hl 1 rfl) ?_
  refine wc_callq (val := valC) (lay := fun u : CS => u.1) (cell := cellC ct) (u0 := (lay, d)) X (c_P_taskNumbered l D ct lay d _ x hnt) (cw_P_77 X.1.2.2.2.2 rfl rfl ⟨Nat.le_of_ble_eq_true rfl, Nat.le_of_ble_eq_true rfl⟩) hW hS (fun q h => h.imp_right (fun z => Nat.le_trans hS.1 z)) (aC0 hW) rfl rfl hl.1 rfl (Nat.le_of_ble_eq_true rfl) d_P_holds_2 ⟨Nat.le_of_ble_eq_true rfl, Nat.le_of_ble_eq_true rfl⟩ (fun r u H locs hp hW hz hk hS => ?_)
  obtain ⟨rfl, hp⟩ := hp
  rcases hp with ⟨j, hj, ej, hix, rfl⟩ | ⟨hix, rfl⟩
  · have hW : WC D ct (lay, d) H := hW
    refine lv_astore (lv' := [(4, .ref (lay 11 j)), (0, .ref (lay 0 0)), (1, .int x), (2, .int k), (3, .int w)]) hx hb d_P_holds_5 hl (by decide) rfl (fun ls hl => ?_)
    refine lv_aload hx hb d_P_holds_7 (lv_at hl 0 rfl) ?_
    refine lv_ifnonnull (tgt := 14) hx hb d_P_holds_9 (by decide) ?_
    refine lv_iload_n hx hb d_P_holds_14 rfl (lv_at hl 3 rfl) ?_
    refine lv_if_lt (tgt := 34) hx hb d_P_holds_15 (by decide) (fun c_1 => ?_) (fun c_1 => ?_)
    · refine lv_bipush (v := -2) hx hb d_P_holds_34 (by decide) ?_
      exact leafI (val := valC) (cell := cellC) X hr hlocks hS (u2 := (lay, d)) hW (v := (-2)) ⟨by simp [sp_holds, hix, c_1], by simp [sp_holds, hix, c_1]⟩ d_P_holds_36
    · refine lv_iload_n hx hb d_P_holds_18 rfl (lv_at hl 3 rfl) ?_
      refine lv_iconst (v := 4) hx hb d_P_holds_19 (by decide) ?_
      refine lv_icmp_ge (tgt := 34) hx hb d_P_holds_20 (by decide) (fun c_2 => ?_) (fun c_2 => ?_)
      · refine lv_bipush (v := -2) hx hb d_P_holds_34 (by decide) ?_
        exact leafI (val := valC) (cell := cellC) X hr hlocks hS (u2 := (lay, d)) hW (v := (-2)) ⟨by simp [sp_holds, hix, c_1, c_2], by simp [sp_holds, hix, c_1, c_2]⟩ d_P_holds_36
      · refine lv_iload_n hx hb d_P_holds_23 rfl (lv_at hl 4 rfl) ?_
        refine lv_iconst (v := 1) hx hb d_P_holds_24 (by decide) ?_
        refine lv_icmp_lt (tgt := 34) hx hb d_P_holds_25 (by decide) (fun c_3 => ?_) (fun c_3 => ?_)
        · refine lv_bipush (v := -2) hx hb d_P_holds_34 (by decide) ?_
          exact leafI (val := valC) (cell := cellC) X hr hlocks hS (u2 := (lay, d)) hW (v := (-2)) ⟨by simp [sp_holds, hix, c_1, c_2, c_3], by simp [sp_holds, hix, c_1, c_2, c_3]⟩ d_P_holds_36
        · refine lv_iload_n hx hb d_P_holds_28 rfl (lv_at hl 4 rfl) ?_
          refine lv_bipush (v := 32) hx hb d_P_holds_29 (by decide) ?_
          refine lv_icmp_le (tgt := 37) hx hb d_P_holds_31 (by decide) (fun c_4 => ?_) (fun c_4 => ?_)
          · refine lv_iload_n hx hb d_P_holds_37 rfl (lv_at hl 3 rfl) ?_
            refine lv_bipush (v := 32) hx hb d_P_holds_38 (by decide) ?_
            refine lv_imul hx hb d_P_holds_40 ?_
            refine lv_iload_n hx hb d_P_holds_41 rfl (lv_at hl 4 rfl) ?_
            refine lv_iadd hx hb d_P_holds_42 ?_
            refine lv_iconst (v := 1) hx hb d_P_holds_43 (by decide) ?_
            obtain ⟨k1, hk1, ek⟩ := nI_of c_1
            have hk2 : k1 < 4 := Nat.not_le.mp (fun q => c_2 (ek ▸ nI_le (a := 4) q hk1))
            obtain ⟨w0, hw0, ew⟩ := nI_of1 (n := 32) (by decide) (Int32.not_lt.mp c_3) c_4
            have hT : 32 * k.toNatClampNeg + w.toNatClampNeg - 1 = 32 * k1 + w0 := by rw [ek, ew, nI_clamp hk1, nI_clamp (by omega)]; omega
            refine lv_isub hx hb d_P_holds_44 ?_
            refine lv_topi (fun y ey => ?_)
            obtain rfl : y = nI (32 * k1 + w0) := ey.trans (by rw [ek, ew]; exact hld_ix k1 w0)
            refine lv_istore (lv' := [(5, .int (nI (32 * k1 + w0))), (4, .ref (lay 11 j)), (0, .ref (lay 0 0)), (1, .int x), (2, .int k), (3, .int w)]) hx hb d_P_holds_45 hl (by decide) rfl (fun ls hl => ?_)
            refine lv_aload_n hx hb d_P_holds_47 rfl (lv_at hl 2 rfl) ?_
            refine lv_aload hx hb d_P_holds_48 (lv_at hl 1 rfl) ?_
            refine wc_calli (val := valC) (lay := fun u : CS => u.1) (cell := cellC ct) (u0 := (lay, d)) X (c_P_canAct l D ct lay d _ j hj) (cw_P_81 X.1.2.2.2.2 rfl rfl ⟨Nat.le_of_ble_eq_true rfl, Nat.le_of_ble_eq_true rfl⟩) hW hS (fun q h => h.imp_right (fun z => Nat.le_trans hS.1 z)) (aC0 hW) rfl rfl hl.1 rfl (Nat.le_of_ble_eq_true rfl) d_P_holds_50 ⟨Nat.le_of_ble_eq_true rfl, Nat.le_of_ble_eq_true rfl⟩ (fun r u H locs hp hW hz hk hS => ?_)
            obtain ⟨rfl, rfl⟩ := hp
            have hW : WC D ct (lay, d) H := hW
            by_cases hcan : gI d 0 0 0 = 0 ∨ gI d 12 j 0 = 0
            · rw [if_pos hcan]
              refine lv_if_eq (tgt := 66) hx hb d_P_holds_53 (by decide) (fun _ => ?_) (fun c_5 => absurd c_5 (by decide))
              refine lv_bipush (v := -3) hx hb d_P_holds_66 (by decide) ?_
              exact leafI (val := valC) (cell := cellC) X hr hlocks hS (u2 := (lay, d)) hW (v := (-3)) ⟨by simp [sp_holds, hT, hix, c_1, c_2, c_3, c_4, hcan], by simp [sp_holds, hT, hix, c_1, c_2, c_3, c_4, hcan]⟩ d_P_holds_68
            · rw [if_neg hcan]
              refine lv_if_eq (tgt := 66) hx hb d_P_holds_53 (by decide) (fun c_6 => absurd c_6 (by decide)) (fun _ => ?_)
              refine lv_aload_n hx hb d_P_holds_56 rfl (lv_at hl 2 rfl) ?_
              refine gf_P_21 X (aC0 hW) rfl d_P_holds_57 ?_
              refine lv_iload hx hb d_P_holds_60 (lv_at hl 0 rfl) ?_
              refine rn_iald X 0 (aC3 hW) rfl (t := (32 * k1 + w0)) rfl (by omega) (by decide) d_P_holds_62 ?_
              refine lv_if_eq (tgt := 69) hx hb d_P_holds_63 (by decide) (fun c_7 => ?_) (fun c_7 => ?_)
              · refine lv_aload_n hx hb d_P_holds_69 rfl (lv_at hl 2 rfl) ?_
                refine gf_P_21 X (aC0 hW) rfl d_P_holds_70 ?_
                refine lv_iload hx hb d_P_holds_73 (lv_at hl 0 rfl) ?_
                refine lv_aload hx hb d_P_holds_75 (lv_at hl 1 rfl) ?_
                refine gf_P_85 X (aC11 hW hj) rfl d_P_holds_77 ?_
                refine rn_iast X 0 (aC3 hW) rfl hS (wfr 3 0 rfl) (t := (32 * k1 + w0)) rfl (by omega) (by decide) d_P_holds_80 (fun H locs hat hch hS => ?_)
                have hW := wpC_aI2 hW hat hch
                refine lv_aload_n hx hb d_P_holds_81 rfl (lv_at hl 2 rfl) ?_
                refine lv_aload hx hb d_P_holds_82 (lv_at hl 1 rfl) ?_
                refine wc_calli (val := valC) (lay := fun u : CS => u.1) (cell := cellC ct) (u0 := (lay, (sI d 2 0 (32 * k1 + w0) (nI (j + 1))))) X (c_P_countHeldBy l D ct lay (sI d 2 0 (32 * k1 + w0) (nI (j + 1))) _ j hj) (cw_P_88 X.1.2.2.2.2 rfl rfl ⟨Nat.le_of_ble_eq_true rfl, Nat.le_of_ble_eq_true rfl⟩) hW hS (fun q h => h.imp_right (fun z => Nat.le_trans hS.1 z)) (aC0 hW) rfl rfl hl.1 rfl (Nat.le_of_ble_eq_true rfl) d_P_holds_84 ⟨Nat.le_of_ble_eq_true rfl, Nat.le_of_ble_eq_true rfl⟩ (fun r u H locs hp hW hz hk hS => ?_)
                obtain ⟨rfl, rfl⟩ := hp
                have hW : WC D ct (lay, (sI d 2 0 (32 * k1 + w0) (nI (j + 1)))) H := hW
                exact leafI (val := valC) (cell := cellC) X hr hlocks hS (u2 := (lay, (sI d 2 0 (32 * k1 + w0) (nI (j + 1))))) hW (v := cnt (gI (sI d 2 0 (32 * k1 + w0) (nI (j + 1))) 2 0) (nI (j + 1)) 128) ⟨by simp [sp_holds, hT, hix, c_1, c_2, c_3, c_4, hcan, c_7], by simp [sp_holds, hT, hix, c_1, c_2, c_3, c_4, hcan, c_7]⟩ d_P_holds_87
              · refine lv_bipush (v := -3) hx hb d_P_holds_66 (by decide) ?_
                exact leafI (val := valC) (cell := cellC) X hr hlocks hS (u2 := (lay, d)) hW (v := (-3)) ⟨by simp [sp_holds, hT, hix, c_1, c_2, c_3, c_4, hcan, c_7], by simp [sp_holds, hT, hix, c_1, c_2, c_3, c_4, hcan, c_7]⟩ d_P_holds_68
          · refine lv_bipush (v := -2) hx hb d_P_holds_34 (by decide) ?_
            exact leafI (val := valC) (cell := cellC) X hr hlocks hS (u2 := (lay, d)) hW (v := (-2)) ⟨by simp [sp_holds, hix, c_1, c_2, c_3, c_4], by simp [sp_holds, hix, c_1, c_2, c_3, c_4]⟩ d_P_holds_36
  · have hW : WC D ct (lay, d) H := hW
    refine lv_astoreN (lv' := [(4, .null), (0, .ref (lay 0 0)), (1, .int x), (2, .int k), (3, .int w)]) hx hb d_P_holds_5 hl (by decide) rfl (fun ls hl => ?_)
    refine lv_aloadN hx hb d_P_holds_7 (lv_at hl 0 rfl) ?_
    refine lv_ifnonnullN hx hb d_P_holds_9 ?_
    refine lv_iconst (v := -1) hx hb d_P_holds_12 (by decide) ?_
    exact leafI (val := valC) (cell := cellC) X hr hlocks hS (u2 := (lay, d)) hW (v := (-1)) ⟨by simp [sp_holds, hix], by simp [sp_holds, hix]⟩ d_P_holds_13
