set_option maxHeartbeats 4000000 in
set_option maxRecDepth 100000 in
theorem c_M_application (l : Launch) (D : va_G) (ct : Nat → ClassId) (lay : Nat → Nat → Nat) (d : DC) (sz : Nat) (r0 : Int32) (hna : dna d ≤ 16) :
    CoI valM cellM l D ct y_M_application b_M_application 2 (some .int) { frames := 0, cells := 0, slots := 0, locals := 0 } (lay, d) sz [.ref (lay 0 0), .int r0] (fun r u => r = (sp_application d r0).1 ∧ u = (lay, (sp_application d r0).2)) := by
  refine co_of (by decide) (Nat.le_of_ble_eq_true rfl) (fun p e s m below meth c X hr hlocks hnm hsz hW ls hl => ?_)
  subst hsz
  have hx := X.1.1
  have hb := X.1.2.1
  have hS : va_S (Wfr (valM (lay, d)) lay s.heap.size) s.heap s.heap [] := va_S.rf
  have hl : lv_has ls 2 [(0, .ref (lay 0 0)), (1, .int r0)] := hl
  refine lv_aload_n hx hb d_M_application_0 rfl (lv_at hl 0 rfl) ?_
  refine lv_iconst (v := 0) hx hb d_M_application_1 (by decide) ?_
  refine pf_M_66 X (aM0 hW) hS (wfr 0 0 ⟨by decide, rfl⟩) rfl rfl (Nat.le_of_ble_eq_true rfl) d_M_application_2 (fun H locs hat hch hS => ?_)
  have hW := wpM_code hW hat hch
  refine lv_iload_n hx hb d_M_application_5 rfl (lv_at hl 1 rfl) ?_
  refine lv_if_lt (tgt := 15) hx hb d_M_application_6 (by decide) (fun c_1 => ?_) (fun c_1 => ?_)
  · refine lv_bipush (v := -2) hx hb d_M_application_15 (by decide) ?_
    exact leafI (val := valM) (cell := cellM) X hr hlocks hS (u2 := (lay, d)) hW (v := (-2)) ⟨by simp [sp_application, c_1], by simp [sp_application, c_1]⟩ d_M_application_17
  · refine lv_iload_n hx hb d_M_application_9 rfl (lv_at hl 1 rfl) ?_
    refine lv_bipush (v := 10) hx hb d_M_application_10 (by decide) ?_
    refine lv_icmp_le (tgt := 18) hx hb d_M_application_12 (by decide) (fun c_2 => ?_) (fun c_2 => ?_)
    · refine lv_aload_n hx hb d_M_application_18 rfl (lv_at hl 0 rfl) ?_
      refine gf_M_76 X (aM0 hW) rfl d_M_application_19 ?_
      refine lv_if_eq (tgt := 28) hx hb d_M_application_22 (by decide) (fun c_3 => ?_) (fun c_3 => ?_)
      · have u_c_3 := dn_0.mp c_3
        refine lv_aload_n hx hb d_M_application_28 rfl (lv_at hl 0 rfl) ?_
        refine gf_M_70 X (aM0 hW) rfl d_M_application_29 ?_
        refine lv_bipush (v := 16) hx hb d_M_application_32 (by decide) ?_
        refine lv_icmp_ne (tgt := 40) hx hb d_M_application_34 (by decide) (fun c_4 => ?_) (fun c_4 => ?_)
        · have c_4 : ¬ 16 ≤ dna d := fun q => c_4 (by rw [show dna d = 16 by omega]; rfl)
          refine lv_aload_n hx hb d_M_application_40 rfl (lv_at hl 0 rfl) ?_
          refine lv_dup hx hb d_M_application_41 rfl ?_
          refine gf_M_70 X (aM0 hW) rfl d_M_application_42 ?_
          refine lv_iconst (v := 1) hx hb d_M_application_45 (by decide) ?_
          refine lv_iadd hx hb d_M_application_46 ?_
          refine lv_topi (fun y_5 ey_5 => ?_)
          obtain rfl : y_5 = nI (dna d + 1) := ey_5.trans (nI_1 _)
          refine pf_M_70 X (aM0 hW) hS (wfr 0 0 ⟨by decide, rfl⟩) rfl rfl (Nat.le_of_ble_eq_true rfl) d_M_application_47 (fun H locs hat hch hS => ?_)
          have hW := wpM_na hW hat hch
          refine lv_aload_n hx hb d_M_application_50 rfl (lv_at hl 0 rfl) ?_
          refine gf_M_7 X (aM0 hW) rfl d_M_application_51 ?_
          refine lv_aload_n hx hb d_M_application_54 rfl (lv_at hl 0 rfl) ?_
          refine gf_M_70 X (aM0 hW) rfl d_M_application_55 ?_
          refine lv_iload_n hx hb d_M_application_58 rfl (lv_at hl 1 rfl) ?_
          refine rn_iast X 0 (aM1 hW) rfl hS (wfr 1 0 ⟨by decide, rfl⟩) (t := (dna d + 1)) rfl (by omega) (by decide) d_M_application_59 (fun H locs hat hch hS => ?_)
          have hW := wpM_aI10 (j := (dna d)) hW hat hch
          refine lv_aload_n hx hb d_M_application_60 rfl (lv_at hl 0 rfl) ?_
          refine gf_M_70 X (aM0 hW) rfl d_M_application_61 ?_
          exact leafI (val := valM) (cell := cellM) X hr hlocks hS (u2 := (lay, (sI (sNa d (dna d + 1)) 10 (dna d) 0 r0))) hW (v := nI (dna (sI (sNa d (dna d + 1)) 10 (dna d) 0 r0))) ⟨by unfold sp_application; rw [if_neg (by simp [c_1, c_2]), if_neg u_c_3, if_neg c_4]; try rfl, by unfold sp_application; rw [if_neg (by simp [c_1, c_2]), if_neg u_c_3, if_neg c_4]; try rfl⟩ d_M_application_64
        · have c_4 : 16 ≤ dna d := by have := (nI_eq (b := 16) (by omega) (by decide)).mp c_4; omega
          refine lv_bipush (v := -4) hx hb d_M_application_37 (by decide) ?_
          exact leafI (val := valM) (cell := cellM) X hr hlocks hS (u2 := (lay, d)) hW (v := (-4)) ⟨by simp [sp_application, c_1, c_2, u_c_3, c_4], by simp [sp_application, c_1, c_2, u_c_3, c_4]⟩ d_M_application_39
      · have u_c_3 := Decidable.not_not.mp (fun q => c_3 (dn_0.mpr q))
        refine lv_bipush (v := -3) hx hb d_M_application_25 (by decide) ?_
        exact leafI (val := valM) (cell := cellM) X hr hlocks hS (u2 := (lay, d)) hW (v := (-3)) ⟨by simp [sp_application, c_1, c_2, u_c_3], by simp [sp_application, c_1, c_2, u_c_3]⟩ d_M_application_27
    · refine lv_bipush (v := -2) hx hb d_M_application_15 (by decide) ?_
      exact leafI (val := valM) (cell := cellM) X hr hlocks hS (u2 := (lay, d)) hW (v := (-2)) ⟨by simp [sp_application, c_1, c_2], by simp [sp_application, c_1, c_2]⟩ d_M_application_17
set_option maxHeartbeats 4000000 in
set_option maxRecDepth 100000 in
theorem c_M_task (l : Launch) (D : va_G) (ct : Nat → ClassId) (lay : Nat → Nat → Nat) (d : DC) (sz : Nat) (x : Int32) (v : Int64) (hna : dna d ≤ 16) (hnt : dnt d ≤ 60) :
    CoI valM cellM l D ct y_M_task b_M_task 4 (some .int) { frames := 1, cells := 0, slots := 0, locals := 21 } (lay, d) sz [.ref (lay 0 0), .int x, .long v] (fun r u => r = (sp_task d x v).1 ∧ u = (lay, (sp_task d x v).2)) := by
  refine co_of (by decide) (Nat.le_of_ble_eq_true rfl) (fun p e s m below meth c X hr hlocks hnm hsz hW ls hl => ?_)
  subst hsz
  have hx := X.1.1
  have hb := X.1.2.1
  have hS : va_S (Wfr (valM (lay, d)) lay s.heap.size) s.heap s.heap [] := va_S.rf
  have hl : lv_has ls 4 [(0, .ref (lay 0 0)), (1, .int x), (2, .long v)] := hl
  refine lv_aload_n hx hb d_M_task_0 rfl (lv_at hl 0 rfl) ?_
  refine lv_iload_n hx hb d_M_task_1 rfl (lv_at hl 1 rfl) ?_
  refine wc_calli (val := valM) (lay := fun u : CS => u.1) (cell := cellM ct) (u0 := (lay, d)) X (c_M_noApplication l D ct lay d _ x (by omega)) (cw_M_80 X.1.2.2.2.2 rfl rfl ⟨Nat.le_of_ble_eq_true rfl, Nat.le_of_ble_eq_true rfl⟩) hW hS (fun q h => h.imp_right (fun z => Nat.le_trans hS.1 z)) (aM0 hW) rfl rfl hl.1 rfl (Nat.le_of_ble_eq_true rfl) d_M_task_2 ⟨Nat.le_of_ble_eq_true rfl, Nat.le_of_ble_eq_true rfl⟩ (fun r u H locs hp hW hz hk hS => ?_)
  obtain ⟨rfl, hp⟩ := hp
  rcases hp with ⟨j, hj, rfl, hix, rfl⟩ | ⟨hix, rfl⟩
  · have hW : WM D ct (lay, d) H := hW
    refine lv_if_eq (tgt := 10) hx hb d_M_task_5 (by decide) (fun _ => ?_) (fun c_1 => absurd c_1 (by decide))
    refine lv_lload_n hx hb d_M_task_10 rfl (lv_at hl 2 rfl) ?_
    refine lv_lconst (v := 0) hx hb d_M_task_11 (by decide) ?_
    refine W.lcmp hx hb d_M_task_12 ?_
    refine lv_if_lt (tgt := 24) hx hb d_M_task_13 (by decide) (fun c_2 => ?_) (fun c_2 => ?_)
    · rw [lgc_lt] at c_2
      refine lv_bipush (v := -2) hx hb d_M_task_24 (by decide) ?_
      exact leafI (val := valM) (cell := cellM) X hr hlocks hS (u2 := (lay, d)) hW (v := (-2)) ⟨by simp [sp_task, hix, c_2], by simp [sp_task, hix, c_2]⟩ d_M_task_26
    · rw [lgc_lt] at c_2
      refine lv_lload_n hx hb d_M_task_16 rfl (lv_at hl 2 rfl) ?_
      refine lv_ldc2 (v := 1000000) hx hb X.1.2.2.2.1 (X.1.2.2.2.2 _ (List.mem_of_getElem? (i := 293) rfl)) d_M_task_17 ?_
      refine W.lcmp hx hb d_M_task_20 ?_
      refine lv_if_le (tgt := 27) hx hb d_M_task_21 (by decide) (fun c_3 => ?_) (fun c_3 => ?_)
      · rw [lgc_le] at c_3
        refine lv_aload_n hx hb d_M_task_27 rfl (lv_at hl 0 rfl) ?_
        refine gf_M_76 X (aM0 hW) rfl d_M_task_28 ?_
        refine lv_if_ne (tgt := 43) hx hb d_M_task_31 (by decide) (fun c_4 => ?_) (fun c_4 => ?_)
        · have u_c_4 := Decidable.not_not.mp (fun q => c_4 (dn_0.mpr q))
          refine lv_bipush (v := -3) hx hb d_M_task_43 (by decide) ?_
          exact leafI (val := valM) (cell := cellM) X hr hlocks hS (u2 := (lay, d)) hW (v := (-3)) ⟨by simp [sp_task, hix, c_2, c_3, u_c_4], by simp [sp_task, hix, c_2, c_3, u_c_4]⟩ d_M_task_45
        · have u_c_4 := dn_0.mp c_4
          refine lv_aload_n hx hb d_M_task_34 rfl (lv_at hl 0 rfl) ?_
          refine gf_M_13 X (aM0 hW) rfl d_M_task_35 ?_
          refine lv_iload_n hx hb d_M_task_38 rfl (lv_at hl 1 rfl) ?_
          refine rn_zaldE X 2 (aM2 hW) rfl (t := (j + 1)) rfl (by omega) (by decide) (v := (gI d 11 j 0)) rfl d_M_task_39 ?_
          refine lv_if_eq (tgt := 46) hx hb d_M_task_40 (by decide) (fun c_5 => ?_) (fun c_5 => ?_)
          · refine lv_aload_n hx hb d_M_task_46 rfl (lv_at hl 0 rfl) ?_
            refine gf_M_73 X (aM0 hW) rfl d_M_task_47 ?_
            refine lv_bipush (v := 60) hx hb d_M_task_50 (by decide) ?_
            refine lv_icmp_ne (tgt := 58) hx hb d_M_task_52 (by decide) (fun c_6 => ?_) (fun c_6 => ?_)
            · have c_6 : ¬ 60 ≤ dnt d := fun q => c_6 (by rw [show dnt d = 60 by omega]; rfl)
              refine lv_aload_n hx hb d_M_task_58 rfl (lv_at hl 0 rfl) ?_
              refine lv_dup hx hb d_M_task_59 rfl ?_
              refine gf_M_73 X (aM0 hW) rfl d_M_task_60 ?_
              refine lv_iconst (v := 1) hx hb d_M_task_63 (by decide) ?_
              refine lv_iadd hx hb d_M_task_64 ?_
              refine lv_topi (fun y_7 ey_7 => ?_)
              obtain rfl : y_7 = nI (dnt d + 1) := ey_7.trans (nI_1 _)
              refine pf_M_73 X (aM0 hW) hS (wfr 0 0 ⟨by decide, rfl⟩) rfl rfl (Nat.le_of_ble_eq_true rfl) d_M_task_65 (fun H locs hat hch hS => ?_)
              have hW := wpM_nt hW hat hch
              refine lv_aload_n hx hb d_M_task_68 rfl (lv_at hl 0 rfl) ?_
              refine gf_M_27 X (aM0 hW) rfl d_M_task_69 ?_
              refine lv_aload_n hx hb d_M_task_72 rfl (lv_at hl 0 rfl) ?_
              refine gf_M_73 X (aM0 hW) rfl d_M_task_73 ?_
              refine lv_iload_n hx hb d_M_task_76 rfl (lv_at hl 1 rfl) ?_
              refine rn_iast X 0 (aM6 hW) rfl hS (wfr 6 0 ⟨by decide, rfl⟩) (t := (dnt d + 1)) rfl (by omega) (by decide) d_M_task_77 (fun H locs hat hch hS => ?_)
              have hW := wpM_aI15 (j := (dnt d)) hW hat hch
              refine lv_aload_n hx hb d_M_task_78 rfl (lv_at hl 0 rfl) ?_
              refine gf_M_30 X (aM0 hW) rfl d_M_task_79 ?_
              refine lv_aload_n hx hb d_M_task_82 rfl (lv_at hl 0 rfl) ?_
              refine gf_M_73 X (aM0 hW) rfl d_M_task_83 ?_
              refine lv_lload_n hx hb d_M_task_86 rfl (lv_at hl 2 rfl) ?_
              refine rn_last X 1 (aM7 hW) rfl hS (wfr 7 0 ⟨by decide, rfl⟩) (t := (dnt d + 1)) rfl (by omega) (by decide) d_M_task_87 (fun H locs hat hch hS => ?_)
              have hW := wpM_aL2 (j := (dnt d)) hW hat hch
              refine lv_aload_n hx hb d_M_task_88 rfl (lv_at hl 0 rfl) ?_
              refine gf_M_33 X (aM0 hW) rfl d_M_task_89 ?_
              refine lv_aload_n hx hb d_M_task_92 rfl (lv_at hl 0 rfl) ?_
              refine gf_M_73 X (aM0 hW) rfl d_M_task_93 ?_
              refine lv_iconst (v := 1) hx hb d_M_task_96 (by decide) ?_
              refine rn_zast X 2 (aM8 hW) rfl hS (wfr 8 0 ⟨by decide, rfl⟩) (t := (dnt d + 1)) rfl (by omega) (by decide) rfl d_M_task_97 (fun H locs hat hch hS => ?_)
              have hW := wpM_aI12 (j := (dnt d)) hW hat hch
              refine lv_aload_n hx hb d_M_task_98 rfl (lv_at hl 0 rfl) ?_
              refine gf_M_73 X (aM0 hW) rfl d_M_task_99 ?_
              have hW : WM D ct (lay, sp_newT d j v) H := visM.wm ⟨⟨rfl, rfl⟩, fun _ _ _ => rfl, fun _ _ _ _ => rfl⟩ hW
              exact leafI (val := valM) (cell := cellM) X hr hlocks hS (u2 := (lay, sp_newT d j v)) hW (v := nI (dnt d + 1)) ⟨by simp [sp_task, hix, c_2, c_3, u_c_4, c_5, c_6], by simp [sp_task, hix, c_2, c_3, u_c_4, c_5, c_6]⟩ d_M_task_102
            · have c_6 : 60 ≤ dnt d := by have := (nI_eq (b := 60) (by omega) (by decide)).mp c_6; omega
              refine lv_bipush (v := -4) hx hb d_M_task_55 (by decide) ?_
              exact leafI (val := valM) (cell := cellM) X hr hlocks hS (u2 := (lay, d)) hW (v := (-4)) ⟨by simp [sp_task, hix, c_2, c_3, u_c_4, c_5, c_6], by simp [sp_task, hix, c_2, c_3, u_c_4, c_5, c_6]⟩ d_M_task_57
          · refine lv_bipush (v := -3) hx hb d_M_task_43 (by decide) ?_
            exact leafI (val := valM) (cell := cellM) X hr hlocks hS (u2 := (lay, d)) hW (v := (-3)) ⟨by simp [sp_task, hix, c_2, c_3, u_c_4, c_5], by simp [sp_task, hix, c_2, c_3, u_c_4, c_5]⟩ d_M_task_45
      · rw [lgc_le] at c_3
        refine lv_bipush (v := -2) hx hb d_M_task_24 (by decide) ?_
        exact leafI (val := valM) (cell := cellM) X hr hlocks hS (u2 := (lay, d)) hW (v := (-2)) ⟨by simp [sp_task, hix, c_2, c_3], by simp [sp_task, hix, c_2, c_3]⟩ d_M_task_26
  · have hW : WM D ct (lay, d) H := hW
    refine lv_if_eq (tgt := 10) hx hb d_M_task_5 (by decide) (fun c_8 => absurd c_8 (by decide)) (fun _ => ?_)
    refine lv_iconst (v := -1) hx hb d_M_task_8 (by decide) ?_
    exact leafI (val := valM) (cell := cellM) X hr hlocks hS (u2 := (lay, d)) hW (v := (-1)) ⟨by simp [sp_task, hix], by simp [sp_task, hix]⟩ d_M_task_9
set_option maxHeartbeats 4000000 in
set_option maxRecDepth 100000 in
theorem c_M_region (l : Launch) (D : va_G) (ct : Nat → ClassId) (lay : Nat → Nat → Nat) (d : DC) (sz : Nat) (x : Int32) (f n : Int64) (hna : dna d ≤ 16) (hreg : ∀ i, i < dna d → ∃ n, n ≤ 8 ∧ gI d 9 i 0 = nI n ∧ ∀ k, k < n → 0 ≤ gL d 0 i k ∧ gL d 0 i k ≤ 1099511627776 ∧ gL d 1 i k ≤ 1099511627776 ∧ 1 ≤ gL d 1 i k) :
    CoI valM cellM l D ct y_M_region b_M_region 6 (some .int) { frames := 1, cells := 0, slots := 0, locals := 21 } (lay, d) sz [.ref (lay 0 0), .int x, .long f, .long n] (fun r u => r = (sp_region d x f n).1 ∧ u = (lay, (sp_region d x f n).2)) := by
  refine co_of (by decide) (Nat.le_of_ble_eq_true rfl) (fun p e s m below meth c X hr hlocks hnm hsz hW ls hl => ?_)
  subst hsz
  have hx := X.1.1
  have hb := X.1.2.1
  have hS : va_S (Wfr (valM (lay, d)) lay s.heap.size) s.heap s.heap [] := va_S.rf
  have hl : lv_has ls 6 [(0, .ref (lay 0 0)), (1, .int x), (2, .long f), (4, .long n)] := hl
  refine lv_aload_n hx hb d_M_region_0 rfl (lv_at hl 0 rfl) ?_
  refine lv_iload_n hx hb d_M_region_1 rfl (lv_at hl 1 rfl) ?_
  refine wc_calli (val := valM) (lay := fun u : CS => u.1) (cell := cellM ct) (u0 := (lay, d)) X (c_M_noApplication l D ct lay d _ x (by omega)) (cw_M_80 X.1.2.2.2.2 rfl rfl ⟨Nat.le_of_ble_eq_true rfl, Nat.le_of_ble_eq_true rfl⟩) hW hS (fun q h => h.imp_right (fun z => Nat.le_trans hS.1 z)) (aM0 hW) rfl rfl hl.1 rfl (Nat.le_of_ble_eq_true rfl) d_M_region_2 ⟨Nat.le_of_ble_eq_true rfl, Nat.le_of_ble_eq_true rfl⟩ (fun r u H locs hp hW hz hk hS => ?_)
  obtain ⟨rfl, hp⟩ := hp
  rcases hp with ⟨j, hj, rfl, hix, rfl⟩ | ⟨hix, rfl⟩
  · have hW : WM D ct (lay, d) H := hW
    refine lv_if_eq (tgt := 10) hx hb d_M_region_5 (by decide) (fun _ => ?_) (fun c_1 => absurd c_1 (by decide))
    refine lv_lload_n hx hb d_M_region_10 rfl (lv_at hl 2 rfl) ?_
    refine lv_lconst (v := 0) hx hb d_M_region_11 (by decide) ?_
    refine W.lcmp hx hb d_M_region_12 ?_
    refine lv_if_lt (tgt := 40) hx hb d_M_region_13 (by decide) (fun c_2 => ?_) (fun c_2 => ?_)
    · rw [lgc_lt] at c_2
      refine lv_bipush (v := -2) hx hb d_M_region_40 (by decide) ?_
      exact leafI (val := valM) (cell := cellM) X hr hlocks hS (u2 := (lay, d)) hW (v := (-2)) ⟨by simp [sp_region, hix, c_2], by simp [sp_region, hix, c_2]⟩ d_M_region_42
    · rw [lgc_lt] at c_2
      refine lv_lload hx hb d_M_region_16 (lv_at hl 3 rfl) ?_
      refine lv_lconst (v := 1) hx hb d_M_region_18 (by decide) ?_
      refine W.lcmp hx hb d_M_region_19 ?_
      refine lv_if_lt (tgt := 40) hx hb d_M_region_20 (by decide) (fun c_3 => ?_) (fun c_3 => ?_)
      · rw [lgc_lt] at c_3
        refine lv_bipush (v := -2) hx hb d_M_region_40 (by decide) ?_
        exact leafI (val := valM) (cell := cellM) X hr hlocks hS (u2 := (lay, d)) hW (v := (-2)) ⟨by simp [sp_region, hix, c_2, c_3], by simp [sp_region, hix, c_2, c_3]⟩ d_M_region_42
      · rw [lgc_lt] at c_3
        refine lv_lload_n hx hb d_M_region_23 rfl (lv_at hl 2 rfl) ?_
        refine lv_ldc2 (v := 1099511627776) hx hb X.1.2.2.2.1 (X.1.2.2.2.2 _ (List.mem_of_getElem? (i := 298) rfl)) d_M_region_24 ?_
        refine W.lcmp hx hb d_M_region_27 ?_
        refine lv_if_gt (tgt := 40) hx hb d_M_region_28 (by decide) (fun c_4 => ?_) (fun c_4 => ?_)
        · rw [lgc_gt] at c_4
          refine lv_bipush (v := -2) hx hb d_M_region_40 (by decide) ?_
          exact leafI (val := valM) (cell := cellM) X hr hlocks hS (u2 := (lay, d)) hW (v := (-2)) ⟨by simp [sp_region, hix, c_2, c_3, c_4], by simp [sp_region, hix, c_2, c_3, c_4]⟩ d_M_region_42
        · rw [lgc_gt] at c_4
          refine lv_lload hx hb d_M_region_31 (lv_at hl 3 rfl) ?_
          refine lv_ldc2 (v := 1099511627776) hx hb X.1.2.2.2.1 (X.1.2.2.2.2 _ (List.mem_of_getElem? (i := 298) rfl)) d_M_region_33 ?_
          refine W.lcmp hx hb d_M_region_36 ?_
          refine lv_if_le (tgt := 43) hx hb d_M_region_37 (by decide) (fun c_5 => ?_) (fun c_5 => ?_)
          · rw [lgc_le] at c_5
            refine lv_aload_n hx hb d_M_region_43 rfl (lv_at hl 0 rfl) ?_
            refine gf_M_76 X (aM0 hW) rfl d_M_region_44 ?_
            refine lv_if_eq (tgt := 53) hx hb d_M_region_47 (by decide) (fun c_6 => ?_) (fun c_6 => ?_)
            · have u_c_6 := dn_0.mp c_6
              refine lv_aload_n hx hb d_M_region_53 rfl (lv_at hl 0 rfl) ?_
              refine gf_M_17 X (aM0 hW) rfl d_M_region_54 ?_
              refine lv_iload_n hx hb d_M_region_57 rfl (lv_at hl 1 rfl) ?_
              refine rn_ialdE X 0 (aM3 hW) rfl (t := (j + 1)) rfl (by omega) (by decide) (v := (gI d 9 j 0)) rfl d_M_region_58 ?_
              refine lv_bipush (v := 8) hx hb d_M_region_59 (by decide) ?_
              refine lv_icmp_ne (tgt := 67) hx hb d_M_region_61 (by decide) (fun c_7 => ?_) (fun c_7 => ?_)
              · obtain ⟨n0, hn0, hrc, -⟩ := hreg j hj
                have hn1 : n0 < 8 := by rcases Nat.lt_or_ge n0 8 with q | q; exact q; exact absurd (hrc.trans (by rw [show n0 = 8 by omega]; rfl)) c_7
                refine lv_aload_n hx hb d_M_region_67 rfl (lv_at hl 0 rfl) ?_
                refine gf_M_20 X (aM0 hW) rfl d_M_region_68 ?_
                refine lv_bipush (v := 8) hx hb d_M_region_71 (by decide) ?_
                refine lv_iload_n hx hb d_M_region_73 rfl (lv_at hl 1 rfl) ?_
                refine lv_imul hx hb d_M_region_74 ?_
                refine lv_aload_n hx hb d_M_region_75 rfl (lv_at hl 0 rfl) ?_
                refine gf_M_17 X (aM0 hW) rfl d_M_region_76 ?_
                refine lv_iload_n hx hb d_M_region_79 rfl (lv_at hl 1 rfl) ?_
                refine rn_ialdE X 0 (aM3 hW) rfl (t := (j + 1)) rfl (by omega) (by decide) (v := (gI d 9 j 0)) rfl d_M_region_80 ?_
                refine lv_iadd hx hb d_M_region_81 ?_
                refine lv_lload_n hx hb d_M_region_82 rfl (lv_at hl 2 rfl) ?_
                refine rn_last X 1 (aM4 hW) rfl hS (wfr 4 0 ⟨by decide, rfl⟩) (t := (8 * (j + 1) + n0)) (by rw [show gI d 9 j 0 = nI n0 from hrc]; exact reg_ix j n0) (by omega) (by decide) d_M_region_83 (fun H locs hat hch hS => ?_)
                have hW := wpM_aL0 (j := j) (t := n0) hW (by omega) hat hch
                refine lv_aload_n hx hb d_M_region_84 rfl (lv_at hl 0 rfl) ?_
                refine gf_M_24 X (aM0 hW) rfl d_M_region_85 ?_
                refine lv_bipush (v := 8) hx hb d_M_region_88 (by decide) ?_
                refine lv_iload_n hx hb d_M_region_90 rfl (lv_at hl 1 rfl) ?_
                refine lv_imul hx hb d_M_region_91 ?_
                refine lv_aload_n hx hb d_M_region_92 rfl (lv_at hl 0 rfl) ?_
                refine gf_M_17 X (aM0 hW) rfl d_M_region_93 ?_
                refine lv_iload_n hx hb d_M_region_96 rfl (lv_at hl 1 rfl) ?_
                refine rn_ialdE X 0 (aM3 hW) rfl (t := (j + 1)) rfl (by omega) (by decide) (v := (gI (sL d 0 j n0 f) 9 j 0)) rfl d_M_region_97 ?_
                refine lv_iadd hx hb d_M_region_98 ?_
                refine lv_lload hx hb d_M_region_99 (lv_at hl 3 rfl) ?_
                refine rn_last X 1 (aM5 hW) rfl hS (wfr 5 0 ⟨by decide, rfl⟩) (t := (8 * (j + 1) + n0)) (by rw [show gI (sL d 0 j n0 f) 9 j 0 = nI n0 from hrc]; exact reg_ix j n0) (by omega) (by decide) d_M_region_101 (fun H locs hat hch hS => ?_)
                have hW := wpM_aL1 (j := j) (t := n0) hW (by omega) hat hch
                refine lv_aload_n hx hb d_M_region_102 rfl (lv_at hl 0 rfl) ?_
                refine gf_M_17 X (aM0 hW) rfl d_M_region_103 ?_
                refine lv_iload_n hx hb d_M_region_106 rfl (lv_at hl 1 rfl) ?_
                refine lv_dup2_11 hx hb d_M_region_107 rfl rfl ?_
                refine rn_ialdE X 0 (aM3 hW) rfl (t := (j + 1)) rfl (by omega) (by decide) (v := (gI (sL (sL d 0 j n0 f) 1 j n0 n) 9 j 0)) rfl d_M_region_108 ?_
                refine lv_iconst (v := 1) hx hb d_M_region_109 (by decide) ?_
                refine lv_iadd hx hb d_M_region_110 ?_
                refine rn_iast X 0 (aM3 hW) rfl hS (wfr 3 0 ⟨by decide, rfl⟩) (t := (j + 1)) rfl (by omega) (by decide) d_M_region_111 (fun H locs hat hch hS => ?_)
                have hW := wpM_aI9 (j := j) hW hat hch
                refine lv_aload_n hx hb d_M_region_112 rfl (lv_at hl 0 rfl) ?_
                refine gf_M_17 X (aM0 hW) rfl d_M_region_113 ?_
                refine lv_iload_n hx hb d_M_region_116 rfl (lv_at hl 1 rfl) ?_
                refine rn_ialdE X 0 (aM3 hW) rfl (t := (j + 1)) rfl (by omega) (by decide) (v := (gI (sI (sL (sL d 0 j n0 f) 1 j n0 n) 9 j 0 (gI (sL (sL d 0 j n0 f) 1 j n0 n) 9 j 0 + 1)) 9 j 0)) rfl d_M_region_117 ?_
                exact leafI (val := valM) (cell := cellM) X hr hlocks hS (u2 := (lay, (sI (sL (sL d 0 j n0 f) 1 j n0 n) 9 j 0 (gI (sL (sL d 0 j n0 f) 1 j n0 n) 9 j 0 + 1)))) hW (v := gI (sI (sL (sL d 0 j n0 f) 1 j n0 n) 9 j 0 (gI (sL (sL d 0 j n0 f) 1 j n0 n) 9 j 0 + 1)) 9 j 0) ⟨by simp [sp_region, hix, c_2, c_3, c_4, c_5, u_c_6, c_7, gI_sI, up3]; try rfl, by simp only [sp_region, hix]; simp [hix, c_2, c_3, c_4, c_5, u_c_6, c_7, sp_addR, show (gI d 9 j 0).toNatClampNeg = n0 by rw [hrc]; exact nI_clamp (by omega)]; try rfl⟩ d_M_region_118
              · refine lv_bipush (v := -4) hx hb d_M_region_64 (by decide) ?_
                exact leafI (val := valM) (cell := cellM) X hr hlocks hS (u2 := (lay, d)) hW (v := (-4)) ⟨by simp [sp_region, hix, c_2, c_3, c_4, c_5, u_c_6, c_7], by simp [sp_region, hix, c_2, c_3, c_4, c_5, u_c_6, c_7]⟩ d_M_region_66
            · have u_c_6 := Decidable.not_not.mp (fun q => c_6 (dn_0.mpr q))
              refine lv_bipush (v := -3) hx hb d_M_region_50 (by decide) ?_
              exact leafI (val := valM) (cell := cellM) X hr hlocks hS (u2 := (lay, d)) hW (v := (-3)) ⟨by simp [sp_region, hix, c_2, c_3, c_4, c_5, u_c_6], by simp [sp_region, hix, c_2, c_3, c_4, c_5, u_c_6]⟩ d_M_region_52
          · rw [lgc_le] at c_5
            refine lv_bipush (v := -2) hx hb d_M_region_40 (by decide) ?_
            exact leafI (val := valM) (cell := cellM) X hr hlocks hS (u2 := (lay, d)) hW (v := (-2)) ⟨by simp [sp_region, hix, c_2, c_3, c_4, c_5], by simp [sp_region, hix, c_2, c_3, c_4, c_5]⟩ d_M_region_42
  · have hW : WM D ct (lay, d) H := hW
    refine lv_if_eq (tgt := 10) hx hb d_M_region_5 (by decide) (fun c_8 => absurd c_8 (by decide)) (fun _ => ?_)
    refine lv_iconst (v := -1) hx hb d_M_region_8 (by decide) ?_
    exact leafI (val := valM) (cell := cellM) X hr hlocks hS (u2 := (lay, d)) hW (v := (-1)) ⟨by simp [sp_region, hix], by simp [sp_region, hix]⟩ d_M_region_9
set_option maxHeartbeats 4000000 in
set_option maxRecDepth 100000 in
theorem c_M_hook (l : Launch) (D : va_G) (ct : Nat → ClassId) (lay : Nat → Nat → Nat) (d : DC) (sz : Nat) (x y f : Int32) (hf : f = 0 ∨ f = 1) :
    CoI valM cellM l D ct y_M_hook b_M_hook 4 (some .int) { frames := 0, cells := 0, slots := 0, locals := 0 } (lay, d) sz [.ref (lay 0 0), .int x, .int y, .int f] (fun r u => r = (sp_hook d x y f).1 ∧ u = (lay, (sp_hook d x y f).2)) := by
  refine co_of (by decide) (Nat.le_of_ble_eq_true rfl) (fun p e s m below meth c X hr hlocks hnm hsz hW ls hl => ?_)
  subst hsz
  have hx := X.1.1
  have hb := X.1.2.1
  have hS : va_S (Wfr (valM (lay, d)) lay s.heap.size) s.heap s.heap [] := va_S.rf
  have hl : lv_has ls 4 [(0, .ref (lay 0 0)), (1, .int x), (2, .int y), (3, .int f)] := hl
  refine lv_aload_n hx hb d_M_hook_0 rfl (lv_at hl 0 rfl) ?_
  refine lv_iconst (v := 0) hx hb d_M_hook_1 (by decide) ?_
  refine pf_M_66 X (aM0 hW) hS (wfr 0 0 ⟨by decide, rfl⟩) rfl rfl (Nat.le_of_ble_eq_true rfl) d_M_hook_2 (fun H locs hat hch hS => ?_)
  have hW := wpM_code hW hat hch
  refine lv_iload_n hx hb d_M_hook_5 rfl (lv_at hl 1 rfl) ?_
  refine lv_if_lt (tgt := 14) hx hb d_M_hook_6 (by decide) (fun c_1 => ?_) (fun c_1 => ?_)
  · refine lv_iconst (v := -1) hx hb d_M_hook_14 (by decide) ?_
    exact leafI (val := valM) (cell := cellM) X hr hlocks hS (u2 := (lay, d)) hW (v := (-1)) ⟨by simp [sp_hook, c_1], by simp [sp_hook, c_1]⟩ d_M_hook_15
  · refine lv_iload_n hx hb d_M_hook_9 rfl (lv_at hl 1 rfl) ?_
    refine lv_iconst (v := 2) hx hb d_M_hook_10 (by decide) ?_
    refine lv_icmp_le (tgt := 16) hx hb d_M_hook_11 (by decide) (fun c_2 => ?_) (fun c_2 => ?_)
    · rw [le2] at c_2
      refine lv_iload_n hx hb d_M_hook_16 rfl (lv_at hl 2 rfl) ?_
      refine lv_if_lt (tgt := 25) hx hb d_M_hook_17 (by decide) (fun c_3 => ?_) (fun c_3 => ?_)
      · refine lv_bipush (v := -2) hx hb d_M_hook_25 (by decide) ?_
        exact leafI (val := valM) (cell := cellM) X hr hlocks hS (u2 := (lay, d)) hW (v := (-2)) ⟨by simp [sp_hook, c_1, c_2, c_3], by simp [sp_hook, c_1, c_2, c_3]⟩ d_M_hook_27
      · refine lv_iload_n hx hb d_M_hook_20 rfl (lv_at hl 2 rfl) ?_
        refine lv_iconst (v := 5) hx hb d_M_hook_21 (by decide) ?_
        refine lv_icmp_le (tgt := 28) hx hb d_M_hook_22 (by decide) (fun c_4 => ?_) (fun c_4 => ?_)
        · refine lv_aload_n hx hb d_M_hook_28 rfl (lv_at hl 0 rfl) ?_
          refine gf_M_76 X (aM0 hW) rfl d_M_hook_29 ?_
          refine lv_if_eq (tgt := 38) hx hb d_M_hook_32 (by decide) (fun c_5 => ?_) (fun c_5 => ?_)
          · have u_c_5 := dn_0.mp c_5
            obtain ⟨l1, hl1, el⟩ := nI_of c_1
            have hl2 : l1 < 3 := (nI_ltI (b := 3) hl1 (by decide)).mp (el ▸ c_2)
            have hl3 : x.toNatClampNeg = l1 := by rw [el]; exact nI_clamp hl1
            refine lv_aload_n hx hb d_M_hook_38 rfl (lv_at hl 0 rfl) ?_
            refine gf_M_51 X (aM0 hW) rfl d_M_hook_39 ?_
            refine lv_iload_n hx hb d_M_hook_42 rfl (lv_at hl 1 rfl) ?_
            refine lv_iload_n hx hb d_M_hook_43 rfl (lv_at hl 2 rfl) ?_
            refine rn_iast X 0 (aM14 hW) rfl hS (wfr 14 0 ⟨by decide, rfl⟩) (t := l1) el hl2 (by decide) d_M_hook_44 (fun H locs hat hch hS => ?_)
            have hW := wpM_aI3 (t := l1) hW hat hch
            refine lv_aload_n hx hb d_M_hook_45 rfl (lv_at hl 0 rfl) ?_
            refine gf_M_54 X (aM0 hW) rfl d_M_hook_46 ?_
            refine lv_iload_n hx hb d_M_hook_49 rfl (lv_at hl 1 rfl) ?_
            refine lv_iload_n hx hb d_M_hook_50 rfl (lv_at hl 3 rfl) ?_
            refine rn_zast X 2 (aM15 hW) rfl hS (wfr 15 0 ⟨by decide, rfl⟩) (t := l1) el hl2 (by decide) (nrz hf) d_M_hook_51 (fun H locs hat hch hS => ?_)
            have hW := wpM_aI4 (t := l1) hW hat hch
            refine lv_iconst (v := 1) hx hb d_M_hook_52 (by decide) ?_
            exact leafI (val := valM) (cell := cellM) X hr hlocks hS (u2 := (lay, (sI (sI d 3 0 l1 y) 4 0 l1 f))) hW (v := 1) ⟨by simp [sp_hook, c_1, c_2, c_3, c_4, u_c_5], by simp [sp_hook, hl3, c_1, c_2, c_3, c_4, u_c_5]⟩ d_M_hook_53
          · have u_c_5 := Decidable.not_not.mp (fun q => c_5 (dn_0.mpr q))
            refine lv_bipush (v := -3) hx hb d_M_hook_35 (by decide) ?_
            exact leafI (val := valM) (cell := cellM) X hr hlocks hS (u2 := (lay, d)) hW (v := (-3)) ⟨by simp [sp_hook, c_1, c_2, c_3, c_4, u_c_5], by simp [sp_hook, c_1, c_2, c_3, c_4, u_c_5]⟩ d_M_hook_37
        · refine lv_bipush (v := -2) hx hb d_M_hook_25 (by decide) ?_
          exact leafI (val := valM) (cell := cellM) X hr hlocks hS (u2 := (lay, d)) hW (v := (-2)) ⟨by simp [sp_hook, c_1, c_2, c_3, c_4], by simp [sp_hook, c_1, c_2, c_3, c_4]⟩ d_M_hook_27
    · rw [le2] at c_2
      refine lv_iconst (v := -1) hx hb d_M_hook_14 (by decide) ?_
      exact leafI (val := valM) (cell := cellM) X hr hlocks hS (u2 := (lay, d)) hW (v := (-1)) ⟨by simp [sp_hook, c_1, c_2], by simp [sp_hook, c_1, c_2]⟩ d_M_hook_15
set_option maxHeartbeats 4000000 in
set_option maxRecDepth 100000 in
theorem c_M_state (l : Launch) (D : va_G) (ct : Nat → ClassId) (lay : Nat → Nat → Nat) (d : DC) (sz : Nat) (x : Int32) (hna : dna d ≤ 16) :
    CoI valM cellM l D ct y_M_state b_M_state 2 (some .int) { frames := 1, cells := 0, slots := 0, locals := 21 } (lay, d) sz [.ref (lay 0 0), .int x] (fun r u => r = sp_state d x ∧ u = (lay, d)) := by
  refine co_of (by decide) (Nat.le_of_ble_eq_true rfl) (fun p e s m below meth c X hr hlocks hnm hsz hW ls hl => ?_)
  subst hsz
  have hx := X.1.1
  have hb := X.1.2.1
  have hS : va_S (Wfr (valM (lay, d)) lay s.heap.size) s.heap s.heap [] := va_S.rf
  have hl : lv_has ls 2 [(0, .ref (lay 0 0)), (1, .int x)] := hl
  refine lv_aload_n hx hb d_M_state_0 rfl (lv_at hl 0 rfl) ?_
  refine lv_iload_n hx hb d_M_state_1 rfl (lv_at hl 1 rfl) ?_
  refine wc_calli (val := valM) (lay := fun u : CS => u.1) (cell := cellM ct) (u0 := (lay, d)) X (c_M_noApplication l D ct lay d _ x (by omega)) (cw_M_80 X.1.2.2.2.2 rfl rfl ⟨Nat.le_of_ble_eq_true rfl, Nat.le_of_ble_eq_true rfl⟩) hW hS (fun q h => h.imp_right (fun z => Nat.le_trans hS.1 z)) (aM0 hW) rfl rfl hl.1 rfl (Nat.le_of_ble_eq_true rfl) d_M_state_2 ⟨Nat.le_of_ble_eq_true rfl, Nat.le_of_ble_eq_true rfl⟩ (fun r u H locs hp hW hz hk hS => ?_)
  obtain ⟨rfl, hp⟩ := hp
  rcases hp with ⟨j, hj, rfl, hix, rfl⟩ | ⟨hix, rfl⟩
  · have hW : WM D ct (lay, d) H := hW
    refine lv_if_eq (tgt := 10) hx hb d_M_state_5 (by decide) (fun _ => ?_) (fun c_1 => absurd c_1 (by decide))
    refine lv_aload_n hx hb d_M_state_10 rfl (lv_at hl 0 rfl) ?_
    refine gf_M_76 X (aM0 hW) rfl d_M_state_11 ?_
    refine lv_if_eq (tgt := 21) hx hb d_M_state_14 (by decide) (fun c_2 => ?_) (fun c_2 => ?_)
    · have u_c_2 := dn_0.mp c_2
      refine lv_aload_n hx hb d_M_state_21 rfl (lv_at hl 0 rfl) ?_
      refine gf_M_13 X (aM0 hW) rfl d_M_state_22 ?_
      refine lv_iload_n hx hb d_M_state_25 rfl (lv_at hl 1 rfl) ?_
      refine rn_zaldE X 2 (aM2 hW) rfl (t := (j + 1)) rfl (by omega) (by decide) (v := (gI d 11 j 0)) rfl d_M_state_26 ?_
      refine lv_if_eq (tgt := 34) hx hb d_M_state_27 (by decide) (fun c_3 => ?_) (fun c_3 => ?_)
      · refine lv_iconst (v := 0) hx hb d_M_state_34 (by decide) ?_
        exact leafI (val := valM) (cell := cellM) X hr hlocks hS (u2 := (lay, d)) hW (v := 0) ⟨by simp [sp_state, hix, u_c_2, c_3], rfl⟩ d_M_state_35
      · refine lv_iconst (v := 1) hx hb d_M_state_30 (by decide) ?_
        refine lv_goto (tgt := 35) hx hb d_M_state_31 (by decide) ?_
        exact leafI (val := valM) (cell := cellM) X hr hlocks hS (u2 := (lay, d)) hW (v := 1) ⟨by simp [sp_state, hix, u_c_2, c_3], rfl⟩ d_M_state_35
    · have u_c_2 := Decidable.not_not.mp (fun q => c_2 (dn_0.mpr q))
      refine lv_iconst (v := 2) hx hb d_M_state_17 (by decide) ?_
      refine lv_goto (tgt := 35) hx hb d_M_state_18 (by decide) ?_
      exact leafI (val := valM) (cell := cellM) X hr hlocks hS (u2 := (lay, d)) hW (v := 2) ⟨by simp [sp_state, hix, u_c_2], rfl⟩ d_M_state_35
  · have hW : WM D ct (lay, d) H := hW
    refine lv_if_eq (tgt := 10) hx hb d_M_state_5 (by decide) (fun c_4 => absurd c_4 (by decide)) (fun _ => ?_)
    refine lv_iconst (v := -1) hx hb d_M_state_8 (by decide) ?_
    exact leafI (val := valM) (cell := cellM) X hr hlocks hS (u2 := (lay, d)) hW (v := (-1)) ⟨by simp [sp_state, hix], rfl⟩ d_M_state_9
set_option maxHeartbeats 4000000 in
set_option maxRecDepth 100000 in
theorem c_M_fault (l : Launch) (D : va_G) (ct : Nat → ClassId) (lay : Nat → Nat → Nat) (d : DC) (sz : Nat) (x k : Int32) (hna : dna d ≤ 16) (hnt : dnt d ≤ 60) (how : ∀ j, j < dnt d → dow d j < dna d) (h15 : ∀ j, j < dnt d → gI d 15 j 0 = nI (dow d j + 1)) (hrs : ∀ i, i < dna d → ∃ n, n ≤ 10 ∧ gI d 10 i 0 = nI n) (B B1 : Nat) (hB : B + 7680 < 2147483647) (hB1 : B1 < 2147483647) (hok : okc d B B1) :
    CoI valM cellM l D ct y_M_fault b_M_fault 3 (some .int) { frames := 4, cells := 0, slots := 0, locals := 91 } (lay, d) sz [.ref (lay 0 0), .int x, .int k] (fun r u => r = (sp_fault d x k).1 ∧ u = (lay, (sp_fault d x k).2)) := by
  refine co_of (by decide) (Nat.le_of_ble_eq_true rfl) (fun p e s m below meth c X hr hlocks hnm hsz hW ls hl => ?_)
  subst hsz
  have hx := X.1.1
  have hb := X.1.2.1
  have hS : va_S (Wfr (valM (lay, d)) lay s.heap.size) s.heap s.heap [] := va_S.rf
  have hl : lv_has ls 3 [(0, .ref (lay 0 0)), (1, .int x), (2, .int k)] := hl
  refine lv_aload_n hx hb d_M_fault_0 rfl (lv_at hl 0 rfl) ?_
  refine lv_iload_n hx hb d_M_fault_1 rfl (lv_at hl 1 rfl) ?_
  refine wc_calli (val := valM) (lay := fun u : CS => u.1) (cell := cellM ct) (u0 := (lay, d)) X (c_M_noTask l D ct lay d _ x hnt) (cw_M_88 X.1.2.2.2.2 rfl rfl ⟨Nat.le_of_ble_eq_true rfl, Nat.le_of_ble_eq_true rfl⟩) hW hS (fun q h => h.imp_right (fun z => Nat.le_trans hS.1 z)) (aM0 hW) rfl rfl hl.1 rfl (Nat.le_of_ble_eq_true rfl) d_M_fault_2 ⟨Nat.le_of_ble_eq_true rfl, Nat.le_of_ble_eq_true rfl⟩ (fun r u H locs hp hW hz hk hS => ?_)
  obtain ⟨rfl, hp⟩ := hp
  rcases hp with ⟨j, hj, rfl, hix, rfl⟩ | ⟨hix, rfl⟩
  · have hW : WM D ct (lay, d) H := hW
    refine lv_if_eq (tgt := 10) hx hb d_M_fault_5 (by decide) (fun _ => ?_) (fun c_1 => absurd c_1 (by decide))
    refine lv_iload_n hx hb d_M_fault_10 rfl (lv_at hl 2 rfl) ?_
    refine lv_iconst (v := 1) hx hb d_M_fault_11 (by decide) ?_
    refine lv_icmp_lt (tgt := 20) hx hb d_M_fault_12 (by decide) (fun c_2 => ?_) (fun c_2 => ?_)
    · refine lv_bipush (v := -2) hx hb d_M_fault_20 (by decide) ?_
      exact leafI (val := valM) (cell := cellM) X hr hlocks hS (u2 := (lay, d)) hW (v := (-2)) ⟨by simp [sp_fault, hix, c_2], by simp [sp_fault, hix, c_2]⟩ d_M_fault_22
    · refine lv_iload_n hx hb d_M_fault_15 rfl (lv_at hl 2 rfl) ?_
      refine lv_iconst (v := 5) hx hb d_M_fault_16 (by decide) ?_
      refine lv_icmp_le (tgt := 23) hx hb d_M_fault_17 (by decide) (fun c_3 => ?_) (fun c_3 => ?_)
      · refine lv_aload_n hx hb d_M_fault_23 rfl (lv_at hl 0 rfl) ?_
        refine gf_M_76 X (aM0 hW) rfl d_M_fault_24 ?_
        refine lv_if_ne (tgt := 39) hx hb d_M_fault_27 (by decide) (fun c_4 => ?_) (fun c_4 => ?_)
        · have u_c_4 := Decidable.not_not.mp (fun q => c_4 (dn_0.mpr q))
          refine lv_bipush (v := -3) hx hb d_M_fault_39 (by decide) ?_
          exact leafI (val := valM) (cell := cellM) X hr hlocks hS (u2 := (lay, d)) hW (v := (-3)) ⟨by simp [sp_fault, hix, c_2, c_3, u_c_4], by simp [sp_fault, hix, c_2, c_3, u_c_4]⟩ d_M_fault_41
        · have u_c_4 := dn_0.mp c_4
          refine lv_aload_n hx hb d_M_fault_30 rfl (lv_at hl 0 rfl) ?_
          refine gf_M_33 X (aM0 hW) rfl d_M_fault_31 ?_
          refine lv_iload_n hx hb d_M_fault_34 rfl (lv_at hl 1 rfl) ?_
          refine rn_zaldE X 2 (aM8 hW) rfl (t := (j + 1)) rfl (by omega) (by decide) (v := (gI d 12 j 0)) rfl d_M_fault_35 ?_
          refine lv_if_ne (tgt := 42) hx hb d_M_fault_36 (by decide) (fun c_5 => ?_) (fun c_5 => ?_)
          · refine lv_aload_n hx hb d_M_fault_42 rfl (lv_at hl 0 rfl) ?_
            refine lv_iload_n hx hb d_M_fault_43 rfl (lv_at hl 1 rfl) ?_
            refine lv_iload_n hx hb d_M_fault_44 rfl (lv_at hl 2 rfl) ?_
            refine wc_calli (val := valM) (lay := fun u : CS => u.1) (cell := cellM ct) (u0 := (lay, d)) X (c_M_react l D ct lay d _ (nI (j + 1)) j hj rfl k hna hnt how h15 hrs B B1 hB hB1 hok u_c_4) (cw_M_110 X.1.2.2.2.2 rfl rfl ⟨Nat.le_of_ble_eq_true rfl, Nat.le_of_ble_eq_true rfl⟩) hW hS (fun q h => h.imp_right (fun z => Nat.le_trans hS.1 z)) (aM0 hW) rfl rfl hl.1 rfl (Nat.le_of_ble_eq_true rfl) d_M_fault_45 ⟨Nat.le_of_ble_eq_true rfl, Nat.le_of_ble_eq_true rfl⟩ (fun r u H locs hp hW hz hk hS => ?_)
            obtain ⟨rfl, rfl⟩ := hp
            have hW : WM D ct (lay, (sp_raise d j k).2) H := hW
            exact leafI (val := valM) (cell := cellM) X hr hlocks hS (u2 := (lay, (sp_raise d j k).2)) hW (v := (sp_raise d j k).1) ⟨by simp [sp_fault, hix, c_2, c_3, u_c_4, c_5], by simp [sp_fault, hix, c_2, c_3, u_c_4, c_5]⟩ d_M_fault_48
          · refine lv_bipush (v := -3) hx hb d_M_fault_39 (by decide) ?_
            exact leafI (val := valM) (cell := cellM) X hr hlocks hS (u2 := (lay, d)) hW (v := (-3)) ⟨by simp [sp_fault, hix, c_2, c_3, u_c_4, c_5], by simp [sp_fault, hix, c_2, c_3, u_c_4, c_5]⟩ d_M_fault_41
      · refine lv_bipush (v := -2) hx hb d_M_fault_20 (by decide) ?_
        exact leafI (val := valM) (cell := cellM) X hr hlocks hS (u2 := (lay, d)) hW (v := (-2)) ⟨by simp [sp_fault, hix, c_2, c_3], by simp [sp_fault, hix, c_2, c_3]⟩ d_M_fault_22
  · have hW : WM D ct (lay, d) H := hW
    refine lv_if_eq (tgt := 10) hx hb d_M_fault_5 (by decide) (fun c_6 => absurd c_6 (by decide)) (fun _ => ?_)
    refine lv_iconst (v := -1) hx hb d_M_fault_8 (by decide) ?_
    exact leafI (val := valM) (cell := cellM) X hr hlocks hS (u2 := (lay, d)) hW (v := (-1)) ⟨by simp [sp_fault, hix], by simp [sp_fault, hix]⟩ d_M_fault_9
set_option maxHeartbeats 4000000 in
set_option maxRecDepth 100000 in
theorem c_M_arrival (l : Launch) (D : va_G) (ct : Nat → ClassId) (lay : Nat → Nat → Nat) (d : DC) (sz : Nat) (x : Int32) (t : Int64) (hna : dna d ≤ 16) (hnt : dnt d ≤ 60) (how : ∀ j, j < dnt d → dow d j < dna d) (h15 : ∀ j, j < dnt d → gI d 15 j 0 = nI (dow d j + 1)) (hrs : ∀ i, i < dna d → ∃ n, n ≤ 10 ∧ gI d 10 i 0 = nI n) (B B1 : Nat) (hB : B + 7680 < 2147483647) (hB1 : B1 < 2147483647) (hok : okc d B B1) (htold : ∀ j, j < dnt d → 0 ≤ gL d 4 j 0) :
    CoI valM cellM l D ct y_M_arrival b_M_arrival 4 (some .int) { frames := 4, cells := 0, slots := 0, locals := 91 } (lay, d) sz [.ref (lay 0 0), .int x, .long t] (fun r u => r = (sp_arrival d x t).1 ∧ u = (lay, (sp_arrival d x t).2)) := by
  refine co_of (by decide) (Nat.le_of_ble_eq_true rfl) (fun p e s m below meth c X hr hlocks hnm hsz hW ls hl => ?_)
  subst hsz
  have hx := X.1.1
  have hb := X.1.2.1
  have hS : va_S (Wfr (valM (lay, d)) lay s.heap.size) s.heap s.heap [] := va_S.rf
  have hl : lv_has ls 4 [(0, .ref (lay 0 0)), (1, .int x), (2, .long t)] := hl
  refine lv_aload_n hx hb d_M_arrival_0 rfl (lv_at hl 0 rfl) ?_
  refine lv_iload_n hx hb d_M_arrival_1 rfl (lv_at hl 1 rfl) ?_
  refine wc_calli (val := valM) (lay := fun u : CS => u.1) (cell := cellM ct) (u0 := (lay, d)) X (c_M_noTask l D ct lay d _ x hnt) (cw_M_88 X.1.2.2.2.2 rfl rfl ⟨Nat.le_of_ble_eq_true rfl, Nat.le_of_ble_eq_true rfl⟩) hW hS (fun q h => h.imp_right (fun z => Nat.le_trans hS.1 z)) (aM0 hW) rfl rfl hl.1 rfl (Nat.le_of_ble_eq_true rfl) d_M_arrival_2 ⟨Nat.le_of_ble_eq_true rfl, Nat.le_of_ble_eq_true rfl⟩ (fun r u H locs hp hW hz hk hS => ?_)
  obtain ⟨rfl, hp⟩ := hp
  rcases hp with ⟨j, hj, rfl, hix, rfl⟩ | ⟨hix, rfl⟩
  · have hW : WM D ct (lay, d) H := hW
    refine lv_if_eq (tgt := 12) hx hb d_M_arrival_5 (by decide) (fun _ => ?_) (fun c_1 => absurd c_1 (by decide))
    refine lv_lload_n hx hb d_M_arrival_12 rfl (lv_at hl 2 rfl) ?_
    refine lv_lconst (v := 0) hx hb d_M_arrival_13 (by decide) ?_
    refine W.lcmp hx hb d_M_arrival_14 ?_
    refine lv_if_lt (tgt := 29) hx hb d_M_arrival_15 (by decide) (fun c_2 => ?_) (fun c_2 => ?_)
    · rw [lgc_lt] at c_2
      have c_2 := neg_told c_2 (htold j hj)
      refine lv_sipush (v := -2000) hx hb d_M_arrival_29 (by decide) ?_
      exact leafI (val := valM) (cell := cellM) X hr hlocks hS (u2 := (lay, d)) hW (v := (-2000)) ⟨by simp [sp_arrival, hix, c_2], by simp [sp_arrival, hix, c_2]⟩ d_M_arrival_32
    · rw [lgc_lt] at c_2
      refine lv_lload_n hx hb d_M_arrival_18 rfl (lv_at hl 2 rfl) ?_
      refine lv_aload_n hx hb d_M_arrival_19 rfl (lv_at hl 0 rfl) ?_
      refine gf_M_42 X (aM0 hW) rfl d_M_arrival_20 ?_
      refine lv_iload_n hx hb d_M_arrival_23 rfl (lv_at hl 1 rfl) ?_
      refine rn_laldE X 1 (aM11 hW) rfl (t := (j + 1)) rfl (by omega) (by decide) (v := (gL d 4 j 0)) rfl d_M_arrival_24 ?_
      refine W.lcmp hx hb d_M_arrival_25 ?_
      refine lv_if_ge (tgt := 33) hx hb d_M_arrival_26 (by decide) (fun c_3 => ?_) (fun c_3 => ?_)
      · rw [lgc_ge] at c_3
        refine lv_aload_n hx hb d_M_arrival_33 rfl (lv_at hl 0 rfl) ?_
        refine gf_M_76 X (aM0 hW) rfl d_M_arrival_34 ?_
        refine lv_if_ne (tgt := 49) hx hb d_M_arrival_37 (by decide) (fun c_4 => ?_) (fun c_4 => ?_)
        · have u_c_4 := Decidable.not_not.mp (fun q => c_4 (dn_0.mpr q))
          refine lv_sipush (v := -3000) hx hb d_M_arrival_49 (by decide) ?_
          exact leafI (val := valM) (cell := cellM) X hr hlocks hS (u2 := (lay, d)) hW (v := (-3000)) ⟨by simp [sp_arrival, hix, c_3, u_c_4], by simp [sp_arrival, hix, c_3, u_c_4]⟩ d_M_arrival_52
        · have u_c_4 := dn_0.mp c_4
          refine lv_aload_n hx hb d_M_arrival_40 rfl (lv_at hl 0 rfl) ?_
          refine gf_M_33 X (aM0 hW) rfl d_M_arrival_41 ?_
          refine lv_iload_n hx hb d_M_arrival_44 rfl (lv_at hl 1 rfl) ?_
          refine rn_zaldE X 2 (aM8 hW) rfl (t := (j + 1)) rfl (by omega) (by decide) (v := (gI d 12 j 0)) rfl d_M_arrival_45 ?_
          refine lv_if_ne (tgt := 53) hx hb d_M_arrival_46 (by decide) (fun c_5 => ?_) (fun c_5 => ?_)
          · refine lv_aload_n hx hb d_M_arrival_53 rfl (lv_at hl 0 rfl) ?_
            refine gf_M_42 X (aM0 hW) rfl d_M_arrival_54 ?_
            refine lv_iload_n hx hb d_M_arrival_57 rfl (lv_at hl 1 rfl) ?_
            refine lv_lload_n hx hb d_M_arrival_58 rfl (lv_at hl 2 rfl) ?_
            refine rn_last X 1 (aM11 hW) rfl hS (wfr 11 0 ⟨by decide, rfl⟩) (t := (j + 1)) rfl (by omega) (by decide) d_M_arrival_59 (fun H locs hat hch hS => ?_)
            have hW := wpM_aL4 (j := j) hW hat hch
            refine lv_aload_n hx hb d_M_arrival_60 rfl (lv_at hl 0 rfl) ?_
            refine gf_M_36 X (aM0 hW) rfl d_M_arrival_61 ?_
            refine lv_iload_n hx hb d_M_arrival_64 rfl (lv_at hl 1 rfl) ?_
            refine rn_zaldE X 2 (aM9 hW) rfl (t := (j + 1)) rfl (by omega) (by decide) (v := (gI (sL d 4 j 0 t) 13 j 0)) rfl d_M_arrival_65 ?_
            refine lv_if_eq (tgt := 87) hx hb d_M_arrival_66 (by decide) (fun c_6 => ?_) (fun c_6 => ?_)
            · have c_6 :  gI d 13 j 0 = 0 := c_6
              refine lv_aload_n hx hb d_M_arrival_87 rfl (lv_at hl 0 rfl) ?_
              refine gf_M_36 X (aM0 hW) rfl d_M_arrival_88 ?_
              refine lv_iload_n hx hb d_M_arrival_91 rfl (lv_at hl 1 rfl) ?_
              refine lv_iconst (v := 1) hx hb d_M_arrival_92 (by decide) ?_
              refine rn_zast X 2 (aM9 hW) rfl hS (wfr 9 0 ⟨by decide, rfl⟩) (t := (j + 1)) rfl (by omega) (by decide) rfl d_M_arrival_93 (fun H locs hat hch hS => ?_)
              have hW := wpM_aI13 (j := j) hW hat hch
              refine lv_aload_n hx hb d_M_arrival_94 rfl (lv_at hl 0 rfl) ?_
              refine gf_M_39 X (aM0 hW) rfl d_M_arrival_95 ?_
              refine lv_iload_n hx hb d_M_arrival_98 rfl (lv_at hl 1 rfl) ?_
              refine lv_lload_n hx hb d_M_arrival_99 rfl (lv_at hl 2 rfl) ?_
              refine rn_last X 1 (aM10 hW) rfl hS (wfr 10 0 ⟨by decide, rfl⟩) (t := (j + 1)) rfl (by omega) (by decide) d_M_arrival_100 (fun H locs hat hch hS => ?_)
              have hW := wpM_aL3 (j := j) hW hat hch
              refine lv_aload_n hx hb d_M_arrival_101 rfl (lv_at hl 0 rfl) ?_
              refine gf_M_45 X (aM0 hW) rfl d_M_arrival_102 ?_
              refine lv_iload_n hx hb d_M_arrival_105 rfl (lv_at hl 1 rfl) ?_
              refine lv_iconst (v := 0) hx hb d_M_arrival_106 (by decide) ?_
              refine rn_zast X 2 (aM12 hW) rfl hS (wfr 12 0 ⟨by decide, rfl⟩) (t := (j + 1)) rfl (by omega) (by decide) rfl d_M_arrival_107 (fun H locs hat hch hS => ?_)
              have hW := wpM_aI14 (j := j) hW hat hch
              refine lv_iconst (v := 1) hx hb d_M_arrival_108 (by decide) ?_
              exact leafI (val := valM) (cell := cellM) X hr hlocks hS (u2 := (lay, (sI (sL (sI (sL d 4 j 0 t) 13 j 0 1) 3 j 0 t) 14 j 0 0))) hW (v := 1) ⟨by simp [sp_arrival, hix, c_3, u_c_4, c_5, c_6], by rw [come_eq]; simp [sp_arrival, hix, c_3, u_c_4, c_5, c_6]⟩ d_M_arrival_109
            · have c_6 : ¬ gI d 13 j 0 = 0 := c_6
              refine lv_lload_n hx hb d_M_arrival_69 rfl (lv_at hl 2 rfl) ?_
              refine lv_aload_n hx hb d_M_arrival_70 rfl (lv_at hl 0 rfl) ?_
              refine gf_M_39 X (aM0 hW) rfl d_M_arrival_71 ?_
              refine lv_iload_n hx hb d_M_arrival_74 rfl (lv_at hl 1 rfl) ?_
              refine rn_laldE X 1 (aM10 hW) rfl (t := (j + 1)) rfl (by omega) (by decide) (v := (gL (sL d 4 j 0 t) 3 j 0)) rfl d_M_arrival_75 ?_
              refine lv_lsub hx hb d_M_arrival_76 ?_
              refine lv_aload_n hx hb d_M_arrival_77 rfl (lv_at hl 0 rfl) ?_
              refine gf_M_30 X (aM0 hW) rfl d_M_arrival_78 ?_
              refine lv_iload_n hx hb d_M_arrival_81 rfl (lv_at hl 1 rfl) ?_
              refine rn_laldE X 1 (aM7 hW) rfl (t := (j + 1)) rfl (by omega) (by decide) (v := (gL (sL d 4 j 0 t) 2 j 0)) rfl d_M_arrival_82 ?_
              refine W.lcmp hx hb d_M_arrival_83 ?_
              refine lv_if_lt (tgt := 110) hx hb d_M_arrival_84 (by decide) (fun c_7 => ?_) (fun c_7 => ?_)
              · rw [lgc_lt] at c_7
                have c_7 :  t - gL d 3 j 0 < gL d 2 j 0 := c_7
                refine lv_aload_n hx hb d_M_arrival_110 rfl (lv_at hl 0 rfl) ?_
                refine gf_M_45 X (aM0 hW) rfl d_M_arrival_111 ?_
                refine lv_iload_n hx hb d_M_arrival_114 rfl (lv_at hl 1 rfl) ?_
                refine lv_aload_n hx hb d_M_arrival_115 rfl (lv_at hl 0 rfl) ?_
                refine gf_M_45 X (aM0 hW) rfl d_M_arrival_116 ?_
                refine lv_iload_n hx hb d_M_arrival_119 rfl (lv_at hl 1 rfl) ?_
                refine rn_zaldE X 2 (aM12 hW) rfl (t := (j + 1)) rfl (by omega) (by decide) (v := (gI (sL d 4 j 0 t) 14 j 0)) rfl d_M_arrival_120 ?_
                refine lv_if_ne (tgt := 128) hx hb d_M_arrival_121 (by decide) (fun c_8 => ?_) (fun c_8 => ?_)
                · have c_8 : ¬ gI d 14 j 0 = 0 := c_8
                  refine lv_iconst (v := 0) hx hb d_M_arrival_128 (by decide) ?_
                  refine rn_zast X 2 (aM12 hW) rfl hS (wfr 12 0 ⟨by decide, rfl⟩) (t := (j + 1)) rfl (by omega) (by decide) rfl d_M_arrival_129 (fun H locs hat hch hS => ?_)
                  have hW := wpM_aI14 (j := j) hW hat hch
                  refine lv_aload_n hx hb d_M_arrival_130 rfl (lv_at hl 0 rfl) ?_
                  refine gf_M_45 X (aM0 hW) rfl d_M_arrival_131 ?_
                  refine lv_iload_n hx hb d_M_arrival_134 rfl (lv_at hl 1 rfl) ?_
                  refine rn_zaldE X 2 (aM12 hW) rfl (t := (j + 1)) rfl (by omega) (by decide) (v := (gI (sI (sL d 4 j 0 t) 14 j 0 0) 14 j 0)) rfl d_M_arrival_135 ?_
                  refine lv_if_eq (tgt := 143) hx hb d_M_arrival_136 (by decide) (fun c_9 => ?_) (fun c_9 => ?_)
                  · skip
                    refine lv_aload_n hx hb d_M_arrival_143 rfl (lv_at hl 0 rfl) ?_
                    refine lv_iload_n hx hb d_M_arrival_144 rfl (lv_at hl 1 rfl) ?_
                    refine lv_iconst (v := 4) hx hb d_M_arrival_145 (by decide) ?_
                    refine wc_calli (val := valM) (lay := fun u : CS => u.1) (cell := cellM ct) (u0 := (lay, (sI (sL d 4 j 0 t) 14 j 0 0))) X (c_M_react l D ct lay (sI (sL d 4 j 0 t) 14 j 0 0) _ (nI (j + 1)) j hj rfl 4 hna hnt how h15 hrs B B1 hB hB1 (okc.set (d := sL d 4 j 0 t) hok 14 j 0 0 (by decide)) u_c_4) (cw_M_110 X.1.2.2.2.2 rfl rfl ⟨Nat.le_of_ble_eq_true rfl, Nat.le_of_ble_eq_true rfl⟩) hW hS (fun q h => h.imp_right (fun z => Nat.le_trans hS.1 z)) (aM0 hW) rfl rfl hl.1 rfl (Nat.le_of_ble_eq_true rfl) d_M_arrival_146 ⟨Nat.le_of_ble_eq_true rfl, Nat.le_of_ble_eq_true rfl⟩ (fun r u H locs hp hW hz hk hS => ?_)
                    obtain ⟨rfl, rfl⟩ := hp
                    have hW : WM D ct (lay, (sp_raise (sI (sL d 4 j 0 t) 14 j 0 0) j 4).2) H := hW
                    refine lv_ineg hx hb d_M_arrival_149 ?_
                    exact leafI (val := valM) (cell := cellM) X hr hlocks hS (u2 := (lay, (sp_raise (sI (sL d 4 j 0 t) 14 j 0 0) j 4).2)) hW (v := (-((sp_raise (sI (sL d 4 j 0 t) 14 j 0 0) j 4).1))) ⟨by simp [sp_arrival, hix, c_3, u_c_4, c_5, c_6, c_7, c_8], by simp [sp_arrival, hix, c_3, u_c_4, c_5, c_6, c_7, c_8]⟩ d_M_arrival_150
                  · have c_9 : ¬ (0 : Int32) = 0 := by have h9 := c_9; simpa [gI_sI, up3] using h9
                    exact absurd rfl c_9
                · have c_8 :  gI d 14 j 0 = 0 := c_8
                  refine lv_iconst (v := 1) hx hb d_M_arrival_124 (by decide) ?_
                  refine lv_goto (tgt := 129) hx hb d_M_arrival_125 (by decide) ?_
                  refine rn_zast X 2 (aM12 hW) rfl hS (wfr 12 0 ⟨by decide, rfl⟩) (t := (j + 1)) rfl (by omega) (by decide) rfl d_M_arrival_129 (fun H locs hat hch hS => ?_)
                  have hW := wpM_aI14 (j := j) hW hat hch
                  refine lv_aload_n hx hb d_M_arrival_130 rfl (lv_at hl 0 rfl) ?_
                  refine gf_M_45 X (aM0 hW) rfl d_M_arrival_131 ?_
                  refine lv_iload_n hx hb d_M_arrival_134 rfl (lv_at hl 1 rfl) ?_
                  refine rn_zaldE X 2 (aM12 hW) rfl (t := (j + 1)) rfl (by omega) (by decide) (v := (gI (sI (sL d 4 j 0 t) 14 j 0 1) 14 j 0)) rfl d_M_arrival_135 ?_
                  refine lv_if_eq (tgt := 143) hx hb d_M_arrival_136 (by decide) (fun c_10 => ?_) (fun c_10 => ?_)
                  · have c_10 : (1 : Int32) = 0 := by have h9 := c_10; simpa [gI_sI, up3] using h9
                    exact absurd c_10 (by decide)
                  · skip
                    refine lv_iconst (v := 0) hx hb d_M_arrival_139 (by decide) ?_
                    refine lv_goto (tgt := 150) hx hb d_M_arrival_140 (by decide) ?_
                    exact leafI (val := valM) (cell := cellM) X hr hlocks hS (u2 := (lay, (sI (sL d 4 j 0 t) 14 j 0 1))) hW (v := 0) ⟨by simp [sp_arrival, hix, c_3, u_c_4, c_5, c_6, c_7, c_8], by simp [sp_arrival, hix, c_3, u_c_4, c_5, c_6, c_7, c_8]⟩ d_M_arrival_150
              · rw [lgc_lt] at c_7
                have c_7 : ¬ t - gL d 3 j 0 < gL d 2 j 0 := c_7
                refine lv_aload_n hx hb d_M_arrival_87 rfl (lv_at hl 0 rfl) ?_
                refine gf_M_36 X (aM0 hW) rfl d_M_arrival_88 ?_
                refine lv_iload_n hx hb d_M_arrival_91 rfl (lv_at hl 1 rfl) ?_
                refine lv_iconst (v := 1) hx hb d_M_arrival_92 (by decide) ?_
                refine rn_zast X 2 (aM9 hW) rfl hS (wfr 9 0 ⟨by decide, rfl⟩) (t := (j + 1)) rfl (by omega) (by decide) rfl d_M_arrival_93 (fun H locs hat hch hS => ?_)
                have hW := wpM_aI13 (j := j) hW hat hch
                refine lv_aload_n hx hb d_M_arrival_94 rfl (lv_at hl 0 rfl) ?_
                refine gf_M_39 X (aM0 hW) rfl d_M_arrival_95 ?_
                refine lv_iload_n hx hb d_M_arrival_98 rfl (lv_at hl 1 rfl) ?_
                refine lv_lload_n hx hb d_M_arrival_99 rfl (lv_at hl 2 rfl) ?_
                refine rn_last X 1 (aM10 hW) rfl hS (wfr 10 0 ⟨by decide, rfl⟩) (t := (j + 1)) rfl (by omega) (by decide) d_M_arrival_100 (fun H locs hat hch hS => ?_)
                have hW := wpM_aL3 (j := j) hW hat hch
                refine lv_aload_n hx hb d_M_arrival_101 rfl (lv_at hl 0 rfl) ?_
                refine gf_M_45 X (aM0 hW) rfl d_M_arrival_102 ?_
                refine lv_iload_n hx hb d_M_arrival_105 rfl (lv_at hl 1 rfl) ?_
                refine lv_iconst (v := 0) hx hb d_M_arrival_106 (by decide) ?_
                refine rn_zast X 2 (aM12 hW) rfl hS (wfr 12 0 ⟨by decide, rfl⟩) (t := (j + 1)) rfl (by omega) (by decide) rfl d_M_arrival_107 (fun H locs hat hch hS => ?_)
                have hW := wpM_aI14 (j := j) hW hat hch
                refine lv_iconst (v := 1) hx hb d_M_arrival_108 (by decide) ?_
                exact leafI (val := valM) (cell := cellM) X hr hlocks hS (u2 := (lay, (sI (sL (sI (sL d 4 j 0 t) 13 j 0 1) 3 j 0 t) 14 j 0 0))) hW (v := 1) ⟨by simp [sp_arrival, hix, c_3, u_c_4, c_5, c_6, c_7], by rw [come_eq]; simp [sp_arrival, hix, c_3, u_c_4, c_5, c_6, c_7]⟩ d_M_arrival_109
          · refine lv_sipush (v := -3000) hx hb d_M_arrival_49 (by decide) ?_
            exact leafI (val := valM) (cell := cellM) X hr hlocks hS (u2 := (lay, d)) hW (v := (-3000)) ⟨by simp [sp_arrival, hix, c_3, u_c_4, c_5], by simp [sp_arrival, hix, c_3, u_c_4, c_5]⟩ d_M_arrival_52
      · rw [lgc_ge] at c_3
        refine lv_sipush (v := -2000) hx hb d_M_arrival_29 (by decide) ?_
        exact leafI (val := valM) (cell := cellM) X hr hlocks hS (u2 := (lay, d)) hW (v := (-2000)) ⟨by simp [sp_arrival, hix, c_3], by simp [sp_arrival, hix, c_3]⟩ d_M_arrival_32
  · have hW : WM D ct (lay, d) H := hW
    refine lv_if_eq (tgt := 12) hx hb d_M_arrival_5 (by decide) (fun c_11 => absurd c_11 (by decide)) (fun _ => ?_)
    refine lv_sipush (v := -1000) hx hb d_M_arrival_8 (by decide) ?_
    exact leafI (val := valM) (cell := cellM) X hr hlocks hS (u2 := (lay, d)) hW (v := (-1000)) ⟨by simp [sp_arrival, hix], by simp [sp_arrival, hix]⟩ d_M_arrival_11
set_option maxHeartbeats 4000000 in
set_option maxRecDepth 100000 in
theorem c_M_inside (l : Launch) (D : va_G) (ct : Nat → ClassId) (lay : Nat → Nat → Nat) (d : DC) (sz : Nat) (x : Int32) (j : Nat) (hj : j < dnt d) (ej : x = nI (j + 1)) (a : Int64) (hna : dna d ≤ 16) (hnt : dnt d ≤ 60) (how : ∀ j, j < dnt d → dow d j < dna d) (h15 : ∀ j, j < dnt d → gI d 15 j 0 = nI (dow d j + 1)) (hreg : ∀ i, i < dna d → ∃ n, n ≤ 8 ∧ gI d 9 i 0 = nI n ∧ ∀ k, k < n → 0 ≤ gL d 0 i k ∧ gL d 0 i k ≤ 1099511627776 ∧ gL d 1 i k ≤ 1099511627776 ∧ 1 ≤ gL d 1 i k) :
    CoI valM cellM l D ct y_M_inside b_M_inside 7 (some .boolean) { frames := 0, cells := 0, slots := 0, locals := 0 } (lay, d) sz [.ref (lay 0 0), .int x, .long a] (fun r u => (r = if sp_in d (dow d j) a = true then 1 else 0) ∧ u = (lay, d)) := by
  refine co_of (by decide) (Nat.le_of_ble_eq_true rfl) (fun p e s m below meth c X hr hlocks hnm hsz hW ls hl => ?_)
  subst hsz
  have hx := X.1.1
  have hb := X.1.2.1
  have hS : va_S (Wfr (valM (lay, d)) lay s.heap.size) s.heap s.heap [] := va_S.rf
  subst ej
  obtain ⟨n0, hn0, hrc, hrg⟩ := hreg (dow d j) (how j hj)
  have hl : lv_has ls 7 [(0, .ref (lay 0 0)), (1, .int (nI (j + 1))), (2, .long a)] := hl
  refine lv_iconst (v := 0) hx hb d_M_inside_0 (by decide) ?_
  refine lv_istore (lv' := [(4, .int 0), (0, .ref (lay 0 0)), (1, .int (nI (j + 1))), (2, .long a)]) hx hb d_M_inside_1 hl (by decide) rfl (fun ls hl => ?_)
  refine lv_aload_n hx hb d_M_inside_3 rfl (lv_at hl 1 rfl) ?_
  refine gf_M_27 X (aM0 hW) rfl d_M_inside_4 ?_
  refine lv_iload_n hx hb d_M_inside_7 rfl (lv_at hl 2 rfl) ?_
  refine rn_ialdE X 0 (aM6 hW) rfl (t := (j + 1)) rfl (by omega) (by decide) (v := (gI d 15 j 0)) rfl d_M_inside_8 ?_
  refine lv_istore (lv' := [(5, .int (gI d 15 j 0)), (4, .int 0), (0, .ref (lay 0 0)), (1, .int (nI (j + 1))), (2, .long a)]) hx hb d_M_inside_9 hl (by decide) rfl (fun ls hl => ?_)
  refine lv_bipush (v := 8) hx hb d_M_inside_11 (by decide) ?_
  refine lv_iload hx hb d_M_inside_13 (lv_at hl 0 rfl) ?_
  refine lv_imul hx hb d_M_inside_15 ?_
  refine lv_topi (fun y_1 ey_1 => ?_)
  obtain rfl : y_1 = nI (8 * (dow d j + 1) + 0) := ey_1.trans (by rw [h15 j hj]; exact pk_mul 8 _)
  refine lv_istore (lv' := [(6, .int (nI (8 * (dow d j + 1) + 0))), (5, .int (gI d 15 j 0)), (4, .int 0), (0, .ref (lay 0 0)), (1, .int (nI (j + 1))), (2, .long a)]) hx hb d_M_inside_16 hl (by decide) rfl (fun ls hl => ?_)
  have loop : ∀ (n i : Nat) (b : Int32) (ls : Array Slot), i ≤ n0 → n0 + 1 ≤ i + n → (b = if inB (gL d 0 (dow d j)) (gL d 1 (dow d j)) a i = true then 1 else 0) → lv_has ls 7 [(6, .int (nI (8 * (dow d j + 1) + i))), (4, .int b), (5, .int (gI d 15 j 0)), (0, .ref (lay 0 0)), (1, .int (nI (j + 1))), (2, .long a)] → W p l e { frames := 0, cells := 0, slots := 0, locals := 0 } s m [.ref (lay 0 0), .int (nI (j + 1)), .long a].toArray below meth c s.heap [] 0 0 (MQ below (va_Qi (fun r u => (r = if sp_in d (dow d j) a = true then 1 else 0) ∧ u = (lay, d)) (WB D classes (tysA ct) valM (fun u : CS => u.1) (cellM ct)) (Wfr (valM (lay, d)) lay s.heap.size)) [.ref (lay 0 0), .int (nI (j + 1)), .long a].toArray s 0 0 (Wfr (valM (lay, d)) lay s.heap.size)) (F0 m 18 ls []) := by
    intro n
    induction n with
    | zero => intro i b ls h1 h2; exact absurd h2 (by omega)
    | succ n ih =>
      intro i b ls hi hn eb hl
      refine lv_iload hx hb d_M_inside_18 (lv_at hl 0 rfl) ?_
      refine lv_bipush (v := 8) hx hb d_M_inside_20 (by decide) ?_
      refine lv_iload hx hb d_M_inside_22 (lv_at hl 2 rfl) ?_
      refine lv_imul hx hb d_M_inside_24 ?_
      refine lv_aload_n hx hb d_M_inside_25 rfl (lv_at hl 3 rfl) ?_
      refine gf_M_17 X (aM0 hW) rfl d_M_inside_26 ?_
      refine lv_iload hx hb d_M_inside_29 (lv_at hl 2 rfl) ?_
      refine rn_ialdE X 0 (aM3 hW) rfl (t := (dow d j + 1)) (h15 j hj) (by have := how j hj; omega) (by decide) (v := (gI d 9 (dow d j) 0)) rfl d_M_inside_31 ?_
      refine lv_iadd hx hb d_M_inside_32 ?_
      refine lv_icmp_ge (tgt := 86) hx hb d_M_inside_33 (by decide) (fun c_2 => ?_) (fun c_2 => ?_)
      · have c_2 :  nI (8 * (dow d j + 1) + n0) ≤ nI (8 * (dow d j + 1) + i) := by have h9 := c_2; rw [h15 j hj, hrc] at h9; rw [← reg_ix]; exact h9
        have hq : i = n0 := by have := (nI_leI (by have := how j hj; omega) (by have := how j hj; omega)).mp c_2; omega
        refine lv_iload hx hb d_M_inside_86 (lv_at hl 1 rfl) ?_
        exact leafZ (val := valM) (cell := cellM) X hr hlocks hS (u2 := (lay, d)) hW (v := b) (nrz (by rw [eb]; split; exact Or.inr rfl; exact Or.inl rfl)) ⟨by rw [eb, hq]; unfold sp_in; rw [hrc, nI_clamp (by omega)], rfl⟩ d_M_inside_88
      · have c_2 : ¬ nI (8 * (dow d j + 1) + n0) ≤ nI (8 * (dow d j + 1) + i) := by have h9 := c_2; rw [h15 j hj, hrc] at h9; rw [← reg_ix]; exact h9
        have hq : i < n0 := Nat.not_le.mp (fun q => c_2 (nI_le (by omega) (by have := how j hj; omega)))
        refine lv_iload hx hb d_M_inside_36 (lv_at hl 1 rfl) ?_
        refine lv_if_ne (tgt := 73) hx hb d_M_inside_38 (by decide) (fun c_3 => ?_) (fun c_3 => ?_)
        · have hb1 : inB (gL d 0 (dow d j)) (gL d 1 (dow d j)) a i = true := Decidable.not_not.mp (fun q => c_3 (by rw [eb, if_neg q]))
          refine lv_iconst (v := 1) hx hb d_M_inside_73 (by decide) ?_
          refine lv_goto (tgt := 78) hx hb d_M_inside_74 (by decide) ?_
          refine lv_istore (lv' := [(4, .int 1), (6, .int (nI (8 * (dow d j + 1) + i))), (5, .int (gI d 15 j 0)), (0, .ref (lay 0 0)), (1, .int (nI (j + 1))), (2, .long a)]) hx hb d_M_inside_78 hl (by decide) rfl (fun ls hl => ?_)
          refine lv_iinc (v := nI ((8 * (dow d j + 1) + i) + 1)) (lv' := [(6, .int (nI ((8 * (dow d j + 1) + i) + 1))), (4, .int 1), (5, .int (gI d 15 j 0)), (0, .ref (lay 0 0)), (1, .int (nI (j + 1))), (2, .long a)]) hx hb d_M_inside_80 hl (k := 1) rfl (nI_inc _) (by decide) rfl (fun ls hl => ?_)
          refine lv_goto (tgt := 18) hx hb d_M_inside_83 (by decide) ?_
          exact ih (i + 1) _ ls (by omega) (by omega) (by rw [if_pos (inB_s.mpr (Or.inl hb1))]) (lv_sub hl [0, 1, 2, 3, 4, 5] rfl)
        · have hb1 : ¬ inB (gL d 0 (dow d j)) (gL d 1 (dow d j)) a i = true := fun q => absurd (c_3.symm.trans (eb.trans (if_pos q))) (by decide)
          refine lv_lload_n hx hb d_M_inside_41 rfl (lv_at hl 5 rfl) ?_
          refine lv_aload_n hx hb d_M_inside_42 rfl (lv_at hl 3 rfl) ?_
          refine gf_M_20 X (aM0 hW) rfl d_M_inside_43 ?_
          refine lv_iload hx hb d_M_inside_46 (lv_at hl 0 rfl) ?_
          refine rn_laldE X 1 (aM4 hW) rfl (t := (8 * (dow d j + 1) + i)) rfl (by have := how j hj; omega) (by decide) (v := (gL d 0 (dow d j) i)) (rz_at _ _ (by omega)) d_M_inside_48 ?_
          refine W.lcmp hx hb d_M_inside_49 ?_
          refine lv_if_lt (tgt := 77) hx hb d_M_inside_50 (by decide) (fun c_4 => ?_) (fun c_4 => ?_)
          · rw [lgc_lt] at c_4
            refine lv_iconst (v := 0) hx hb d_M_inside_77 (by decide) ?_
            refine lv_istore (lv' := [(4, .int 0), (6, .int (nI (8 * (dow d j + 1) + i))), (5, .int (gI d 15 j 0)), (0, .ref (lay 0 0)), (1, .int (nI (j + 1))), (2, .long a)]) hx hb d_M_inside_78 hl (by decide) rfl (fun ls hl => ?_)
            refine lv_iinc (v := nI ((8 * (dow d j + 1) + i) + 1)) (lv' := [(6, .int (nI ((8 * (dow d j + 1) + i) + 1))), (4, .int 0), (5, .int (gI d 15 j 0)), (0, .ref (lay 0 0)), (1, .int (nI (j + 1))), (2, .long a)]) hx hb d_M_inside_80 hl (k := 1) rfl (nI_inc _) (by decide) rfl (fun ls hl => ?_)
            refine lv_goto (tgt := 18) hx hb d_M_inside_83 (by decide) ?_
            exact ih (i + 1) _ ls (by omega) (by omega) (by rw [if_neg (fun q => (inB_s.mp q).elim hb1 (fun z => absurd z.1 (Int64.not_le.mpr c_4)))]) (lv_sub hl [0, 1, 2, 3, 4, 5] rfl)
          · rw [lgc_lt] at c_4
            refine lv_lload_n hx hb d_M_inside_53 rfl (lv_at hl 5 rfl) ?_
            refine lv_aload_n hx hb d_M_inside_54 rfl (lv_at hl 3 rfl) ?_
            refine gf_M_20 X (aM0 hW) rfl d_M_inside_55 ?_
            refine lv_iload hx hb d_M_inside_58 (lv_at hl 0 rfl) ?_
            refine rn_laldE X 1 (aM4 hW) rfl (t := (8 * (dow d j + 1) + i)) rfl (by have := how j hj; omega) (by decide) (v := (gL d 0 (dow d j) i)) (rz_at _ _ (by omega)) d_M_inside_60 ?_
            refine lv_aload_n hx hb d_M_inside_61 rfl (lv_at hl 3 rfl) ?_
            refine gf_M_24 X (aM0 hW) rfl d_M_inside_62 ?_
            refine lv_iload hx hb d_M_inside_65 (lv_at hl 0 rfl) ?_
            refine rn_laldE X 1 (aM5 hW) rfl (t := (8 * (dow d j + 1) + i)) rfl (by have := how j hj; omega) (by decide) (v := (gL d 1 (dow d j) i)) (rz_at _ _ (by omega)) d_M_inside_67 ?_
            refine lv_ladd hx hb d_M_inside_68 ?_
            refine W.lcmp hx hb d_M_inside_69 ?_
            refine lv_if_ge (tgt := 77) hx hb d_M_inside_70 (by decide) (fun c_5 => ?_) (fun c_5 => ?_)
            · rw [lgc_ge] at c_5
              refine lv_iconst (v := 0) hx hb d_M_inside_77 (by decide) ?_
              refine lv_istore (lv' := [(4, .int 0), (6, .int (nI (8 * (dow d j + 1) + i))), (5, .int (gI d 15 j 0)), (0, .ref (lay 0 0)), (1, .int (nI (j + 1))), (2, .long a)]) hx hb d_M_inside_78 hl (by decide) rfl (fun ls hl => ?_)
              refine lv_iinc (v := nI ((8 * (dow d j + 1) + i) + 1)) (lv' := [(6, .int (nI ((8 * (dow d j + 1) + i) + 1))), (4, .int 0), (5, .int (gI d 15 j 0)), (0, .ref (lay 0 0)), (1, .int (nI (j + 1))), (2, .long a)]) hx hb d_M_inside_80 hl (k := 1) rfl (nI_inc _) (by decide) rfl (fun ls hl => ?_)
              refine lv_goto (tgt := 18) hx hb d_M_inside_83 (by decide) ?_
              exact ih (i + 1) _ ls (by omega) (by omega) (by rw [if_neg (fun q => (inB_s.mp q).elim hb1 (fun z => absurd ((reg_in (hrg i hq).1 (hrg i hq).2.1 (hrg i hq).2.2.1 (hrg i hq).2.2.2 z.1).mpr z.2) (Int64.not_lt.mpr c_5)))]) (lv_sub hl [0, 1, 2, 3, 4, 5] rfl)
            · rw [lgc_ge] at c_5
              refine lv_iconst (v := 1) hx hb d_M_inside_73 (by decide) ?_
              refine lv_goto (tgt := 78) hx hb d_M_inside_74 (by decide) ?_
              refine lv_istore (lv' := [(4, .int 1), (6, .int (nI (8 * (dow d j + 1) + i))), (5, .int (gI d 15 j 0)), (0, .ref (lay 0 0)), (1, .int (nI (j + 1))), (2, .long a)]) hx hb d_M_inside_78 hl (by decide) rfl (fun ls hl => ?_)
              refine lv_iinc (v := nI ((8 * (dow d j + 1) + i) + 1)) (lv' := [(6, .int (nI ((8 * (dow d j + 1) + i) + 1))), (4, .int 1), (5, .int (gI d 15 j 0)), (0, .ref (lay 0 0)), (1, .int (nI (j + 1))), (2, .long a)]) hx hb d_M_inside_80 hl (k := 1) rfl (nI_inc _) (by decide) rfl (fun ls hl => ?_)
              refine lv_goto (tgt := 18) hx hb d_M_inside_83 (by decide) ?_
              exact ih (i + 1) _ ls (by omega) (by omega) (by rw [if_pos (inB_s.mpr (Or.inr ⟨Int64.not_lt.mp c_4, (reg_in (hrg i hq).1 (hrg i hq).2.1 (hrg i hq).2.2.1 (hrg i hq).2.2.2 (Int64.not_lt.mp c_4)).mp (Int64.not_le.mp c_5)⟩))]) (lv_sub hl [0, 1, 2, 3, 4, 5] rfl)
  exact loop (n0 + 1) 0 0 ls (by omega) (by omega) rfl (lv_sub hl [0, 2, 1, 3, 4, 5] rfl)
