theorem ite01 {P : Prop} [Decidable P] : ((if P then (0 : Int32) else 1) = 0) ↔ P := by
  by_cases h : P
  · simp [h]
  · simp [h]
theorem ite10 {P : Prop} [Decidable P] : ((if P then (1 : Int32) else 0) = 0) ↔ ¬ P := by
  by_cases h : P
  · simp [h]
  · simp [h]
theorem okc.all {d : DC} {B B1 : Nat} (h : okc d B B1) (hnt : dnt d ≤ 60) (o : Nat) : okc (sp_all d o) (B + 7680) B1 := (okc.al o (dnt d) 0 d B h).mono (by omega) (Nat.le_refl _)
theorem okc.act {d : DC} {B B1 : Nat} (h : okc d B B1) (hnt : dnt d ≤ 60) (a : Int32) (j : Nat) : okc (sp_act d a j) (B + 7680) B1 := by
  unfold sp_act
  split
  · exact h.shut.mono (by omega) (Nat.le_refl _)
  · split
    · exact (h.end j).mono (by omega) (Nat.le_refl _)
    · split
      · exact h.all hnt _
      · exact h.mono (by omega) (Nat.le_refl _)
theorem okc.start {d : DC} {B B1 : Nat} (h : okc d B B1) (o : Nat) : okc (sp_start d o) B B1 := by
  obtain ⟨⟨c, h1, h2⟩, c2, h3, h4⟩ := h
  refine ⟨⟨c, h1, ?_⟩, c2, h3, ?_⟩
  · unfold sp_start; rw [gI_sW, if_neg (fun q => absurd q.1 (by decide)), gI_sI]; exact h2
  · unfold sp_start; rw [gI_sW, if_neg (fun q => absurd q.1 (by decide)), gI_sI]; exact h4
theorem okc.carry {d : DC} {B B1 : Nat} (h : okc d B B1) (hnt : dnt d ≤ 60) (a : Int32) (j : Nat) : okc (sp_carry d a j).2 (B + 7680) B1 := by
  have h2 := h.act hnt a j
  unfold sp_carry
  split
  · exact h2
  · split
    · exact h2.start _
    · split
      · exact h2.set _ _ _ _ (by decide)
      · exact h2
set_option maxHeartbeats 4000000 in
set_option maxRecDepth 100000 in
theorem c_P_carryOut (l : Launch) (D : va_G) (ct : Nat → ClassId) (lay : Nat → Nat → Nat) (d : DC) (sz : Nat) (a : Int32) (j : Nat) (hj : j < dnt d) (hna : dna d ≤ 16) (hnt : dnt d ≤ 60) (how : ∀ j, j < dnt d → dow d j < dna d) (B B1 : Nat) (hB : B + 7680 < 2147483647) (hok : okc d B B1) :
    CoI valC cellC l D ct y_P_carryOut b_P_carryOut 3 (some .int) { frames := 4, cells := 0, slots := 0, locals := 95 } (lay, d) sz [.ref (lay 0 0), .int a, .ref (lay 11 j)] (fun r u => r = (sp_carry d a j).1 ∧ u = (lay, (sp_carry d a j).2)) := by
  refine co_of (by decide) (Nat.le_of_ble_eq_true rfl) (fun p e s m below meth c X hr hlocks hnm hsz hW ls hl => ?_)
  subst hsz
  have hx := X.1.1
  have hb := X.1.2.1
  have hS : va_S (Wfr (valC (lay, d)) lay s.heap.size) s.heap s.heap [] := va_S.rf
  have hl : lv_has ls 3 [(0, .ref (lay 0 0)), (1, .int a), (2, .ref (lay 11 j))] := hl
  refine lv_iload_n hx hb d_P_carryOut_0 rfl (lv_at hl 1 rfl) ?_
  refine lv_iconst (v := 5) hx hb d_P_carryOut_1 (by decide) ?_
  refine lv_icmp_ne (tgt := 12) hx hb d_P_carryOut_2 (by decide) (fun c_1 => ?_) (fun c_1 => ?_)
  · refine lv_iload_n hx hb d_P_carryOut_12 rfl (lv_at hl 1 rfl) ?_
    refine lv_iconst (v := 2) hx hb d_P_carryOut_13 (by decide) ?_
    refine lv_icmp_ne (tgt := 25) hx hb d_P_carryOut_14 (by decide) (fun c_2 => ?_) (fun c_2 => ?_)
    · refine lv_iload_n hx hb d_P_carryOut_25 rfl (lv_at hl 1 rfl) ?_
      refine lv_iconst (v := 3) hx hb d_P_carryOut_26 (by decide) ?_
      refine lv_icmp_eq (tgt := 35) hx hb d_P_carryOut_27 (by decide) (fun c_3 => ?_) (fun c_3 => ?_)
      · refine lv_aload_n hx hb d_P_carryOut_35 rfl (lv_at hl 0 rfl) ?_
        refine lv_aload_n hx hb d_P_carryOut_36 rfl (lv_at hl 2 rfl) ?_
        refine gf_P_117 X (aC11 hW hj) rfl d_P_carryOut_37 ?_
        refine wc_callv (val := valC) (lay := fun u : CS => u.1) (cell := cellC ct) (u0 := (lay, d)) X (c_P_endTasksOf l D ct lay d _ (dow d j) (how j hj) hna hnt how B B1 hB hok) (cw_P_153 X.1.2.2.2.2 rfl rfl ⟨Nat.le_of_ble_eq_true rfl, Nat.le_of_ble_eq_true rfl⟩) hW hS (fun q h => h.imp_right (fun z => Nat.le_trans hS.1 z)) (aC0 hW) rfl rfl hl.1 rfl (Nat.le_of_ble_eq_true rfl) d_P_carryOut_40 ⟨Nat.le_of_ble_eq_true rfl, Nat.le_of_ble_eq_true rfl⟩ (fun u H locs hp hW hz hk hS => ?_)
        obtain rfl := hp
        have hW : WC D ct (lay, (sp_all d (dow d j))) H := hW
        obtain ⟨tI, tL, ea⟩ := kp.ex (kp_act d a j)
        have hW : WC D ct (lay, mk d tI tL) H := by rw [← ea, show sp_act d a j = (sp_all d (dow d j)) by simp [sp_act, c_3]]; exact hW
        refine lv_aload_n hx hb d_P_carryOut_43 rfl (lv_at hl 0 rfl) ?_
        refine gf_P_44 X (aC0 hW) rfl d_P_carryOut_44 ?_
        refine lv_if_ne (tgt := 52) hx hb d_P_carryOut_47 (by decide) (fun c_4 => ?_) (fun c_4 => ?_)
        · refine lv_iload_n hx hb d_P_carryOut_52 rfl (lv_at hl 1 rfl) ?_
          refine lv_iconst (v := 4) hx hb d_P_carryOut_53 (by decide) ?_
          refine lv_icmp_ne (tgt := 77) hx hb d_P_carryOut_54 (by decide) (fun c_5 => ?_) (fun c_5 => ?_)
          · refine lv_iload_n hx hb d_P_carryOut_77 rfl (lv_at hl 1 rfl) ?_
            refine lv_iconst (v := 3) hx hb d_P_carryOut_78 (by decide) ?_
            refine lv_icmp_eq (tgt := 87) hx hb d_P_carryOut_79 (by decide) (fun c_6 => ?_) (fun c_6 => ?_)
            · refine lv_aload_n hx hb d_P_carryOut_87 rfl (lv_at hl 2 rfl) ?_
              refine gf_P_117 X (aC11 hW hj) rfl d_P_carryOut_88 ?_
              refine lv_iconst (v := 1) hx hb d_P_carryOut_91 (by decide) ?_
              refine pf_P_59 X (aC8 hW (how j hj)) hS (wfr 8 (dow d j) (how j hj)) rfl rfl (Nat.le_of_ble_eq_true rfl) d_P_carryOut_92 (fun H locs hat hch hS => ?_)
              have hW := wpC_I11 hW (how j hj) hat hch
              refine lv_iconst (v := 3) hx hb d_P_carryOut_95 (by decide) ?_
              exact leafI (val := valC) (cell := cellC) X hr hlocks hS (u2 := (lay, (sI (mk d tI tL) 11 (dow d j) 0 1))) hW (v := 3) ⟨by unfold sp_carry; rw [ea]; simp [c_3, c_4], by unfold sp_carry; rw [ea]; simp [c_3, c_4]⟩ d_P_carryOut_96
            · exact absurd c_3 c_6
          · exact absurd (c_3.symm.trans c_5) (by decide)
        · refine lv_iconst (v := 5) hx hb d_P_carryOut_50 (by decide) ?_
          exact leafI (val := valC) (cell := cellC) X hr hlocks hS (u2 := (lay, (mk d tI tL))) hW (v := 5) ⟨by unfold sp_carry; rw [ea]; simp [c_3, c_4], by unfold sp_carry; rw [ea]; simp [c_3, c_4]⟩ d_P_carryOut_51
      · refine lv_iload_n hx hb d_P_carryOut_30 rfl (lv_at hl 1 rfl) ?_
        refine lv_iconst (v := 4) hx hb d_P_carryOut_31 (by decide) ?_
        refine lv_icmp_ne (tgt := 43) hx hb d_P_carryOut_32 (by decide) (fun c_7 => ?_) (fun c_7 => ?_)
        · obtain ⟨tI, tL, ea⟩ := kp.ex (kp_act d a j)
          have hW : WC D ct (lay, mk d tI tL) s.heap := by rw [← ea, show sp_act d a j = d by simp [sp_act, c_1, c_2, c_3, c_7]]; exact hW
          refine lv_aload_n hx hb d_P_carryOut_43 rfl (lv_at hl 0 rfl) ?_
          refine gf_P_44 X (aC0 hW) rfl d_P_carryOut_44 ?_
          refine lv_if_ne (tgt := 52) hx hb d_P_carryOut_47 (by decide) (fun c_8 => ?_) (fun c_8 => ?_)
          · refine lv_iload_n hx hb d_P_carryOut_52 rfl (lv_at hl 1 rfl) ?_
            refine lv_iconst (v := 4) hx hb d_P_carryOut_53 (by decide) ?_
            refine lv_icmp_ne (tgt := 77) hx hb d_P_carryOut_54 (by decide) (fun c_9 => ?_) (fun c_9 => ?_)
            · refine lv_iload_n hx hb d_P_carryOut_77 rfl (lv_at hl 1 rfl) ?_
              refine lv_iconst (v := 3) hx hb d_P_carryOut_78 (by decide) ?_
              refine lv_icmp_eq (tgt := 87) hx hb d_P_carryOut_79 (by decide) (fun c_10 => ?_) (fun c_10 => ?_)
              · exact absurd c_10 c_3
              · refine lv_iload_n hx hb d_P_carryOut_82 rfl (lv_at hl 1 rfl) ?_
                refine lv_iconst (v := 4) hx hb d_P_carryOut_83 (by decide) ?_
                refine lv_icmp_ne (tgt := 97) hx hb d_P_carryOut_84 (by decide) (fun c_11 => ?_) (fun c_11 => ?_)
                · refine lv_iload_n hx hb d_P_carryOut_97 rfl (lv_at hl 1 rfl) ?_
                  exact leafI (val := valC) (cell := cellC) X hr hlocks hS (u2 := (lay, (mk d tI tL))) hW (v := a) ⟨by unfold sp_carry; rw [ea]; simp [c_1, c_2, c_3, c_7, c_8], by unfold sp_carry; rw [ea]; simp [c_1, c_2, c_3, c_7, c_8]⟩ d_P_carryOut_98
                · exact absurd c_11 c_7
            · exact absurd c_9 c_7
          · refine lv_iconst (v := 5) hx hb d_P_carryOut_50 (by decide) ?_
            exact leafI (val := valC) (cell := cellC) X hr hlocks hS (u2 := (lay, (mk d tI tL))) hW (v := 5) ⟨by unfold sp_carry; rw [ea]; simp [c_1, c_2, c_3, c_7, c_8], by unfold sp_carry; rw [ea]; simp [c_1, c_2, c_3, c_7, c_8]⟩ d_P_carryOut_51
        · refine lv_aload_n hx hb d_P_carryOut_35 rfl (lv_at hl 0 rfl) ?_
          refine lv_aload_n hx hb d_P_carryOut_36 rfl (lv_at hl 2 rfl) ?_
          refine gf_P_117 X (aC11 hW hj) rfl d_P_carryOut_37 ?_
          refine wc_callv (val := valC) (lay := fun u : CS => u.1) (cell := cellC ct) (u0 := (lay, d)) X (c_P_endTasksOf l D ct lay d _ (dow d j) (how j hj) hna hnt how B B1 hB hok) (cw_P_153 X.1.2.2.2.2 rfl rfl ⟨Nat.le_of_ble_eq_true rfl, Nat.le_of_ble_eq_true rfl⟩) hW hS (fun q h => h.imp_right (fun z => Nat.le_trans hS.1 z)) (aC0 hW) rfl rfl hl.1 rfl (Nat.le_of_ble_eq_true rfl) d_P_carryOut_40 ⟨Nat.le_of_ble_eq_true rfl, Nat.le_of_ble_eq_true rfl⟩ (fun u H locs hp hW hz hk hS => ?_)
          obtain rfl := hp
          have hW : WC D ct (lay, (sp_all d (dow d j))) H := hW
          obtain ⟨tI, tL, ea⟩ := kp.ex (kp_act d a j)
          have hW : WC D ct (lay, mk d tI tL) H := by rw [← ea, show sp_act d a j = (sp_all d (dow d j)) by simp [sp_act, c_7]]; exact hW
          refine lv_aload_n hx hb d_P_carryOut_43 rfl (lv_at hl 0 rfl) ?_
          refine gf_P_44 X (aC0 hW) rfl d_P_carryOut_44 ?_
          refine lv_if_ne (tgt := 52) hx hb d_P_carryOut_47 (by decide) (fun c_12 => ?_) (fun c_12 => ?_)
          · refine lv_iload_n hx hb d_P_carryOut_52 rfl (lv_at hl 1 rfl) ?_
            refine lv_iconst (v := 4) hx hb d_P_carryOut_53 (by decide) ?_
            refine lv_icmp_ne (tgt := 77) hx hb d_P_carryOut_54 (by decide) (fun c_13 => ?_) (fun c_13 => ?_)
            · exact absurd c_7 c_13
            · refine lv_aload_n hx hb d_P_carryOut_57 rfl (lv_at hl 2 rfl) ?_
              refine gf_P_117 X (aC11 hW hj) rfl d_P_carryOut_58 ?_
              refine gf_P_157 X (aC8 hW (how j hj)) rfl d_P_carryOut_61 ?_
              refine lv_if_le (tgt := 77) hx hb d_P_carryOut_64 (by decide) (fun c_14 => ?_) (fun c_14 => ?_)
              · have c_14 : ¬ 0 < gI (mk d tI tL) 10 (dow d j) 0 := Int32.not_lt.mpr c_14
                refine lv_iload_n hx hb d_P_carryOut_77 rfl (lv_at hl 1 rfl) ?_
                refine lv_iconst (v := 3) hx hb d_P_carryOut_78 (by decide) ?_
                refine lv_icmp_eq (tgt := 87) hx hb d_P_carryOut_79 (by decide) (fun c_15 => ?_) (fun c_15 => ?_)
                · exact absurd c_15 c_3
                · refine lv_iload_n hx hb d_P_carryOut_82 rfl (lv_at hl 1 rfl) ?_
                  refine lv_iconst (v := 4) hx hb d_P_carryOut_83 (by decide) ?_
                  refine lv_icmp_ne (tgt := 97) hx hb d_P_carryOut_84 (by decide) (fun c_16 => ?_) (fun c_16 => ?_)
                  · exact absurd c_7 c_16
                  · refine lv_aload_n hx hb d_P_carryOut_87 rfl (lv_at hl 2 rfl) ?_
                    refine gf_P_117 X (aC11 hW hj) rfl d_P_carryOut_88 ?_
                    refine lv_iconst (v := 1) hx hb d_P_carryOut_91 (by decide) ?_
                    refine pf_P_59 X (aC8 hW (how j hj)) hS (wfr 8 (dow d j) (how j hj)) rfl rfl (Nat.le_of_ble_eq_true rfl) d_P_carryOut_92 (fun H locs hat hch hS => ?_)
                    have hW := wpC_I11 hW (how j hj) hat hch
                    refine lv_iconst (v := 3) hx hb d_P_carryOut_95 (by decide) ?_
                    exact leafI (val := valC) (cell := cellC) X hr hlocks hS (u2 := (lay, (sI (mk d tI tL) 11 (dow d j) 0 1))) hW (v := 3) ⟨by unfold sp_carry; rw [ea]; simp [c_7, c_12, c_14], by unfold sp_carry; rw [ea]; simp [c_7, c_12, c_14]⟩ d_P_carryOut_96
              · have c_14 : 0 < gI (mk d tI tL) 10 (dow d j) 0 := Int32.not_le.mp c_14
                refine lv_aload_n hx hb d_P_carryOut_67 rfl (lv_at hl 0 rfl) ?_
                refine lv_aload_n hx hb d_P_carryOut_68 rfl (lv_at hl 2 rfl) ?_
                refine gf_P_117 X (aC11 hW hj) rfl d_P_carryOut_69 ?_
                refine wc_callv (val := valC) (lay := fun u : CS => u.1) (cell := cellC ct) (u0 := (lay, (mk d tI tL))) X (c_P_startAgain l D ct lay (mk d tI tL) _ (dow d j) (how j hj) hnt how) (cw_P_160 X.1.2.2.2.2 rfl rfl ⟨Nat.le_of_ble_eq_true rfl, Nat.le_of_ble_eq_true rfl⟩) hW hS (fun q h => h.imp_right (fun z => Nat.le_trans hS.1 z)) (aC0 hW) rfl rfl hl.1 rfl (Nat.le_of_ble_eq_true rfl) d_P_carryOut_72 ⟨Nat.le_of_ble_eq_true rfl, Nat.le_of_ble_eq_true rfl⟩ (fun u H locs hp hW hz hk hS => ?_)
                obtain rfl := hp
                have hW : WC D ct (lay, (sp_start (mk d tI tL) (dow d j))) H := hW
                refine lv_iconst (v := 4) hx hb d_P_carryOut_75 (by decide) ?_
                exact leafI (val := valC) (cell := cellC) X hr hlocks hS (u2 := (lay, (sp_start (mk d tI tL) (dow d j)))) hW (v := 4) ⟨by unfold sp_carry; rw [ea]; simp [c_7, c_12, c_14], by unfold sp_carry; rw [ea]; simp [c_7, c_12, c_14]⟩ d_P_carryOut_76
          · refine lv_iconst (v := 5) hx hb d_P_carryOut_50 (by decide) ?_
            exact leafI (val := valC) (cell := cellC) X hr hlocks hS (u2 := (lay, (mk d tI tL))) hW (v := 5) ⟨by unfold sp_carry; rw [ea]; simp [c_7, c_12], by unfold sp_carry; rw [ea]; simp [c_7, c_12]⟩ d_P_carryOut_51
    · refine lv_aload_n hx hb d_P_carryOut_17 rfl (lv_at hl 0 rfl) ?_
      refine lv_aload_n hx hb d_P_carryOut_18 rfl (lv_at hl 2 rfl) ?_
      refine wc_callv (val := valC) (lay := fun u : CS => u.1) (cell := cellC ct) (u0 := (lay, d)) X (c_P_endTask l D ct lay d _ j hj hna hnt B B1 (by omega) hok) (cw_P_149 X.1.2.2.2.2 rfl rfl ⟨Nat.le_of_ble_eq_true rfl, Nat.le_of_ble_eq_true rfl⟩) hW hS (fun q h => h.imp_right (fun z => Nat.le_trans hS.1 z)) (aC0 hW) rfl rfl hl.1 rfl (Nat.le_of_ble_eq_true rfl) d_P_carryOut_19 ⟨Nat.le_of_ble_eq_true rfl, Nat.le_of_ble_eq_true rfl⟩ (fun u H locs hp hW hz hk hS => ?_)
      obtain rfl := hp
      have hW : WC D ct (lay, (sp_end d j)) H := hW
      refine lv_goto (tgt := 43) hx hb d_P_carryOut_22 (by decide) ?_
      obtain ⟨tI, tL, ea⟩ := kp.ex (kp_act d a j)
      have hW : WC D ct (lay, mk d tI tL) H := by rw [← ea, show sp_act d a j = (sp_end d j) by simp [sp_act, c_2]]; exact hW
      refine lv_aload_n hx hb d_P_carryOut_43 rfl (lv_at hl 0 rfl) ?_
      refine gf_P_44 X (aC0 hW) rfl d_P_carryOut_44 ?_
      refine lv_if_ne (tgt := 52) hx hb d_P_carryOut_47 (by decide) (fun c_17 => ?_) (fun c_17 => ?_)
      · refine lv_iload_n hx hb d_P_carryOut_52 rfl (lv_at hl 1 rfl) ?_
        refine lv_iconst (v := 4) hx hb d_P_carryOut_53 (by decide) ?_
        refine lv_icmp_ne (tgt := 77) hx hb d_P_carryOut_54 (by decide) (fun c_18 => ?_) (fun c_18 => ?_)
        · refine lv_iload_n hx hb d_P_carryOut_77 rfl (lv_at hl 1 rfl) ?_
          refine lv_iconst (v := 3) hx hb d_P_carryOut_78 (by decide) ?_
          refine lv_icmp_eq (tgt := 87) hx hb d_P_carryOut_79 (by decide) (fun c_19 => ?_) (fun c_19 => ?_)
          · exact absurd (c_2.symm.trans c_19) (by decide)
          · refine lv_iload_n hx hb d_P_carryOut_82 rfl (lv_at hl 1 rfl) ?_
            refine lv_iconst (v := 4) hx hb d_P_carryOut_83 (by decide) ?_
            refine lv_icmp_ne (tgt := 97) hx hb d_P_carryOut_84 (by decide) (fun c_20 => ?_) (fun c_20 => ?_)
            · refine lv_iload_n hx hb d_P_carryOut_97 rfl (lv_at hl 1 rfl) ?_
              exact leafI (val := valC) (cell := cellC) X hr hlocks hS (u2 := (lay, (mk d tI tL))) hW (v := a) ⟨by unfold sp_carry; rw [ea]; simp [c_2, c_17], by unfold sp_carry; rw [ea]; simp [c_2, c_17]⟩ d_P_carryOut_98
            · exact absurd (c_2.symm.trans c_20) (by decide)
        · exact absurd (c_2.symm.trans c_18) (by decide)
      · refine lv_iconst (v := 5) hx hb d_P_carryOut_50 (by decide) ?_
        exact leafI (val := valC) (cell := cellC) X hr hlocks hS (u2 := (lay, (mk d tI tL))) hW (v := 5) ⟨by unfold sp_carry; rw [ea]; simp [c_2, c_17], by unfold sp_carry; rw [ea]; simp [c_2, c_17]⟩ d_P_carryOut_51
  · refine lv_aload_n hx hb d_P_carryOut_5 rfl (lv_at hl 0 rfl) ?_
    refine wc_callv (val := valC) (lay := fun u : CS => u.1) (cell := cellC ct) (u0 := (lay, d)) X (c_P_shutDown l D ct lay d _ hna hnt) (cw_P_146 X.1.2.2.2.2 rfl rfl ⟨Nat.le_of_ble_eq_true rfl, Nat.le_of_ble_eq_true rfl⟩) hW hS (fun q h => h.imp_right (fun z => Nat.le_trans hS.1 z)) (aC0 hW) rfl rfl hl.1 rfl (Nat.le_of_ble_eq_true rfl) d_P_carryOut_6 ⟨Nat.le_of_ble_eq_true rfl, Nat.le_of_ble_eq_true rfl⟩ (fun u H locs hp hW hz hk hS => ?_)
    obtain rfl := hp
    have hW : WC D ct (lay, (sp_shut d)) H := hW
    refine lv_goto (tgt := 43) hx hb d_P_carryOut_9 (by decide) ?_
    obtain ⟨tI, tL, ea⟩ := kp.ex (kp_act d a j)
    have hW : WC D ct (lay, mk d tI tL) H := by rw [← ea, show sp_act d a j = (sp_shut d) by simp [sp_act, c_1]]; exact hW
    refine lv_aload_n hx hb d_P_carryOut_43 rfl (lv_at hl 0 rfl) ?_
    refine gf_P_44 X (aC0 hW) rfl d_P_carryOut_44 ?_
    refine lv_if_ne (tgt := 52) hx hb d_P_carryOut_47 (by decide) (fun c_21 => ?_) (fun c_21 => ?_)
    · refine lv_iload_n hx hb d_P_carryOut_52 rfl (lv_at hl 1 rfl) ?_
      refine lv_iconst (v := 4) hx hb d_P_carryOut_53 (by decide) ?_
      refine lv_icmp_ne (tgt := 77) hx hb d_P_carryOut_54 (by decide) (fun c_22 => ?_) (fun c_22 => ?_)
      · refine lv_iload_n hx hb d_P_carryOut_77 rfl (lv_at hl 1 rfl) ?_
        refine lv_iconst (v := 3) hx hb d_P_carryOut_78 (by decide) ?_
        refine lv_icmp_eq (tgt := 87) hx hb d_P_carryOut_79 (by decide) (fun c_23 => ?_) (fun c_23 => ?_)
        · exact absurd (c_1.symm.trans c_23) (by decide)
        · refine lv_iload_n hx hb d_P_carryOut_82 rfl (lv_at hl 1 rfl) ?_
          refine lv_iconst (v := 4) hx hb d_P_carryOut_83 (by decide) ?_
          refine lv_icmp_ne (tgt := 97) hx hb d_P_carryOut_84 (by decide) (fun c_24 => ?_) (fun c_24 => ?_)
          · refine lv_iload_n hx hb d_P_carryOut_97 rfl (lv_at hl 1 rfl) ?_
            exact leafI (val := valC) (cell := cellC) X hr hlocks hS (u2 := (lay, (mk d tI tL))) hW (v := a) ⟨by unfold sp_carry; rw [ea]; simp [c_1, c_21], by unfold sp_carry; rw [ea]; simp [c_1, c_21]⟩ d_P_carryOut_98
          · exact absurd (c_1.symm.trans c_24) (by decide)
      · exact absurd (c_1.symm.trans c_22) (by decide)
    · refine lv_iconst (v := 5) hx hb d_P_carryOut_50 (by decide) ?_
      exact leafI (val := valC) (cell := cellC) X hr hlocks hS (u2 := (lay, (mk d tI tL))) hW (v := 5) ⟨by unfold sp_carry; rw [ea]; simp [c_1, c_21], by unfold sp_carry; rw [ea]; simp [c_1, c_21]⟩ d_P_carryOut_51
theorem lev_le (d : DC) : sp_lev d ≤ 3 := by
  unfold sp_lev
  split
  · omega
  · split
    · omega
    · split <;> omega
set_option maxHeartbeats 4000000 in
set_option maxRecDepth 100000 in
theorem c_P_raise (l : Launch) (D : va_G) (ct : Nat → ClassId) (lay : Nat → Nat → Nat) (d : DC) (sz : Nat) (j : Nat) (hj : j < dnt d) (k : Int32) (hna : dna d ≤ 16) (hnt : dnt d ≤ 60) (how : ∀ j, j < dnt d → dow d j < dna d) (B B1 : Nat) (hB : B + 7680 < 2147483647) (hB1 : B1 < 2147483647) (hok : okc d B B1) :
    CoI valC cellC l D ct y_P_raise b_P_raise 5 (some .int) { frames := 5, cells := 0, slots := 0, locals := 117 } (lay, d) sz [.ref (lay 0 0), .ref (lay 11 j), .int k] (fun r u => r = (sp_raise d j k).1 ∧ u = (lay, (sp_raise d j k).2)) := by
  refine co_of (by decide) (Nat.le_of_ble_eq_true rfl) (fun p e s m below meth c X hr hlocks hnm hsz hW ls hl => ?_)
  subst hsz
  have hx := X.1.1
  have hb := X.1.2.1
  have hS : va_S (Wfr (valC (lay, d)) lay s.heap.size) s.heap s.heap [] := va_S.rf
  have hl : lv_has ls 5 [(0, .ref (lay 0 0)), (1, .ref (lay 11 j)), (2, .int k)] := hl
  refine lv_aload_n hx hb d_P_raise_0 rfl (lv_at hl 0 rfl) ?_
  refine lv_iconst (v := 0) hx hb d_P_raise_1 (by decide) ?_
  refine pf_P_127 X (aC0 hW) hS (wfr 0 0 rfl) rfl rfl (Nat.le_of_ble_eq_true rfl) d_P_raise_2 (fun H locs hat hch hS => ?_)
  have hW := wpC_d (d := d) 0 (by decide) hW hat hch
  refine lv_aload_n hx hb d_P_raise_5 rfl (lv_at hl 0 rfl) ?_
  refine wc_calli (val := valC) (lay := fun u : CS => u.1) (cell := cellC ct) (u0 := (lay, (sI d 1 0 0 0))) X (c_P_decidingLevel l D ct lay (sI d 1 0 0 0) _ ) (cw_P_130 X.1.2.2.2.2 rfl rfl ⟨Nat.le_of_ble_eq_true rfl, Nat.le_of_ble_eq_true rfl⟩) hW hS (fun q h => h.imp_right (fun z => Nat.le_trans hS.1 z)) (aC0 hW) rfl rfl hl.1 rfl (Nat.le_of_ble_eq_true rfl) d_P_raise_6 ⟨Nat.le_of_ble_eq_true rfl, Nat.le_of_ble_eq_true rfl⟩ (fun r u H locs hp hW hz hk hS => ?_)
  obtain ⟨rfl, rfl⟩ := hp
  have hW : WC D ct (lay, (sI d 1 0 0 0)) H := hW
  refine lv_istore_n (lv' := [(3, .int (nI (sp_lev d))), (0, .ref (lay 0 0)), (1, .ref (lay 11 j)), (2, .int k)]) hx hb d_P_raise_9 rfl hl (by decide) rfl (fun ls hl => ?_)
  refine lv_aload_n hx hb d_P_raise_10 rfl (lv_at hl 1 rfl) ?_
  refine lv_aload_n hx hb d_P_raise_11 rfl (lv_at hl 1 rfl) ?_
  refine lv_iload_n hx hb d_P_raise_12 rfl (lv_at hl 0 rfl) ?_
  refine wc_calli (val := valC) (lay := fun u : CS => u.1) (cell := cellC ct) (u0 := (lay, (sI d 1 0 0 0))) X (c_P_reactionAskedAt l D ct lay (sI d 1 0 0 0) _ (sp_lev d) (lev_le d)) (cw_P_134 X.1.2.2.2.2 rfl rfl ⟨Nat.le_of_ble_eq_true rfl, Nat.le_of_ble_eq_true rfl⟩) hW hS (fun q h => h.imp_right (fun z => Nat.le_trans hS.1 z)) (aC0 hW) rfl rfl hl.1 rfl (Nat.le_of_ble_eq_true rfl) d_P_raise_13 ⟨Nat.le_of_ble_eq_true rfl, Nat.le_of_ble_eq_true rfl⟩ (fun r u H locs hp hW hz hk hS => ?_)
  obtain ⟨rfl, rfl⟩ := hp
  have hW : WC D ct (lay, (sI d 1 0 0 0)) H := hW
  refine lv_aload_n hx hb d_P_raise_16 rfl (lv_at hl 2 rfl) ?_
  refine wc_calli (val := valC) (lay := fun u : CS => u.1) (cell := cellC ct) (u0 := (lay, (sI d 1 0 0 0))) X (c_P_carryOut l D ct lay (sI d 1 0 0 0) _ (sp_ask d (sp_lev d)) j hj hna hnt how B B1 hB (hok.set 1 0 0 0 (by decide))) (cw_P_138 X.1.2.2.2.2 rfl rfl ⟨Nat.le_of_ble_eq_true rfl, Nat.le_of_ble_eq_true rfl⟩) hW hS (fun q h => h.imp_right (fun z => Nat.le_trans hS.1 z)) (aC0 hW) rfl rfl hl.1 rfl (Nat.le_of_ble_eq_true rfl) d_P_raise_17 ⟨Nat.le_of_ble_eq_true rfl, Nat.le_of_ble_eq_true rfl⟩ (fun r u H locs hp hW hz hk hS => ?_)
  obtain ⟨rfl, rfl⟩ := hp
  obtain ⟨tI_q_1, tL_q_1, e_q_1⟩ := kp.ex ((kp_sI d 1 0 0 0).tr (kp_carry (sI d 1 0 0 0) (sp_ask d (sp_lev d)) j))
  have hW : WC D ct (lay, (sp_carry (sI d 1 0 0 0) (sp_ask d (sp_lev d)) j).2) H := hW
  rw [e_q_1] at hW
  have hW : WC D ct (lay, (mk d tI_q_1 tL_q_1)) H := hW
  obtain ⟨-, cc1, hcB, hcc⟩ := (hok.set 1 0 0 0 (by decide)).carry hnt (sp_ask d (sp_lev d)) j
  rw [e_q_1] at hcc
  refine lv_istore (lv' := [(4, .int ((sp_carry (sI d 1 0 0 0) (sp_ask d (sp_lev d)) j).1)), (3, .int (nI (sp_lev d))), (0, .ref (lay 0 0)), (1, .ref (lay 11 j)), (2, .int k)]) hx hb d_P_raise_20 hl (by decide) rfl (fun ls hl => ?_)
  refine lv_aload_n hx hb d_P_raise_22 rfl (lv_at hl 2 rfl) ?_
  refine gf_P_41 X (aC0 hW) rfl d_P_raise_23 ?_
  refine lv_aload_n hx hb d_P_raise_26 rfl (lv_at hl 3 rfl) ?_
  refine gf_P_85 X (aC11 hW hj) rfl d_P_raise_27 ?_
  refine lv_iload_n hx hb d_P_raise_30 rfl (lv_at hl 4 rfl) ?_
  refine lv_iload_n hx hb d_P_raise_31 rfl (lv_at hl 1 rfl) ?_
  refine lv_iload hx hb d_P_raise_32 (lv_at hl 0 rfl) ?_
  refine wc_callv (val := valC) (lay := fun u : CS => u.1) (cell := cellC ct) (u0 := (lay, (mk d tI_q_1 tL_q_1))) X (c_B_write l D ct lay (mk d tI_q_1 tL_q_1) _ 1 (by decide) (nI (j + 1)) k (nI (sp_lev d)) ((sp_carry (sI d 1 0 0 0) (sp_ask d (sp_lev d)) j).1) cc1 (by omega) hcc) (cw_P_142 X.1.2.2.2.2 rfl rfl ⟨Nat.le_of_ble_eq_true rfl, Nat.le_of_ble_eq_true rfl⟩) hW hS (fun q h => h.imp_right (fun z => Nat.le_trans hS.1 z)) (aC6 hW (by decide)) rfl rfl hl.1 rfl (Nat.le_of_ble_eq_true rfl) d_P_raise_34 ⟨Nat.le_of_ble_eq_true rfl, Nat.le_of_ble_eq_true rfl⟩ (fun u H locs hp hW hz hk hS => ?_)
  obtain rfl := hp
  have hW : WC D ct (lay, (sp_write (mk d tI_q_1 tL_q_1) 1 (nI (j + 1)) k (nI (sp_lev d)) ((sp_carry (sI d 1 0 0 0) (sp_ask d (sp_lev d)) j).1))) H := hW
  refine lv_iload hx hb d_P_raise_37 (lv_at hl 0 rfl) ?_
  exact leafI (val := valC) (cell := cellC) X hr hlocks hS (u2 := (lay, (sp_write (mk d tI_q_1 tL_q_1) 1 (nI (j + 1)) k (nI (sp_lev d)) ((sp_carry (sI d 1 0 0 0) (sp_ask d (sp_lev d)) j).1)))) hW (v := (sp_carry (sI d 1 0 0 0) (sp_ask d (sp_lev d)) j).1) ⟨rfl, by unfold sp_raise; rw [e_q_1]⟩ d_P_raise_39
