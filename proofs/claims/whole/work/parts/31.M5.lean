set_option maxHeartbeats 4000000 in
set_option maxRecDepth 100000 in
theorem c_M_trusted (l : Launch) (D : va_G) (ct : Nat → ClassId) (lay : Nat → Nat → Nat) (d : DC) (sz : Nat) (x : Int32) (a : Int64) (hna : dna d ≤ 16) (hnt : dnt d ≤ 60) (how : ∀ j, j < dnt d → dow d j < dna d) (h15 : ∀ j, j < dnt d → gI d 15 j 0 = nI (dow d j + 1)) (hreg : ∀ i, i < dna d → ∃ n, n ≤ 8 ∧ gI d 9 i 0 = nI n ∧ ∀ k, k < n → 0 ≤ gL d 0 i k ∧ gL d 0 i k ≤ 1099511627776 ∧ gL d 1 i k ≤ 1099511627776 ∧ 1 ≤ gL d 1 i k) :
    CoI valM cellM l D ct y_M_trusted b_M_trusted 4 (some .int) { frames := 1, cells := 0, slots := 0, locals := 26 } (lay, d) sz [.ref (lay 0 0), .int x, .long a] (fun r u => r = sp_trusted d x a ∧ u = (lay, d)) := by
  refine co_of (by decide) (Nat.le_of_ble_eq_true rfl) (fun p e s m below meth c X hr hlocks hnm hsz hW ls hl => ?_)
  subst hsz
  have hx := X.1.1
  have hb := X.1.2.1
  have hS : va_S (Wfr (valM (lay, d)) lay s.heap.size) s.heap s.heap [] := va_S.rf
  have hl : lv_has ls 4 [(0, .ref (lay 0 0)), (1, .int x), (2, .long a)] := hl
  refine lv_aload_n hx hb d_M_trusted_0 rfl (lv_at hl 0 rfl) ?_
  refine lv_iload_n hx hb d_M_trusted_1 rfl (lv_at hl 1 rfl) ?_
  refine wc_calli (val := valM) (lay := fun u : CS => u.1) (cell := cellM ct) (u0 := (lay, d)) X (c_M_noTask l D ct lay d _ x hnt) (cw_M_88 X.1.2.2.2.2 rfl rfl ⟨Nat.le_of_ble_eq_true rfl, Nat.le_of_ble_eq_true rfl⟩) hW hS (fun q h => h.imp_right (fun z => Nat.le_trans hS.1 z)) (aM0 hW) rfl rfl hl.1 rfl (Nat.le_of_ble_eq_true rfl) d_M_trusted_2 ⟨Nat.le_of_ble_eq_true rfl, Nat.le_of_ble_eq_true rfl⟩ (fun r u H locs hp hW hz hk hS => ?_)
  obtain ⟨rfl, hp⟩ := hp
  rcases hp with ⟨j, hj, rfl, hix, rfl⟩ | ⟨hix, rfl⟩
  · have hW : WM D ct (lay, d) H := hW
    refine lv_if_eq (tgt := 10) hx hb d_M_trusted_5 (by decide) (fun _ => ?_) (fun c_1 => absurd c_1 (by decide))
    refine lv_aload_n hx hb d_M_trusted_10 rfl (lv_at hl 0 rfl) ?_
    refine lv_iload_n hx hb d_M_trusted_11 rfl (lv_at hl 1 rfl) ?_
    refine lv_lload_n hx hb d_M_trusted_12 rfl (lv_at hl 2 rfl) ?_
    refine wc_calli (val := valM) (lay := fun u : CS => u.1) (cell := cellM ct) (u0 := (lay, d)) X (c_M_inside l D ct lay d _ (nI (j + 1)) j hj rfl a hna hnt how h15 hreg) (cw_M_114 X.1.2.2.2.2 rfl rfl ⟨Nat.le_of_ble_eq_true rfl, Nat.le_of_ble_eq_true rfl⟩) hW hS (fun q h => h.imp_right (fun z => Nat.le_trans hS.1 z)) (aM0 hW) rfl rfl hl.1 rfl (Nat.le_of_ble_eq_true rfl) d_M_trusted_13 ⟨Nat.le_of_ble_eq_true rfl, Nat.le_of_ble_eq_true rfl⟩ (fun r u H locs hp hW hz hk hS => ?_)
    obtain ⟨rfl, rfl⟩ := hp
    have hW : WM D ct (lay, d) H := hW
    by_cases hin : sp_in d (dow d j) a = true
    · rw [if_pos hin]
      refine lv_if_eq (tgt := 23) hx hb d_M_trusted_16 (by decide) (fun c_2 => absurd c_2 (by decide)) (fun _ => ?_)
      refine lv_iconst (v := 1) hx hb d_M_trusted_19 (by decide) ?_
      refine lv_goto (tgt := 24) hx hb d_M_trusted_20 (by decide) ?_
      exact leafI (val := valM) (cell := cellM) X hr hlocks hS (u2 := (lay, d)) hW (v := 1) ⟨by simp [sp_trusted, hix, hin], rfl⟩ d_M_trusted_24
    · rw [if_neg hin]
      refine lv_if_eq (tgt := 23) hx hb d_M_trusted_16 (by decide) (fun _ => ?_) (fun c_3 => absurd c_3 (by decide))
      refine lv_iconst (v := 0) hx hb d_M_trusted_23 (by decide) ?_
      exact leafI (val := valM) (cell := cellM) X hr hlocks hS (u2 := (lay, d)) hW (v := 0) ⟨by simp [sp_trusted, hix, hin], rfl⟩ d_M_trusted_24
  · have hW : WM D ct (lay, d) H := hW
    refine lv_if_eq (tgt := 10) hx hb d_M_trusted_5 (by decide) (fun c_4 => absurd c_4 (by decide)) (fun _ => ?_)
    refine lv_iconst (v := -1) hx hb d_M_trusted_8 (by decide) ?_
    exact leafI (val := valM) (cell := cellM) X hr hlocks hS (u2 := (lay, d)) hW (v := (-1)) ⟨by simp [sp_trusted, hix], rfl⟩ d_M_trusted_9
set_option maxHeartbeats 4000000 in
set_option maxRecDepth 100000 in
theorem c_M_access (l : Launch) (D : va_G) (ct : Nat → ClassId) (lay : Nat → Nat → Nat) (d : DC) (sz : Nat) (x : Int32) (a : Int64) (hna : dna d ≤ 16) (hnt : dnt d ≤ 60) (how : ∀ j, j < dnt d → dow d j < dna d) (h15 : ∀ j, j < dnt d → gI d 15 j 0 = nI (dow d j + 1)) (hrs : ∀ i, i < dna d → ∃ n, n ≤ 10 ∧ gI d 10 i 0 = nI n) (B B1 : Nat) (hB : B + 7680 < 2147483647) (hB1 : B1 < 2147483647) (hok : okc d B B1) (hreg : ∀ i, i < dna d → ∃ n, n ≤ 8 ∧ gI d 9 i 0 = nI n ∧ ∀ k, k < n → 0 ≤ gL d 0 i k ∧ gL d 0 i k ≤ 1099511627776 ∧ gL d 1 i k ≤ 1099511627776 ∧ 1 ≤ gL d 1 i k) :
    CoI valM cellM l D ct y_M_access b_M_access 4 (some .int) { frames := 4, cells := 0, slots := 0, locals := 91 } (lay, d) sz [.ref (lay 0 0), .int x, .long a] (fun r u => r = (sp_access d x a).1 ∧ u = (lay, (sp_access d x a).2)) := by
  refine co_of (by decide) (Nat.le_of_ble_eq_true rfl) (fun p e s m below meth c X hr hlocks hnm hsz hW ls hl => ?_)
  subst hsz
  have hx := X.1.1
  have hb := X.1.2.1
  have hS : va_S (Wfr (valM (lay, d)) lay s.heap.size) s.heap s.heap [] := va_S.rf
  have hl : lv_has ls 4 [(0, .ref (lay 0 0)), (1, .int x), (2, .long a)] := hl
  refine lv_aload_n hx hb d_M_access_0 rfl (lv_at hl 0 rfl) ?_
  refine lv_iload_n hx hb d_M_access_1 rfl (lv_at hl 1 rfl) ?_
  refine wc_calli (val := valM) (lay := fun u : CS => u.1) (cell := cellM ct) (u0 := (lay, d)) X (c_M_noTask l D ct lay d _ x hnt) (cw_M_88 X.1.2.2.2.2 rfl rfl ⟨Nat.le_of_ble_eq_true rfl, Nat.le_of_ble_eq_true rfl⟩) hW hS (fun q h => h.imp_right (fun z => Nat.le_trans hS.1 z)) (aM0 hW) rfl rfl hl.1 rfl (Nat.le_of_ble_eq_true rfl) d_M_access_2 ⟨Nat.le_of_ble_eq_true rfl, Nat.le_of_ble_eq_true rfl⟩ (fun r u H locs hp hW hz hk hS => ?_)
  obtain ⟨rfl, hp⟩ := hp
  rcases hp with ⟨j, hj, rfl, hix, rfl⟩ | ⟨hix, rfl⟩
  · have hW : WM D ct (lay, d) H := hW
    refine lv_if_eq (tgt := 12) hx hb d_M_access_5 (by decide) (fun _ => ?_) (fun c_1 => absurd c_1 (by decide))
    refine lv_aload_n hx hb d_M_access_12 rfl (lv_at hl 0 rfl) ?_
    refine gf_M_76 X (aM0 hW) rfl d_M_access_13 ?_
    refine lv_if_ne (tgt := 28) hx hb d_M_access_16 (by decide) (fun c_2 => ?_) (fun c_2 => ?_)
    · have u_c_2 := Decidable.not_not.mp (fun q => c_2 (dn_0.mpr q))
      refine lv_sipush (v := -3000) hx hb d_M_access_28 (by decide) ?_
      exact leafI (val := valM) (cell := cellM) X hr hlocks hS (u2 := (lay, d)) hW (v := (-3000)) ⟨by simp [sp_access, hix, u_c_2], by simp [sp_access, hix, u_c_2]⟩ d_M_access_31
    · have u_c_2 := dn_0.mp c_2
      refine lv_aload_n hx hb d_M_access_19 rfl (lv_at hl 0 rfl) ?_
      refine gf_M_33 X (aM0 hW) rfl d_M_access_20 ?_
      refine lv_iload_n hx hb d_M_access_23 rfl (lv_at hl 1 rfl) ?_
      refine rn_zaldE X 2 (aM8 hW) rfl (t := (j + 1)) rfl (by omega) (by decide) (v := (gI d 12 j 0)) rfl d_M_access_24 ?_
      refine lv_if_ne (tgt := 32) hx hb d_M_access_25 (by decide) (fun c_3 => ?_) (fun c_3 => ?_)
      · refine lv_aload_n hx hb d_M_access_32 rfl (lv_at hl 0 rfl) ?_
        refine lv_iload_n hx hb d_M_access_33 rfl (lv_at hl 1 rfl) ?_
        refine lv_lload_n hx hb d_M_access_34 rfl (lv_at hl 2 rfl) ?_
        refine wc_calli (val := valM) (lay := fun u : CS => u.1) (cell := cellM ct) (u0 := (lay, d)) X (c_M_inside l D ct lay d _ (nI (j + 1)) j hj rfl a hna hnt how h15 hreg) (cw_M_114 X.1.2.2.2.2 rfl rfl ⟨Nat.le_of_ble_eq_true rfl, Nat.le_of_ble_eq_true rfl⟩) hW hS (fun q h => h.imp_right (fun z => Nat.le_trans hS.1 z)) (aM0 hW) rfl rfl hl.1 rfl (Nat.le_of_ble_eq_true rfl) d_M_access_35 ⟨Nat.le_of_ble_eq_true rfl, Nat.le_of_ble_eq_true rfl⟩ (fun r u H locs hp hW hz hk hS => ?_)
        obtain ⟨rfl, rfl⟩ := hp
        have hW : WM D ct (lay, d) H := hW
        by_cases hin : sp_in d (dow d j) a = true
        · rw [if_pos hin]
          refine lv_if_eq (tgt := 45) hx hb d_M_access_38 (by decide) (fun c_4 => absurd c_4 (by decide)) (fun _ => ?_)
          refine lv_iconst (v := 1) hx hb d_M_access_41 (by decide) ?_
          refine lv_goto (tgt := 52) hx hb d_M_access_42 (by decide) ?_
          exact leafI (val := valM) (cell := cellM) X hr hlocks hS (u2 := (lay, d)) hW (v := 1) ⟨by simp [sp_access, hix, u_c_2, c_3, hin], by simp [sp_access, hix, u_c_2, c_3, hin]⟩ d_M_access_52
        · rw [if_neg hin]
          refine lv_if_eq (tgt := 45) hx hb d_M_access_38 (by decide) (fun _ => ?_) (fun c_5 => absurd c_5 (by decide))
          refine lv_aload_n hx hb d_M_access_45 rfl (lv_at hl 0 rfl) ?_
          refine lv_iload_n hx hb d_M_access_46 rfl (lv_at hl 1 rfl) ?_
          refine lv_iconst (v := 2) hx hb d_M_access_47 (by decide) ?_
          refine wc_calli (val := valM) (lay := fun u : CS => u.1) (cell := cellM ct) (u0 := (lay, d)) X (c_M_react l D ct lay d _ (nI (j + 1)) j hj rfl 2 hna hnt how h15 hrs B B1 hB hB1 hok u_c_2) (cw_M_110 X.1.2.2.2.2 rfl rfl ⟨Nat.le_of_ble_eq_true rfl, Nat.le_of_ble_eq_true rfl⟩) hW hS (fun q h => h.imp_right (fun z => Nat.le_trans hS.1 z)) (aM0 hW) rfl rfl hl.1 rfl (Nat.le_of_ble_eq_true rfl) d_M_access_48 ⟨Nat.le_of_ble_eq_true rfl, Nat.le_of_ble_eq_true rfl⟩ (fun r u H locs hp hW hz hk hS => ?_)
          obtain ⟨rfl, rfl⟩ := hp
          have hW : WM D ct (lay, (sp_raise d j 2).2) H := hW
          refine lv_ineg hx hb d_M_access_51 ?_
          exact leafI (val := valM) (cell := cellM) X hr hlocks hS (u2 := (lay, (sp_raise d j 2).2)) hW (v := (-((sp_raise d j 2).1))) ⟨by simp [sp_access, hix, u_c_2, c_3, hin], by simp [sp_access, hix, u_c_2, c_3, hin]⟩ d_M_access_52
      · refine lv_sipush (v := -3000) hx hb d_M_access_28 (by decide) ?_
        exact leafI (val := valM) (cell := cellM) X hr hlocks hS (u2 := (lay, d)) hW (v := (-3000)) ⟨by simp [sp_access, hix, u_c_2, c_3], by simp [sp_access, hix, u_c_2, c_3]⟩ d_M_access_31
  · have hW : WM D ct (lay, d) H := hW
    refine lv_if_eq (tgt := 12) hx hb d_M_access_5 (by decide) (fun c_6 => absurd c_6 (by decide)) (fun _ => ?_)
    refine lv_sipush (v := -1000) hx hb d_M_access_8 (by decide) ?_
    exact leafI (val := valM) (cell := cellM) X hr hlocks hS (u2 := (lay, d)) hW (v := (-1000)) ⟨by simp [sp_access, hix], by simp [sp_access, hix]⟩ d_M_access_11
set_option maxHeartbeats 4000000 in
set_option maxRecDepth 100000 in
theorem c_M_holds (l : Launch) (D : va_G) (ct : Nat → ClassId) (lay : Nat → Nat → Nat) (d : DC) (sz : Nat) (x k w : Int32) (hnt : dnt d ≤ 60) (hhold : ∀ t, t < 128 → ∃ n, n ≤ 60 ∧ gI d 2 0 t = nI n) :
    CoI valM cellM l D ct y_M_holds b_M_holds 6 (some .int) { frames := 1, cells := 0, slots := 0, locals := 21 } (lay, d) sz [.ref (lay 0 0), .int x, .int k, .int w] (fun r u => r = (sp_holds d x k w).1 ∧ u = (lay, (sp_holds d x k w).2)) := by
  refine co_of (by decide) (Nat.le_of_ble_eq_true rfl) (fun p e s m below meth c X hr hlocks hnm hsz hW ls hl => ?_)
  subst hsz
  have hx := X.1.1
  have hb := X.1.2.1
  have hS : va_S (Wfr (valM (lay, d)) lay s.heap.size) s.heap s.heap [] := va_S.rf
  have hl : lv_has ls 6 [(0, .ref (lay 0 0)), (1, .int x), (2, .int k), (3, .int w)] := hl
  refine lv_aload_n hx hb d_M_holds_0 rfl (lv_at hl 0 rfl) ?_
  refine lv_iload_n hx hb d_M_holds_1 rfl (lv_at hl 1 rfl) ?_
  refine wc_calli (val := valM) (lay := fun u : CS => u.1) (cell := cellM ct) (u0 := (lay, d)) X (c_M_noTask l D ct lay d _ x hnt) (cw_M_88 X.1.2.2.2.2 rfl rfl ⟨Nat.le_of_ble_eq_true rfl, Nat.le_of_ble_eq_true rfl⟩) hW hS (fun q h => h.imp_right (fun z => Nat.le_trans hS.1 z)) (aM0 hW) rfl rfl hl.1 rfl (Nat.le_of_ble_eq_true rfl) d_M_holds_2 ⟨Nat.le_of_ble_eq_true rfl, Nat.le_of_ble_eq_true rfl⟩ (fun r u H locs hp hW hz hk hS => ?_)
  obtain ⟨rfl, hp⟩ := hp
  rcases hp with ⟨j, hj, rfl, hix, rfl⟩ | ⟨hix, rfl⟩
  · have hW : WM D ct (lay, d) H := hW
    refine lv_if_eq (tgt := 10) hx hb d_M_holds_5 (by decide) (fun _ => ?_) (fun c_1 => absurd c_1 (by decide))
    refine lv_iload_n hx hb d_M_holds_10 rfl (lv_at hl 2 rfl) ?_
    refine lv_if_lt (tgt := 30) hx hb d_M_holds_11 (by decide) (fun c_2 => ?_) (fun c_2 => ?_)
    · refine lv_bipush (v := -2) hx hb d_M_holds_30 (by decide) ?_
      exact leafI (val := valM) (cell := cellM) X hr hlocks hS (u2 := (lay, d)) hW (v := (-2)) ⟨by simp [sp_holds, hix, c_2], by simp [sp_holds, hix, c_2]⟩ d_M_holds_32
    · refine lv_iload_n hx hb d_M_holds_14 rfl (lv_at hl 2 rfl) ?_
      refine lv_iconst (v := 3) hx hb d_M_holds_15 (by decide) ?_
      refine lv_icmp_gt (tgt := 30) hx hb d_M_holds_16 (by decide) (fun c_3 => ?_) (fun c_3 => ?_)
      · rw [lt34] at c_3
        refine lv_bipush (v := -2) hx hb d_M_holds_30 (by decide) ?_
        exact leafI (val := valM) (cell := cellM) X hr hlocks hS (u2 := (lay, d)) hW (v := (-2)) ⟨by simp [sp_holds, hix, c_2, c_3], by simp [sp_holds, hix, c_2, c_3]⟩ d_M_holds_32
      · rw [lt34] at c_3
        refine lv_iload_n hx hb d_M_holds_19 rfl (lv_at hl 3 rfl) ?_
        refine lv_iconst (v := 1) hx hb d_M_holds_20 (by decide) ?_
        refine lv_icmp_lt (tgt := 30) hx hb d_M_holds_21 (by decide) (fun c_4 => ?_) (fun c_4 => ?_)
        · refine lv_bipush (v := -2) hx hb d_M_holds_30 (by decide) ?_
          exact leafI (val := valM) (cell := cellM) X hr hlocks hS (u2 := (lay, d)) hW (v := (-2)) ⟨by simp [sp_holds, hix, c_2, c_3, c_4], by simp [sp_holds, hix, c_2, c_3, c_4]⟩ d_M_holds_32
        · refine lv_iload_n hx hb d_M_holds_24 rfl (lv_at hl 3 rfl) ?_
          refine lv_bipush (v := 32) hx hb d_M_holds_25 (by decide) ?_
          refine lv_icmp_le (tgt := 33) hx hb d_M_holds_27 (by decide) (fun c_5 => ?_) (fun c_5 => ?_)
          · obtain ⟨k1, hk1, ek⟩ := nI_of c_2
            have hk2 : k1 < 4 := Nat.not_le.mp (fun q => c_3 (ek ▸ nI_le (a := 4) q hk1))
            obtain ⟨w0, hw0, ew⟩ := nI_of1 (n := 32) (by decide) (Int32.not_lt.mp c_4) c_5
            have hT : 32 * k.toNatClampNeg + w.toNatClampNeg - 1 = 32 * k1 + w0 := by rw [ek, ew, nI_clamp hk1, nI_clamp (by omega)]; omega
            refine lv_aload_n hx hb d_M_holds_33 rfl (lv_at hl 0 rfl) ?_
            refine gf_M_76 X (aM0 hW) rfl d_M_holds_34 ?_
            refine lv_if_ne (tgt := 65) hx hb d_M_holds_37 (by decide) (fun c_6 => ?_) (fun c_6 => ?_)
            · have u_c_6 := Decidable.not_not.mp (fun q => c_6 (dn_0.mpr q))
              refine lv_bipush (v := -3) hx hb d_M_holds_65 (by decide) ?_
              exact leafI (val := valM) (cell := cellM) X hr hlocks hS (u2 := (lay, d)) hW (v := (-3)) ⟨by simp [sp_holds, hT, hix, c_2, c_3, c_4, c_5, u_c_6], by simp [sp_holds, hT, hix, c_2, c_3, c_4, c_5, u_c_6]⟩ d_M_holds_67
            · have u_c_6 := dn_0.mp c_6
              refine lv_aload_n hx hb d_M_holds_40 rfl (lv_at hl 0 rfl) ?_
              refine gf_M_33 X (aM0 hW) rfl d_M_holds_41 ?_
              refine lv_iload_n hx hb d_M_holds_44 rfl (lv_at hl 1 rfl) ?_
              refine rn_zaldE X 2 (aM8 hW) rfl (t := (j + 1)) rfl (by omega) (by decide) (v := (gI d 12 j 0)) rfl d_M_holds_45 ?_
              refine lv_if_eq (tgt := 65) hx hb d_M_holds_46 (by decide) (fun c_7 => ?_) (fun c_7 => ?_)
              · refine lv_bipush (v := -3) hx hb d_M_holds_65 (by decide) ?_
                exact leafI (val := valM) (cell := cellM) X hr hlocks hS (u2 := (lay, d)) hW (v := (-3)) ⟨by simp [sp_holds, hT, hix, c_2, c_3, c_4, c_5, u_c_6, c_7], by simp [sp_holds, hT, hix, c_2, c_3, c_4, c_5, u_c_6, c_7]⟩ d_M_holds_67
              · refine lv_aload_n hx hb d_M_holds_49 rfl (lv_at hl 0 rfl) ?_
                refine gf_M_48 X (aM0 hW) rfl d_M_holds_50 ?_
                refine lv_bipush (v := 32) hx hb d_M_holds_53 (by decide) ?_
                refine lv_iload_n hx hb d_M_holds_55 rfl (lv_at hl 2 rfl) ?_
                refine lv_imul hx hb d_M_holds_56 ?_
                refine lv_iload_n hx hb d_M_holds_57 rfl (lv_at hl 3 rfl) ?_
                refine lv_iadd hx hb d_M_holds_58 ?_
                refine lv_iconst (v := 1) hx hb d_M_holds_59 (by decide) ?_
                refine lv_isub hx hb d_M_holds_60 ?_
                refine rn_iald X 0 (aM13 hW) rfl (t := (32 * k1 + w0)) (by rw [ek, ew]; exact hld_ix2 k1 w0) (by omega) (by decide) d_M_holds_61 ?_
                refine lv_if_le (tgt := 68) hx hb d_M_holds_62 (by decide) (fun c_8 => ?_) (fun c_8 => ?_)
                · obtain ⟨h0, hh0, eh⟩ := hhold (32 * k1 + w0) (by omega)
                  rw [le0 eh (by omega)] at c_8
                  refine lv_aload_n hx hb d_M_holds_68 rfl (lv_at hl 0 rfl) ?_
                  refine gf_M_48 X (aM0 hW) rfl d_M_holds_69 ?_
                  refine lv_bipush (v := 32) hx hb d_M_holds_72 (by decide) ?_
                  refine lv_iload_n hx hb d_M_holds_74 rfl (lv_at hl 2 rfl) ?_
                  refine lv_imul hx hb d_M_holds_75 ?_
                  refine lv_iload_n hx hb d_M_holds_76 rfl (lv_at hl 3 rfl) ?_
                  refine lv_iadd hx hb d_M_holds_77 ?_
                  refine lv_iconst (v := 1) hx hb d_M_holds_78 (by decide) ?_
                  refine lv_isub hx hb d_M_holds_79 ?_
                  refine lv_iload_n hx hb d_M_holds_80 rfl (lv_at hl 1 rfl) ?_
                  refine rn_iast X 0 (aM13 hW) rfl hS (wfr 13 0 ⟨by decide, rfl⟩) (t := (32 * k1 + w0)) (by rw [ek, ew]; exact hld_ix2 k1 w0) (by omega) (by decide) d_M_holds_81 (fun H locs hat hch hS => ?_)
                  have hW := wpM_aI2 (t := (32 * k1 + w0)) hW hat hch
                  refine lv_iconst (v := 0) hx hb d_M_holds_82 (by decide) ?_
                  refine lv_istore (lv' := [(4, .int 0), (0, .ref (lay 0 0)), (1, .int (nI (j + 1))), (2, .int k), (3, .int w)]) hx hb d_M_holds_83 hl (by decide) rfl (fun ls hl => ?_)
                  refine lv_iconst (v := 0) hx hb d_M_holds_85 (by decide) ?_
                  refine lv_istore (lv' := [(5, .int 0), (4, .int 0), (0, .ref (lay 0 0)), (1, .int (nI (j + 1))), (2, .int k), (3, .int w)]) hx hb d_M_holds_86 hl (by decide) rfl (fun ls hl => ?_)
                  have loop : ∀ (n i : Nat) (a4 : Int32) (ls : Array Slot), i ≤ 128 → 128 + 1 ≤ i + n → a4 = cnt (gI (sI d 2 0 (32 * k1 + w0) (nI (j + 1))) 2 0) (nI (j + 1)) i → lv_has ls 6 [(5, .int (nI i)), (4, .int a4), (0, .ref (lay 0 0)), (1, .int (nI (j + 1))), (2, .int k), (3, .int w)] → W p l e { frames := 1, cells := 0, slots := 0, locals := 21 } s m [.ref (lay 0 0), .int (nI (j + 1)), .int k, .int w].toArray below meth c H locs 0 0 (MQ below (va_Qi (fun r u => r = (sp_holds d (nI (j + 1)) k w).1 ∧ u = (lay, (sp_holds d (nI (j + 1)) k w).2)) (WB D classes (tysA ct) valM (fun u : CS => u.1) (cellM ct)) (Wfr (valM (lay, d)) lay s.heap.size)) [.ref (lay 0 0), .int (nI (j + 1)), .int k, .int w].toArray s 0 0 (Wfr (valM (lay, d)) lay s.heap.size)) (F0 m 88 ls []) := by
                    intro n
                    induction n with
                    | zero => intro i a4 ls h1 h2; exact absurd h2 (by omega)
                    | succ n ih =>
                      intro i a4 ls hi hn ea hl
                      refine lv_iload hx hb d_M_holds_88 (lv_at hl 0 rfl) ?_
                      refine lv_sipush (v := 128) hx hb d_M_holds_90 (by decide) ?_
                      refine lv_icmp_ge (tgt := 124) hx hb d_M_holds_93 (by decide) (fun c_9 => ?_) (fun c_9 => ?_)
                      · have hq : i = 128 := lp_out (by decide) hi c_9
                        refine lv_iload hx hb d_M_holds_124 (lv_at hl 1 rfl) ?_
                        exact leafI (val := valM) (cell := cellM) X hr hlocks hS (u2 := (lay, (sI d 2 0 (32 * k1 + w0) (nI (j + 1))))) hW (v := a4) ⟨by rw [ea, hq]; simp [sp_holds, hT, hix, c_2, c_3, c_4, c_5, u_c_6, c_7, c_8], by simp [sp_holds, hT, hix, c_2, c_3, c_4, c_5, u_c_6, c_7, c_8]⟩ d_M_holds_126
                      · have hq : i < 128 := lp_in (by decide) hi c_9
                        refine lv_aload_n hx hb d_M_holds_96 rfl (lv_at hl 2 rfl) ?_
                        refine gf_M_48 X (aM0 hW) rfl d_M_holds_97 ?_
                        refine lv_iload hx hb d_M_holds_100 (lv_at hl 0 rfl) ?_
                        refine rn_iald X 0 (aM13 hW) rfl (t := i) rfl (by omega) (by decide) d_M_holds_102 ?_
                        refine lv_iload_n hx hb d_M_holds_103 rfl (lv_at hl 3 rfl) ?_
                        refine lv_icmp_ne (tgt := 114) hx hb d_M_holds_104 (by decide) (fun c_10 => ?_) (fun c_10 => ?_)
                        · refine lv_iload hx hb d_M_holds_114 (lv_at hl 1 rfl) ?_
                          refine lv_istore (lv' := [(4, .int a4), (5, .int (nI i)), (0, .ref (lay 0 0)), (1, .int (nI (j + 1))), (2, .int k), (3, .int w)]) hx hb d_M_holds_116 hl (by decide) rfl (fun ls hl => ?_)
                          refine lv_iinc (v := nI (i + 1)) (lv' := [(5, .int (nI (i + 1))), (4, .int a4), (0, .ref (lay 0 0)), (1, .int (nI (j + 1))), (2, .int k), (3, .int w)]) hx hb d_M_holds_118 hl (k := 1) rfl (nI_inc _) (by decide) rfl (fun ls hl => ?_)
                          refine lv_goto (tgt := 88) hx hb d_M_holds_121 (by decide) ?_
                          exact ih (i + 1) _ ls (by omega) (by omega) (by rw [ea, cnt_n c_10]) (lv_sub hl [0, 1, 2, 3, 4, 5] rfl)
                        · refine lv_iload hx hb d_M_holds_107 (lv_at hl 1 rfl) ?_
                          refine lv_iconst (v := 1) hx hb d_M_holds_109 (by decide) ?_
                          refine lv_iadd hx hb d_M_holds_110 ?_
                          refine lv_goto (tgt := 116) hx hb d_M_holds_111 (by decide) ?_
                          refine lv_istore (lv' := [(4, .int (a4 + 1)), (5, .int (nI i)), (0, .ref (lay 0 0)), (1, .int (nI (j + 1))), (2, .int k), (3, .int w)]) hx hb d_M_holds_116 hl (by decide) rfl (fun ls hl => ?_)
                          refine lv_iinc (v := nI (i + 1)) (lv' := [(5, .int (nI (i + 1))), (4, .int (a4 + 1)), (0, .ref (lay 0 0)), (1, .int (nI (j + 1))), (2, .int k), (3, .int w)]) hx hb d_M_holds_118 hl (k := 1) rfl (nI_inc _) (by decide) rfl (fun ls hl => ?_)
                          refine lv_goto (tgt := 88) hx hb d_M_holds_121 (by decide) ?_
                          exact ih (i + 1) _ ls (by omega) (by omega) (by rw [ea, cnt_y c_10]) (lv_sub hl [0, 1, 2, 3, 4, 5] rfl)
                  exact loop 129 0 0 ls (by omega) (by omega) rfl (lv_sub hl [0, 1, 2, 3, 4, 5] rfl)
                · obtain ⟨h0, hh0, eh⟩ := hhold (32 * k1 + w0) (by omega)
                  rw [le0 eh (by omega)] at c_8
                  refine lv_bipush (v := -3) hx hb d_M_holds_65 (by decide) ?_
                  exact leafI (val := valM) (cell := cellM) X hr hlocks hS (u2 := (lay, d)) hW (v := (-3)) ⟨by simp [sp_holds, hT, hix, c_2, c_3, c_4, c_5, u_c_6, c_7, c_8], by simp [sp_holds, hT, hix, c_2, c_3, c_4, c_5, u_c_6, c_7, c_8]⟩ d_M_holds_67
          · refine lv_bipush (v := -2) hx hb d_M_holds_30 (by decide) ?_
            exact leafI (val := valM) (cell := cellM) X hr hlocks hS (u2 := (lay, d)) hW (v := (-2)) ⟨by simp [sp_holds, hix, c_2, c_3, c_4, c_5], by simp [sp_holds, hix, c_2, c_3, c_4, c_5]⟩ d_M_holds_32
  · have hW : WM D ct (lay, d) H := hW
    refine lv_if_eq (tgt := 10) hx hb d_M_holds_5 (by decide) (fun c_11 => absurd c_11 (by decide)) (fun _ => ?_)
    refine lv_iconst (v := -1) hx hb d_M_holds_8 (by decide) ?_
    exact leafI (val := valM) (cell := cellM) X hr hlocks hS (u2 := (lay, d)) hW (v := (-1)) ⟨by simp [sp_holds, hix], by simp [sp_holds, hix]⟩ d_M_holds_9
set_option maxHeartbeats 4000000 in
set_option maxRecDepth 100000 in
theorem c_M_log (l : Launch) (D : va_G) (ct : Nat → ClassId) (lay : Nat → Nat → Nat) (d : DC) (sz : Nat) (i w : Int32) :
    CoI valM cellM l D ct y_M_log b_M_log 3 (some .int) { frames := 0, cells := 0, slots := 0, locals := 0 } (lay, d) sz [.ref (lay 0 0), .int i, .int w] (fun r u => r = sp_tell d 1 i w ∧ u = (lay, d)) := by
  refine co_of (by decide) (Nat.le_of_ble_eq_true rfl) (fun p e s m below meth c X hr hlocks hnm hsz hW ls hl => ?_)
  subst hsz
  have hx := X.1.1
  have hb := X.1.2.1
  have hS : va_S (Wfr (valM (lay, d)) lay s.heap.size) s.heap s.heap [] := va_S.rf
  have hl : lv_has ls 3 [(0, .ref (lay 0 0)), (1, .int i), (2, .int w)] := hl
  refine lv_aload_n hx hb d_M_log_0 rfl (lv_at hl 0 rfl) ?_
  refine lv_iconst (v := 0) hx hb d_M_log_1 (by decide) ?_
  refine pf_M_66 X (aM0 hW) hS (wfr 0 0 ⟨by decide, rfl⟩) rfl rfl (Nat.le_of_ble_eq_true rfl) d_M_log_2 (fun H locs hat hch hS => ?_)
  have hW := wpM_code hW hat hch
  refine lv_iload_n hx hb d_M_log_5 rfl (lv_at hl 1 rfl) ?_
  refine lv_iconst (v := -1) hx hb d_M_log_6 (by decide) ?_
  refine lv_icmp_ne (tgt := 19) hx hb d_M_log_7 (by decide) (fun c_1 => ?_) (fun c_1 => ?_)
  · refine lv_iload_n hx hb d_M_log_19 rfl (lv_at hl 1 rfl) ?_
    refine lv_if_lt (tgt := 38) hx hb d_M_log_20 (by decide) (fun c_2 => ?_) (fun c_2 => ?_)
    · refine lv_iconst (v := -1) hx hb d_M_log_38 (by decide) ?_
      exact leafI (val := valM) (cell := cellM) X hr hlocks hS (u2 := (lay, d)) hW (v := (-1)) ⟨by simp [sp_tell, c_1, c_2], rfl⟩ d_M_log_39
    · refine lv_iload_n hx hb d_M_log_23 rfl (lv_at hl 1 rfl) ?_
      refine lv_aload_n hx hb d_M_log_24 rfl (lv_at hl 0 rfl) ?_
      refine gf_M_107 X (aM0 hW) rfl d_M_log_25 ?_
      refine lv_icmp_ge (tgt := 38) hx hb d_M_log_28 (by decide) (fun c_3 => ?_) (fun c_3 => ?_)
      · refine lv_iconst (v := -1) hx hb d_M_log_38 (by decide) ?_
        exact leafI (val := valM) (cell := cellM) X hr hlocks hS (u2 := (lay, d)) hW (v := (-1)) ⟨by simp [sp_tell, c_1, c_2, c_3], rfl⟩ d_M_log_39
      · refine lv_iload_n hx hb d_M_log_31 rfl (lv_at hl 1 rfl) ?_
        refine lv_sipush (v := 499) hx hb d_M_log_32 (by decide) ?_
        refine lv_icmp_le (tgt := 40) hx hb d_M_log_35 (by decide) (fun c_4 => ?_) (fun c_4 => ?_)
        · rw [le499] at c_4
          refine lv_iload_n hx hb d_M_log_40 rfl (lv_at hl 2 rfl) ?_
          refine lv_if_lt (tgt := 49) hx hb d_M_log_41 (by decide) (fun c_5 => ?_) (fun c_5 => ?_)
          · refine lv_bipush (v := -2) hx hb d_M_log_49 (by decide) ?_
            refine lv_goto (tgt := 64) hx hb d_M_log_51 (by decide) ?_
            exact leafI (val := valM) (cell := cellM) X hr hlocks hS (u2 := (lay, d)) hW (v := (-2)) ⟨by simp [sp_tell, c_1, c_2, c_3, c_4, c_5], rfl⟩ d_M_log_64
          · refine lv_iload_n hx hb d_M_log_44 rfl (lv_at hl 2 rfl) ?_
            refine lv_iconst (v := 3) hx hb d_M_log_45 (by decide) ?_
            refine lv_icmp_le (tgt := 54) hx hb d_M_log_46 (by decide) (fun c_6 => ?_) (fun c_6 => ?_)
            · have c_6 :  w < nI (3 + 1) := by have h9 := c_6; rw [le3] at h9; exact h9
              obtain ⟨i1, hi1, ei⟩ := nI_of c_2
              obtain ⟨w1, hw1, ew⟩ := nI_of c_5
              have hi2 : i1 < 500 := (nI_ltI (b := 500) hi1 (by decide)).mp (ei ▸ c_4)
              have hw2 : w1 < 4 := (nI_ltI (b := 4) hw1 (by decide)).mp (ew ▸ c_6)
              refine lv_aload_n hx hb d_M_log_54 rfl (lv_at hl 0 rfl) ?_
              refine gf_M_63 X (aM0 hW) rfl d_M_log_55 ?_
              refine lv_iconst (v := 4) hx hb d_M_log_58 (by decide) ?_
              refine lv_iload_n hx hb d_M_log_59 rfl (lv_at hl 1 rfl) ?_
              refine lv_imul hx hb d_M_log_60 ?_
              refine lv_iload_n hx hb d_M_log_61 rfl (lv_at hl 2 rfl) ?_
              refine lv_iadd hx hb d_M_log_62 ?_
              refine rn_iald X 0 (aM18 hW) rfl (t := (4 * i1 + w1)) (by rw [ei, ew]; exact ix4mk i1 w1) (by omega) (by decide) d_M_log_63 ?_
              exact leafI (val := valM) (cell := cellM) X hr hlocks hS (u2 := (lay, d)) hW (v := gI d 7 1 (4 * i1 + w1)) ⟨by simp only [sp_tell]; rw [show i.toNatClampNeg = i1 by rw [ei]; exact nI_clamp hi1, show w.toNatClampNeg = w1 by rw [ew]; exact nI_clamp hw1]; simp [c_1, c_2, c_3, c_4, c_5, c_6], rfl⟩ d_M_log_64
            · have c_6 : ¬ w < nI (3 + 1) := by have h9 := c_6; rw [le3] at h9; exact h9
              refine lv_bipush (v := -2) hx hb d_M_log_49 (by decide) ?_
              refine lv_goto (tgt := 64) hx hb d_M_log_51 (by decide) ?_
              exact leafI (val := valM) (cell := cellM) X hr hlocks hS (u2 := (lay, d)) hW (v := (-2)) ⟨by simp [sp_tell, c_1, c_2, c_3, c_4, c_5, c_6], rfl⟩ d_M_log_64
        · rw [le499] at c_4
          refine lv_iconst (v := -1) hx hb d_M_log_38 (by decide) ?_
          exact leafI (val := valM) (cell := cellM) X hr hlocks hS (u2 := (lay, d)) hW (v := (-1)) ⟨by simp [sp_tell, c_1, c_2, c_3, c_4], rfl⟩ d_M_log_39
  · refine lv_iload_n hx hb d_M_log_10 rfl (lv_at hl 2 rfl) ?_
    refine lv_if_ne (tgt := 19) hx hb d_M_log_11 (by decide) (fun c_7 => ?_) (fun c_7 => ?_)
    · refine lv_iload_n hx hb d_M_log_19 rfl (lv_at hl 1 rfl) ?_
      refine lv_if_lt (tgt := 38) hx hb d_M_log_20 (by decide) (fun c_8 => ?_) (fun c_8 => ?_)
      · refine lv_iconst (v := -1) hx hb d_M_log_38 (by decide) ?_
        exact leafI (val := valM) (cell := cellM) X hr hlocks hS (u2 := (lay, d)) hW (v := (-1)) ⟨by simp [sp_tell, c_1, c_7, c_8], rfl⟩ d_M_log_39
      · exact absurd (by rw [c_1]; decide) c_8
    · refine lv_aload_n hx hb d_M_log_14 rfl (lv_at hl 0 rfl) ?_
      refine gf_M_107 X (aM0 hW) rfl d_M_log_15 ?_
      exact leafI (val := valM) (cell := cellM) X hr hlocks hS (u2 := (lay, d)) hW (v := gI d 5 1 0) ⟨by simp [sp_tell, c_1, c_7], rfl⟩ d_M_log_18
set_option maxHeartbeats 4000000 in
set_option maxRecDepth 100000 in
theorem c_M_cleaned (l : Launch) (D : va_G) (ct : Nat → ClassId) (lay : Nat → Nat → Nat) (d : DC) (sz : Nat) (i w : Int32) (hcl : ∀ i, i < 500 → nI i < gI d 5 0 0 → gI d 7 0 (4 * i) = gI d 20 0 i ∧ ∃ p, p < 128 ∧ gI d 21 0 i = nI p ∧ gI d 7 0 (4 * i + 1) = nI (p / 32) ∧ gI d 7 0 (4 * i + 2) = nI (p % 32 + 1)) :
    CoI valM cellM l D ct y_M_cleaned b_M_cleaned 3 (some .int) { frames := 0, cells := 0, slots := 0, locals := 0 } (lay, d) sz [.ref (lay 0 0), .int i, .int w] (fun r u => r = sp_tell d 0 i w ∧ u = (lay, d)) := by
  refine co_of (by decide) (Nat.le_of_ble_eq_true rfl) (fun p e s m below meth c X hr hlocks hnm hsz hW ls hl => ?_)
  subst hsz
  have hx := X.1.1
  have hb := X.1.2.1
  have hS : va_S (Wfr (valM (lay, d)) lay s.heap.size) s.heap s.heap [] := va_S.rf
  have hl : lv_has ls 3 [(0, .ref (lay 0 0)), (1, .int i), (2, .int w)] := hl
  refine lv_aload_n hx hb d_M_cleaned_0 rfl (lv_at hl 0 rfl) ?_
  refine lv_iconst (v := 0) hx hb d_M_cleaned_1 (by decide) ?_
  refine pf_M_66 X (aM0 hW) hS (wfr 0 0 ⟨by decide, rfl⟩) rfl rfl (Nat.le_of_ble_eq_true rfl) d_M_cleaned_2 (fun H locs hat hch hS => ?_)
  have hW := wpM_code hW hat hch
  refine lv_iload_n hx hb d_M_cleaned_5 rfl (lv_at hl 1 rfl) ?_
  refine lv_iconst (v := -1) hx hb d_M_cleaned_6 (by decide) ?_
  refine lv_icmp_ne (tgt := 19) hx hb d_M_cleaned_7 (by decide) (fun c_1 => ?_) (fun c_1 => ?_)
  · refine lv_iload_n hx hb d_M_cleaned_19 rfl (lv_at hl 1 rfl) ?_
    refine lv_if_lt (tgt := 38) hx hb d_M_cleaned_20 (by decide) (fun c_2 => ?_) (fun c_2 => ?_)
    · refine lv_iconst (v := -1) hx hb d_M_cleaned_38 (by decide) ?_
      exact leafI (val := valM) (cell := cellM) X hr hlocks hS (u2 := (lay, d)) hW (v := (-1)) ⟨by simp [sp_tell, c_1, c_2], rfl⟩ d_M_cleaned_39
    · refine lv_iload_n hx hb d_M_cleaned_23 rfl (lv_at hl 1 rfl) ?_
      refine lv_aload_n hx hb d_M_cleaned_24 rfl (lv_at hl 0 rfl) ?_
      refine gf_M_91 X (aM0 hW) rfl d_M_cleaned_25 ?_
      refine lv_icmp_ge (tgt := 38) hx hb d_M_cleaned_28 (by decide) (fun c_3 => ?_) (fun c_3 => ?_)
      · refine lv_iconst (v := -1) hx hb d_M_cleaned_38 (by decide) ?_
        exact leafI (val := valM) (cell := cellM) X hr hlocks hS (u2 := (lay, d)) hW (v := (-1)) ⟨by simp [sp_tell, c_1, c_2, c_3], rfl⟩ d_M_cleaned_39
      · refine lv_iload_n hx hb d_M_cleaned_31 rfl (lv_at hl 1 rfl) ?_
        refine lv_sipush (v := 499) hx hb d_M_cleaned_32 (by decide) ?_
        refine lv_icmp_le (tgt := 40) hx hb d_M_cleaned_35 (by decide) (fun c_4 => ?_) (fun c_4 => ?_)
        · rw [le499] at c_4
          refine lv_iload_n hx hb d_M_cleaned_40 rfl (lv_at hl 2 rfl) ?_
          refine lv_if_lt (tgt := 49) hx hb d_M_cleaned_41 (by decide) (fun c_5 => ?_) (fun c_5 => ?_)
          · refine lv_bipush (v := -2) hx hb d_M_cleaned_49 (by decide) ?_
            exact leafI (val := valM) (cell := cellM) X hr hlocks hS (u2 := (lay, d)) hW (v := (-2)) ⟨by simp [sp_tell, c_1, c_2, c_3, c_4, c_5], rfl⟩ d_M_cleaned_51
          · refine lv_iload_n hx hb d_M_cleaned_44 rfl (lv_at hl 2 rfl) ?_
            refine lv_iconst (v := 2) hx hb d_M_cleaned_45 (by decide) ?_
            refine lv_icmp_le (tgt := 52) hx hb d_M_cleaned_46 (by decide) (fun c_6 => ?_) (fun c_6 => ?_)
            · have c_6 :  w < nI (3 + 0) := by have h9 := c_6; rw [le2] at h9; exact h9
              obtain ⟨i1, hi1, ei⟩ := nI_of c_2
              obtain ⟨w1, hw1, ew⟩ := nI_of c_5
              have hi2 : i1 < 500 := (nI_ltI (b := 500) hi1 (by decide)).mp (ei ▸ c_4)
              have hw2 : w1 < 3 := (nI_ltI (b := 3) hw1 (by decide)).mp (ew ▸ c_6)
              obtain ⟨hc0, p0, hp0, hc1, hc2, hc3⟩ := hcl i1 hi2 (ei ▸ Int32.not_le.mp c_3)
              have hT : sp_tell d 0 i w = gI d 7 0 (4 * i1 + w1) := by simp only [sp_tell]; rw [show i.toNatClampNeg = i1 by rw [ei]; exact nI_clamp hi1, show w.toNatClampNeg = w1 by rw [ew]; exact nI_clamp hw1]; simp [c_1, c_2, c_3, c_4, c_5, c_6]
              refine lv_iload_n hx hb d_M_cleaned_52 rfl (lv_at hl 2 rfl) ?_
              refine lv_if_ne (tgt := 65) hx hb d_M_cleaned_53 (by decide) (fun c_7 => ?_) (fun c_7 => ?_)
              · have hw0 : ¬ w1 = 0 := fun q => c_7 (by rw [ew, q]; rfl)
                refine lv_iload_n hx hb d_M_cleaned_65 rfl (lv_at hl 2 rfl) ?_
                refine lv_iconst (v := 1) hx hb d_M_cleaned_66 (by decide) ?_
                refine lv_icmp_ne (tgt := 82) hx hb d_M_cleaned_67 (by decide) (fun c_8 => ?_) (fun c_8 => ?_)
                · have hw3 : w1 = 2 := by have : ¬ w1 = 1 := fun q => c_8 (by rw [ew, q]; rfl)
                                          omega
                  refine lv_aload_n hx hb d_M_cleaned_82 rfl (lv_at hl 0 rfl) ?_
                  refine gf_M_60 X (aM0 hW) rfl d_M_cleaned_83 ?_
                  refine lv_iload_n hx hb d_M_cleaned_86 rfl (lv_at hl 1 rfl) ?_
                  refine rn_iald X 0 (aM17 hW) rfl (t := i1) ei hi2 (by decide) d_M_cleaned_87 ?_
                  refine lv_bipush (v := 32) hx hb d_M_cleaned_88 (by decide) ?_
                  refine lv_irem hx hb d_M_cleaned_90 (by decide) ?_
                  refine lv_iconst (v := 1) hx hb d_M_cleaned_91 (by decide) ?_
                  refine lv_iadd hx hb d_M_cleaned_92 ?_
                  exact leafI (val := valM) (cell := cellM) X hr hlocks hS (u2 := (lay, d)) hW (v := ((gI d 21 0 i1 - gI d 21 0 i1 / 32 * 32) + 1)) ⟨by rw [hT, hw3, hc3, hc1, ← nI_1]; exact congrArg (· + 1) (pk_rem (d := 32) (by omega) (by decide) (by decide)), rfl⟩ d_M_cleaned_93
                · have hw3 : w1 = 1 := (nI_eq (b := 1) hw1 (by decide)).mp (ew ▸ c_8)
                  refine lv_aload_n hx hb d_M_cleaned_70 rfl (lv_at hl 0 rfl) ?_
                  refine gf_M_60 X (aM0 hW) rfl d_M_cleaned_71 ?_
                  refine lv_iload_n hx hb d_M_cleaned_74 rfl (lv_at hl 1 rfl) ?_
                  refine rn_iald X 0 (aM17 hW) rfl (t := i1) ei hi2 (by decide) d_M_cleaned_75 ?_
                  refine lv_bipush (v := 32) hx hb d_M_cleaned_76 (by decide) ?_
                  refine lv_idiv hx hb d_M_cleaned_78 (by decide) ?_
                  refine lv_goto (tgt := 93) hx hb d_M_cleaned_79 (by decide) ?_
                  exact leafI (val := valM) (cell := cellM) X hr hlocks hS (u2 := (lay, d)) hW (v := (gI d 21 0 i1 / 32)) ⟨by rw [hT, hw3, hc2, hc1]; exact pk_div (d := 32) (by omega) (by decide) (by decide), rfl⟩ d_M_cleaned_93
              · have hw0 : w1 = 0 := (nI_eq (b := 0) hw1 (by decide)).mp (ew ▸ c_7)
                refine lv_aload_n hx hb d_M_cleaned_56 rfl (lv_at hl 0 rfl) ?_
                refine gf_M_57 X (aM0 hW) rfl d_M_cleaned_57 ?_
                refine lv_iload_n hx hb d_M_cleaned_60 rfl (lv_at hl 1 rfl) ?_
                refine rn_iald X 0 (aM16 hW) rfl (t := i1) ei hi2 (by decide) d_M_cleaned_61 ?_
                refine lv_goto (tgt := 93) hx hb d_M_cleaned_62 (by decide) ?_
                exact leafI (val := valM) (cell := cellM) X hr hlocks hS (u2 := (lay, d)) hW (v := gI d 20 0 i1) ⟨by rw [hT, hw0]; exact hc0.symm, rfl⟩ d_M_cleaned_93
            · have c_6 : ¬ w < nI (3 + 0) := by have h9 := c_6; rw [le2] at h9; exact h9
              refine lv_bipush (v := -2) hx hb d_M_cleaned_49 (by decide) ?_
              exact leafI (val := valM) (cell := cellM) X hr hlocks hS (u2 := (lay, d)) hW (v := (-2)) ⟨by simp [sp_tell, c_1, c_2, c_3, c_4, c_5, c_6], rfl⟩ d_M_cleaned_51
        · rw [le499] at c_4
          refine lv_iconst (v := -1) hx hb d_M_cleaned_38 (by decide) ?_
          exact leafI (val := valM) (cell := cellM) X hr hlocks hS (u2 := (lay, d)) hW (v := (-1)) ⟨by simp [sp_tell, c_1, c_2, c_3, c_4], rfl⟩ d_M_cleaned_39
  · refine lv_iload_n hx hb d_M_cleaned_10 rfl (lv_at hl 2 rfl) ?_
    refine lv_if_ne (tgt := 19) hx hb d_M_cleaned_11 (by decide) (fun c_9 => ?_) (fun c_9 => ?_)
    · refine lv_iload_n hx hb d_M_cleaned_19 rfl (lv_at hl 1 rfl) ?_
      refine lv_if_lt (tgt := 38) hx hb d_M_cleaned_20 (by decide) (fun c_10 => ?_) (fun c_10 => ?_)
      · refine lv_iconst (v := -1) hx hb d_M_cleaned_38 (by decide) ?_
        exact leafI (val := valM) (cell := cellM) X hr hlocks hS (u2 := (lay, d)) hW (v := (-1)) ⟨by simp [sp_tell, c_1, c_9, c_10], rfl⟩ d_M_cleaned_39
      · exact absurd (by rw [c_1]; decide) c_10
    · refine lv_aload_n hx hb d_M_cleaned_14 rfl (lv_at hl 0 rfl) ?_
      refine gf_M_91 X (aM0 hW) rfl d_M_cleaned_15 ?_
      exact leafI (val := valM) (cell := cellM) X hr hlocks hS (u2 := (lay, d)) hW (v := gI d 5 0 0) ⟨by simp [sp_tell, c_1, c_9], rfl⟩ d_M_cleaned_18
