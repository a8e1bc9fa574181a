set_option maxHeartbeats 4000000 in
set_option maxRecDepth 100000 in
theorem c_P_clean (l : Launch) (D : va_G) (ct : Nat → ClassId) (lay : Nat → Nat → Nat) (d : DC) (sz : Nat) (t0 : Nat) (ht : t0 < 128) (j : Nat) (hj : j < dnt d) (hna : dna d ≤ 16) (hnt : dnt d ≤ 60) (c0 : Nat) (hc : c0 < 2147483647) (hc0 : gI d 5 0 0 = nI c0) :
    CoV valC cellC l D ct y_P_clean b_P_clean 4 { frames := 1, cells := 0, slots := 0, locals := 25 } (lay, d) sz [.ref (lay 0 0), .int (nI t0), .ref (lay 11 j)] (fun u => u = (lay, sp_clean d t0 j)) := by
  refine co_of (by decide) (Nat.le_of_ble_eq_true rfl) (fun p e s m below meth c X hr hlocks hnm hsz hW ls hl => ?_)
  subst hsz
  have hx := X.1.1
  have hb := X.1.2.1
  have hS : va_S (Wfr (valC (lay, d)) lay s.heap.size) s.heap s.heap [] := va_S.rf
  have hl : lv_has ls 4 [(0, .ref (lay 0 0)), (1, .int (nI t0)), (2, .ref (lay 11 j))] := hl
  refine lv_iload_n hx hb d_P_clean_0 rfl (lv_at hl 1 rfl) ?_
  refine lv_bipush (v := 32) hx hb d_P_clean_1 (by decide) ?_
  refine lv_idiv hx hb d_P_clean_3 (by decide) ?_
  refine lv_topi (fun y_1 ey_1 => ?_)
  obtain rfl : y_1 = nI (t0 / 32) := ey_1.trans (pk_div (d := 32) (by omega) (by decide) (by decide))
  refine lv_istore_n (lv' := [(3, .int (nI (t0 / 32))), (0, .ref (lay 0 0)), (1, .int (nI t0)), (2, .ref (lay 11 j))]) hx hb d_P_clean_4 rfl hl (by decide) rfl (fun ls hl => ?_)
  refine lv_aload_n hx hb d_P_clean_5 rfl (lv_at hl 1 rfl) ?_
  refine gf_P_21 X (aC0 hW) rfl d_P_clean_6 ?_
  refine lv_iload_n hx hb d_P_clean_9 rfl (lv_at hl 2 rfl) ?_
  refine lv_iconst (v := 0) hx hb d_P_clean_10 (by decide) ?_
  refine rn_iast X 0 (aC3 hW) rfl hS (wfr 3 0 rfl) (t := t0) rfl ht (by decide) d_P_clean_11 (fun H locs hat hch hS => ?_)
  have hW := wpC_aI2 hW hat hch
  refine lv_aload_n hx hb d_P_clean_12 rfl (lv_at hl 1 rfl) ?_
  refine gf_P_37 X (aC0 hW) rfl d_P_clean_13 ?_
  refine lv_aload_n hx hb d_P_clean_16 rfl (lv_at hl 3 rfl) ?_
  refine gf_P_85 X (aC11 hW hj) rfl d_P_clean_17 ?_
  refine lv_iload_n hx hb d_P_clean_20 rfl (lv_at hl 0 rfl) ?_
  refine lv_iload_n hx hb d_P_clean_21 rfl (lv_at hl 2 rfl) ?_
  refine lv_bipush (v := 32) hx hb d_P_clean_22 (by decide) ?_
  refine lv_irem hx hb d_P_clean_24 (by decide) ?_
  refine lv_topi (fun y_2 ey_2 => ?_)
  obtain rfl : y_2 = nI (t0 % 32) := ey_2.trans (pk_rem (d := 32) (by omega) (by decide) (by decide))
  refine lv_iconst (v := 1) hx hb d_P_clean_25 (by decide) ?_
  refine lv_iadd hx hb d_P_clean_26 ?_
  refine lv_topi (fun y_3 ey_3 => ?_)
  obtain rfl : y_3 = nI (t0 % 32 + 1) := ey_3.trans (nI_1 _)
  refine lv_iconst (v := 0) hx hb d_P_clean_27 (by decide) ?_
  refine wc_callv (val := valC) (lay := fun u : CS => u.1) (cell := cellC ct) (u0 := (lay, (sI d 2 0 t0 0))) X (c_B_write l D ct lay (sI d 2 0 t0 0) _ 0 (by decide) (nI (j + 1)) (nI (t0 / 32)) (nI (t0 % 32 + 1)) 0 c0 hc hc0) (cw_P_142 X.1.2.2.2.2 rfl rfl ⟨Nat.le_of_ble_eq_true rfl, Nat.le_of_ble_eq_true rfl⟩) hW hS (fun q h => h.imp_right (fun z => Nat.le_trans hS.1 z)) (aC6 hW (by decide)) rfl rfl hl.1 rfl (Nat.le_of_ble_eq_true rfl) d_P_clean_28 ⟨Nat.le_of_ble_eq_true rfl, Nat.le_of_ble_eq_true rfl⟩ (fun u H locs hp hW hz hk hS => ?_)
  obtain rfl := hp
  obtain ⟨tI_q_4, tL_q_4, e_q_4⟩ := kp.ex ((kp_sI d 2 0 t0 0).tr (kp_write (sI d 2 0 t0 0) 0 (nI (j + 1)) (nI (t0 / 32)) (nI (t0 % 32 + 1)) 0))
  have hW : WC D ct (lay, (sp_write (sI d 2 0 t0 0) 0 (nI (j + 1)) (nI (t0 / 32)) (nI (t0 % 32 + 1)) 0)) H := hW
  rw [e_q_4] at hW
  have hW : WC D ct (lay, (mk d tI_q_4 tL_q_4)) H := hW
  refine lv_iload_n hx hb d_P_clean_31 rfl (lv_at hl 0 rfl) ?_
  refine lv_iconst (v := 3) hx hb d_P_clean_32 (by decide) ?_
  refine lv_icmp_ne (tgt := 52) hx hb d_P_clean_33 (by decide) (fun c_5 => ?_) (fun c_5 => ?_)
  · have hq : t0 < 96 := Nat.not_le.mp (fun q => c_5 (by rw [show t0 / 32 = 3 by omega]; rfl))
    rw [← e_q_4] at hW
    have hW := visC.wc (cl_lo hq) hW
    exact leafV (val := valC) (cell := cellC) X hr hlocks hS (u2 := (lay, sp_clean d t0 j)) hW rfl d_P_clean_52
  · have hq : ¬ t0 < 96 := fun q => by have h9 := (nI_eq (b := 3) (by omega) (by decide)).mp c_5; omega
    refine lv_aload_n hx hb d_P_clean_36 rfl (lv_at hl 1 rfl) ?_
    refine gf_P_127 X (aC0 hW) rfl d_P_clean_37 ?_
    refine lv_if_eq (tgt := 47) hx hb d_P_clean_40 (by decide) (fun c_6 => ?_) (fun c_6 => ?_)
    · rw [dl_0, ← e_q_4, cl_k] at c_6
      refine lv_aload_n hx hb d_P_clean_47 rfl (lv_at hl 1 rfl) ?_
      refine lv_iconst (v := 1) hx hb d_P_clean_48 (by decide) ?_
      refine pf_P_127 X (aC0 hW) hS (wfr 0 0 rfl) rfl rfl (Nat.le_of_ble_eq_true rfl) d_P_clean_49 (fun H locs hat hch hS => ?_)
      have hW := wpC_d (d := (mk d tI_q_4 tL_q_4)) 1 (by decide) hW hat hch
      rw [← e_q_4] at hW
      have hW := visC.wc (cl_hi0 hq c_6) hW
      exact leafV (val := valC) (cell := cellC) X hr hlocks hS (u2 := (lay, sp_clean d t0 j)) hW rfl d_P_clean_52
    · rw [dl_0, ← e_q_4, cl_k] at c_6
      refine lv_aload_n hx hb d_P_clean_43 rfl (lv_at hl 1 rfl) ?_
      refine wc_callv (val := valC) (lay := fun u : CS => u.1) (cell := cellC ct) (u0 := (lay, (mk d tI_q_4 tL_q_4))) X (c_P_shutDown l D ct lay (mk d tI_q_4 tL_q_4) _ hna hnt) (cw_P_146 X.1.2.2.2.2 rfl rfl ⟨Nat.le_of_ble_eq_true rfl, Nat.le_of_ble_eq_true rfl⟩) hW hS (fun q h => h.imp_right (fun z => Nat.le_trans hS.1 z)) (aC0 hW) rfl rfl hl.1 rfl (Nat.le_of_ble_eq_true rfl) d_P_clean_44 ⟨Nat.le_of_ble_eq_true rfl, Nat.le_of_ble_eq_true rfl⟩ (fun u H locs hp hW hz hk hS => ?_)
      obtain rfl := hp
      have hW : WC D ct (lay, (sp_shut (mk d tI_q_4 tL_q_4))) H := hW
      refine lv_aload_n hx hb d_P_clean_47 rfl (lv_at hl 1 rfl) ?_
      refine lv_iconst (v := 1) hx hb d_P_clean_48 (by decide) ?_
      refine pf_P_127 X (aC0 hW) hS (wfr 0 0 rfl) rfl rfl (Nat.le_of_ble_eq_true rfl) d_P_clean_49 (fun H locs hat hch hS => ?_)
      have hW := wpC_d (d := (sp_shut (mk d tI_q_4 tL_q_4))) 2 (by decide) hW hat hch
      rw [← e_q_4] at hW
      have hW := visC.wc (cl_hi1 hq c_6) hW
      exact leafV (val := valC) (cell := cellC) X hr hlocks hS (u2 := (lay, sp_clean d t0 j)) hW rfl d_P_clean_52
set_option maxHeartbeats 4000000 in
set_option maxRecDepth 100000 in
theorem c_P_endTask (l : Launch) (D : va_G) (ct : Nat → ClassId) (lay : Nat → Nat → Nat) (d : DC) (sz : Nat) (j : Nat) (hj : j < dnt d) (hna : dna d ≤ 16) (hnt : dnt d ≤ 60) (B B1 : Nat) (hB : B + 128 < 2147483647) (hok : okc d B B1) :
    CoV valC cellC l D ct y_P_endTask b_P_endTask 3 { frames := 2, cells := 0, slots := 0, locals := 48 } (lay, d) sz [.ref (lay 0 0), .ref (lay 11 j)] (fun u => u = (lay, sp_end d j)) := by
  refine co_of (by decide) (Nat.le_of_ble_eq_true rfl) (fun p e s m below meth c X hr hlocks hnm hsz hW ls hl => ?_)
  subst hsz
  have hx := X.1.1
  have hb := X.1.2.1
  have hS : va_S (Wfr (valC (lay, d)) lay s.heap.size) s.heap s.heap [] := va_S.rf
  have hl : lv_has ls 3 [(0, .ref (lay 0 0)), (1, .ref (lay 11 j))] := hl
  refine lv_aload_n hx hb d_P_endTask_0 rfl (lv_at hl 1 rfl) ?_
  refine lv_iconst (v := 0) hx hb d_P_endTask_1 (by decide) ?_
  refine pf_P_124 X (aC11 hW hj) hS (wfr 11 j hj) rfl rfl (Nat.le_of_ble_eq_true rfl) d_P_endTask_2 (fun H locs hat hch hS => ?_)
  have hW := wpC_I12 hW hj hat hch
  refine lv_iconst (v := 0) hx hb d_P_endTask_5 (by decide) ?_
  refine lv_istore_n (lv' := [(2, .int 0), (0, .ref (lay 0 0)), (1, .ref (lay 11 j))]) hx hb d_P_endTask_6 rfl hl (by decide) rfl (fun ls hl => ?_)
  have loop : ∀ (n i : Nat) (tI : T3) (tL : L3) (H : Heap) (locs : List Loc) (ls : Array Slot), i ≤ 128 → 128 + 1 ≤ i + n → sp_el j (128 - i) i (mk d tI tL) = sp_end d j → okc (mk d tI tL) (B + i) B1 → WC D ct (lay, (mk d tI tL)) H → va_S (Wfr (valC (lay, d)) lay s.heap.size) s.heap H locs → lv_has ls 3 [(2, .int (nI i)), (0, .ref (lay 0 0)), (1, .ref (lay 11 j))] → W p l e { frames := 2, cells := 0, slots := 0, locals := 48 } s m [.ref (lay 0 0), .ref (lay 11 j)].toArray below meth c H locs 0 0 (MQ below (va_Qv (fun u => u = (lay, sp_end d j)) (WB D classes (tysA ct) valC (fun u : CS => u.1) (cellC ct)) (Wfr (valC (lay, d)) lay s.heap.size)) [.ref (lay 0 0), .ref (lay 11 j)].toArray s 0 0 (Wfr (valC (lay, d)) lay s.heap.size)) (F0 m 7 ls []) := by
    intro n
    induction n with
    | zero => intro i tI tL H locs ls h1 h2; exact absurd h2 (by omega)
    | succ n ih =>
      intro i tI tL H locs ls hi hn hE hok hW hS hl
      refine lv_iload_n hx hb d_P_endTask_7 rfl (lv_at hl 0 rfl) ?_
      refine lv_sipush (v := 128) hx hb d_P_endTask_8 (by decide) ?_
      refine lv_icmp_ge (tgt := 46) hx hb d_P_endTask_11 (by decide) (fun c_1 => ?_) (fun c_1 => ?_)
      · have hq : i = 128 := lp_out (by decide) hi c_1
        exact leafV (val := valC) (cell := cellC) X hr hlocks hS (u2 := (lay, mk d tI tL)) hW (by rw [← hE, hq]; rfl) d_P_endTask_46
      · have hq : i < 128 := lp_in (by decide) hi c_1
        refine lv_aload_n hx hb d_P_endTask_14 rfl (lv_at hl 1 rfl) ?_
        refine gf_P_44 X (aC0 hW) rfl d_P_endTask_15 ?_
        refine lv_if_eq (tgt := 46) hx hb d_P_endTask_18 (by decide) (fun c_2 => ?_) (fun c_2 => ?_)
        · exact leafV (val := valC) (cell := cellC) X hr hlocks hS (u2 := (lay, mk d tI tL)) hW (by rw [← hE, el_down c_2]) d_P_endTask_46
        · refine lv_aload_n hx hb d_P_endTask_21 rfl (lv_at hl 1 rfl) ?_
          refine gf_P_21 X (aC0 hW) rfl d_P_endTask_22 ?_
          refine lv_iload_n hx hb d_P_endTask_25 rfl (lv_at hl 0 rfl) ?_
          refine rn_iald X 0 (aC3 hW) rfl (t := i) rfl hq (by decide) d_P_endTask_26 ?_
          refine lv_aload_n hx hb d_P_endTask_27 rfl (lv_at hl 2 rfl) ?_
          refine gf_P_85 X (aC11 hW hj) rfl d_P_endTask_28 ?_
          refine lv_icmp_ne (tgt := 40) hx hb d_P_endTask_31 (by decide) (fun c_3 => ?_) (fun c_3 => ?_)
          · refine lv_iinc (v := nI (i + 1)) (lv' := [(2, .int (nI (i + 1))), (0, .ref (lay 0 0)), (1, .ref (lay 11 j))]) hx hb d_P_endTask_40 hl (k := 0) rfl (nI_inc _) (by decide) rfl (fun ls hl => ?_)
            refine lv_goto (tgt := 7) hx hb d_P_endTask_43 (by decide) ?_
            exact ih (i + 1) tI tL H locs ls (by omega) (by omega) (by rw [← hE, el_no hq c_2 c_3]) (hok.mono (by omega) (Nat.le_refl _)) hW hS (lv_sub hl [0, 1, 2] rfl)
          · refine lv_aload_n hx hb d_P_endTask_34 rfl (lv_at hl 1 rfl) ?_
            refine lv_iload_n hx hb d_P_endTask_35 rfl (lv_at hl 0 rfl) ?_
            refine lv_aload_n hx hb d_P_endTask_36 rfl (lv_at hl 2 rfl) ?_
            obtain ⟨⟨cc0, hcB, hcc⟩, -⟩ := id hok
            refine wc_callv (val := valC) (lay := fun u : CS => u.1) (cell := cellC ct) (u0 := (lay, (mk d tI tL))) X (c_P_clean l D ct lay (mk d tI tL) _ i hq j hj hna hnt cc0 (by omega) hcc) (cw_P_163 X.1.2.2.2.2 rfl rfl ⟨Nat.le_of_ble_eq_true rfl, Nat.le_of_ble_eq_true rfl⟩) hW hS (fun q h => h.imp_right (fun z => Nat.le_trans hS.1 z)) (aC0 hW) rfl rfl hl.1 rfl (Nat.le_of_ble_eq_true rfl) d_P_endTask_37 ⟨Nat.le_of_ble_eq_true rfl, Nat.le_of_ble_eq_true rfl⟩ (fun u H locs hp hW hz hk hS => ?_)
            obtain rfl := hp
            obtain ⟨tI_q_4, tL_q_4, e_q_4⟩ := kp.ex ((kp_mk d tI tL).tr (kp_clean (mk d tI tL) i j))
            have hW : WC D ct (lay, (sp_clean (mk d tI tL) i j)) H := hW
            rw [e_q_4] at hW
            have hW : WC D ct (lay, (mk d tI_q_4 tL_q_4)) H := hW
            refine lv_iinc (v := nI (i + 1)) (lv' := [(2, .int (nI (i + 1))), (0, .ref (lay 0 0)), (1, .ref (lay 11 j))]) hx hb d_P_endTask_40 hl (k := 0) rfl (nI_inc _) (by decide) rfl (fun ls hl => ?_)
            refine lv_goto (tgt := 7) hx hb d_P_endTask_43 (by decide) ?_
            exact ih (i + 1) tI_q_4 tL_q_4 H locs ls (by omega) (by omega) (by rw [← hE, el_yes hq c_2 c_3, e_q_4]) (by have h9 := hok.clean i j; rw [e_q_4] at h9; exact h9) hW hS (lv_sub hl [0, 1, 2] rfl)
  exact loop 129 0 (gI (sI d 12 j 0 0)) (gL (sI d 12 j 0 0)) H locs ls (by omega) (by omega) rfl (hok.set 12 j 0 0 (by decide)) hW hS (lv_sub hl [0, 1, 2] rfl)
