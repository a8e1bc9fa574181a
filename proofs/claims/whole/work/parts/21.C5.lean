set_option maxHeartbeats 4000000 in
set_option maxRecDepth 100000 in
theorem c_P_endTasksOf (l : Launch) (D : va_G) (ct : Nat → ClassId) (lay : Nat → Nat → Nat) (d : DC) (sz : Nat) (o : Nat) (ho : o < dna d) (hna : dna d ≤ 16) (hnt : dnt d ≤ 60) (how : ∀ j, j < dnt d → dow d j < dna d) (B B1 : Nat) (hB : B + 7680 < 2147483647) (hok : okc d B B1) :
    CoV valC cellC l D ct y_P_endTasksOf b_P_endTasksOf 6 { frames := 3, cells := 0, slots := 0, locals := 70 } (lay, d) sz [.ref (lay 0 0), .ref (lay 8 o)] (fun u => u = (lay, sp_all d o)) := by
  refine co_of (by decide) (Nat.le_of_ble_eq_true rfl) (fun p e s m below meth c X hr hlocks hnm hsz hW ls hl => ?_)
  subst hsz
  have hx := X.1.1
  have hb := X.1.2.1
  have hS : va_S (Wfr (valC (lay, d)) lay s.heap.size) s.heap s.heap [] := va_S.rf
  have hl : lv_has ls 6 [(0, .ref (lay 0 0)), (1, .ref (lay 8 o))] := hl
  refine lv_aload_n hx hb d_P_endTasksOf_0 rfl (lv_at hl 0 rfl) ?_
  refine gf_P_17 X (aC0 hW) rfl d_P_endTasksOf_1 ?_
  refine lv_astore_n (lv' := [(2, .ref (lay 2 0)), (0, .ref (lay 0 0)), (1, .ref (lay 8 o))]) hx hb d_P_endTasksOf_4 rfl hl (by decide) rfl (fun ls hl => ?_)
  refine lv_aload_n hx hb d_P_endTasksOf_5 rfl (lv_at hl 0 rfl) ?_
  refine rr_alen X 4 (aC2 hW) rfl (v := 60) rfl d_P_endTasksOf_6 ?_
  refine lv_istore_n (lv' := [(3, .int 60), (2, .ref (lay 2 0)), (0, .ref (lay 0 0)), (1, .ref (lay 8 o))]) hx hb d_P_endTasksOf_7 rfl hl (by decide) rfl (fun ls hl => ?_)
  refine lv_iconst (v := 0) hx hb d_P_endTasksOf_8 (by decide) ?_
  refine lv_istore (lv' := [(4, .int 0), (3, .int 60), (2, .ref (lay 2 0)), (0, .ref (lay 0 0)), (1, .ref (lay 8 o))]) hx hb d_P_endTasksOf_9 hl (by decide) rfl (fun ls hl => ?_)
  have loop : ∀ (n i : Nat) (tI : T3) (tL : L3) (H : Heap) (locs : List Loc) (ls : Array Slot), i ≤ 60 → 60 + 1 ≤ i + n → sp_al o (dnt d - i) i (mk d tI tL) = sp_all d o → okc (mk d tI tL) (B + 128 * i) B1 → WC D ct (lay, (mk d tI tL)) H → va_S (Wfr (valC (lay, d)) lay s.heap.size) s.heap H locs → lv_has ls 6 [(4, .int (nI i)), (3, .int 60), (2, .ref (lay 2 0)), (0, .ref (lay 0 0)), (1, .ref (lay 8 o))] → W p l e { frames := 3, cells := 0, slots := 0, locals := 70 } s m [.ref (lay 0 0), .ref (lay 8 o)].toArray below meth c H locs 0 0 (MQ below (va_Qv (fun u => u = (lay, sp_all d o)) (WB D classes (tysA ct) valC (fun u : CS => u.1) (cellC ct)) (Wfr (valC (lay, d)) lay s.heap.size)) [.ref (lay 0 0), .ref (lay 8 o)].toArray s 0 0 (Wfr (valC (lay, d)) lay s.heap.size)) (F0 m 11 ls []) := by
    intro n
    induction n with
    | zero => intro i tI tL H locs ls h1 h2; exact absurd h2 (by omega)
    | succ n ih =>
      intro i tI tL H locs ls hi hn hE hok hW hS hl
      refine lv_iload hx hb d_P_endTasksOf_11 (lv_at hl 0 rfl) ?_
      refine lv_iload_n hx hb d_P_endTasksOf_13 rfl (lv_at hl 1 rfl) ?_
      refine lv_icmp_ge (tgt := 64) hx hb d_P_endTasksOf_14 (by decide) (fun c_1 => ?_) (fun c_1 => ?_)
      · have hq : i = 60 := lp_out (by decide) hi c_1
        exact leafV (val := valC) (cell := cellC) X hr hlocks hS (u2 := (lay, mk d tI tL)) hW (by rw [← hE, show dnt d - i = 0 by omega]; rfl) d_P_endTasksOf_64
      · have hq : i < 60 := lp_in (by decide) hi c_1
        refine lv_aload_n hx hb d_P_endTasksOf_17 rfl (lv_at hl 2 rfl) ?_
        refine lv_iload hx hb d_P_endTasksOf_18 (lv_at hl 0 rfl) ?_
        by_cases hj : i < dnt d
        · refine rn_aldS X 4 (aC2 hW) rfl (t := i) rfl hq (by decide) (if_pos hj) d_P_endTasksOf_20 ?_
          refine lv_astore (lv' := [(5, .ref (lay 11 i)), (4, .int (nI i)), (3, .int 60), (2, .ref (lay 2 0)), (0, .ref (lay 0 0)), (1, .ref (lay 8 o))]) hx hb d_P_endTasksOf_21 hl (by decide) rfl (fun ls hl => ?_)
          refine lv_aload_n hx hb d_P_endTasksOf_23 rfl (lv_at hl 4 rfl) ?_
          refine gf_P_44 X (aC0 hW) rfl d_P_endTasksOf_24 ?_
          refine lv_if_eq (tgt := 58) hx hb d_P_endTasksOf_27 (by decide) (fun c_2 => ?_) (fun c_2 => ?_)
          · refine lv_iinc (v := nI (i + 1)) (lv' := [(4, .int (nI (i + 1))), (5, .ref (lay 11 i)), (3, .int 60), (2, .ref (lay 2 0)), (0, .ref (lay 0 0)), (1, .ref (lay 8 o))]) hx hb d_P_endTasksOf_58 hl (k := 1) rfl (nI_inc _) (by decide) rfl (fun ls hl => ?_)
            refine lv_goto (tgt := 11) hx hb d_P_endTasksOf_61 (by decide) ?_
            exact ih (i + 1) tI tL H locs ls (by omega) (by omega) (by rw [al_down c_2]; rw [al_down c_2] at hE; exact hE) (hok.mono (by omega) (Nat.le_refl _)) hW hS (lv_sub hl [0, 2, 3, 4, 5] rfl)
          · refine lv_aload hx hb d_P_endTasksOf_30 (lv_at hl 0 rfl) ?_
            refine lv_ifnull hx hb d_P_endTasksOf_32 ?_
            refine lv_aload hx hb d_P_endTasksOf_35 (lv_at hl 0 rfl) ?_
            refine gf_P_117 X (aC11 hW hj) rfl d_P_endTasksOf_37 ?_
            refine lv_aload_n hx hb d_P_endTasksOf_40 rfl (lv_at hl 5 rfl) ?_
            refine lv_acmp_ne (rx := some (lay 8 (dow d i))) (ry := some (lay 8 o)) (tgt := 58) hx hb d_P_endTasksOf_41 (by decide) (fun c_3 => ?_) (fun c_3 => ?_)
            · have c_3 : ¬ dow d i = o := fun q => c_3 (by rw [q])
              refine lv_iinc (v := nI (i + 1)) (lv' := [(4, .int (nI (i + 1))), (5, .ref (lay 11 i)), (3, .int 60), (2, .ref (lay 2 0)), (0, .ref (lay 0 0)), (1, .ref (lay 8 o))]) hx hb d_P_endTasksOf_58 hl (k := 1) rfl (nI_inc _) (by decide) rfl (fun ls hl => ?_)
              refine lv_goto (tgt := 11) hx hb d_P_endTasksOf_61 (by decide) ?_
              exact ih (i + 1) tI tL H locs ls (by omega) (by omega) (by rw [← al_no (d := mk d tI tL) hj (fun q => c_3 q.2.1)]; exact hE) (hok.mono (by omega) (Nat.le_refl _)) hW hS (lv_sub hl [0, 2, 3, 4, 5] rfl)
            · have c_3 : dow d i = o := (hW.2 8 (dow d i) 8 o (how i hj) ho (Option.some.inj c_3)).2
              refine lv_aload hx hb d_P_endTasksOf_44 (lv_at hl 0 rfl) ?_
              refine gf_P_124 X (aC11 hW hj) rfl d_P_endTasksOf_46 ?_
              refine lv_if_eq (tgt := 58) hx hb d_P_endTasksOf_49 (by decide) (fun c_4 => ?_) (fun c_4 => ?_)
              · refine lv_iinc (v := nI (i + 1)) (lv' := [(4, .int (nI (i + 1))), (5, .ref (lay 11 i)), (3, .int 60), (2, .ref (lay 2 0)), (0, .ref (lay 0 0)), (1, .ref (lay 8 o))]) hx hb d_P_endTasksOf_58 hl (k := 1) rfl (nI_inc _) (by decide) rfl (fun ls hl => ?_)
                refine lv_goto (tgt := 11) hx hb d_P_endTasksOf_61 (by decide) ?_
                exact ih (i + 1) tI tL H locs ls (by omega) (by omega) (by rw [← al_no (d := mk d tI tL) hj (fun q => q.2.2 c_4)]; exact hE) (hok.mono (by omega) (Nat.le_refl _)) hW hS (lv_sub hl [0, 2, 3, 4, 5] rfl)
              · refine lv_aload_n hx hb d_P_endTasksOf_52 rfl (lv_at hl 4 rfl) ?_
                refine lv_aload hx hb d_P_endTasksOf_53 (lv_at hl 0 rfl) ?_
                refine wc_callv (val := valC) (lay := fun u : CS => u.1) (cell := cellC ct) (u0 := (lay, (mk d tI tL))) X (c_P_endTask l D ct lay (mk d tI tL) _ i hj hna hnt (B + 128 * i) B1 (by omega) hok) (cw_P_149 X.1.2.2.2.2 rfl rfl ⟨Nat.le_of_ble_eq_true rfl, Nat.le_of_ble_eq_true rfl⟩) hW hS (fun q h => h.imp_right (fun z => Nat.le_trans hS.1 z)) (aC0 hW) rfl rfl hl.1 rfl (Nat.le_of_ble_eq_true rfl) d_P_endTasksOf_55 ⟨Nat.le_of_ble_eq_true rfl, Nat.le_of_ble_eq_true rfl⟩ (fun u H locs hp hW hz hk hS => ?_)
                obtain rfl := hp
                obtain ⟨tI_q_5, tL_q_5, e_q_5⟩ := kp.ex ((kp_mk d tI tL).tr (kp_end (mk d tI tL) i))
                have hW : WC D ct (lay, (sp_end (mk d tI tL) i)) H := hW
                rw [e_q_5] at hW
                have hW : WC D ct (lay, (mk d tI_q_5 tL_q_5)) H := hW
                refine lv_iinc (v := nI (i + 1)) (lv' := [(4, .int (nI (i + 1))), (5, .ref (lay 11 i)), (3, .int 60), (2, .ref (lay 2 0)), (0, .ref (lay 0 0)), (1, .ref (lay 8 o))]) hx hb d_P_endTasksOf_58 hl (k := 1) rfl (nI_inc _) (by decide) rfl (fun ls hl => ?_)
                refine lv_goto (tgt := 11) hx hb d_P_endTasksOf_61 (by decide) ?_
                exact ih (i + 1) tI_q_5 tL_q_5 H locs ls (by omega) (by omega) (by rw [← hE, al_yes hj ⟨c_2, c_3, c_4⟩, e_q_5]) (by have h9 := hok.end i; rw [e_q_5] at h9; exact h9.mono (by omega) (Nat.le_refl _)) hW hS (lv_sub hl [0, 2, 3, 4, 5] rfl)
        · refine rn_aldN X 4 (aC2 hW) rfl (t := i) rfl hq (by decide) (if_neg hj) d_P_endTasksOf_20 ?_
          refine lv_astoreN (lv' := [(5, .null), (4, .int (nI i)), (3, .int 60), (2, .ref (lay 2 0)), (0, .ref (lay 0 0)), (1, .ref (lay 8 o))]) hx hb d_P_endTasksOf_21 hl (by decide) rfl (fun ls hl => ?_)
          refine lv_aload_n hx hb d_P_endTasksOf_23 rfl (lv_at hl 4 rfl) ?_
          refine gf_P_44 X (aC0 hW) rfl d_P_endTasksOf_24 ?_
          refine lv_if_eq (tgt := 58) hx hb d_P_endTasksOf_27 (by decide) (fun c_6 => ?_) (fun c_6 => ?_)
          · refine lv_iinc (v := nI (i + 1)) (lv' := [(4, .int (nI (i + 1))), (5, .null), (3, .int 60), (2, .ref (lay 2 0)), (0, .ref (lay 0 0)), (1, .ref (lay 8 o))]) hx hb d_P_endTasksOf_58 hl (k := 1) rfl (nI_inc _) (by decide) rfl (fun ls hl => ?_)
            refine lv_goto (tgt := 11) hx hb d_P_endTasksOf_61 (by decide) ?_
            exact ih (i + 1) tI tL H locs ls (by omega) (by omega) (by rw [al_down c_6]; rw [al_down c_6] at hE; exact hE) (hok.mono (by omega) (Nat.le_refl _)) hW hS (lv_sub hl [0, 2, 3, 4, 5] rfl)
          · refine lv_aloadN hx hb d_P_endTasksOf_30 (lv_at hl 0 rfl) ?_
            refine lv_ifnullN (tgt := 58) hx hb d_P_endTasksOf_32 (by decide) ?_
            refine lv_iinc (v := nI (i + 1)) (lv' := [(4, .int (nI (i + 1))), (5, .null), (3, .int 60), (2, .ref (lay 2 0)), (0, .ref (lay 0 0)), (1, .ref (lay 8 o))]) hx hb d_P_endTasksOf_58 hl (k := 1) rfl (nI_inc _) (by decide) rfl (fun ls hl => ?_)
            refine lv_goto (tgt := 11) hx hb d_P_endTasksOf_61 (by decide) ?_
            exact ih (i + 1) tI tL H locs ls (by omega) (by omega) (by rw [← al_past hj]; exact hE) (hok.mono (by omega) (Nat.le_refl _)) hW hS (lv_sub hl [0, 2, 3, 4, 5] rfl)
  exact loop 61 0 (gI d) (gL d) s.heap [] ls (by omega) (by omega) rfl hok hW hS (lv_sub hl [0, 1, 2, 3, 4] rfl)
set_option maxHeartbeats 4000000 in
set_option maxRecDepth 100000 in
theorem c_P_startAgain (l : Launch) (D : va_G) (ct : Nat → ClassId) (lay : Nat → Nat → Nat) (d : DC) (sz : Nat) (o : Nat) (ho : o < dna d) (hnt : dnt d ≤ 60) (how : ∀ j, j < dnt d → dow d j < dna d) :
    CoV valC cellC l D ct y_P_startAgain b_P_startAgain 6 { frames := 0, cells := 0, slots := 0, locals := 0 } (lay, d) sz [.ref (lay 0 0), .ref (lay 8 o)] (fun u => u = (lay, sp_start d o)) := by
  refine co_of (by decide) (Nat.le_of_ble_eq_true rfl) (fun p e s m below meth c X hr hlocks hnm hsz hW ls hl => ?_)
  subst hsz
  have hx := X.1.1
  have hb := X.1.2.1
  have hS : va_S (Wfr (valC (lay, d)) lay s.heap.size) s.heap s.heap [] := va_S.rf
  have hl : lv_has ls 6 [(0, .ref (lay 0 0)), (1, .ref (lay 8 o))] := hl
  refine lv_aload_n hx hb d_P_startAgain_0 rfl (lv_at hl 1 rfl) ?_
  refine lv_dup hx hb d_P_startAgain_1 rfl ?_
  refine gf_P_157 X (aC8 hW ho) rfl d_P_startAgain_2 ?_
  refine lv_iconst (v := 1) hx hb d_P_startAgain_5 (by decide) ?_
  refine lv_isub hx hb d_P_startAgain_6 ?_
  refine pf_P_157 X (aC8 hW ho) hS (wfr 8 o ho) rfl rfl (Nat.le_of_ble_eq_true rfl) d_P_startAgain_7 (fun H locs hat hch hS => ?_)
  have hW := wpC_I10 hW ho hat hch
  refine lv_aload_n hx hb d_P_startAgain_10 rfl (lv_at hl 0 rfl) ?_
  refine gf_P_17 X (aC0 hW) rfl d_P_startAgain_11 ?_
  refine lv_astore_n (lv' := [(2, .ref (lay 2 0)), (0, .ref (lay 0 0)), (1, .ref (lay 8 o))]) hx hb d_P_startAgain_14 rfl hl (by decide) rfl (fun ls hl => ?_)
  refine lv_aload_n hx hb d_P_startAgain_15 rfl (lv_at hl 0 rfl) ?_
  refine rr_alen X 4 (aC2 hW) rfl (v := 60) rfl d_P_startAgain_16 ?_
  refine lv_istore_n (lv' := [(3, .int 60), (2, .ref (lay 2 0)), (0, .ref (lay 0 0)), (1, .ref (lay 8 o))]) hx hb d_P_startAgain_17 rfl hl (by decide) rfl (fun ls hl => ?_)
  refine lv_iconst (v := 0) hx hb d_P_startAgain_18 (by decide) ?_
  refine lv_istore (lv' := [(4, .int 0), (3, .int 60), (2, .ref (lay 2 0)), (0, .ref (lay 0 0)), (1, .ref (lay 8 o))]) hx hb d_P_startAgain_19 hl (by decide) rfl (fun ls hl => ?_)
  have loop : ∀ (n i : Nat) (H : Heap) (locs : List Loc) (ls : Array Slot), i ≤ 60 → 60 + 1 ≤ i + n → WC D ct (lay, (sW (sI d 10 o 0 (gI d 10 o 0 - 1)) o (min i (dnt d)) 1)) H → va_S (Wfr (valC (lay, d)) lay s.heap.size) s.heap H locs → lv_has ls 6 [(4, .int (nI i)), (3, .int 60), (2, .ref (lay 2 0)), (0, .ref (lay 0 0)), (1, .ref (lay 8 o))] → W p l e { frames := 0, cells := 0, slots := 0, locals := 0 } s m [.ref (lay 0 0), .ref (lay 8 o)].toArray below meth c H locs 0 0 (MQ below (va_Qv (fun u => u = (lay, sp_start d o)) (WB D classes (tysA ct) valC (fun u : CS => u.1) (cellC ct)) (Wfr (valC (lay, d)) lay s.heap.size)) [.ref (lay 0 0), .ref (lay 8 o)].toArray s 0 0 (Wfr (valC (lay, d)) lay s.heap.size)) (F0 m 21 ls []) := by
    intro n
    induction n with
    | zero => intro i  H locs ls h1 h2; exact absurd h2 (by omega)
    | succ n ih =>
      intro i  H locs ls hi hn  hW hS hl
      refine lv_iload hx hb d_P_startAgain_21 (lv_at hl 0 rfl) ?_
      refine lv_iload_n hx hb d_P_startAgain_23 rfl (lv_at hl 1 rfl) ?_
      refine lv_icmp_ge (tgt := 59) hx hb d_P_startAgain_24 (by decide) (fun c_1 => ?_) (fun c_1 => ?_)
      · have hq : i = 60 := lp_out (by decide) hi c_1
        have hW : WC D ct (lay, sp_start d o) H := by rw [hq, show min 60 (dnt d) = dnt d by omega] at hW; exact hW
        exact leafV (val := valC) (cell := cellC) X hr hlocks hS (u2 := (lay, (sp_start d o))) hW rfl d_P_startAgain_59
      · have hq : i < 60 := lp_in (by decide) hi c_1
        refine lv_aload_n hx hb d_P_startAgain_27 rfl (lv_at hl 2 rfl) ?_
        refine lv_iload hx hb d_P_startAgain_28 (lv_at hl 0 rfl) ?_
        by_cases hj : i < dnt d
        · refine rn_aldS X 4 (aC2 hW) rfl (t := i) rfl hq (by decide) (if_pos hj) d_P_startAgain_30 ?_
          refine lv_astore (lv' := [(5, .ref (lay 11 i)), (4, .int (nI i)), (3, .int 60), (2, .ref (lay 2 0)), (0, .ref (lay 0 0)), (1, .ref (lay 8 o))]) hx hb d_P_startAgain_31 hl (by decide) rfl (fun ls hl => ?_)
          refine lv_aload hx hb d_P_startAgain_33 (lv_at hl 0 rfl) ?_
          refine lv_ifnull hx hb d_P_startAgain_35 ?_
          refine lv_aload hx hb d_P_startAgain_38 (lv_at hl 0 rfl) ?_
          refine gf_P_117 X (aC11 hW hj) rfl d_P_startAgain_40 ?_
          refine lv_aload_n hx hb d_P_startAgain_43 rfl (lv_at hl 5 rfl) ?_
          refine lv_acmp_ne (rx := some (lay 8 (dow d i))) (ry := some (lay 8 o)) (tgt := 53) hx hb d_P_startAgain_44 (by decide) (fun c_2 => ?_) (fun c_2 => ?_)
          · have c_2 : ¬ dow d i = o := fun q => c_2 (by rw [q])
            refine lv_iinc (v := nI (i + 1)) (lv' := [(4, .int (nI (i + 1))), (5, .ref (lay 11 i)), (3, .int 60), (2, .ref (lay 2 0)), (0, .ref (lay 0 0)), (1, .ref (lay 8 o))]) hx hb d_P_startAgain_53 hl (k := 1) rfl (nI_inc _) (by decide) rfl (fun ls hl => ?_)
            refine lv_goto (tgt := 21) hx hb d_P_startAgain_56 (by decide) ?_
            exact ih (i + 1) H locs ls (by omega) (by omega) (by rw [← sW_no (d := sI d 10 o 0 (gI d 10 o 0 - 1)) (fun q => c_2 q.2)]; exact hW) hS (lv_sub hl [0, 2, 3, 4, 5] rfl)
          · have c_2 : dow d i = o := (hW.2 8 (dow d i) 8 o (how i hj) ho (Option.some.inj c_2)).2
            refine lv_aload hx hb d_P_startAgain_47 (lv_at hl 0 rfl) ?_
            refine lv_iconst (v := 1) hx hb d_P_startAgain_49 (by decide) ?_
            refine pf_P_124 X (aC11 hW hj) hS (wfr 11 i hj) rfl rfl (Nat.le_of_ble_eq_true rfl) d_P_startAgain_50 (fun H locs hat hch hS => ?_)
            have hW := wpC_I12 hW hj hat hch
            refine lv_iinc (v := nI (i + 1)) (lv' := [(4, .int (nI (i + 1))), (5, .ref (lay 11 i)), (3, .int 60), (2, .ref (lay 2 0)), (0, .ref (lay 0 0)), (1, .ref (lay 8 o))]) hx hb d_P_startAgain_53 hl (k := 1) rfl (nI_inc _) (by decide) rfl (fun ls hl => ?_)
            refine lv_goto (tgt := 21) hx hb d_P_startAgain_56 (by decide) ?_
            exact ih (i + 1) H locs ls (by omega) (by omega) (by rw [← sW_in (d := sI d 10 o 0 (gI d 10 o 0 - 1)) hj c_2]; exact hW) hS (lv_sub hl [0, 2, 3, 4, 5] rfl)
        · refine rn_aldN X 4 (aC2 hW) rfl (t := i) rfl hq (by decide) (if_neg hj) d_P_startAgain_30 ?_
          refine lv_astoreN (lv' := [(5, .null), (4, .int (nI i)), (3, .int 60), (2, .ref (lay 2 0)), (0, .ref (lay 0 0)), (1, .ref (lay 8 o))]) hx hb d_P_startAgain_31 hl (by decide) rfl (fun ls hl => ?_)
          refine lv_aloadN hx hb d_P_startAgain_33 (lv_at hl 0 rfl) ?_
          refine lv_ifnullN (tgt := 53) hx hb d_P_startAgain_35 (by decide) ?_
          refine lv_iinc (v := nI (i + 1)) (lv' := [(4, .int (nI (i + 1))), (5, .null), (3, .int 60), (2, .ref (lay 2 0)), (0, .ref (lay 0 0)), (1, .ref (lay 8 o))]) hx hb d_P_startAgain_53 hl (k := 1) rfl (nI_inc _) (by decide) rfl (fun ls hl => ?_)
          refine lv_goto (tgt := 21) hx hb d_P_startAgain_56 (by decide) ?_
          exact ih (i + 1) H locs ls (by omega) (by omega) (by rw [← sW_no (d := sI d 10 o 0 (gI d 10 o 0 - 1)) (fun q => hj q.1)]; exact hW) hS (lv_sub hl [0, 2, 3, 4, 5] rfl)
  exact loop 61 0 H locs ls (by omega) (by omega) (by rw [Nat.zero_min, sW_0]; exact hW) hS (lv_sub hl [0, 1, 2, 3, 4] rfl)
