set_option maxHeartbeats 4000000 in
set_option maxRecDepth 100000 in
theorem c_M_end (l : Launch) (D : va_G) (ct : Nat → ClassId) (lay : Nat → Nat → Nat) (d : DC) (sz : Nat) (x : Int32) (j : Nat) (hj : j < dnt d) (ej : x = nI (j + 1)) (hna : dna d ≤ 16) (hnt : dnt d ≤ 60) (B B1 : Nat) (hB : B + 128 < 2147483647) (hok : okc d B B1) (hsk : sk d) :
    CoV valM cellM l D ct y_M_end b_M_end 3 { frames := 1, cells := 0, slots := 0, locals := 21 } (lay, d) sz [.ref (lay 0 0), .int x] (fun u => u = (lay, sp_end d j)) := by
  refine co_of (by decide) (Nat.le_of_ble_eq_true rfl) (fun p e s m below meth c X hr hlocks hnm hsz hW ls hl => ?_)
  subst hsz
  have hx := X.1.1
  have hb := X.1.2.1
  have hS : va_S (Wfr (valM (lay, d)) lay s.heap.size) s.heap s.heap [] := va_S.rf
  subst ej
  have hl : lv_has ls 3 [(0, .ref (lay 0 0)), (1, .int (nI (j + 1)))] := hl
  refine lv_aload_n hx hb d_M_end_0 rfl (lv_at hl 0 rfl) ?_
  refine gf_M_33 X (aM0 hW) rfl d_M_end_1 ?_
  refine lv_iload_n hx hb d_M_end_4 rfl (lv_at hl 1 rfl) ?_
  refine lv_iconst (v := 0) hx hb d_M_end_5 (by decide) ?_
  refine rn_zast X 2 (aM8 hW) rfl hS (wfr 8 0 ⟨by decide, rfl⟩) (t := (j + 1)) rfl (by omega) (by decide) rfl d_M_end_6 (fun H locs hat hch hS => ?_)
  have hW := wpM_aI12 (j := j) hW hat hch
  refine lv_iconst (v := 0) hx hb d_M_end_7 (by decide) ?_
  refine lv_istore_n (lv' := [(2, .int 0), (0, .ref (lay 0 0)), (1, .int (nI (j + 1)))]) hx hb d_M_end_8 rfl hl (by decide) rfl (fun ls hl => ?_)
  have loop : ∀ (n i : Nat) (tI : T3) (tL : L3) (H : Heap) (locs : List Loc) (ls : Array Slot), i ≤ 128 → 128 + 1 ≤ i + n → sp_el j (128 - i) i (mk d tI tL) = sp_end d j → okc (mk d tI tL) (B + i) B1 → sk (mk d tI tL) → WM D ct (lay, (mk d tI tL)) H → va_S (Wfr (valM (lay, d)) lay s.heap.size) s.heap H locs → lv_has ls 3 [(2, .int (nI i)), (0, .ref (lay 0 0)), (1, .int (nI (j + 1)))] → W p l e { frames := 1, cells := 0, slots := 0, locals := 21 } s m [.ref (lay 0 0), .int (nI (j + 1))].toArray below meth c H locs 0 0 (MQ below (va_Qv (fun u => u = (lay, sp_end d j)) (WB D classes (tysA ct) valM (fun u : CS => u.1) (cellM ct)) (Wfr (valM (lay, d)) lay s.heap.size)) [.ref (lay 0 0), .int (nI (j + 1))].toArray s 0 0 (Wfr (valM (lay, d)) lay s.heap.size)) (F0 m 9 ls []) := by
    intro n
    induction n with
    | zero => intro i tI tL H locs ls h1 h2; exact absurd h2 (by omega)
    | succ n ih =>
      intro i tI tL H locs ls hi hn hE hok hsk hW hS hl
      refine lv_iload_n hx hb d_M_end_9 rfl (lv_at hl 0 rfl) ?_
      refine lv_sipush (v := 128) hx hb d_M_end_10 (by decide) ?_
      refine lv_icmp_ge (tgt := 124) hx hb d_M_end_13 (by decide) (fun c_1 => ?_) (fun c_1 => ?_)
      · have hq : i = 128 := lp_out (by decide) hi c_1
        exact leafV (val := valM) (cell := cellM) X hr hlocks hS (u2 := (lay, mk d tI tL)) hW (by rw [← hE, hq]; rfl) d_M_end_124
      · have hq : i < 128 := lp_in (by decide) hi c_1
        refine lv_aload_n hx hb d_M_end_16 rfl (lv_at hl 1 rfl) ?_
        refine gf_M_76 X (aM0 hW) rfl d_M_end_17 ?_
        refine lv_if_ne (tgt := 124) hx hb d_M_end_20 (by decide) (fun c_2 => ?_) (fun c_2 => ?_)
        · rw [dn_0] at c_2
          have c_2 := Decidable.not_not.mp c_2
          exact leafV (val := valM) (cell := cellM) X hr hlocks hS (u2 := (lay, mk d tI tL)) hW (by rw [← hE, el_down c_2]) d_M_end_124
        · rw [dn_0] at c_2
          refine lv_aload_n hx hb d_M_end_23 rfl (lv_at hl 1 rfl) ?_
          refine gf_M_48 X (aM0 hW) rfl d_M_end_24 ?_
          refine lv_iload_n hx hb d_M_end_27 rfl (lv_at hl 0 rfl) ?_
          refine rn_iald X 0 (aM13 hW) rfl (t := i) rfl (by omega) (by decide) d_M_end_28 ?_
          refine lv_iload_n hx hb d_M_end_29 rfl (lv_at hl 2 rfl) ?_
          refine lv_icmp_eq (tgt := 36) hx hb d_M_end_30 (by decide) (fun c_3 => ?_) (fun c_3 => ?_)
          · obtain ⟨⟨cc0, hcB, hcc⟩, -⟩ := id hok
            have hsk2 : gI (mk d tI tL) 1 0 0 = 0 ∨ gI (mk d tI tL) 1 0 0 = 1 := hsk.elim (fun q => absurd q c_2) id
            refine lv_aload_n hx hb d_M_end_36 rfl (lv_at hl 1 rfl) ?_
            refine gf_M_48 X (aM0 hW) rfl d_M_end_37 ?_
            refine lv_iload_n hx hb d_M_end_40 rfl (lv_at hl 0 rfl) ?_
            refine lv_iconst (v := 0) hx hb d_M_end_41 (by decide) ?_
            refine rn_iast X 0 (aM13 hW) rfl hS (wfr 13 0 ⟨by decide, rfl⟩) (t := i) rfl (by omega) (by decide) d_M_end_42 (fun H locs hat hch hS => ?_)
            have hW := wpM_aI2 (t := i) hW hat hch
            refine lv_aload_n hx hb d_M_end_43 rfl (lv_at hl 1 rfl) ?_
            refine gf_M_91 X (aM0 hW) rfl d_M_end_44 ?_
            refine lv_sipush (v := 500) hx hb d_M_end_47 (by decide) ?_
            refine lv_icmp_ge (tgt := 73) hx hb d_M_end_50 (by decide) (fun c_4 => ?_) (fun c_4 => ?_)
            · have c_4 :  nI 500 ≤ nI cc0 := by rw [← hcc]; exact c_4
              have hc5 : 500 ≤ cc0 := (nI_leI (by decide) (by omega)).mp c_4
              have hW : WM D ct (lay, (sp_note (sI (mk d tI tL) 2 0 i 0) i j)) H := by rw [← note_n (j := j) (d := sI (mk d tI tL) 2 0 i 0) hcc hc5 (by omega)]; exact hW
              refine lv_aload_n hx hb d_M_end_73 rfl (lv_at hl 1 rfl) ?_
              refine lv_dup hx hb d_M_end_74 rfl ?_
              refine gf_M_91 X (aM0 hW) rfl d_M_end_75 ?_
              refine lv_iconst (v := 1) hx hb d_M_end_78 (by decide) ?_
              refine lv_iadd hx hb d_M_end_79 ?_
              refine pf_M_91 X (aM0 hW) hS (wfr 0 0 ⟨by decide, rfl⟩) rfl rfl (Nat.le_of_ble_eq_true rfl) d_M_end_80 (fun H locs hat hch hS => ?_)
              have hW := wpM_cleanings hW hat hch
              have hW : WM D ct (lay, D1 (mk d tI tL) i j) H := visM.wm (visM_w _ _ _ _ _) hW
              refine lv_aload_n hx hb d_M_end_83 rfl (lv_at hl 1 rfl) ?_
              refine lv_iload_n hx hb d_M_end_84 rfl (lv_at hl 0 rfl) ?_
              refine lv_bipush (v := 96) hx hb d_M_end_85 (by decide) ?_
              refine lv_icmp_lt (tgt := 99) hx hb d_M_end_87 (by decide) (fun c_5 => ?_) (fun c_5 => ?_)
              · have hlo : i < 96 := (nI_ltI (b := 96) (by omega) (by decide)).mp c_5
                refine lv_aload_n hx hb d_M_end_99 rfl (lv_at hl 1 rfl) ?_
                refine gf_M_94 X (aM0 hW) rfl d_M_end_100 ?_
                refine pf_M_94 X (aM0 hW) hS (wfr 0 0 ⟨by decide, rfl⟩) rfl rfl (Nat.le_of_ble_eq_true rfl) d_M_end_103 (fun H locs hat hch hS => ?_)
                have hW := wpM_sick hW hat hch
                refine lv_aload_n hx hb d_M_end_106 rfl (lv_at hl 1 rfl) ?_
                refine gf_M_94 X (aM0 hW) rfl d_M_end_107 ?_
                refine lv_iconst (v := 2) hx hb d_M_end_110 (by decide) ?_
                refine lv_icmp_ne (tgt := 118) hx hb d_M_end_111 (by decide) (fun c_6 => ?_) (fun c_6 => ?_)
                · have c_6 : ¬ gI (mk d tI tL) 1 0 0 = 2 := by rw [← D1_k (mk d tI tL) i j]; exact c_6
                  have hW : WM D ct (lay, sp_clean (mk d tI tL) i j) H := by rw [clm_lo hlo]; exact hW
                  refine lv_iinc (v := nI (i + 1)) (lv' := [(2, .int (nI (i + 1))), (0, .ref (lay 0 0)), (1, .int (nI (j + 1)))]) hx hb d_M_end_118 hl (k := 0) rfl (nI_inc _) (by decide) rfl (fun ls hl => ?_)
                  refine lv_goto (tgt := 9) hx hb d_M_end_121 (by decide) ?_
                  obtain ⟨tI2, tL2, e2⟩ := kp.ex ((kp_mk d tI tL).tr (kp_clean (mk d tI tL) i j))
                  rw [e2] at hW
                  exact ih (i + 1) tI2 tL2 H locs ls (by omega) (by omega) (by rw [← hE, el_yes hq c_2 c_3, e2]) (by have h9 := hok.clean i j; rw [e2] at h9; exact h9) (by have h9 := sk_clean hsk i j; rw [e2] at h9; exact h9) hW hS (lv_sub hl [0, 1, 2] rfl)
                · have c_6 :  gI (mk d tI tL) 1 0 0 = 2 := by rw [← D1_k (mk d tI tL) i j]; exact c_6
                  exact absurd c_6 (by rcases hsk2 with q | q <;> rw [q] <;> decide)
              · have hlo : ¬ i < 96 := fun q => c_5 (nI_lt (b := 96) q (by decide))
                refine lv_aload_n hx hb d_M_end_90 rfl (lv_at hl 1 rfl) ?_
                refine gf_M_94 X (aM0 hW) rfl d_M_end_91 ?_
                refine lv_iconst (v := 1) hx hb d_M_end_94 (by decide) ?_
                refine lv_iadd hx hb d_M_end_95 ?_
                refine lv_goto (tgt := 103) hx hb d_M_end_96 (by decide) ?_
                refine pf_M_94 X (aM0 hW) hS (wfr 0 0 ⟨by decide, rfl⟩) rfl rfl (Nat.le_of_ble_eq_true rfl) d_M_end_103 (fun H locs hat hch hS => ?_)
                have hW := wpM_sick hW hat hch
                refine lv_aload_n hx hb d_M_end_106 rfl (lv_at hl 1 rfl) ?_
                refine gf_M_94 X (aM0 hW) rfl d_M_end_107 ?_
                refine lv_iconst (v := 2) hx hb d_M_end_110 (by decide) ?_
                refine lv_icmp_ne (tgt := 118) hx hb d_M_end_111 (by decide) (fun c_7 => ?_) (fun c_7 => ?_)
                · have c_7 : ¬ gI (mk d tI tL) 1 0 0 + 1 = 2 := by rw [← D1_k (mk d tI tL) i j]; exact c_7
                  have hs0 : gI (mk d tI tL) 1 0 0 = 0 := hsk2.elim id (fun q => absurd (by rw [q]; rfl) c_7)
                  have hW : WM D ct (lay, sp_clean (mk d tI tL) i j) H := by rw [clm_0 hlo hs0]; exact hW
                  refine lv_iinc (v := nI (i + 1)) (lv' := [(2, .int (nI (i + 1))), (0, .ref (lay 0 0)), (1, .int (nI (j + 1)))]) hx hb d_M_end_118 hl (k := 0) rfl (nI_inc _) (by decide) rfl (fun ls hl => ?_)
                  refine lv_goto (tgt := 9) hx hb d_M_end_121 (by decide) ?_
                  obtain ⟨tI2, tL2, e2⟩ := kp.ex ((kp_mk d tI tL).tr (kp_clean (mk d tI tL) i j))
                  rw [e2] at hW
                  exact ih (i + 1) tI2 tL2 H locs ls (by omega) (by omega) (by rw [← hE, el_yes hq c_2 c_3, e2]) (by have h9 := hok.clean i j; rw [e2] at h9; exact h9) (by have h9 := sk_clean hsk i j; rw [e2] at h9; exact h9) hW hS (lv_sub hl [0, 1, 2] rfl)
                · have c_7 :  gI (mk d tI tL) 1 0 0 + 1 = 2 := by rw [← D1_k (mk d tI tL) i j]; exact c_7
                  have hs1 : gI (mk d tI tL) 1 0 0 = 1 := hsk2.elim (fun q => absurd c_7 (by rw [q]; decide)) id
                  refine lv_aload_n hx hb d_M_end_114 rfl (lv_at hl 1 rfl) ?_
                  refine wc_callv (val := valM) (lay := fun u : CS => u.1) (cell := cellM ct) (u0 := (lay, (sI (D1 (mk d tI tL) i j) 1 0 0 (gI (D1 (mk d tI tL) i j) 1 0 0 + 1)))) X (c_M_shutDown l D ct lay (sI (D1 (mk d tI tL) i j) 1 0 0 (gI (D1 (mk d tI tL) i j) 1 0 0 + 1)) _ (by rw [dna_sI, (kp_D1 (mk d tI tL) i j).na]; exact hna) (by rw [dnt_sI, (kp_D1 (mk d tI tL) i j).nt]; exact hnt)) (cw_M_97 X.1.2.2.2.2 rfl rfl ⟨Nat.le_of_ble_eq_true rfl, Nat.le_of_ble_eq_true rfl⟩) hW hS (fun q h => h.imp_right (fun z => Nat.le_trans hS.1 z)) (aM0 hW) rfl rfl hl.1 rfl (Nat.le_of_ble_eq_true rfl) d_M_end_115 ⟨Nat.le_of_ble_eq_true rfl, Nat.le_of_ble_eq_true rfl⟩ (fun u H locs hp hW hz hk hS => ?_)
                  obtain rfl := hp
                  have hW : WM D ct (lay, (sp_shut (sI (D1 (mk d tI tL) i j) 1 0 0 (gI (D1 (mk d tI tL) i j) 1 0 0 + 1)))) H := hW
                  have hW : WM D ct (lay, sp_clean (mk d tI tL) i j) H := by rw [clm_1 hlo hs1]; exact hW
                  refine lv_iinc (v := nI (i + 1)) (lv' := [(2, .int (nI (i + 1))), (0, .ref (lay 0 0)), (1, .int (nI (j + 1)))]) hx hb d_M_end_118 hl (k := 0) rfl (nI_inc _) (by decide) rfl (fun ls hl => ?_)
                  refine lv_goto (tgt := 9) hx hb d_M_end_121 (by decide) ?_
                  obtain ⟨tI2, tL2, e2⟩ := kp.ex ((kp_mk d tI tL).tr (kp_clean (mk d tI tL) i j))
                  rw [e2] at hW
                  exact ih (i + 1) tI2 tL2 H locs ls (by omega) (by omega) (by rw [← hE, el_yes hq c_2 c_3, e2]) (by have h9 := hok.clean i j; rw [e2] at h9; exact h9) (by have h9 := sk_clean hsk i j; rw [e2] at h9; exact h9) hW hS (lv_sub hl [0, 1, 2] rfl)
            · have c_4 : ¬ nI 500 ≤ nI cc0 := by rw [← hcc]; exact c_4
              have hc5 : cc0 < 500 := Nat.not_le.mp (fun q => c_4 (nI_le q (by omega)))
              refine lv_aload_n hx hb d_M_end_53 rfl (lv_at hl 1 rfl) ?_
              refine gf_M_57 X (aM0 hW) rfl d_M_end_54 ?_
              refine lv_aload_n hx hb d_M_end_57 rfl (lv_at hl 1 rfl) ?_
              refine gf_M_91 X (aM0 hW) rfl d_M_end_58 ?_
              refine lv_iload_n hx hb d_M_end_61 rfl (lv_at hl 2 rfl) ?_
              refine rn_iast X 0 (aM16 hW) rfl hS (wfr 16 0 ⟨by decide, rfl⟩) (t := cc0) hcc (by omega) (by decide) d_M_end_62 (fun H locs hat hch hS => ?_)
              have hW := wpM_aI20 (t := cc0) hW hat hch
              refine lv_aload_n hx hb d_M_end_63 rfl (lv_at hl 1 rfl) ?_
              refine gf_M_60 X (aM0 hW) rfl d_M_end_64 ?_
              refine lv_aload_n hx hb d_M_end_67 rfl (lv_at hl 1 rfl) ?_
              refine gf_M_91 X (aM0 hW) rfl d_M_end_68 ?_
              refine lv_iload_n hx hb d_M_end_71 rfl (lv_at hl 0 rfl) ?_
              refine rn_iast X 0 (aM17 hW) rfl hS (wfr 17 0 ⟨by decide, rfl⟩) (t := cc0) hcc (by omega) (by decide) d_M_end_72 (fun H locs hat hch hS => ?_)
              have hW := wpM_aI21 (t := cc0) hW hat hch
              have hW : WM D ct (lay, (sp_note (sI (mk d tI tL) 2 0 i 0) i j)) H := by rw [← note_y (j := j) (d := sI (mk d tI tL) 2 0 i 0) hcc hc5]; exact hW
              refine lv_aload_n hx hb d_M_end_73 rfl (lv_at hl 1 rfl) ?_
              refine lv_dup hx hb d_M_end_74 rfl ?_
              refine gf_M_91 X (aM0 hW) rfl d_M_end_75 ?_
              refine lv_iconst (v := 1) hx hb d_M_end_78 (by decide) ?_
              refine lv_iadd hx hb d_M_end_79 ?_
              refine pf_M_91 X (aM0 hW) hS (wfr 0 0 ⟨by decide, rfl⟩) rfl rfl (Nat.le_of_ble_eq_true rfl) d_M_end_80 (fun H locs hat hch hS => ?_)
              have hW := wpM_cleanings hW hat hch
              have hW : WM D ct (lay, D1 (mk d tI tL) i j) H := visM.wm (visM_w _ _ _ _ _) hW
              refine lv_aload_n hx hb d_M_end_83 rfl (lv_at hl 1 rfl) ?_
              refine lv_iload_n hx hb d_M_end_84 rfl (lv_at hl 0 rfl) ?_
              refine lv_bipush (v := 96) hx hb d_M_end_85 (by decide) ?_
              refine lv_icmp_lt (tgt := 99) hx hb d_M_end_87 (by decide) (fun c_8 => ?_) (fun c_8 => ?_)
              · have hlo : i < 96 := (nI_ltI (b := 96) (by omega) (by decide)).mp c_8
                refine lv_aload_n hx hb d_M_end_99 rfl (lv_at hl 1 rfl) ?_
                refine gf_M_94 X (aM0 hW) rfl d_M_end_100 ?_
                refine pf_M_94 X (aM0 hW) hS (wfr 0 0 ⟨by decide, rfl⟩) rfl rfl (Nat.le_of_ble_eq_true rfl) d_M_end_103 (fun H locs hat hch hS => ?_)
                have hW := wpM_sick hW hat hch
                refine lv_aload_n hx hb d_M_end_106 rfl (lv_at hl 1 rfl) ?_
                refine gf_M_94 X (aM0 hW) rfl d_M_end_107 ?_
                refine lv_iconst (v := 2) hx hb d_M_end_110 (by decide) ?_
                refine lv_icmp_ne (tgt := 118) hx hb d_M_end_111 (by decide) (fun c_9 => ?_) (fun c_9 => ?_)
                · have c_9 : ¬ gI (mk d tI tL) 1 0 0 = 2 := by rw [← D1_k (mk d tI tL) i j]; exact c_9
                  have hW : WM D ct (lay, sp_clean (mk d tI tL) i j) H := by rw [clm_lo hlo]; exact hW
                  refine lv_iinc (v := nI (i + 1)) (lv' := [(2, .int (nI (i + 1))), (0, .ref (lay 0 0)), (1, .int (nI (j + 1)))]) hx hb d_M_end_118 hl (k := 0) rfl (nI_inc _) (by decide) rfl (fun ls hl => ?_)
                  refine lv_goto (tgt := 9) hx hb d_M_end_121 (by decide) ?_
                  obtain ⟨tI2, tL2, e2⟩ := kp.ex ((kp_mk d tI tL).tr (kp_clean (mk d tI tL) i j))
                  rw [e2] at hW
                  exact ih (i + 1) tI2 tL2 H locs ls (by omega) (by omega) (by rw [← hE, el_yes hq c_2 c_3, e2]) (by have h9 := hok.clean i j; rw [e2] at h9; exact h9) (by have h9 := sk_clean hsk i j; rw [e2] at h9; exact h9) hW hS (lv_sub hl [0, 1, 2] rfl)
                · have c_9 :  gI (mk d tI tL) 1 0 0 = 2 := by rw [← D1_k (mk d tI tL) i j]; exact c_9
                  exact absurd c_9 (by rcases hsk2 with q | q <;> rw [q] <;> decide)
              · have hlo : ¬ i < 96 := fun q => c_8 (nI_lt (b := 96) q (by decide))
                refine lv_aload_n hx hb d_M_end_90 rfl (lv_at hl 1 rfl) ?_
                refine gf_M_94 X (aM0 hW) rfl d_M_end_91 ?_
                refine lv_iconst (v := 1) hx hb d_M_end_94 (by decide) ?_
                refine lv_iadd hx hb d_M_end_95 ?_
                refine lv_goto (tgt := 103) hx hb d_M_end_96 (by decide) ?_
                refine pf_M_94 X (aM0 hW) hS (wfr 0 0 ⟨by decide, rfl⟩) rfl rfl (Nat.le_of_ble_eq_true rfl) d_M_end_103 (fun H locs hat hch hS => ?_)
                have hW := wpM_sick hW hat hch
                refine lv_aload_n hx hb d_M_end_106 rfl (lv_at hl 1 rfl) ?_
                refine gf_M_94 X (aM0 hW) rfl d_M_end_107 ?_
                refine lv_iconst (v := 2) hx hb d_M_end_110 (by decide) ?_
                refine lv_icmp_ne (tgt := 118) hx hb d_M_end_111 (by decide) (fun c_10 => ?_) (fun c_10 => ?_)
                · have c_10 : ¬ gI (mk d tI tL) 1 0 0 + 1 = 2 := by rw [← D1_k (mk d tI tL) i j]; exact c_10
                  have hs0 : gI (mk d tI tL) 1 0 0 = 0 := hsk2.elim id (fun q => absurd (by rw [q]; rfl) c_10)
                  have hW : WM D ct (lay, sp_clean (mk d tI tL) i j) H := by rw [clm_0 hlo hs0]; exact hW
                  refine lv_iinc (v := nI (i + 1)) (lv' := [(2, .int (nI (i + 1))), (0, .ref (lay 0 0)), (1, .int (nI (j + 1)))]) hx hb d_M_end_118 hl (k := 0) rfl (nI_inc _) (by decide) rfl (fun ls hl => ?_)
                  refine lv_goto (tgt := 9) hx hb d_M_end_121 (by decide) ?_
                  obtain ⟨tI2, tL2, e2⟩ := kp.ex ((kp_mk d tI tL).tr (kp_clean (mk d tI tL) i j))
                  rw [e2] at hW
                  exact ih (i + 1) tI2 tL2 H locs ls (by omega) (by omega) (by rw [← hE, el_yes hq c_2 c_3, e2]) (by have h9 := hok.clean i j; rw [e2] at h9; exact h9) (by have h9 := sk_clean hsk i j; rw [e2] at h9; exact h9) hW hS (lv_sub hl [0, 1, 2] rfl)
                · have c_10 :  gI (mk d tI tL) 1 0 0 + 1 = 2 := by rw [← D1_k (mk d tI tL) i j]; exact c_10
                  have hs1 : gI (mk d tI tL) 1 0 0 = 1 := hsk2.elim (fun q => absurd c_10 (by rw [q]; decide)) id
                  refine lv_aload_n hx hb d_M_end_114 rfl (lv_at hl 1 rfl) ?_
                  refine wc_callv (val := valM) (lay := fun u : CS => u.1) (cell := cellM ct) (u0 := (lay, (sI (D1 (mk d tI tL) i j) 1 0 0 (gI (D1 (mk d tI tL) i j) 1 0 0 + 1)))) X (c_M_shutDown l D ct lay (sI (D1 (mk d tI tL) i j) 1 0 0 (gI (D1 (mk d tI tL) i j) 1 0 0 + 1)) _ (by rw [dna_sI, (kp_D1 (mk d tI tL) i j).na]; exact hna) (by rw [dnt_sI, (kp_D1 (mk d tI tL) i j).nt]; exact hnt)) (cw_M_97 X.1.2.2.2.2 rfl rfl ⟨Nat.le_of_ble_eq_true rfl, Nat.le_of_ble_eq_true rfl⟩) hW hS (fun q h => h.imp_right (fun z => Nat.le_trans hS.1 z)) (aM0 hW) rfl rfl hl.1 rfl (Nat.le_of_ble_eq_true rfl) d_M_end_115 ⟨Nat.le_of_ble_eq_true rfl, Nat.le_of_ble_eq_true rfl⟩ (fun u H locs hp hW hz hk hS => ?_)
                  obtain rfl := hp
                  have hW : WM D ct (lay, (sp_shut (sI (D1 (mk d tI tL) i j) 1 0 0 (gI (D1 (mk d tI tL) i j) 1 0 0 + 1)))) H := hW
                  have hW : WM D ct (lay, sp_clean (mk d tI tL) i j) H := by rw [clm_1 hlo hs1]; exact hW
                  refine lv_iinc (v := nI (i + 1)) (lv' := [(2, .int (nI (i + 1))), (0, .ref (lay 0 0)), (1, .int (nI (j + 1)))]) hx hb d_M_end_118 hl (k := 0) rfl (nI_inc _) (by decide) rfl (fun ls hl => ?_)
                  refine lv_goto (tgt := 9) hx hb d_M_end_121 (by decide) ?_
                  obtain ⟨tI2, tL2, e2⟩ := kp.ex ((kp_mk d tI tL).tr (kp_clean (mk d tI tL) i j))
                  rw [e2] at hW
                  exact ih (i + 1) tI2 tL2 H locs ls (by omega) (by omega) (by rw [← hE, el_yes hq c_2 c_3, e2]) (by have h9 := hok.clean i j; rw [e2] at h9; exact h9) (by have h9 := sk_clean hsk i j; rw [e2] at h9; exact h9) hW hS (lv_sub hl [0, 1, 2] rfl)
          · refine lv_goto (tgt := 118) hx hb d_M_end_33 (by decide) ?_
            refine lv_iinc (v := nI (i + 1)) (lv' := [(2, .int (nI (i + 1))), (0, .ref (lay 0 0)), (1, .int (nI (j + 1)))]) hx hb d_M_end_118 hl (k := 0) rfl (nI_inc _) (by decide) rfl (fun ls hl => ?_)
            refine lv_goto (tgt := 9) hx hb d_M_end_121 (by decide) ?_
            exact ih (i + 1) tI tL H locs ls (by omega) (by omega) (by rw [← hE, el_no hq c_2 c_3]) (hok.mono (by omega) (Nat.le_refl _)) hsk hW hS (lv_sub hl [0, 1, 2] rfl)
  exact loop 129 0 (gI (sI d 12 j 0 0)) (gL (sI d 12 j 0 0)) H locs ls (by omega) (by omega) rfl (hok.set 12 j 0 0 (by decide)) hsk hW hS (lv_sub hl [0, 1, 2] rfl)
set_option maxHeartbeats 4000000 in
set_option maxRecDepth 100000 in
theorem c_M_endAll (l : Launch) (D : va_G) (ct : Nat → ClassId) (lay : Nat → Nat → Nat) (d : DC) (sz : Nat) (a : Int32) (o : Nat) (ho : o < dna d) (ea : a = nI (o + 1)) (hna : dna d ≤ 16) (hnt : dnt d ≤ 60) (how : ∀ j, j < dnt d → dow d j < dna d) (h15 : ∀ j, j < dnt d → gI d 15 j 0 = nI (dow d j + 1)) (B B1 : Nat) (hB : B + 7680 < 2147483647) (hok : okc d B B1) (hsk : sk d) :
    CoV valM cellM l D ct y_M_endAll b_M_endAll 3 { frames := 2, cells := 0, slots := 0, locals := 43 } (lay, d) sz [.ref (lay 0 0), .int a] (fun u => u = (lay, sp_all d o)) := by
  refine co_of (by decide) (Nat.le_of_ble_eq_true rfl) (fun p e s m below meth c X hr hlocks hnm hsz hW ls hl => ?_)
  subst hsz
  have hx := X.1.1
  have hb := X.1.2.1
  have hS : va_S (Wfr (valM (lay, d)) lay s.heap.size) s.heap s.heap [] := va_S.rf
  subst ea
  have hl : lv_has ls 3 [(0, .ref (lay 0 0)), (1, .int (nI (o + 1)))] := hl
  refine lv_iconst (v := 1) hx hb d_M_endAll_0 (by decide) ?_
  refine lv_istore_n (lv' := [(2, .int 1), (0, .ref (lay 0 0)), (1, .int (nI (o + 1)))]) hx hb d_M_endAll_1 rfl hl (by decide) rfl (fun ls hl => ?_)
  have loop : ∀ (n i : Nat) (tI : T3) (tL : L3) (H : Heap) (locs : List Loc) (ls : Array Slot), i ≤ dnt d → dnt d + 1 ≤ i + n → sp_al o (dnt d - i) i (mk d tI tL) = sp_all d o → okc (mk d tI tL) (B + 128 * i) B1 → sk (mk d tI tL) → (∀ q, q < dnt d → gI (mk d tI tL) 15 q 0 = nI (dow d q + 1)) → WM D ct (lay, (mk d tI tL)) H → va_S (Wfr (valM (lay, d)) lay s.heap.size) s.heap H locs → lv_has ls 3 [(2, .int (nI (i + 1))), (0, .ref (lay 0 0)), (1, .int (nI (o + 1)))] → W p l e { frames := 2, cells := 0, slots := 0, locals := 43 } s m [.ref (lay 0 0), .int (nI (o + 1))].toArray below meth c H locs 0 0 (MQ below (va_Qv (fun u => u = (lay, sp_all d o)) (WB D classes (tysA ct) valM (fun u : CS => u.1) (cellM ct)) (Wfr (valM (lay, d)) lay s.heap.size)) [.ref (lay 0 0), .int (nI (o + 1))].toArray s 0 0 (Wfr (valM (lay, d)) lay s.heap.size)) (F0 m 2 ls []) := by
    intro n
    induction n with
    | zero => intro i tI tL H locs ls h1 h2; exact absurd h2 (by omega)
    | succ n ih =>
      intro i tI tL H locs ls hi hn hE hok hsk h15 hW hS hl
      refine lv_iload_n hx hb d_M_endAll_2 rfl (lv_at hl 0 rfl) ?_
      refine lv_aload_n hx hb d_M_endAll_3 rfl (lv_at hl 1 rfl) ?_
      refine gf_M_73 X (aM0 hW) rfl d_M_endAll_4 ?_
      refine lv_icmp_gt (tgt := 47) hx hb d_M_endAll_7 (by decide) (fun c_1 => ?_) (fun c_1 => ?_)
      · have hq : i = dnt d := lpm_out (by omega) hi c_1
        exact leafV (val := valM) (cell := cellM) X hr hlocks hS (u2 := (lay, mk d tI tL)) hW (by rw [← hE, show dnt d - i = 0 by omega]; rfl) d_M_endAll_47
      · have hq : i < dnt d := lpm_in (by omega) hi c_1
        refine lv_aload_n hx hb d_M_endAll_10 rfl (lv_at hl 1 rfl) ?_
        refine gf_M_76 X (aM0 hW) rfl d_M_endAll_11 ?_
        refine lv_if_ne (tgt := 47) hx hb d_M_endAll_14 (by decide) (fun c_2 => ?_) (fun c_2 => ?_)
        · rw [dn_0] at c_2
          have c_2 := Decidable.not_not.mp c_2
          exact leafV (val := valM) (cell := cellM) X hr hlocks hS (u2 := (lay, mk d tI tL)) hW (by rw [← hE, al_down c_2]) d_M_endAll_47
        · rw [dn_0] at c_2
          refine lv_aload_n hx hb d_M_endAll_17 rfl (lv_at hl 1 rfl) ?_
          refine gf_M_27 X (aM0 hW) rfl d_M_endAll_18 ?_
          refine lv_iload_n hx hb d_M_endAll_21 rfl (lv_at hl 0 rfl) ?_
          refine rn_iald X 0 (aM6 hW) rfl (t := (i + 1)) rfl (by omega) (by decide) d_M_endAll_22 ?_
          refine lv_iload_n hx hb d_M_endAll_23 rfl (lv_at hl 2 rfl) ?_
          refine lv_icmp_ne (tgt := 41) hx hb d_M_endAll_24 (by decide) (fun c_3 => ?_) (fun c_3 => ?_)
          · have c_3 : ¬ dow d i = o := fun q => c_3 ((h15 i hq).trans (by rw [q]))
            refine lv_iinc (v := nI ((i + 1) + 1)) (lv' := [(2, .int (nI ((i + 1) + 1))), (0, .ref (lay 0 0)), (1, .int (nI (o + 1)))]) hx hb d_M_endAll_41 hl (k := 0) rfl (nI_inc _) (by decide) rfl (fun ls hl => ?_)
            refine lv_goto (tgt := 2) hx hb d_M_endAll_44 (by decide) ?_
            exact ih (i + 1) tI tL H locs ls (by omega) (by omega) (by rw [← al_no (d := mk d tI tL) hq (fun q => c_3 q.2.1)]; exact hE) (hok.mono (by omega) (Nat.le_refl _)) hsk h15 hW hS (lv_sub hl [0, 1, 2] rfl)
          · have c_3 : dow d i = o := by have h9 := (nI_eq (by have := how i hq; omega) (by omega)).mp ((h15 i hq).symm.trans c_3); omega
            refine lv_aload_n hx hb d_M_endAll_27 rfl (lv_at hl 1 rfl) ?_
            refine gf_M_33 X (aM0 hW) rfl d_M_endAll_28 ?_
            refine lv_iload_n hx hb d_M_endAll_31 rfl (lv_at hl 0 rfl) ?_
            refine rn_zald X 2 (aM8 hW) rfl (t := (i + 1)) rfl (by omega) (by decide) d_M_endAll_32 ?_
            refine lv_if_eq (tgt := 41) hx hb d_M_endAll_33 (by decide) (fun c_4 => ?_) (fun c_4 => ?_)
            · refine lv_iinc (v := nI ((i + 1) + 1)) (lv' := [(2, .int (nI ((i + 1) + 1))), (0, .ref (lay 0 0)), (1, .int (nI (o + 1)))]) hx hb d_M_endAll_41 hl (k := 0) rfl (nI_inc _) (by decide) rfl (fun ls hl => ?_)
              refine lv_goto (tgt := 2) hx hb d_M_endAll_44 (by decide) ?_
              exact ih (i + 1) tI tL H locs ls (by omega) (by omega) (by rw [← al_no (d := mk d tI tL) hq (fun q => q.2.2 c_4)]; exact hE) (hok.mono (by omega) (Nat.le_refl _)) hsk h15 hW hS (lv_sub hl [0, 1, 2] rfl)
            · refine lv_aload_n hx hb d_M_endAll_36 rfl (lv_at hl 1 rfl) ?_
              refine lv_iload_n hx hb d_M_endAll_37 rfl (lv_at hl 0 rfl) ?_
              refine wc_callv (val := valM) (lay := fun u : CS => u.1) (cell := cellM ct) (u0 := (lay, (mk d tI tL))) X (c_M_end l D ct lay (mk d tI tL) _ (nI (i + 1)) i hq rfl hna hnt (B + 128 * i) B1 (by omega) hok hsk) (cw_M_100 X.1.2.2.2.2 rfl rfl ⟨Nat.le_of_ble_eq_true rfl, Nat.le_of_ble_eq_true rfl⟩) hW hS (fun q h => h.imp_right (fun z => Nat.le_trans hS.1 z)) (aM0 hW) rfl rfl hl.1 rfl (Nat.le_of_ble_eq_true rfl) d_M_endAll_38 ⟨Nat.le_of_ble_eq_true rfl, Nat.le_of_ble_eq_true rfl⟩ (fun u H locs hp hW hz hk hS => ?_)
              obtain rfl := hp
              obtain ⟨tI_q_5, tL_q_5, e_q_5⟩ := kp.ex ((kp_mk d tI tL).tr (kp_end (mk d tI tL) i))
              have hW : WM D ct (lay, (sp_end (mk d tI tL) i)) H := hW
              rw [e_q_5] at hW
              have hW : WM D ct (lay, (mk d tI_q_5 tL_q_5)) H := hW
              refine lv_iinc (v := nI ((i + 1) + 1)) (lv' := [(2, .int (nI ((i + 1) + 1))), (0, .ref (lay 0 0)), (1, .int (nI (o + 1)))]) hx hb d_M_endAll_41 hl (k := 0) rfl (nI_inc _) (by decide) rfl (fun ls hl => ?_)
              refine lv_goto (tgt := 2) hx hb d_M_endAll_44 (by decide) ?_
              exact ih (i + 1) tI_q_5 tL_q_5 H locs ls (by omega) (by omega) (by rw [← hE, al_yes hq ⟨c_2, c_3, c_4⟩, e_q_5]) (by have h9 := hok.end i; rw [e_q_5] at h9; exact h9.mono (by omega) (Nat.le_refl _)) (by have h9 := sk_end hsk i; rw [e_q_5] at h9; exact h9) (fun q z => by rw [← e_q_5, (kf_end (mk d tI tL) i).2 15 q 0 (by decide)]; exact h15 q z) hW hS (lv_sub hl [0, 1, 2] rfl)
  exact loop (dnt d + 1) 0 (gI d) (gL d) s.heap [] ls (by omega) (by omega) rfl hok hsk h15 hW hS (lv_sub hl [0, 1, 2] rfl)
