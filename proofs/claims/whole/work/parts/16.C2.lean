set_option maxHeartbeats 4000000 in
set_option maxRecDepth 100000 in
theorem c_P_countHeldBy (l : Launch) (D : va_G) (ct : Nat → ClassId) (lay : Nat → Nat → Nat) (d : DC) (sz : Nat) (j : Nat) (hj : j < dnt d) :
    CoI valC cellC l D ct y_P_countHeldBy b_P_countHeldBy 7 (some .int) { frames := 0, cells := 0, slots := 0, locals := 0 } (lay, d) sz [.ref (lay 0 0), .ref (lay 11 j)] (fun r u => r = cnt (gI d 2 0) (nI (j + 1)) 128 ∧ u = (lay, d)) := by
  refine co_of (by decide) (Nat.le_of_ble_eq_true rfl) (fun p e s m below meth c X hr hlocks hnm hsz hW ls hl => ?_)
  subst hsz
  have hx := X.1.1
  have hb := X.1.2.1
  have hS : va_S (Wfr (valC (lay, d)) lay s.heap.size) s.heap s.heap [] := va_S.rf
  have hl : lv_has ls 7 [(0, .ref (lay 0 0)), (1, .ref (lay 11 j))] := hl
  refine lv_iconst (v := 0) hx hb d_P_countHeldBy_0 (by decide) ?_
  refine lv_istore_n (lv' := [(2, .int 0), (0, .ref (lay 0 0)), (1, .ref (lay 11 j))]) hx hb d_P_countHeldBy_1 rfl hl (by decide) rfl (fun ls hl => ?_)
  refine lv_aload_n hx hb d_P_countHeldBy_2 rfl (lv_at hl 1 rfl) ?_
  refine gf_P_21 X (aC0 hW) rfl d_P_countHeldBy_3 ?_
  refine lv_astore_n (lv' := [(3, .ref (lay 3 0)), (2, .int 0), (0, .ref (lay 0 0)), (1, .ref (lay 11 j))]) hx hb d_P_countHeldBy_6 rfl hl (by decide) rfl (fun ls hl => ?_)
  refine lv_aload_n hx hb d_P_countHeldBy_7 rfl (lv_at hl 0 rfl) ?_
  refine rr_alen X 0 (aC3 hW) rfl (v := 128) rfl d_P_countHeldBy_8 ?_
  refine lv_istore (lv' := [(4, .int 128), (3, .ref (lay 3 0)), (2, .int 0), (0, .ref (lay 0 0)), (1, .ref (lay 11 j))]) hx hb d_P_countHeldBy_9 hl (by decide) rfl (fun ls hl => ?_)
  refine lv_iconst (v := 0) hx hb d_P_countHeldBy_11 (by decide) ?_
  refine lv_istore (lv' := [(5, .int 0), (4, .int 128), (3, .ref (lay 3 0)), (2, .int 0), (0, .ref (lay 0 0)), (1, .ref (lay 11 j))]) hx hb d_P_countHeldBy_12 hl (by decide) rfl (fun ls hl => ?_)
  have loop : ∀ (n i : Nat) (a2 : Int32) (ls : Array Slot), i ≤ 128 → 128 + 1 ≤ i + n → a2 = cnt (gI d 2 0) (nI (j + 1)) i → lv_has ls 7 [(5, .int (nI i)), (4, .int 128), (3, .ref (lay 3 0)), (2, .int a2), (0, .ref (lay 0 0)), (1, .ref (lay 11 j))] → W p l e { frames := 0, cells := 0, slots := 0, locals := 0 } s m [.ref (lay 0 0), .ref (lay 11 j)].toArray below meth c s.heap [] 0 0 (MQ below (va_Qi (fun r u => r = cnt (gI d 2 0) (nI (j + 1)) 128 ∧ u = (lay, d)) (WB D classes (tysA ct) valC (fun u : CS => u.1) (cellC ct)) (Wfr (valC (lay, d)) lay s.heap.size)) [.ref (lay 0 0), .ref (lay 11 j)].toArray s 0 0 (Wfr (valC (lay, d)) lay s.heap.size)) (F0 m 14 ls []) := by
    intro n
    induction n with
    | zero => intro i a2 ls h1 h2; exact absurd h2 (by omega)
    | succ n ih =>
      intro i a2 ls hi hn ea hl
      refine lv_iload hx hb d_P_countHeldBy_14 (lv_at hl 0 rfl) ?_
      refine lv_iload hx hb d_P_countHeldBy_16 (lv_at hl 1 rfl) ?_
      refine lv_icmp_ge (tgt := 45) hx hb d_P_countHeldBy_18 (by decide) (fun c_1 => ?_) (fun c_1 => ?_)
      · have hq : i = 128 := lp_out (by decide) hi c_1
        refine lv_iload_n hx hb d_P_countHeldBy_45 rfl (lv_at hl 3 rfl) ?_
        exact leafI (val := valC) (cell := cellC) X hr hlocks hS (u2 := (lay, d)) hW (v := a2) ⟨by rw [ea, hq], rfl⟩ d_P_countHeldBy_46
      · have hq : i < 128 := lp_in (by decide) hi c_1
        refine lv_aload_n hx hb d_P_countHeldBy_21 rfl (lv_at hl 2 rfl) ?_
        refine lv_iload hx hb d_P_countHeldBy_22 (lv_at hl 0 rfl) ?_
        refine rn_iald X 0 (aC3 hW) rfl (t := i) rfl hq (by decide) d_P_countHeldBy_24 ?_
        refine lv_istore (lv' := [(6, .int (gI d 2 0 i)), (5, .int (nI i)), (4, .int 128), (3, .ref (lay 3 0)), (2, .int a2), (0, .ref (lay 0 0)), (1, .ref (lay 11 j))]) hx hb d_P_countHeldBy_25 hl (by decide) rfl (fun ls hl => ?_)
        refine lv_iload hx hb d_P_countHeldBy_27 (lv_at hl 0 rfl) ?_
        refine lv_aload_n hx hb d_P_countHeldBy_29 rfl (lv_at hl 6 rfl) ?_
        refine gf_P_85 X (aC11 hW hj) rfl d_P_countHeldBy_30 ?_
        refine lv_icmp_ne (tgt := 39) hx hb d_P_countHeldBy_33 (by decide) (fun c_2 => ?_) (fun c_2 => ?_)
        · refine lv_iinc (v := nI (i + 1)) (lv' := [(5, .int (nI (i + 1))), (6, .int (gI d 2 0 i)), (4, .int 128), (3, .ref (lay 3 0)), (2, .int a2), (0, .ref (lay 0 0)), (1, .ref (lay 11 j))]) hx hb d_P_countHeldBy_39 hl (k := 1) rfl (nI_inc _) (by decide) rfl (fun ls hl => ?_)
          refine lv_goto (tgt := 14) hx hb d_P_countHeldBy_42 (by decide) ?_
          exact ih (i + 1) _ ls (by omega) (by omega) (by rw [ea, cnt_n c_2]) (lv_sub hl [0, 2, 3, 4, 5, 6] rfl)
        · obtain ⟨k_3, ek_3⟩ : ∃ z : Int32, z = a2 + 1 := ⟨_, rfl⟩
          refine lv_iinc (v := k_3) (lv' := [(2, .int k_3), (6, .int (gI d 2 0 i)), (5, .int (nI i)), (4, .int 128), (3, .ref (lay 3 0)), (0, .ref (lay 0 0)), (1, .ref (lay 11 j))]) hx hb d_P_countHeldBy_36 hl (k := 4) rfl (by rw [ek_3]; rfl) (by decide) rfl (fun ls hl => ?_)
          refine lv_iinc (v := nI (i + 1)) (lv' := [(5, .int (nI (i + 1))), (2, .int k_3), (6, .int (gI d 2 0 i)), (4, .int 128), (3, .ref (lay 3 0)), (0, .ref (lay 0 0)), (1, .ref (lay 11 j))]) hx hb d_P_countHeldBy_39 hl (k := 2) rfl (nI_inc _) (by decide) rfl (fun ls hl => ?_)
          refine lv_goto (tgt := 14) hx hb d_P_countHeldBy_42 (by decide) ?_
          exact ih (i + 1) _ ls (by omega) (by omega) (by rw [ek_3, ea, cnt_y c_2]) (lv_sub hl [0, 3, 4, 1, 5, 6] rfl)
  exact loop 129 0 0 ls (by omega) (by omega) rfl (lv_sub hl [0, 1, 2, 3, 4, 5] rfl)
set_option maxHeartbeats 4000000 in
set_option maxRecDepth 100000 in
theorem c_A_hasAddress (l : Launch) (D : va_G) (ct : Nat → ClassId) (lay : Nat → Nat → Nat) (d : DC) (sz : Nat) (i0 : Nat) (hi0 : i0 < dna d) (a : Int64) (n0 : Nat) (hn0 : n0 ≤ 8) (hrc : gI d 9 i0 0 = nI n0) :
    CoI valC cellC l D ct y_A_hasAddress b_A_hasAddress 4 (some .boolean) { frames := 0, cells := 0, slots := 0, locals := 0 } (lay, d) sz [.ref (lay 8 i0), .long a] (fun r u => (r = if sp_in d i0 a = true then 1 else 0) ∧ u = (lay, d)) := by
  refine co_of (by decide) (Nat.le_of_ble_eq_true rfl) (fun p e s m below meth c X hr hlocks hnm hsz hW ls hl => ?_)
  subst hsz
  have hx := X.1.1
  have hb := X.1.2.1
  have hS : va_S (Wfr (valC (lay, d)) lay s.heap.size) s.heap s.heap [] := va_S.rf
  have hl : lv_has ls 4 [(0, .ref (lay 8 i0)), (1, .long a)] := hl
  refine lv_iconst (v := 0) hx hb d_A_hasAddress_0 (by decide) ?_
  refine lv_istore_n (lv' := [(3, .int 0), (0, .ref (lay 8 i0)), (1, .long a)]) hx hb d_A_hasAddress_1 rfl hl (by decide) rfl (fun ls hl => ?_)
  have loop : ∀ (n i : Nat) (ls : Array Slot), i ≤ n0 → n0 + 1 ≤ i + n → inB (gL d 0 i0) (gL d 1 i0) a i = false → lv_has ls 4 [(3, .int (nI i)), (0, .ref (lay 8 i0)), (1, .long a)] → W p l e { frames := 0, cells := 0, slots := 0, locals := 0 } s m [.ref (lay 8 i0), .long a].toArray below meth c s.heap [] 0 0 (MQ below (va_Qi (fun r u => (r = if sp_in d i0 a = true then 1 else 0) ∧ u = (lay, d)) (WB D classes (tysA ct) valC (fun u : CS => u.1) (cellC ct)) (Wfr (valC (lay, d)) lay s.heap.size)) [.ref (lay 8 i0), .long a].toArray s 0 0 (Wfr (valC (lay, d)) lay s.heap.size)) (F0 m 2 ls []) := by
    intro n
    induction n with
    | zero => intro i  ls h1 h2; exact absurd h2 (by omega)
    | succ n ih =>
      intro i  ls hi hn hf hl
      refine lv_iload_n hx hb d_A_hasAddress_2 rfl (lv_at hl 0 rfl) ?_
      refine lv_aload_n hx hb d_A_hasAddress_3 rfl (lv_at hl 1 rfl) ?_
      refine gf_A_22 X (aC8 hW hi0) rfl d_A_hasAddress_4 ?_
      refine lv_icmp_ge (tgt := 53) hx hb d_A_hasAddress_7 (by decide) (fun c_1 => ?_) (fun c_1 => ?_)
      · rw [hrc] at c_1
        have hq : i = n0 := lp_out (by omega) hi c_1
        refine lv_iconst (v := 0) hx hb d_A_hasAddress_53 (by decide) ?_
        exact leafZ (val := valC) (cell := cellC) X hr hlocks hS (u2 := (lay, d)) hW (v := 0) rfl ⟨by simp only [sp_in, hrc, nI_clamp (show n0 < 2 ^ 31 by omega)]; rw [← hq, hf]; rfl, rfl⟩ d_A_hasAddress_54
      · rw [hrc] at c_1
        have hq : i < n0 := lp_in (by omega) hi c_1
        refine lv_iload_n hx hb d_A_hasAddress_10 rfl (lv_at hl 0 rfl) ?_
        refine lv_bipush (v := 8) hx hb d_A_hasAddress_11 (by decide) ?_
        refine lv_icmp_ge (tgt := 53) hx hb d_A_hasAddress_13 (by decide) (fun c_2 => ?_) (fun c_2 => ?_)
        · exact absurd ((nI_leI (a := 8) (by decide) (by omega)).mp c_2) (by omega)
        · refine lv_lload_n hx hb d_A_hasAddress_16 rfl (lv_at hl 2 rfl) ?_
          refine lv_aload_n hx hb d_A_hasAddress_17 rfl (lv_at hl 1 rfl) ?_
          refine gf_A_9 X (aC8 hW hi0) rfl d_A_hasAddress_18 ?_
          refine lv_iload_n hx hb d_A_hasAddress_21 rfl (lv_at hl 0 rfl) ?_
          refine rn_lald X 1 (aC9 hW hi0) rfl (t := i) rfl (show i < 8 by omega) (by decide) d_A_hasAddress_22 ?_
          refine W.lcmp hx hb d_A_hasAddress_23 ?_
          refine lv_if_lt (tgt := 47) hx hb d_A_hasAddress_24 (by decide) (fun c_3 => ?_) (fun c_3 => ?_)
          · rw [lgc_lt] at c_3
            refine lv_iinc (v := nI (i + 1)) (lv' := [(3, .int (nI (i + 1))), (0, .ref (lay 8 i0)), (1, .long a)]) hx hb d_A_hasAddress_47 hl (k := 0) rfl (nI_inc _) (by decide) rfl (fun ls hl => ?_)
            refine lv_goto (tgt := 2) hx hb d_A_hasAddress_50 (by decide) ?_
            exact ih (i + 1) ls (by omega) (by omega) (inB_f hf (fun q => absurd q.1 (Int64.not_le.mpr c_3))) (lv_sub hl [0, 1, 2] rfl)
          · rw [lgc_lt] at c_3
            refine lv_lload_n hx hb d_A_hasAddress_27 rfl (lv_at hl 2 rfl) ?_
            refine lv_aload_n hx hb d_A_hasAddress_28 rfl (lv_at hl 1 rfl) ?_
            refine gf_A_9 X (aC8 hW hi0) rfl d_A_hasAddress_29 ?_
            refine lv_iload_n hx hb d_A_hasAddress_32 rfl (lv_at hl 0 rfl) ?_
            refine rn_lald X 1 (aC9 hW hi0) rfl (t := i) rfl (show i < 8 by omega) (by decide) d_A_hasAddress_33 ?_
            refine lv_lsub hx hb d_A_hasAddress_34 ?_
            refine lv_aload_n hx hb d_A_hasAddress_35 rfl (lv_at hl 1 rfl) ?_
            refine gf_A_15 X (aC8 hW hi0) rfl d_A_hasAddress_36 ?_
            refine lv_iload_n hx hb d_A_hasAddress_39 rfl (lv_at hl 0 rfl) ?_
            refine rn_lald X 1 (aC10 hW hi0) rfl (t := i) rfl (show i < 8 by omega) (by decide) d_A_hasAddress_40 ?_
            refine W.lcmp hx hb d_A_hasAddress_41 ?_
            refine lv_if_ge (tgt := 47) hx hb d_A_hasAddress_42 (by decide) (fun c_4 => ?_) (fun c_4 => ?_)
            · rw [lgc_ge] at c_4
              refine lv_iinc (v := nI (i + 1)) (lv' := [(3, .int (nI (i + 1))), (0, .ref (lay 8 i0)), (1, .long a)]) hx hb d_A_hasAddress_47 hl (k := 0) rfl (nI_inc _) (by decide) rfl (fun ls hl => ?_)
              refine lv_goto (tgt := 2) hx hb d_A_hasAddress_50 (by decide) ?_
              exact ih (i + 1) ls (by omega) (by omega) (inB_f hf (fun q => absurd q.2 (Int64.not_lt.mpr c_4))) (lv_sub hl [0, 1, 2] rfl)
            · rw [lgc_ge] at c_4
              refine lv_iconst (v := 1) hx hb d_A_hasAddress_45 (by decide) ?_
              exact leafZ (val := valC) (cell := cellC) X hr hlocks hS (u2 := (lay, d)) hW (v := 1) rfl ⟨by simp only [sp_in, hrc, nI_clamp (show n0 < 2 ^ 31 by omega)]; rw [inB_t hq ⟨Int64.not_lt.mp c_3, Int64.not_le.mp c_4⟩]; rfl, rfl⟩ d_A_hasAddress_46
  exact loop (n0 + 1) 0 ls (by omega) (by omega) rfl (lv_sub hl [0, 1, 2] rfl)
