set_option maxHeartbeats 4000000 in
set_option maxRecDepth 100000 in
theorem c_A_addRegion (l : Launch) (D : va_G) (ct : Nat → ClassId) (lay : Nat → Nat → Nat) (d : DC) (sz : Nat) (i0 : Nat) (hi0 : i0 < dna d) (f n : Int64) (n0 : Nat) (hn0 : n0 < 8) (hrc : gI d 9 i0 0 = nI n0) :
    CoV valC cellC l D ct y_A_addRegion b_A_addRegion 5 { frames := 0, cells := 0, slots := 0, locals := 0 } (lay, d) sz [.ref (lay 8 i0), .long f, .long n] (fun u => u = (lay, sp_addR d i0 f n)) := by
  refine co_of (by decide) (Nat.le_of_ble_eq_true rfl) (fun p e s m below meth c X hr hlocks hnm hsz hW ls hl => ?_)
  subst hsz
  have hx := X.1.1
  have hb := X.1.2.1
  have hS : va_S (Wfr (valC (lay, d)) lay s.heap.size) s.heap s.heap [] := va_S.rf
  have hl : lv_has ls 5 [(0, .ref (lay 8 i0)), (1, .long f), (3, .long n)] := hl
  refine lv_aload_n hx hb d_A_addRegion_0 rfl (lv_at hl 0 rfl) ?_
  refine gf_A_22 X (aC8 hW hi0) rfl d_A_addRegion_1 ?_
  refine lv_bipush (v := 8) hx hb d_A_addRegion_4 (by decide) ?_
  refine lv_icmp_ge (tgt := 39) hx hb d_A_addRegion_6 (by decide) (fun c_1 => ?_) (fun c_1 => ?_)
  · exact absurd ((nI_leI (a := 8) (by decide) (by omega)).mp (hrc ▸ c_1)) (by omega)
  · refine lv_aload_n hx hb d_A_addRegion_9 rfl (lv_at hl 0 rfl) ?_
    refine gf_A_9 X (aC8 hW hi0) rfl d_A_addRegion_10 ?_
    refine lv_aload_n hx hb d_A_addRegion_13 rfl (lv_at hl 0 rfl) ?_
    refine gf_A_22 X (aC8 hW hi0) rfl d_A_addRegion_14 ?_
    refine lv_lload_n hx hb d_A_addRegion_17 rfl (lv_at hl 1 rfl) ?_
    refine rn_last X 1 (aC9 hW hi0) rfl hS (wfr 9 i0 hi0) (t := n0) hrc (by omega) (by decide) d_A_addRegion_18 (fun H locs hat hch hS => ?_)
    have hW := wpC_aL0 hW hi0 hat hch
    refine lv_aload_n hx hb d_A_addRegion_19 rfl (lv_at hl 0 rfl) ?_
    refine gf_A_15 X (aC8 hW hi0) rfl d_A_addRegion_20 ?_
    refine lv_aload_n hx hb d_A_addRegion_23 rfl (lv_at hl 0 rfl) ?_
    refine gf_A_22 X (aC8 hW hi0) rfl d_A_addRegion_24 ?_
    refine lv_lload_n hx hb d_A_addRegion_27 rfl (lv_at hl 2 rfl) ?_
    refine rn_last X 1 (aC10 hW hi0) rfl hS (wfr 10 i0 hi0) (t := n0) hrc (by omega) (by decide) d_A_addRegion_28 (fun H locs hat hch hS => ?_)
    have hW := wpC_aL1 hW hi0 hat hch
    refine lv_aload_n hx hb d_A_addRegion_29 rfl (lv_at hl 0 rfl) ?_
    refine lv_dup hx hb d_A_addRegion_30 rfl ?_
    refine gf_A_22 X (aC8 hW hi0) rfl d_A_addRegion_31 ?_
    refine lv_iconst (v := 1) hx hb d_A_addRegion_34 (by decide) ?_
    refine lv_iadd hx hb d_A_addRegion_35 ?_
    refine pf_A_22 X (aC8 hW hi0) hS (wfr 8 i0 hi0) rfl rfl (Nat.le_of_ble_eq_true rfl) d_A_addRegion_36 (fun H locs hat hch hS => ?_)
    have hW := wpC_I9 hW hi0 hat hch
    exact leafV (val := valC) (cell := cellC) X hr hlocks hS (u2 := (lay, (sI (sL (sL d 0 i0 n0 f) 1 i0 n0 n) 9 i0 0 (gI (sL (sL d 0 i0 n0 f) 1 i0 n0 n) 9 i0 0 + 1)))) hW (by unfold sp_addR; rw [show (gI d 9 i0 0).toNatClampNeg = n0 by rw [hrc]; exact nI_clamp (by omega)]; try rfl) d_A_addRegion_39
theorem ix4 (c : Nat) : nI c * 4 = nI (4 * c) := (pk_mul c 4).trans (by rw [Nat.mul_comm])
theorem ix4k (c k : Nat) : nI c * 4 + nI k = nI (4 * c + k) := by rw [ix4, nI_add]
theorem wr_n {lay : Nat → Nat → Nat} {d : DC} {b c : Nat} {a1 a2 a3 a4 : Int32} (hc : gI d 5 b 0 = nI c) (h : 500 ≤ c) (h2 : c < 2 ^ 31) : ((lay, sI d 5 b 0 (gI d 5 b 0 + 1)) : CS) = (lay, sp_write d b a1 a2 a3 a4) := by
  unfold sp_write sp_row
  rw [if_neg (by rw [hc]; exact nI_nlt (b := 500) h h2)]
theorem wr_y {lay : Nat → Nat → Nat} {d : DC} {b c : Nat} {a1 a2 a3 a4 : Int32} (hc : gI d 5 b 0 = nI c) (h : c < 500) (h2 : c < 2 ^ 31) : ((lay, sI (sI (sI (sI (sI d 7 b (4 * c) a1) 7 b (4 * c + 1) a2) 7 b (4 * c + 2) a3) 7 b (4 * c + 3) a4) 5 b 0 (gI d 5 b 0 + 1)) : CS) = (lay, sp_write d b a1 a2 a3 a4) := by
  unfold sp_write sp_row
  rw [if_pos (by rw [hc]; exact nI_lt (b := 500) h (by decide)), show (gI d 5 b 0).toNatClampNeg = c by rw [hc]; exact nI_clamp h2]

set_option maxHeartbeats 4000000 in
set_option maxRecDepth 100000 in
theorem c_B_write (l : Launch) (D : va_G) (ct : Nat → ClassId) (lay : Nat → Nat → Nat) (d : DC) (sz : Nat) (b0 : Nat) (hb0 : b0 < 2) (a1 a2 a3 a4 : Int32) (c0 : Nat) (hc : c0 < 2147483647) (hc0 : gI d 5 b0 0 = nI c0) :
    CoV valC cellC l D ct y_B_write b_B_write 6 { frames := 0, cells := 0, slots := 0, locals := 0 } (lay, d) sz [.ref (lay 6 b0), .int a1, .int a2, .int a3, .int a4] (fun u => u = (lay, sp_write d b0 a1 a2 a3 a4)) := by
  refine co_of (by decide) (Nat.le_of_ble_eq_true rfl) (fun p e s m below meth c X hr hlocks hnm hsz hW ls hl => ?_)
  subst hsz
  have hx := X.1.1
  have hb := X.1.2.1
  have hS : va_S (Wfr (valC (lay, d)) lay s.heap.size) s.heap s.heap [] := va_S.rf
  have hl : lv_has ls 6 [(0, .ref (lay 6 b0)), (1, .int a1), (2, .int a2), (3, .int a3), (4, .int a4)] := hl
  refine lv_aload_n hx hb d_B_write_0 rfl (lv_at hl 0 rfl) ?_
  refine gf_B_19 X (aC6 hW hb0) rfl d_B_write_1 ?_
  refine lv_sipush (v := 500) hx hb d_B_write_4 (by decide) ?_
  refine lv_icmp_ge (tgt := 57) hx hb d_B_write_7 (by decide) (fun c_1 => ?_) (fun c_1 => ?_)
  · rw [hc0] at c_1
    have hq : 500 ≤ c0 := (nI_leI (a := 500) (by decide) (by omega)).mp c_1
    refine lv_aload_n hx hb d_B_write_57 rfl (lv_at hl 0 rfl) ?_
    refine gf_B_19 X (aC6 hW hb0) rfl d_B_write_58 ?_
    refine lv_ldc (v := 2147483647) hx hb X.1.2.2.2.1 (X.1.2.2.2.2 _ (List.mem_of_getElem? (i := 179) rfl)) d_B_write_61 ?_
    refine lv_icmp_ge (tgt := 76) hx hb d_B_write_63 (by decide) (fun c_2 => ?_) (fun c_2 => ?_)
    · exact absurd c_2 (by rw [show gI d 5 b0 0 = nI c0 from hc0]; exact nI_ge (b := 2147483647) hc (by decide))
    · refine lv_aload_n hx hb d_B_write_66 rfl (lv_at hl 0 rfl) ?_
      refine lv_dup hx hb d_B_write_67 rfl ?_
      refine gf_B_19 X (aC6 hW hb0) rfl d_B_write_68 ?_
      refine lv_iconst (v := 1) hx hb d_B_write_71 (by decide) ?_
      refine lv_iadd hx hb d_B_write_72 ?_
      refine pf_B_19 X (aC6 hW hb0) hS (wfr 6 b0 hb0) rfl rfl (Nat.le_of_ble_eq_true rfl) d_B_write_73 (fun H locs hat hch hS => ?_)
      have hW := wpC_I5 hW hb0 hat hch
      exact leafV (val := valC) (cell := cellC) X hr hlocks hS (u2 := (lay, (sI d 5 b0 0 (gI d 5 b0 0 + 1)))) hW (wr_n hc0 hq (by omega)) d_B_write_76
  · rw [hc0] at c_1
    have hq : c0 < 500 := Nat.not_le.mp (fun q => c_1 (nI_le (a := 500) q (by omega)))
    refine lv_aload_n hx hb d_B_write_10 rfl (lv_at hl 0 rfl) ?_
    refine gf_B_19 X (aC6 hW hb0) rfl d_B_write_11 ?_
    refine lv_iconst (v := 4) hx hb d_B_write_14 (by decide) ?_
    refine lv_imul hx hb d_B_write_15 ?_
    refine lv_istore (lv' := [(5, .int (gI d 5 b0 0 * 4)), (0, .ref (lay 6 b0)), (1, .int a1), (2, .int a2), (3, .int a3), (4, .int a4)]) hx hb d_B_write_16 hl (by decide) rfl (fun ls hl => ?_)
    refine lv_aload_n hx hb d_B_write_18 rfl (lv_at hl 1 rfl) ?_
    refine gf_B_11 X (aC6 hW hb0) rfl d_B_write_19 ?_
    refine lv_iload hx hb d_B_write_22 (lv_at hl 0 rfl) ?_
    refine lv_iload_n hx hb d_B_write_24 rfl (lv_at hl 2 rfl) ?_
    refine rn_iast X 0 (aC7 hW hb0) rfl hS (wfr 7 b0 hb0) (t := (4 * c0)) (by rw [hc0]; exact ix4 c0) (by omega) (by decide) d_B_write_25 (fun H locs hat hch hS => ?_)
    have hW := wpC_aI7 hW hb0 hat hch
    refine lv_aload_n hx hb d_B_write_26 rfl (lv_at hl 1 rfl) ?_
    refine gf_B_11 X (aC6 hW hb0) rfl d_B_write_27 ?_
    refine lv_iload hx hb d_B_write_30 (lv_at hl 0 rfl) ?_
    refine lv_iconst (v := 1) hx hb d_B_write_32 (by decide) ?_
    refine lv_iadd hx hb d_B_write_33 ?_
    refine lv_iload_n hx hb d_B_write_34 rfl (lv_at hl 3 rfl) ?_
    refine rn_iast X 0 (aC7 hW hb0) rfl hS (wfr 7 b0 hb0) (t := (4 * c0 + 1)) (by rw [hc0]; exact ix4k c0 1) (by omega) (by decide) d_B_write_35 (fun H locs hat hch hS => ?_)
    have hW := wpC_aI7 hW hb0 hat hch
    refine lv_aload_n hx hb d_B_write_36 rfl (lv_at hl 1 rfl) ?_
    refine gf_B_11 X (aC6 hW hb0) rfl d_B_write_37 ?_
    refine lv_iload hx hb d_B_write_40 (lv_at hl 0 rfl) ?_
    refine lv_iconst (v := 2) hx hb d_B_write_42 (by decide) ?_
    refine lv_iadd hx hb d_B_write_43 ?_
    refine lv_iload_n hx hb d_B_write_44 rfl (lv_at hl 4 rfl) ?_
    refine rn_iast X 0 (aC7 hW hb0) rfl hS (wfr 7 b0 hb0) (t := (4 * c0 + 2)) (by rw [hc0]; exact ix4k c0 2) (by omega) (by decide) d_B_write_45 (fun H locs hat hch hS => ?_)
    have hW := wpC_aI7 hW hb0 hat hch
    refine lv_aload_n hx hb d_B_write_46 rfl (lv_at hl 1 rfl) ?_
    refine gf_B_11 X (aC6 hW hb0) rfl d_B_write_47 ?_
    refine lv_iload hx hb d_B_write_50 (lv_at hl 0 rfl) ?_
    refine lv_iconst (v := 3) hx hb d_B_write_52 (by decide) ?_
    refine lv_iadd hx hb d_B_write_53 ?_
    refine lv_iload hx hb d_B_write_54 (lv_at hl 5 rfl) ?_
    refine rn_iast X 0 (aC7 hW hb0) rfl hS (wfr 7 b0 hb0) (t := (4 * c0 + 3)) (by rw [hc0]; exact ix4k c0 3) (by omega) (by decide) d_B_write_56 (fun H locs hat hch hS => ?_)
    have hW := wpC_aI7 hW hb0 hat hch
    refine lv_aload_n hx hb d_B_write_57 rfl (lv_at hl 1 rfl) ?_
    refine gf_B_19 X (aC6 hW hb0) rfl d_B_write_58 ?_
    refine lv_ldc (v := 2147483647) hx hb X.1.2.2.2.1 (X.1.2.2.2.2 _ (List.mem_of_getElem? (i := 179) rfl)) d_B_write_61 ?_
    refine lv_icmp_ge (tgt := 76) hx hb d_B_write_63 (by decide) (fun c_3 => ?_) (fun c_3 => ?_)
    · exact absurd c_3 (by rw [show gI (sI (sI (sI (sI d 7 b0 (4 * c0) a1) 7 b0 (4 * c0 + 1) a2) 7 b0 (4 * c0 + 2) a3) 7 b0 (4 * c0 + 3) a4) 5 b0 0 = nI c0 from hc0]; exact nI_ge (b := 2147483647) hc (by decide))
    · refine lv_aload_n hx hb d_B_write_66 rfl (lv_at hl 1 rfl) ?_
      refine lv_dup hx hb d_B_write_67 rfl ?_
      refine gf_B_19 X (aC6 hW hb0) rfl d_B_write_68 ?_
      refine lv_iconst (v := 1) hx hb d_B_write_71 (by decide) ?_
      refine lv_iadd hx hb d_B_write_72 ?_
      refine pf_B_19 X (aC6 hW hb0) hS (wfr 6 b0 hb0) rfl rfl (Nat.le_of_ble_eq_true rfl) d_B_write_73 (fun H locs hat hch hS => ?_)
      have hW := wpC_I5 hW hb0 hat hch
      exact leafV (val := valC) (cell := cellC) X hr hlocks hS (u2 := (lay, (sI (sI (sI (sI (sI d 7 b0 (4 * c0) a1) 7 b0 (4 * c0 + 1) a2) 7 b0 (4 * c0 + 2) a3) 7 b0 (4 * c0 + 3) a4) 5 b0 0 (gI (sI (sI (sI (sI d 7 b0 (4 * c0) a1) 7 b0 (4 * c0 + 1) a2) 7 b0 (4 * c0 + 2) a3) 7 b0 (4 * c0 + 3) a4) 5 b0 0 + 1)))) hW (wr_y hc0 hq (by omega)) d_B_write_76
set_option maxHeartbeats 4000000 in
set_option maxRecDepth 100000 in
theorem c_B_tell (l : Launch) (D : va_G) (ct : Nat → ClassId) (lay : Nat → Nat → Nat) (d : DC) (sz : Nat) (b0 : Nat) (hb0 : b0 < 2) (i w : Int32) :
    CoI valC cellC l D ct y_B_tell b_B_tell 3 (some .int) { frames := 0, cells := 0, slots := 0, locals := 0 } (lay, d) sz [.ref (lay 6 b0), .int i, .int w] (fun r u => r = sp_tell d b0 i w ∧ u = (lay, d)) := by
  refine co_of (by decide) (Nat.le_of_ble_eq_true rfl) (fun p e s m below meth c X hr hlocks hnm hsz hW ls hl => ?_)
  subst hsz
  have hx := X.1.1
  have hb := X.1.2.1
  have hS : va_S (Wfr (valC (lay, d)) lay s.heap.size) s.heap s.heap [] := va_S.rf
  have hl : lv_has ls 3 [(0, .ref (lay 6 b0)), (1, .int i), (2, .int w)] := hl
  refine lv_iload_n hx hb d_B_tell_0 rfl (lv_at hl 1 rfl) ?_
  refine lv_iconst (v := -1) hx hb d_B_tell_1 (by decide) ?_
  refine lv_icmp_ne (tgt := 14) hx hb d_B_tell_2 (by decide) (fun c_1 => ?_) (fun c_1 => ?_)
  · refine lv_iload_n hx hb d_B_tell_14 rfl (lv_at hl 1 rfl) ?_
    refine lv_if_lt (tgt := 33) hx hb d_B_tell_15 (by decide) (fun c_2 => ?_) (fun c_2 => ?_)
    · refine lv_iconst (v := -1) hx hb d_B_tell_33 (by decide) ?_
      exact leafI (val := valC) (cell := cellC) X hr hlocks hS (u2 := (lay, d)) hW (v := (-1)) ⟨by simp [sp_tell, c_1, c_2], rfl⟩ d_B_tell_34
    · refine lv_iload_n hx hb d_B_tell_18 rfl (lv_at hl 1 rfl) ?_
      refine lv_aload_n hx hb d_B_tell_19 rfl (lv_at hl 0 rfl) ?_
      refine gf_B_19 X (aC6 hW hb0) rfl d_B_tell_20 ?_
      refine lv_icmp_ge (tgt := 33) hx hb d_B_tell_23 (by decide) (fun c_3 => ?_) (fun c_3 => ?_)
      · refine lv_iconst (v := -1) hx hb d_B_tell_33 (by decide) ?_
        exact leafI (val := valC) (cell := cellC) X hr hlocks hS (u2 := (lay, d)) hW (v := (-1)) ⟨by simp [sp_tell, c_1, c_2, c_3], rfl⟩ d_B_tell_34
      · refine lv_iload_n hx hb d_B_tell_26 rfl (lv_at hl 1 rfl) ?_
        refine lv_sipush (v := 500) hx hb d_B_tell_27 (by decide) ?_
        refine lv_icmp_lt (tgt := 35) hx hb d_B_tell_30 (by decide) (fun c_4 => ?_) (fun c_4 => ?_)
        · refine lv_iload_n hx hb d_B_tell_35 rfl (lv_at hl 2 rfl) ?_
          refine lv_if_lt (tgt := 47) hx hb d_B_tell_36 (by decide) (fun c_5 => ?_) (fun c_5 => ?_)
          · refine lv_bipush (v := -2) hx hb d_B_tell_47 (by decide) ?_
            exact leafI (val := valC) (cell := cellC) X hr hlocks hS (u2 := (lay, d)) hW (v := (-2)) ⟨by simp [sp_tell, c_1, c_2, c_3, c_4, c_5], rfl⟩ d_B_tell_49
          · refine lv_iload_n hx hb d_B_tell_39 rfl (lv_at hl 2 rfl) ?_
            refine lv_aload_n hx hb d_B_tell_40 rfl (lv_at hl 0 rfl) ?_
            refine gf_B_15 X (aC6 hW hb0) rfl d_B_tell_41 ?_
            refine lv_icmp_lt (tgt := 50) hx hb d_B_tell_44 (by decide) (fun c_6 => ?_) (fun c_6 => ?_)
            · refine lv_aload_n hx hb d_B_tell_50 rfl (lv_at hl 0 rfl) ?_
              refine gf_B_11 X (aC6 hW hb0) rfl d_B_tell_51 ?_
              refine lv_iload_n hx hb d_B_tell_54 rfl (lv_at hl 1 rfl) ?_
              refine lv_iconst (v := 4) hx hb d_B_tell_55 (by decide) ?_
              refine lv_imul hx hb d_B_tell_56 ?_
              refine lv_iload_n hx hb d_B_tell_57 rfl (lv_at hl 2 rfl) ?_
              refine lv_iadd hx hb d_B_tell_58 ?_
              obtain ⟨i1, hi1, ei⟩ := nI_of c_2
              obtain ⟨w1, hw1, ew⟩ := nI_of c_5
              have hi2 : i1 < 500 := (nI_ltI (b := 500) hi1 (by decide)).mp (ei ▸ c_4)
              have hw2 : w1 < 3 + b0 := (nI_ltI hw1 (by omega)).mp (ew ▸ c_6)
              refine rn_iald X 0 (aC7 hW hb0) rfl (t := 4 * i1 + w1) (by rw [ei, ew]; exact ix4k i1 w1) (by omega) (by decide) d_B_tell_59 ?_
              exact leafI (val := valC) (cell := cellC) X hr hlocks hS (u2 := (lay, d)) hW (v := gI d 7 b0 (4 * i1 + w1)) ⟨by simp only [sp_tell]; rw [show i.toNatClampNeg = i1 by rw [ei]; exact nI_clamp hi1, show w.toNatClampNeg = w1 by rw [ew]; exact nI_clamp hw1]; simp [c_1, c_2, c_3, c_4, c_5, c_6], rfl⟩ d_B_tell_60
            · refine lv_bipush (v := -2) hx hb d_B_tell_47 (by decide) ?_
              exact leafI (val := valC) (cell := cellC) X hr hlocks hS (u2 := (lay, d)) hW (v := (-2)) ⟨by simp [sp_tell, c_1, c_2, c_3, c_4, c_5, c_6], rfl⟩ d_B_tell_49
        · refine lv_iconst (v := -1) hx hb d_B_tell_33 (by decide) ?_
          exact leafI (val := valC) (cell := cellC) X hr hlocks hS (u2 := (lay, d)) hW (v := (-1)) ⟨by simp [sp_tell, c_1, c_2, c_3, c_4], rfl⟩ d_B_tell_34
  · refine lv_iload_n hx hb d_B_tell_5 rfl (lv_at hl 2 rfl) ?_
    refine lv_if_ne (tgt := 14) hx hb d_B_tell_6 (by decide) (fun c_7 => ?_) (fun c_7 => ?_)
    · refine lv_iload_n hx hb d_B_tell_14 rfl (lv_at hl 1 rfl) ?_
      refine lv_if_lt (tgt := 33) hx hb d_B_tell_15 (by decide) (fun c_8 => ?_) (fun c_8 => ?_)
      · refine lv_iconst (v := -1) hx hb d_B_tell_33 (by decide) ?_
        exact leafI (val := valC) (cell := cellC) X hr hlocks hS (u2 := (lay, d)) hW (v := (-1)) ⟨by simp [sp_tell, c_1, c_7, c_8], rfl⟩ d_B_tell_34
      · exact absurd (by rw [c_1]; decide) c_8
    · refine lv_aload_n hx hb d_B_tell_9 rfl (lv_at hl 0 rfl) ?_
      refine gf_B_19 X (aC6 hW hb0) rfl d_B_tell_10 ?_
      exact leafI (val := valC) (cell := cellC) X hr hlocks hS (u2 := (lay, d)) hW (v := gI d 5 b0 0) ⟨by simp [sp_tell, c_1, c_7], rfl⟩ d_B_tell_13
set_option maxHeartbeats 4000000 in
set_option maxRecDepth 100000 in
theorem c_P_decidingLevel (l : Launch) (D : va_G) (ct : Nat → ClassId) (lay : Nat → Nat → Nat) (d : DC) (sz : Nat) :
    CoI valC cellC l D ct y_P_decidingLevel b_P_decidingLevel 2 (some .int) { frames := 0, cells := 0, slots := 0, locals := 0 } (lay, d) sz [.ref (lay 0 0)] (fun r u => r = nI (sp_lev d) ∧ u = (lay, d)) := by
  refine co_of (by decide) (Nat.le_of_ble_eq_true rfl) (fun p e s m below meth c X hr hlocks hnm hsz hW ls hl => ?_)
  subst hsz
  have hx := X.1.1
  have hb := X.1.2.1
  have hS : va_S (Wfr (valC (lay, d)) lay s.heap.size) s.heap s.heap [] := va_S.rf
  have hl : lv_has ls 2 [(0, .ref (lay 0 0))] := hl
  refine lv_iconst (v := 0) hx hb d_P_decidingLevel_0 (by decide) ?_
  refine lv_istore_n (lv' := [(1, .int 0), (0, .ref (lay 0 0))]) hx hb d_P_decidingLevel_1 rfl hl (by decide) rfl (fun ls hl => ?_)
  refine lv_iload_n hx hb d_P_decidingLevel_2 rfl (lv_at hl 0 rfl) ?_
  refine lv_iconst (v := 3) hx hb d_P_decidingLevel_3 (by decide) ?_
  refine lv_icmp_ge (tgt := 33) hx hb d_P_decidingLevel_4 (by decide) (fun c_1 => absurd c_1 (by decide)) (fun _ => ?_)
  refine lv_aload_n hx hb d_P_decidingLevel_7 rfl (lv_at hl 1 rfl) ?_
  refine gf_P_28 X (aC0 hW) rfl d_P_decidingLevel_8 ?_
  refine lv_iload_n hx hb d_P_decidingLevel_11 rfl (lv_at hl 0 rfl) ?_
  refine rn_zald X 2 (aC5 hW) rfl (t := 0) (by decide) (by decide) (by decide) d_P_decidingLevel_12 ?_
  refine lv_if_ne (tgt := 25) hx hb d_P_decidingLevel_13 (by decide) (fun c_2 => ?_) (fun c_2 => ?_)
  · refine lv_iload_n hx hb d_P_decidingLevel_25 rfl (lv_at hl 0 rfl) ?_
    exact leafI (val := valC) (cell := cellC) X hr hlocks hS (u2 := (lay, d)) hW (v := 0) ⟨by rw [show sp_lev d = 0 by simp [sp_lev, c_2]]; rfl, rfl⟩ d_P_decidingLevel_26
  · refine lv_aload_n hx hb d_P_decidingLevel_16 rfl (lv_at hl 1 rfl) ?_
    refine gf_P_25 X (aC0 hW) rfl d_P_decidingLevel_17 ?_
    refine lv_iload_n hx hb d_P_decidingLevel_20 rfl (lv_at hl 0 rfl) ?_
    refine rn_iald X 0 (aC4 hW) rfl (t := 0) (by decide) (by decide) (by decide) d_P_decidingLevel_21 ?_
    refine lv_if_eq (tgt := 27) hx hb d_P_decidingLevel_22 (by decide) (fun c_3 => ?_) (fun c_3 => ?_)
    · refine lv_iinc (v := 1) (lv' := [(1, .int 1), (0, .ref (lay 0 0))]) hx hb d_P_decidingLevel_27 hl (k := 0) rfl (by decide) (by decide) rfl (fun ls hl => ?_)
      refine lv_goto (tgt := 2) hx hb d_P_decidingLevel_30 (by decide) ?_
      refine lv_iload_n hx hb d_P_decidingLevel_2 rfl (lv_at hl 0 rfl) ?_
      refine lv_iconst (v := 3) hx hb d_P_decidingLevel_3 (by decide) ?_
      refine lv_icmp_ge (tgt := 33) hx hb d_P_decidingLevel_4 (by decide) (fun c_4 => absurd c_4 (by decide)) (fun _ => ?_)
      refine lv_aload_n hx hb d_P_decidingLevel_7 rfl (lv_at hl 1 rfl) ?_
      refine gf_P_28 X (aC0 hW) rfl d_P_decidingLevel_8 ?_
      refine lv_iload_n hx hb d_P_decidingLevel_11 rfl (lv_at hl 0 rfl) ?_
      refine rn_zald X 2 (aC5 hW) rfl (t := 1) (by decide) (by decide) (by decide) d_P_decidingLevel_12 ?_
      refine lv_if_ne (tgt := 25) hx hb d_P_decidingLevel_13 (by decide) (fun c_5 => ?_) (fun c_5 => ?_)
      · refine lv_iload_n hx hb d_P_decidingLevel_25 rfl (lv_at hl 0 rfl) ?_
        exact leafI (val := valC) (cell := cellC) X hr hlocks hS (u2 := (lay, d)) hW (v := 1) ⟨by rw [show sp_lev d = 1 by simp [sp_lev, c_2, c_3, c_5]]; rfl, rfl⟩ d_P_decidingLevel_26
      · refine lv_aload_n hx hb d_P_decidingLevel_16 rfl (lv_at hl 1 rfl) ?_
        refine gf_P_25 X (aC0 hW) rfl d_P_decidingLevel_17 ?_
        refine lv_iload_n hx hb d_P_decidingLevel_20 rfl (lv_at hl 0 rfl) ?_
        refine rn_iald X 0 (aC4 hW) rfl (t := 1) (by decide) (by decide) (by decide) d_P_decidingLevel_21 ?_
        refine lv_if_eq (tgt := 27) hx hb d_P_decidingLevel_22 (by decide) (fun c_6 => ?_) (fun c_6 => ?_)
        · refine lv_iinc (v := 2) (lv' := [(1, .int 2), (0, .ref (lay 0 0))]) hx hb d_P_decidingLevel_27 hl (k := 0) rfl (by decide) (by decide) rfl (fun ls hl => ?_)
          refine lv_goto (tgt := 2) hx hb d_P_decidingLevel_30 (by decide) ?_
          refine lv_iload_n hx hb d_P_decidingLevel_2 rfl (lv_at hl 0 rfl) ?_
          refine lv_iconst (v := 3) hx hb d_P_decidingLevel_3 (by decide) ?_
          refine lv_icmp_ge (tgt := 33) hx hb d_P_decidingLevel_4 (by decide) (fun c_7 => absurd c_7 (by decide)) (fun _ => ?_)
          refine lv_aload_n hx hb d_P_decidingLevel_7 rfl (lv_at hl 1 rfl) ?_
          refine gf_P_28 X (aC0 hW) rfl d_P_decidingLevel_8 ?_
          refine lv_iload_n hx hb d_P_decidingLevel_11 rfl (lv_at hl 0 rfl) ?_
          refine rn_zald X 2 (aC5 hW) rfl (t := 2) (by decide) (by decide) (by decide) d_P_decidingLevel_12 ?_
          refine lv_if_ne (tgt := 25) hx hb d_P_decidingLevel_13 (by decide) (fun c_8 => ?_) (fun c_8 => ?_)
          · refine lv_iload_n hx hb d_P_decidingLevel_25 rfl (lv_at hl 0 rfl) ?_
            exact leafI (val := valC) (cell := cellC) X hr hlocks hS (u2 := (lay, d)) hW (v := 2) ⟨by rw [show sp_lev d = 2 by simp [sp_lev, c_2, c_3, c_5, c_6, c_8]]; rfl, rfl⟩ d_P_decidingLevel_26
          · refine lv_aload_n hx hb d_P_decidingLevel_16 rfl (lv_at hl 1 rfl) ?_
            refine gf_P_25 X (aC0 hW) rfl d_P_decidingLevel_17 ?_
            refine lv_iload_n hx hb d_P_decidingLevel_20 rfl (lv_at hl 0 rfl) ?_
            refine rn_iald X 0 (aC4 hW) rfl (t := 2) (by decide) (by decide) (by decide) d_P_decidingLevel_21 ?_
            refine lv_if_eq (tgt := 27) hx hb d_P_decidingLevel_22 (by decide) (fun c_9 => ?_) (fun c_9 => ?_)
            · refine lv_iinc (v := 3) (lv' := [(1, .int 3), (0, .ref (lay 0 0))]) hx hb d_P_decidingLevel_27 hl (k := 0) rfl (by decide) (by decide) rfl (fun ls hl => ?_)
              refine lv_goto (tgt := 2) hx hb d_P_decidingLevel_30 (by decide) ?_
              refine lv_iload_n hx hb d_P_decidingLevel_2 rfl (lv_at hl 0 rfl) ?_
              refine lv_iconst (v := 3) hx hb d_P_decidingLevel_3 (by decide) ?_
              refine lv_icmp_ge (tgt := 33) hx hb d_P_decidingLevel_4 (by decide) (fun _ => ?_) (fun c_10 => absurd c_10 (by decide))
              refine lv_iconst (v := 3) hx hb d_P_decidingLevel_33 (by decide) ?_
              exact leafI (val := valC) (cell := cellC) X hr hlocks hS (u2 := (lay, d)) hW (v := 3) ⟨by rw [show sp_lev d = 3 by simp [sp_lev, c_2, c_3, c_5, c_6, c_8, c_9]]; rfl, rfl⟩ d_P_decidingLevel_34
            · refine lv_iload_n hx hb d_P_decidingLevel_25 rfl (lv_at hl 0 rfl) ?_
              exact leafI (val := valC) (cell := cellC) X hr hlocks hS (u2 := (lay, d)) hW (v := 2) ⟨by rw [show sp_lev d = 2 by simp [sp_lev, c_2, c_3, c_5, c_6, c_8, c_9]]; rfl, rfl⟩ d_P_decidingLevel_26
        · refine lv_iload_n hx hb d_P_decidingLevel_25 rfl (lv_at hl 0 rfl) ?_
          exact leafI (val := valC) (cell := cellC) X hr hlocks hS (u2 := (lay, d)) hW (v := 1) ⟨by rw [show sp_lev d = 1 by simp [sp_lev, c_2, c_3, c_5, c_6]]; rfl, rfl⟩ d_P_decidingLevel_26
    · refine lv_iload_n hx hb d_P_decidingLevel_25 rfl (lv_at hl 0 rfl) ?_
      exact leafI (val := valC) (cell := cellC) X hr hlocks hS (u2 := (lay, d)) hW (v := 0) ⟨by rw [show sp_lev d = 0 by simp [sp_lev, c_2, c_3]]; rfl, rfl⟩ d_P_decidingLevel_26
set_option maxHeartbeats 4000000 in
set_option maxRecDepth 100000 in
theorem c_P_reactionAskedAt (l : Launch) (D : va_G) (ct : Nat → ClassId) (lay : Nat → Nat → Nat) (d : DC) (sz : Nat) (q0 : Nat) (hq0 : q0 ≤ 3) :
    CoI valC cellC l D ct y_P_reactionAskedAt b_P_reactionAskedAt 2 (some .int) { frames := 0, cells := 0, slots := 0, locals := 0 } (lay, d) sz [.ref (lay 0 0), .int (nI q0)] (fun r u => r = sp_ask d q0 ∧ u = (lay, d)) := by
  refine co_of (by decide) (Nat.le_of_ble_eq_true rfl) (fun p e s m below meth c X hr hlocks hnm hsz hW ls hl => ?_)
  subst hsz
  have hx := X.1.1
  have hb := X.1.2.1
  have hS : va_S (Wfr (valC (lay, d)) lay s.heap.size) s.heap s.heap [] := va_S.rf
  have hl : lv_has ls 2 [(0, .ref (lay 0 0)), (1, .int (nI q0))] := hl
  refine lv_iload_n hx hb d_P_reactionAskedAt_0 rfl (lv_at hl 1 rfl) ?_
  refine lv_if_lt (tgt := 9) hx hb d_P_reactionAskedAt_1 (by decide) (fun c_1 => ?_) (fun c_1 => ?_)
  · exact absurd c_1 (nI_pos (by omega))
  · refine lv_iload_n hx hb d_P_reactionAskedAt_4 rfl (lv_at hl 1 rfl) ?_
    refine lv_iconst (v := 3) hx hb d_P_reactionAskedAt_5 (by decide) ?_
    refine lv_icmp_lt (tgt := 11) hx hb d_P_reactionAskedAt_6 (by decide) (fun c_2 => ?_) (fun c_2 => ?_)
    · have hq : q0 < 3 := (nI_ltI (b := 3) (by omega) (by decide)).mp c_2
      refine lv_aload_n hx hb d_P_reactionAskedAt_11 rfl (lv_at hl 0 rfl) ?_
      refine gf_P_28 X (aC0 hW) rfl d_P_reactionAskedAt_12 ?_
      refine lv_iload_n hx hb d_P_reactionAskedAt_15 rfl (lv_at hl 1 rfl) ?_
      refine rn_zald X 2 (aC5 hW) rfl (t := q0) rfl hq (by decide) d_P_reactionAskedAt_16 ?_
      refine lv_if_eq (tgt := 24) hx hb d_P_reactionAskedAt_17 (by decide) (fun c_3 => ?_) (fun c_3 => ?_)
      · refine lv_aload_n hx hb d_P_reactionAskedAt_24 rfl (lv_at hl 0 rfl) ?_
        refine gf_P_25 X (aC0 hW) rfl d_P_reactionAskedAt_25 ?_
        refine lv_iload_n hx hb d_P_reactionAskedAt_28 rfl (lv_at hl 1 rfl) ?_
        refine rn_iald X 0 (aC4 hW) rfl (t := q0) rfl hq (by decide) d_P_reactionAskedAt_29 ?_
        exact leafI (val := valC) (cell := cellC) X hr hlocks hS (u2 := (lay, d)) hW (v := gI d 3 0 q0) ⟨by simp [sp_ask, Nat.not_le.mpr hq, c_3], rfl⟩ d_P_reactionAskedAt_30
      · refine lv_iconst (v := 5) hx hb d_P_reactionAskedAt_20 (by decide) ?_
        refine lv_goto (tgt := 30) hx hb d_P_reactionAskedAt_21 (by decide) ?_
        exact leafI (val := valC) (cell := cellC) X hr hlocks hS (u2 := (lay, d)) hW (v := 5) ⟨by simp [sp_ask, Nat.not_le.mpr hq, c_3], rfl⟩ d_P_reactionAskedAt_30
    · have hq : 3 ≤ q0 := Nat.not_lt.mp (fun q => c_2 (nI_lt (b := 3) q (by decide)))
      refine lv_iconst (v := 2) hx hb d_P_reactionAskedAt_9 (by decide) ?_
      exact leafI (val := valC) (cell := cellC) X hr hlocks hS (u2 := (lay, d)) hW (v := 2) ⟨by simp [sp_ask, hq], rfl⟩ d_P_reactionAskedAt_10
set_option maxHeartbeats 4000000 in
set_option maxRecDepth 100000 in
theorem c_P_shutDown (l : Launch) (D : va_G) (ct : Nat → ClassId) (lay : Nat → Nat → Nat) (d : DC) (sz : Nat) (hna : dna d ≤ 16) (hnt : dnt d ≤ 60) :
    CoV valC cellC l D ct y_P_shutDown b_P_shutDown 5 { frames := 0, cells := 0, slots := 0, locals := 0 } (lay, d) sz [.ref (lay 0 0)] (fun u => u = (lay, sp_shut d)) := by
  refine co_of (by decide) (Nat.le_of_ble_eq_true rfl) (fun p e s m below meth c X hr hlocks hnm hsz hW ls hl => ?_)
  subst hsz
  have hx := X.1.1
  have hb := X.1.2.1
  have hS : va_S (Wfr (valC (lay, d)) lay s.heap.size) s.heap s.heap [] := va_S.rf
  have hl : lv_has ls 5 [(0, .ref (lay 0 0))] := hl
  refine lv_aload_n hx hb d_P_shutDown_0 rfl (lv_at hl 0 rfl) ?_
  refine lv_iconst (v := 0) hx hb d_P_shutDown_1 (by decide) ?_
  refine pf_P_44 X (aC0 hW) hS (wfr 0 0 rfl) rfl rfl (Nat.le_of_ble_eq_true rfl) d_P_shutDown_2 (fun H locs hat hch hS => ?_)
  have hW := wpC_I0 hW hat hch
  refine lv_aload_n hx hb d_P_shutDown_5 rfl (lv_at hl 0 rfl) ?_
  refine gf_P_17 X (aC0 hW) rfl d_P_shutDown_6 ?_
  refine lv_astore_n (lv' := [(1, .ref (lay 2 0)), (0, .ref (lay 0 0))]) hx hb d_P_shutDown_9 rfl hl (by decide) rfl (fun ls hl => ?_)
  refine lv_aload_n hx hb d_P_shutDown_10 rfl (lv_at hl 0 rfl) ?_
  refine rr_alen X 4 (aC2 hW) rfl (v := 60) rfl d_P_shutDown_11 ?_
  refine lv_istore_n (lv' := [(2, .int 60), (1, .ref (lay 2 0)), (0, .ref (lay 0 0))]) hx hb d_P_shutDown_12 rfl hl (by decide) rfl (fun ls hl => ?_)
  refine lv_iconst (v := 0) hx hb d_P_shutDown_13 (by decide) ?_
  refine lv_istore_n (lv' := [(3, .int 0), (2, .int 60), (1, .ref (lay 2 0)), (0, .ref (lay 0 0))]) hx hb d_P_shutDown_14 rfl hl (by decide) rfl (fun ls hl => ?_)
  have loop : ∀ (n i : Nat) (H : Heap) (locs : List Loc) (ls : Array Slot), i ≤ 60 → 60 + 1 ≤ i + n → WC D ct (lay, (sA (sI d 0 0 0 0) 12 (min i (dnt d)) 0)) H → va_S (Wfr (valC (lay, d)) lay s.heap.size) s.heap H locs → lv_has ls 5 [(3, .int (nI i)), (2, .int 60), (1, .ref (lay 2 0)), (0, .ref (lay 0 0))] → W p l e { frames := 0, cells := 0, slots := 0, locals := 0 } s m [.ref (lay 0 0)].toArray below meth c H locs 0 0 (MQ below (va_Qv (fun u => u = (lay, sp_shut d)) (WB D classes (tysA ct) valC (fun u : CS => u.1) (cellC ct)) (Wfr (valC (lay, d)) lay s.heap.size)) [.ref (lay 0 0)].toArray s 0 0 (Wfr (valC (lay, d)) lay s.heap.size)) (F0 m 15 ls []) := by
    intro n
    induction n with
    | zero => intro i  H locs ls h1 h2; exact absurd h2 (by omega)
    | succ n ih =>
      intro i  H locs ls hi hn  hW hS hl
      refine lv_iload_n hx hb d_P_shutDown_15 rfl (lv_at hl 0 rfl) ?_
      refine lv_iload_n hx hb d_P_shutDown_16 rfl (lv_at hl 1 rfl) ?_
      refine lv_icmp_ge (tgt := 42) hx hb d_P_shutDown_17 (by decide) (fun c_1 => ?_) (fun c_1 => ?_)
      · have hq : i = 60 := lp_out (by decide) hi c_1
        have hW : WC D ct (lay, sA (sI d 0 0 0 0) 12 (dnt d) 0) H := by rw [hq, show min 60 (dnt d) = dnt d by omega] at hW; exact hW
        refine lv_aload_n hx hb d_P_shutDown_42 rfl (lv_at hl 3 rfl) ?_
        refine gf_P_11 X (aC0 hW) rfl d_P_shutDown_43 ?_
        refine lv_astore_n (lv' := [(1, .ref (lay 1 0)), (3, .int (nI i)), (2, .int 60), (0, .ref (lay 0 0))]) hx hb d_P_shutDown_46 rfl hl (by decide) rfl (fun ls hl => ?_)
        refine lv_aload_n hx hb d_P_shutDown_47 rfl (lv_at hl 0 rfl) ?_
        refine rr_alen X 3 (aC1 hW) rfl (v := 16) rfl d_P_shutDown_48 ?_
        refine lv_istore_n (lv' := [(2, .int 16), (1, .ref (lay 1 0)), (3, .int (nI i)), (0, .ref (lay 0 0))]) hx hb d_P_shutDown_49 rfl hl (by decide) rfl (fun ls hl => ?_)
        refine lv_iconst (v := 0) hx hb d_P_shutDown_50 (by decide) ?_
        refine lv_istore_n (lv' := [(3, .int 0), (2, .int 16), (1, .ref (lay 1 0)), (0, .ref (lay 0 0))]) hx hb d_P_shutDown_51 rfl hl (by decide) rfl (fun ls hl => ?_)
        have loop : ∀ (n i : Nat) (H : Heap) (locs : List Loc) (ls : Array Slot), i ≤ 16 → 16 + 1 ≤ i + n → WC D ct (lay, (sA (sA (sI d 0 0 0 0) 12 (dnt d) 0) 11 (min i (dna d)) 1)) H → va_S (Wfr (valC (lay, d)) lay s.heap.size) s.heap H locs → lv_has ls 5 [(3, .int (nI i)), (2, .int 16), (1, .ref (lay 1 0)), (0, .ref (lay 0 0))] → W p l e { frames := 0, cells := 0, slots := 0, locals := 0 } s m [.ref (lay 0 0)].toArray below meth c H locs 0 0 (MQ below (va_Qv (fun u => u = (lay, sp_shut d)) (WB D classes (tysA ct) valC (fun u : CS => u.1) (cellC ct)) (Wfr (valC (lay, d)) lay s.heap.size)) [.ref (lay 0 0)].toArray s 0 0 (Wfr (valC (lay, d)) lay s.heap.size)) (F0 m 52 ls []) := by
          intro n
          induction n with
          | zero => intro i  H locs ls h1 h2; exact absurd h2 (by omega)
          | succ n ih =>
            intro i  H locs ls hi hn  hW hS hl
            refine lv_iload_n hx hb d_P_shutDown_52 rfl (lv_at hl 0 rfl) ?_
            refine lv_iload_n hx hb d_P_shutDown_53 rfl (lv_at hl 1 rfl) ?_
            refine lv_icmp_ge (tgt := 79) hx hb d_P_shutDown_54 (by decide) (fun c_2 => ?_) (fun c_2 => ?_)
            · have hq : i = 16 := lp_out (by decide) hi c_2
              have hW : WC D ct (lay, sp_shut d) H := by rw [hq, show min 16 (dna d) = dna d by omega] at hW; exact hW
              exact leafV (val := valC) (cell := cellC) X hr hlocks hS (u2 := (lay, (sp_shut d))) hW rfl d_P_shutDown_79
            · have hq : i < 16 := lp_in (by decide) hi c_2
              refine lv_aload_n hx hb d_P_shutDown_57 rfl (lv_at hl 2 rfl) ?_
              refine lv_iload_n hx hb d_P_shutDown_58 rfl (lv_at hl 0 rfl) ?_
              by_cases hj : i < dna d
              · refine rn_aldS X 3 (aC1 hW) rfl (t := i) rfl hq (by decide) (if_pos hj) d_P_shutDown_59 ?_
                refine lv_astore (lv' := [(4, .ref (lay 8 i)), (3, .int (nI i)), (2, .int 16), (1, .ref (lay 1 0)), (0, .ref (lay 0 0))]) hx hb d_P_shutDown_60 hl (by decide) rfl (fun ls hl => ?_)
                refine lv_aload hx hb d_P_shutDown_62 (lv_at hl 0 rfl) ?_
                refine lv_ifnull hx hb d_P_shutDown_64 ?_
                refine lv_aload hx hb d_P_shutDown_67 (lv_at hl 0 rfl) ?_
                refine lv_iconst (v := 1) hx hb d_P_shutDown_69 (by decide) ?_
                refine pf_P_59 X (aC8 hW hj) hS (wfr 8 i hj) rfl rfl (Nat.le_of_ble_eq_true rfl) d_P_shutDown_70 (fun H locs hat hch hS => ?_)
                have hW := wpC_I11 hW hj hat hch
                refine lv_iinc (v := nI (i + 1)) (lv' := [(3, .int (nI (i + 1))), (4, .ref (lay 8 i)), (2, .int 16), (1, .ref (lay 1 0)), (0, .ref (lay 0 0))]) hx hb d_P_shutDown_73 hl (k := 1) rfl (nI_inc _) (by decide) rfl (fun ls hl => ?_)
                refine lv_goto (tgt := 52) hx hb d_P_shutDown_76 (by decide) ?_
                exact ih (i + 1) H locs ls (by omega) (by omega) (by rw [← sA_in hj]; exact hW) hS (lv_sub hl [0, 2, 3, 4] rfl)
              · refine rn_aldN X 3 (aC1 hW) rfl (t := i) rfl hq (by decide) (if_neg hj) d_P_shutDown_59 ?_
                refine lv_astoreN (lv' := [(4, .null), (3, .int (nI i)), (2, .int 16), (1, .ref (lay 1 0)), (0, .ref (lay 0 0))]) hx hb d_P_shutDown_60 hl (by decide) rfl (fun ls hl => ?_)
                refine lv_aloadN hx hb d_P_shutDown_62 (lv_at hl 0 rfl) ?_
                refine lv_ifnullN (tgt := 73) hx hb d_P_shutDown_64 (by decide) ?_
                refine lv_iinc (v := nI (i + 1)) (lv' := [(3, .int (nI (i + 1))), (4, .null), (2, .int 16), (1, .ref (lay 1 0)), (0, .ref (lay 0 0))]) hx hb d_P_shutDown_73 hl (k := 1) rfl (nI_inc _) (by decide) rfl (fun ls hl => ?_)
                refine lv_goto (tgt := 52) hx hb d_P_shutDown_76 (by decide) ?_
                exact ih (i + 1) H locs ls (by omega) (by omega) (by rw [← sA_out hj]; exact hW) hS (lv_sub hl [0, 2, 3, 4] rfl)
        exact loop 17 0 H locs ls (by omega) (by omega) (by rw [Nat.zero_min, sA_0]; exact hW) hS (lv_sub hl [0, 1, 2, 3] rfl)
      · have hq : i < 60 := lp_in (by decide) hi c_1
        refine lv_aload_n hx hb d_P_shutDown_20 rfl (lv_at hl 2 rfl) ?_
        refine lv_iload_n hx hb d_P_shutDown_21 rfl (lv_at hl 0 rfl) ?_
        by_cases hj : i < dnt d
        · refine rn_aldS X 4 (aC2 hW) rfl (t := i) rfl hq (by decide) (if_pos hj) d_P_shutDown_22 ?_
          refine lv_astore (lv' := [(4, .ref (lay 11 i)), (3, .int (nI i)), (2, .int 60), (1, .ref (lay 2 0)), (0, .ref (lay 0 0))]) hx hb d_P_shutDown_23 hl (by decide) rfl (fun ls hl => ?_)
          refine lv_aload hx hb d_P_shutDown_25 (lv_at hl 0 rfl) ?_
          refine lv_ifnull hx hb d_P_shutDown_27 ?_
          refine lv_aload hx hb d_P_shutDown_30 (lv_at hl 0 rfl) ?_
          refine lv_iconst (v := 0) hx hb d_P_shutDown_32 (by decide) ?_
          refine pf_P_124 X (aC11 hW hj) hS (wfr 11 i hj) rfl rfl (Nat.le_of_ble_eq_true rfl) d_P_shutDown_33 (fun H locs hat hch hS => ?_)
          have hW := wpC_I12 hW hj hat hch
          refine lv_iinc (v := nI (i + 1)) (lv' := [(3, .int (nI (i + 1))), (4, .ref (lay 11 i)), (2, .int 60), (1, .ref (lay 2 0)), (0, .ref (lay 0 0))]) hx hb d_P_shutDown_36 hl (k := 1) rfl (nI_inc _) (by decide) rfl (fun ls hl => ?_)
          refine lv_goto (tgt := 15) hx hb d_P_shutDown_39 (by decide) ?_
          exact ih (i + 1) H locs ls (by omega) (by omega) (by rw [← sA_in hj]; exact hW) hS (lv_sub hl [0, 2, 3, 4] rfl)
        · refine rn_aldN X 4 (aC2 hW) rfl (t := i) rfl hq (by decide) (if_neg hj) d_P_shutDown_22 ?_
          refine lv_astoreN (lv' := [(4, .null), (3, .int (nI i)), (2, .int 60), (1, .ref (lay 2 0)), (0, .ref (lay 0 0))]) hx hb d_P_shutDown_23 hl (by decide) rfl (fun ls hl => ?_)
          refine lv_aloadN hx hb d_P_shutDown_25 (lv_at hl 0 rfl) ?_
          refine lv_ifnullN (tgt := 36) hx hb d_P_shutDown_27 (by decide) ?_
          refine lv_iinc (v := nI (i + 1)) (lv' := [(3, .int (nI (i + 1))), (4, .null), (2, .int 60), (1, .ref (lay 2 0)), (0, .ref (lay 0 0))]) hx hb d_P_shutDown_36 hl (k := 1) rfl (nI_inc _) (by decide) rfl (fun ls hl => ?_)
          refine lv_goto (tgt := 15) hx hb d_P_shutDown_39 (by decide) ?_
          exact ih (i + 1) H locs ls (by omega) (by omega) (by rw [← sA_out hj]; exact hW) hS (lv_sub hl [0, 2, 3, 4] rfl)
  exact loop 61 0 H locs ls (by omega) (by omega) (by rw [Nat.zero_min, sA_0]; exact hW) hS (lv_sub hl [0, 1, 2, 3] rfl)
