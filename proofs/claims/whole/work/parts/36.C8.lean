theorem domA {lay : Nat → Nat → Nat} {d d2 : DC} {q s1 s2 x : Nat} (hn : dna d2 = dna d + 1) (ht : dnt d2 = dnt d) (h : Wdom (valC (layA lay (dna d) q s1 s2, d2)) (layA lay (dna d) q s1 s2) x) : Wdom (valC (lay, d)) lay x ∨ x = q ∨ x = s1 ∨ x = s2 := by
  obtain ⟨k, i, hv, rfl⟩ := h
  rcases valA (lay := lay) hn ht hv with ⟨hv2, hne⟩ | ⟨hkk, rfl⟩
  · refine Or.inl ⟨k, i, hv2, ?_⟩
    unfold layA
    rw [if_neg (fun z => hne ⟨Or.inl z.1, z.2⟩), if_neg (fun z => hne ⟨Or.inr (Or.inl z.1), z.2⟩), if_neg (fun z => hne ⟨Or.inr (Or.inr z.1), z.2⟩)]
  · rcases hkk with rfl | rfl | rfl
    · exact Or.inr (Or.inl (by unfold layA; rw [if_pos ⟨rfl, rfl⟩]))
    · exact Or.inr (Or.inr (Or.inl (by unfold layA; rw [if_neg (fun z => absurd z.1 (by decide)), if_pos ⟨rfl, rfl⟩])))
    · exact Or.inr (Or.inr (Or.inr (by unfold layA; rw [if_neg (fun z => absurd z.1 (by decide)), if_neg (fun z => absurd z.1 (by decide)), if_pos ⟨rfl, rfl⟩])))
theorem domT {lay : Nat → Nat → Nat} {d d2 : DC} {q x : Nat} (hn : dna d2 = dna d) (ht : dnt d2 = dnt d + 1) (h : Wdom (valC (layT lay (dnt d) q, d2)) (layT lay (dnt d) q) x) : Wdom (valC (lay, d)) lay x ∨ x = q := by
  obtain ⟨k, i, hv, rfl⟩ := h
  rcases valT (lay := lay) hn ht hv with ⟨hv2, hne⟩ | ⟨rfl, rfl⟩
  · exact Or.inl ⟨k, i, hv2, by unfold layT; rw [if_neg hne]⟩
  · exact Or.inr (by unfold layT; rw [if_pos ⟨rfl, rfl⟩])
set_option maxHeartbeats 4000000 in
set_option maxRecDepth 100000 in
theorem c_P_application (l : Launch) (D : va_G) (ct : Nat → ClassId) (lay : Nat → Nat → Nat) (d : DC) (sz : Nat) (r0 : Int32) (hna : dna d ≤ 16) (how : ∀ j, j < dnt d → dow d j < dna d) (z9 : gI d 9 (dna d) 0 = 0) (z11 : gI d 11 (dna d) 0 = 0) (z0 : ∀ k, gL d 0 (dna d) k = 0) (z1 : ∀ k, gL d 1 (dna d) k = 0) :
    CoI valC cellC l D ct y_P_application b_P_application 2 (some .int) { frames := 2, cells := 3, slots := 21, locals := 33 } (lay, d) sz [.ref (lay 0 0), .int r0] (fun r u => r = (sp_application d r0).1 ∧ u.2 = (sp_application d r0).2 ∧ u.1 0 0 = lay 0 0 ∧ ∀ q, Wdom (valC u) u.1 q → Wfr (valC (lay, d)) lay sz q) := by
  refine co_of (by decide) (Nat.le_of_ble_eq_true rfl) (fun p e s m below meth c X hr hlocks hnm hsz hW ls hl => ?_)
  subst hsz
  have hx := X.1.1
  have hb := X.1.2.1
  have hS : va_S (Wfr (valC (lay, d)) lay s.heap.size) s.heap s.heap [] := va_S.rf
  have hl : lv_has ls 2 [(0, .ref (lay 0 0)), (1, .int r0)] := hl
  refine lv_iload_n hx hb d_P_application_0 rfl (lv_at hl 1 rfl) ?_
  refine lv_if_lt (tgt := 10) hx hb d_P_application_1 (by decide) (fun c_1 => ?_) (fun c_1 => ?_)
  · refine lv_bipush (v := -2) hx hb d_P_application_10 (by decide) ?_
    refine W.widen (k := 3) (n := 21) (Nat.zero_le _) (Nat.zero_le _) ?_
    exact leafI (val := valC) (cell := cellC) X hr hlocks hS (u2 := (lay, d)) hW (v := (-2)) ⟨by simp [sp_application, c_1], by simp [sp_application, c_1], rfl, fun q h => Or.inl h⟩ d_P_application_12
  · refine lv_iload_n hx hb d_P_application_4 rfl (lv_at hl 1 rfl) ?_
    refine lv_bipush (v := 10) hx hb d_P_application_5 (by decide) ?_
    refine lv_icmp_le (tgt := 13) hx hb d_P_application_7 (by decide) (fun c_2 => ?_) (fun c_2 => ?_)
    · refine lv_aload_n hx hb d_P_application_13 rfl (lv_at hl 0 rfl) ?_
      refine gf_P_44 X (aC0 hW) rfl d_P_application_14 ?_
      refine lv_if_ne (tgt := 23) hx hb d_P_application_17 (by decide) (fun c_3 => ?_) (fun c_3 => ?_)
      · refine lv_aload_n hx hb d_P_application_23 rfl (lv_at hl 0 rfl) ?_
        refine gf_P_48 X (aC0 hW) rfl d_P_application_24 ?_
        refine lv_bipush (v := 16) hx hb d_P_application_27 (by decide) ?_
        refine lv_icmp_lt (tgt := 35) hx hb d_P_application_29 (by decide) (fun c_4 => ?_) (fun c_4 => ?_)
        · have hlt16 : dna d < 16 := (nI_ltI (b := 16) (by omega) (by decide)).mp c_4
          have c_4 : ¬ 16 ≤ dna d := by omega
          refine lv_aload_n hx hb d_P_application_35 rfl (lv_at hl 0 rfl) ?_
          refine gf_P_11 X (aC0 hW) rfl d_P_application_36 ?_
          refine lv_aload_n hx hb d_P_application_39 rfl (lv_at hl 0 rfl) ?_
          refine gf_P_48 X (aC0 hW) rfl d_P_application_40 ?_
          refine rr_new X i_A ft_A ft_A_ok (List.mem_of_getElem? (i := 34) rfl) (List.mem_of_getElem? (i := 76) rfl) (List.mem_of_getElem? (i := 24) rfl) (ci := 0) rfl (fs := [.null, .null, .int 0, .int 0, .int 0]) (fun j hj => by rcases (show j = 0 ∨ j = 1 ∨ j = 2 ∨ j = 3 ∨ j = 4 by omega) with rfl | rfl | rfl | rfl | rfl <;> rfl) hS (Nat.le_of_ble_eq_true rfl) (Nat.le_of_ble_eq_true rfl) d_P_application_43 (fun H1 hat1 hgr hS => ?_)
          have hW1 : WC D ct (lay, d) H1 := hW.gr hgr
          refine lv_dup hx hb d_P_application_46 rfl ?_
          refine lv_iload_n hx hb d_P_application_47 rfl (lv_at hl 1 rfl) ?_
          refine cr_call X (c_A_init l D ct s.heap.size H1.size r0) (cw_P_52 X.1.2.2.2.2 rfl rfl ⟨Nat.le_of_ble_eq_true rfl, Nat.le_of_ble_eq_true rfl⟩) (fun _ _ _ _ => trivial) trivial hat1 hS (fun q h => Or.inr (h.elim (fun z => by rw [z]; exact Nat.le_refl _) (fun z => Nat.le_trans (by rw [hgr.1]; exact Nat.le_succ _) z))) rfl hl.1 rfl (Nat.le_of_ble_eq_true rfl) d_P_application_48 ⟨Nat.le_of_ble_eq_true rfl, Nat.le_of_ble_eq_true rfl⟩ (fun H2 locs hz2 hcs hk2 hS => ?_)
          have c1 := hcs _ (List.mem_of_getElem? (i := 0) rfl)
          have c2 := hcs _ (List.mem_of_getElem? (i := 1) rfl)
          have c3 := hcs _ (List.mem_of_getElem? (i := 2) rfl)
          have hW2 : WC D ct (lay, d) H2 := hW1.kept (fun q hq => hk2 q (hW1.lt hq) (fun z => absurd (hW.lt hq) (by rw [z]; exact Nat.lt_irrefl _)))
          refine rn_astq X 3 0 (aC1 hW2) rfl c1 rfl hS (wfr 1 0 rfl) (t := dna d) rfl (by omega) (by decide) d_P_application_51 (fun H3 locs hat3 hch3 hS => ?_)
          refine lv_aload_n hx hb d_P_application_52 rfl (lv_at hl 0 rfl) ?_
          refine lv_dup hx hb d_P_application_53 rfl ?_
          have m3 := hch3.at (aC0 hW2) (fun z => absurd (hW.2 0 0 1 0 rfl rfl z).1 (by decide))
          refine gf_P_48 X m3 rfl d_P_application_54 ?_
          refine lv_iconst (v := 1) hx hb d_P_application_57 (by decide) ?_
          refine lv_iadd hx hb d_P_application_58 ?_
          refine lv_topi (fun y ey => ?_)
          obtain rfl : y = nI (dna d + 1) := ey.trans (nI_1 _)
          refine pf_P_48 X m3 hS (wfr 0 0 rfl) rfl rfl (Nat.le_of_ble_eq_true rfl) d_P_application_59 (fun H4 locs hat4 hch4 hS => ?_)
          refine lv_aload_n hx hb d_P_application_62 rfl (lv_at hl 0 rfl) ?_
          refine gf_P_48 X hat4 rfl d_P_application_63 ?_
          have hg := hgr.1
          have hlt : ∀ k i, valC (lay, d) k i → lay k i < s.heap.size := fun k i hv => hW.lt ⟨k, i, hv, rfl⟩
          have hW4 := wc_app hW2 (fun k i hv => by have := hlt k i hv; omega) (by omega) (by omega) (by omega) c1 c2 c3 how z9 z11 z0 z1 hat3 hch3 hat4 hch4
          exact leafI (val := valC) (cell := cellC) X hr hlocks hS (u2 := (layA lay (dna d) s.heap.size H1.size (H1.size + 1), sNa (sI d 10 (dna d) 0 r0) (dna d + 1))) hW4 (v := nI (dna d + 1)) ⟨by unfold sp_application; rw [if_neg (by simp [c_1, c_2]), if_neg c_3, if_neg c_4], by unfold sp_application; rw [if_neg (by simp [c_1, c_2]), if_neg c_3, if_neg c_4], rfl, fun q h => (domA (lay := lay) (d := d) (d2 := sNa (sI d 10 (dna d) 0 r0) (dna d + 1)) (q := s.heap.size) (s1 := H1.size) (s2 := H1.size + 1) rfl rfl h).elim Or.inl (fun z => Or.inr (by omega))⟩ d_P_application_66
        · have c_4 : 16 ≤ dna d := Nat.not_lt.mp (fun q => c_4 (nI_lt (b := 16) q (by decide)))
          refine lv_bipush (v := -4) hx hb d_P_application_32 (by decide) ?_
          refine W.widen (k := 3) (n := 21) (Nat.zero_le _) (Nat.zero_le _) ?_
          exact leafI (val := valC) (cell := cellC) X hr hlocks hS (u2 := (lay, d)) hW (v := (-4)) ⟨by simp [sp_application, c_1, c_2, c_3, c_4], by simp [sp_application, c_1, c_2, c_3, c_4], rfl, fun q h => Or.inl h⟩ d_P_application_34
      · refine lv_bipush (v := -3) hx hb d_P_application_20 (by decide) ?_
        refine W.widen (k := 3) (n := 21) (Nat.zero_le _) (Nat.zero_le _) ?_
        exact leafI (val := valC) (cell := cellC) X hr hlocks hS (u2 := (lay, d)) hW (v := (-3)) ⟨by simp [sp_application, c_1, c_2, c_3], by simp [sp_application, c_1, c_2, c_3], rfl, fun q h => Or.inl h⟩ d_P_application_22
    · refine lv_bipush (v := -2) hx hb d_P_application_10 (by decide) ?_
      refine W.widen (k := 3) (n := 21) (Nat.zero_le _) (Nat.zero_le _) ?_
      exact leafI (val := valC) (cell := cellC) X hr hlocks hS (u2 := (lay, d)) hW (v := (-2)) ⟨by simp [sp_application, c_1, c_2], by simp [sp_application, c_1, c_2], rfl, fun q h => Or.inl h⟩ d_P_application_12
set_option maxHeartbeats 4000000 in
set_option maxRecDepth 100000 in
theorem c_P_task (l : Launch) (D : va_G) (ct : Nat → ClassId) (lay : Nat → Nat → Nat) (d : DC) (sz : Nat) (x : Int32) (v : Int64) (hna : dna d ≤ 16) (hnt : dnt d ≤ 60) (how : ∀ j, j < dnt d → dow d j < dna d) (z13 : gI d 13 (dnt d) 0 = 0) (z14 : gI d 14 (dnt d) 0 = 0) (z3 : gL d 3 (dnt d) 0 = 0) (z4 : gL d 4 (dnt d) 0 = 0) :
    CoI valC cellC l D ct y_P_task b_P_task 5 (some .int) { frames := 2, cells := 1, slots := 8, locals := 36 } (lay, d) sz [.ref (lay 0 0), .int x, .long v] (fun r u => r = (sp_task d x v).1 ∧ u.2 = (sp_task d x v).2 ∧ u.1 0 0 = lay 0 0 ∧ ∀ q, Wdom (valC u) u.1 q → Wfr (valC (lay, d)) lay sz q) := by
  refine co_of (by decide) (Nat.le_of_ble_eq_true rfl) (fun p e s m below meth c X hr hlocks hnm hsz hW ls hl => ?_)
  subst hsz
  have hx := X.1.1
  have hb := X.1.2.1
  have hS : va_S (Wfr (valC (lay, d)) lay s.heap.size) s.heap s.heap [] := va_S.rf
  have hl : lv_has ls 5 [(0, .ref (lay 0 0)), (1, .int x), (2, .long v)] := hl
  refine lv_aload_n hx hb d_P_task_0 rfl (lv_at hl 0 rfl) ?_
  refine lv_iload_n hx hb d_P_task_1 rfl (lv_at hl 1 rfl) ?_
  refine wc_callq (val := valC) (lay := fun u : CS => u.1) (cell := cellC ct) (u0 := (lay, d)) X (c_P_applicationNumbered l D ct lay d _ x hna) (cw_P_53 X.1.2.2.2.2 rfl rfl ⟨Nat.le_of_ble_eq_true rfl, Nat.le_of_ble_eq_true rfl⟩) hW hS (fun q h => h.imp_right (fun z => Nat.le_trans hS.1 z)) (aC0 hW) rfl rfl hl.1 rfl (Nat.le_of_ble_eq_true rfl) d_P_task_2 ⟨Nat.le_of_ble_eq_true rfl, Nat.le_of_ble_eq_true rfl⟩ (fun r u H locs hp hW hz hk hS => ?_)
  obtain ⟨rfl, hp⟩ := hp
  rcases hp with ⟨j, hj, ej, hix, rfl⟩ | ⟨hix, rfl⟩
  · have hW : WC D ct (lay, d) H := hW
    refine lv_astore (lv' := [(4, .ref (lay 8 j)), (0, .ref (lay 0 0)), (1, .int x), (2, .long v)]) hx hb d_P_task_5 hl (by decide) rfl (fun ls hl => ?_)
    refine lv_aload hx hb d_P_task_7 (lv_at hl 0 rfl) ?_
    refine lv_ifnonnull (tgt := 14) hx hb d_P_task_9 (by decide) ?_
    refine lv_lload_n hx hb d_P_task_14 rfl (lv_at hl 3 rfl) ?_
    refine lv_lconst (v := 0) hx hb d_P_task_15 (by decide) ?_
    refine W.lcmp hx hb d_P_task_16 ?_
    refine lv_if_lt (tgt := 28) hx hb d_P_task_17 (by decide) (fun c_1 => ?_) (fun c_1 => ?_)
    · rw [lgc_lt] at c_1
      refine lv_bipush (v := -2) hx hb d_P_task_28 (by decide) ?_
      refine W.widen (k := 1) (n := 8) (Nat.zero_le _) (Nat.zero_le _) ?_
      exact leafI (val := valC) (cell := cellC) X hr hlocks hS (u2 := (lay, d)) hW (v := (-2)) ⟨by simp [sp_task, hix, c_1], by simp [sp_task, hix, c_1], rfl, fun q h => Or.inl h⟩ d_P_task_30
    · rw [lgc_lt] at c_1
      refine lv_lload_n hx hb d_P_task_20 rfl (lv_at hl 3 rfl) ?_
      refine lv_ldc2 (v := 1000000) hx hb X.1.2.2.2.1 (X.1.2.2.2.2 _ (List.mem_of_getElem? (i := 101) rfl)) d_P_task_21 ?_
      refine W.lcmp hx hb d_P_task_24 ?_
      refine lv_if_le (tgt := 31) hx hb d_P_task_25 (by decide) (fun c_2 => ?_) (fun c_2 => ?_)
      · rw [lgc_le] at c_2
        refine lv_aload_n hx hb d_P_task_31 rfl (lv_at hl 1 rfl) ?_
        refine gf_P_44 X (aC0 hW) rfl d_P_task_32 ?_
        refine lv_if_eq (tgt := 46) hx hb d_P_task_35 (by decide) (fun c_3 => ?_) (fun c_3 => ?_)
        · refine lv_bipush (v := -3) hx hb d_P_task_46 (by decide) ?_
          refine W.widen (k := 1) (n := 8) (Nat.zero_le _) (Nat.zero_le _) ?_
          exact leafI (val := valC) (cell := cellC) X hr hlocks hS (u2 := (lay, d)) hW (v := (-3)) ⟨by simp [sp_task, hix, c_1, c_2, c_3], by simp [sp_task, hix, c_1, c_2, c_3], rfl, fun q h => Or.inl h⟩ d_P_task_48
        · refine lv_aload hx hb d_P_task_38 (lv_at hl 0 rfl) ?_
          refine gf_P_59 X (aC8 hW hj) rfl d_P_task_40 ?_
          refine lv_if_eq (tgt := 49) hx hb d_P_task_43 (by decide) (fun c_4 => ?_) (fun c_4 => ?_)
          · refine lv_aload_n hx hb d_P_task_49 rfl (lv_at hl 1 rfl) ?_
            refine gf_P_62 X (aC0 hW) rfl d_P_task_50 ?_
            refine lv_bipush (v := 60) hx hb d_P_task_53 (by decide) ?_
            refine lv_icmp_lt (tgt := 61) hx hb d_P_task_55 (by decide) (fun c_5 => ?_) (fun c_5 => ?_)
            · have hlt60 : dnt d < 60 := (nI_ltI (b := 60) (by omega) (by decide)).mp c_5
              have c_5 : ¬ 60 ≤ dnt d := by omega
              have hszH := hS.1
              refine lv_aload_n hx hb d_P_task_61 rfl (lv_at hl 1 rfl) ?_
              refine gf_P_17 X (aC0 hW) rfl d_P_task_62 ?_
              refine lv_aload_n hx hb d_P_task_65 rfl (lv_at hl 1 rfl) ?_
              refine gf_P_62 X (aC0 hW) rfl d_P_task_66 ?_
              refine rr_new X i_T ft_T ft_T_ok (List.mem_of_getElem? (i := 35) rfl) (List.mem_of_getElem? (i := 102) rfl) (List.mem_of_getElem? (i := 25) rfl) (ci := 2) rfl (fs := [.int 0, .null, .long 0, .int 0, .int 0, .int 0, .long 0, .long 0]) (fun j hj => by rcases (show j = 0 ∨ j = 1 ∨ j = 2 ∨ j = 3 ∨ j = 4 ∨ j = 5 ∨ j = 6 ∨ j = 7 by omega) with rfl | rfl | rfl | rfl | rfl | rfl | rfl | rfl <;> rfl) hS (Nat.le_of_ble_eq_true rfl) (Nat.le_of_ble_eq_true rfl) d_P_task_69 (fun H1 hat1 hgr hS => ?_)
              have hW1 : WC D ct (lay, d) H1 := hW.gr hgr
              have hsz0 : s.heap.size ≤ H.size := by have h8 := hS.1; have h9 := hgr.1; exact hszH
              refine lv_dup hx hb d_P_task_72 rfl ?_
              refine lv_aload_n hx hb d_P_task_73 rfl (lv_at hl 1 rfl) ?_
              refine gf_P_62 X (aC0 hW1) rfl d_P_task_74 ?_
              refine lv_iconst (v := 1) hx hb d_P_task_77 (by decide) ?_
              refine lv_iadd hx hb d_P_task_78 ?_
              refine lv_topi (fun y ey => ?_)
              obtain rfl : y = nI (dnt d + 1) := ey.trans (nI_1 _)
              refine lv_aload hx hb d_P_task_79 (lv_at hl 0 rfl) ?_
              refine lv_lload_n hx hb d_P_task_81 rfl (lv_at hl 3 rfl) ?_
              refine cr_call X (c_T_init l D ct H.size H1.size (nI (dnt d + 1)) (lay 8 j) v) (cw_P_65 X.1.2.2.2.2 rfl rfl ⟨Nat.le_of_ble_eq_true rfl, Nat.le_of_ble_eq_true rfl⟩) (fun _ _ _ _ => trivial) trivial hat1 hS (fun q h => Or.inr (h.elim (fun z => by rw [z]; exact hsz0) (fun z => Nat.le_trans (Nat.le_trans hsz0 (by rw [hgr.1]; exact Nat.le_succ _)) z))) rfl hl.1 rfl (Nat.le_of_ble_eq_true rfl) d_P_task_82 ⟨Nat.le_of_ble_eq_true rfl, Nat.le_of_ble_eq_true rfl⟩ (fun H2 locs hz2 hcs hk2 hS => ?_)
              have c1 := hcs _ (List.mem_of_getElem? (i := 0) rfl)
              have hW2 : WC D ct (lay, d) H2 := hW1.kept (fun q hq => hk2 q (hW1.lt hq) (fun z => absurd (hW.lt hq) (by rw [z]; exact Nat.lt_irrefl _)))
              refine rn_astq X 4 2 (aC2 hW2) rfl c1 rfl hS (wfr 2 0 rfl) (t := dnt d) rfl (by omega) (by decide) d_P_task_85 (fun H3 locs hat3 hch3 hS => ?_)
              refine lv_aload_n hx hb d_P_task_86 rfl (lv_at hl 1 rfl) ?_
              refine lv_dup hx hb d_P_task_87 rfl ?_
              have m3 := hch3.at (aC0 hW2) (fun z => absurd (hW.2 0 0 2 0 rfl rfl z).1 (by decide))
              refine gf_P_62 X m3 rfl d_P_task_88 ?_
              refine lv_iconst (v := 1) hx hb d_P_task_91 (by decide) ?_
              refine lv_iadd hx hb d_P_task_92 ?_
              refine lv_topi (fun y ey => ?_)
              obtain rfl : y = nI (dnt d + 1) := ey.trans (nI_1 _)
              refine pf_P_62 X m3 hS (wfr 0 0 rfl) rfl rfl (Nat.le_of_ble_eq_true rfl) d_P_task_93 (fun H4 locs hat4 hch4 hS => ?_)
              refine lv_aload_n hx hb d_P_task_96 rfl (lv_at hl 1 rfl) ?_
              refine gf_P_62 X hat4 rfl d_P_task_97 ?_
              have hlt : ∀ k i, valC (lay, d) k i → lay k i < H.size := fun k i hv => hW.lt ⟨k, i, hv, rfl⟩
              have hW4 := wc_task (i0 := j) hW2 (fun k i hv => Nat.ne_of_lt (hlt k i hv)) c1 z13 z14 z3 z4 hat3 hch3 hat4 hch4
              exact leafI (val := valC) (cell := cellC) X hr hlocks hS (u2 := (layT lay (dnt d) H.size, sp_newT d j v)) hW4 (v := nI (dnt d + 1)) ⟨by simp [sp_task, hix, c_1, c_2, c_3, c_4, c_5], by simp [sp_task, hix, c_1, c_2, c_3, c_4, c_5], rfl, fun q h => (domT (lay := lay) (d := d) (d2 := sp_newT d j v) (q := H.size) rfl rfl h).elim Or.inl (fun z => Or.inr (by rw [z]; exact hsz0))⟩ d_P_task_100
            · have c_5 : 60 ≤ dnt d := Nat.not_lt.mp (fun q => c_5 (nI_lt (b := 60) q (by decide)))
              refine lv_bipush (v := -4) hx hb d_P_task_58 (by decide) ?_
              refine W.widen (k := 1) (n := 8) (Nat.zero_le _) (Nat.zero_le _) ?_
              exact leafI (val := valC) (cell := cellC) X hr hlocks hS (u2 := (lay, d)) hW (v := (-4)) ⟨by simp [sp_task, hix, c_1, c_2, c_3, c_4, c_5], by simp [sp_task, hix, c_1, c_2, c_3, c_4, c_5], rfl, fun q h => Or.inl h⟩ d_P_task_60
          · refine lv_bipush (v := -3) hx hb d_P_task_46 (by decide) ?_
            refine W.widen (k := 1) (n := 8) (Nat.zero_le _) (Nat.zero_le _) ?_
            exact leafI (val := valC) (cell := cellC) X hr hlocks hS (u2 := (lay, d)) hW (v := (-3)) ⟨by simp [sp_task, hix, c_1, c_2, c_3, c_4], by simp [sp_task, hix, c_1, c_2, c_3, c_4], rfl, fun q h => Or.inl h⟩ d_P_task_48
      · rw [lgc_le] at c_2
        refine lv_bipush (v := -2) hx hb d_P_task_28 (by decide) ?_
        refine W.widen (k := 1) (n := 8) (Nat.zero_le _) (Nat.zero_le _) ?_
        exact leafI (val := valC) (cell := cellC) X hr hlocks hS (u2 := (lay, d)) hW (v := (-2)) ⟨by simp [sp_task, hix, c_1, c_2], by simp [sp_task, hix, c_1, c_2], rfl, fun q h => Or.inl h⟩ d_P_task_30
  · have hW : WC D ct (lay, d) H := hW
    refine lv_astoreN (lv' := [(4, .null), (0, .ref (lay 0 0)), (1, .int x), (2, .long v)]) hx hb d_P_task_5 hl (by decide) rfl (fun ls hl => ?_)
    refine lv_aloadN hx hb d_P_task_7 (lv_at hl 0 rfl) ?_
    refine lv_ifnonnullN hx hb d_P_task_9 ?_
    refine lv_iconst (v := -1) hx hb d_P_task_12 (by decide) ?_
    refine W.widen (k := 1) (n := 8) (Nat.zero_le _) (Nat.zero_le _) ?_
    exact leafI (val := valC) (cell := cellC) X hr hlocks hS (u2 := (lay, d)) hW (v := (-1)) ⟨by simp [sp_task, hix], by simp [sp_task, hix], rfl, fun q h => Or.inl h⟩ d_P_task_13
