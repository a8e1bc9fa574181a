set_option maxHeartbeats 4000000 in
set_option maxRecDepth 100000 in
theorem whole_start {p : Program} {e : Env} {s : State} {m : MethodId} {below : List Frame} {meth : Method} {c : Code} (l : Launch) {b L : Nat} {xs : Nat → Int32} (hL : L ≤ 3072) (C0 : lw_At p s m meth c b L xs) : W p l e room_1 s m #[Value.ref b] below meth c s.heap [] 0 0 (lw_Z below #[Value.ref b] s) (entryFrame m ([Value.ref b] : List Value).toArray 4) := by
  obtain ⟨hx, hb, hr, hml, hown, hts0, hX, hbl, hlocks, hgv⟩ := id C0
  have hts : ∀ w ∈ wA, w.before #[Value.ref b] s = true := fun w h => hts0 w (wA_in w h)
  obtain ⟨c0, iS0, hKn0⟩ := u_known (C := R_A) (T := F_A) (N := 5) (n := 5) hts i_A (hts (.instantiable R_A 5) (List.mem_of_getElem? (i := 76) rfl))
  obtain ⟨c1, iS1, hKn1⟩ := u_known (C := R_B) (T := F_B) (N := 3) (n := 3) hts i_B (hts (.instantiable R_B 3) (List.mem_of_getElem? (i := 37) rfl))
  obtain ⟨c2, iS2, hKn2⟩ := u_known (C := R_T) (T := F_T) (N := 8) (n := 8) hts i_T (hts (.instantiable R_T 8) (List.mem_of_getElem? (i := 102) rfl))
  obtain ⟨c3, iS3, hKn3⟩ := u_known (C := R_P) (T := F_P) (N := 11) (n := 11) hts i_P (hts (.instantiable R_P 11) (List.mem_of_getElem? (i := 27) rfl))
  obtain ⟨c4, iS4, hKn4⟩ := u_known (C := R_M) (T := F_M) (N := 25) (n := 25) hts i_M (hts (.instantiable R_M 25) (List.mem_of_getElem? (i := 227) rfl))
  obtain ⟨t0, hT0⟩ := arr_prim (hts (.arrayClass .int) (List.mem_of_getElem? (i := 48) rfl)) (fun C q => by cases q)
  obtain ⟨t1, hT1⟩ := arr_prim (hts (.arrayClass .long) (List.mem_of_getElem? (i := 93) rfl)) (fun C q => by cases q)
  obtain ⟨t2, hT2⟩ := arr_prim (hts (.arrayClass .boolean) (List.mem_of_getElem? (i := 49) rfl)) (fun C q => by cases q)
  have hoA : (Cond.arrayOver (.object R_A)).before #[Value.ref b] s = true := hts0 _ (List.mem_of_getElem? (i := 35) rfl)
  have hoT : (Cond.arrayOver (.object R_T)).before #[Value.ref b] s = true := hts0 _ (List.mem_of_getElem? (i := 37) rfl)
  obtain ⟨t3, hT3⟩ := arr_obj hoA
  obtain ⟨t4, hT4⟩ := arr_obj hoT
  obtain ⟨D, hKc⟩ : ∃ D : va_G, ∀ (k : Nat) (q : vw_C), classes[k]? = some q → u_Kn s q.1 q.2.1 q.2.2 (D.1 k) (D.2 k) := by
    refine ⟨(fun k => if k = 0 then c0 else if k = 1 then c1 else if k = 2 then c2 else if k = 3 then c3 else c4, fun k => if k = 0 then iS0 else if k = 1 then iS1 else if k = 2 then iS2 else if k = 3 then iS3 else iS4), ?_⟩
    intro k q hq
    match k, hq with
    | 0, hq => cases hq; exact hKn0
    | 1, hq => cases hq; exact hKn1
    | 2, hq => cases hq; exact hKn2
    | 3, hq => cases hq; exact hKn3
    | 4, hq => cases hq; exact hKn4
    | k + 5, hq => simp [classes] at hq
  obtain ⟨ct, hct⟩ : ∃ ct : Nat → ClassId, ∀ (k : Nat) (q : ClassId × FieldType), (tysA ct)[k]? = some q → ArrOfT s q.1 q.2 ∧ va_RA s q.1 q.2 := by
    refine ⟨fun k => if k = 0 then t0 else if k = 1 then t1 else if k = 2 then t2 else if k = 3 then t3 else t4, ?_⟩
    intro k q hq
    match k, hq with
    | 0, hq => cases hq; exact hT0
    | 1, hq => cases hq; exact hT1
    | 2, hq => cases hq; exact hT2
    | 3, hq => cases hq; exact hT3
    | 4, hq => cases hq; exact hT4
    | k + 5, hq => simp [tysA] at hq
  have X : CX p m c code 4 s #[Value.ref b] wA R_L D classes (tysA ct) := ⟨⟨hx, hb, hml, hown, hts⟩, hKc, hct⟩
  have hS : va_S (fun q : Nat => s.heap.size ≤ q) s.heap s.heap [] := va_S.rf
  have hl := lv_entry ([.ref b]) (n := 4) (Nat.le_of_ble_eq_true rfl)
  rw [lg_entry_eq]
  generalize (lg_sl ([.ref b]) ++ List.replicate (4 - (lg_sl ([.ref b])).length) Slot.unset).toArray = ls at hl ⊢
  have hl : lv_has ls 4 [(0, .ref b)] := hl
  refine rr_new X i_P ft_P ft_P_ok (List.mem_of_getElem? (i := 26) rfl) (List.mem_of_getElem? (i := 27) rfl) (List.mem_of_getElem? (i := 21) rfl) (ci := 3) rfl (fs := [.null, .null, .null, .null, .null, .null, .null, .int 0, .int 0, .int 0, .int 0]) (fun j hj => by rcases (show j = 0 ∨ j = 1 ∨ j = 2 ∨ j = 3 ∨ j = 4 ∨ j = 5 ∨ j = 6 ∨ j = 7 ∨ j = 8 ∨ j = 9 ∨ j = 10 by omega) with rfl | rfl | rfl | rfl | rfl | rfl | rfl | rfl | rfl | rfl | rfl <;> rfl) hS (Nat.le_of_ble_eq_true rfl) (Nat.le_of_ble_eq_true rfl) d_L_law_0 (fun H1 hat1 hgr1 hS => ?_)
  refine lv_dup hx hb d_L_law_3 rfl ?_
  refine cr_call X (c_P_init l D ct s.heap.size H1.size) (cw_L_9 X.1.2.2.2.2 rfl rfl ⟨Nat.le_of_ble_eq_true rfl, Nat.le_of_ble_eq_true rfl⟩) (fun u U ha h => ⟨va_AO.moved ha h.1, va_AO.moved ha h.2⟩) ⟨va_AO.of hoA, va_AO.of hoT⟩ hat1 hS (fun q h => h.elim (fun z => by rw [z]; exact Nat.le_refl _) (fun z => Nat.le_trans (by rw [hgr1.1]; exact Nat.le_succ _) z)) rfl hl.1 rfl (Nat.le_of_ble_eq_true rfl) d_L_law_4 ⟨Nat.le_of_ble_eq_true rfl, Nat.le_of_ble_eq_true rfl⟩ (fun H2 locs2 hz2 hcs2 hk2 hS => ?_)
  have hC2 : WC D ct (layC0 s.heap.size H1.size, d00) H2 := wc_init (by rw [hgr1.1]; exact Nat.lt_succ_self _) hcs2
  refine lv_astore_n (lv' := [(1, .ref s.heap.size), (0, .ref b)]) hx hb d_L_law_7 rfl hl (by decide) rfl (fun ls hl => ?_)
  refine rr_new X i_M ft_M ft_M_ok (List.mem_of_getElem? (i := 226) rfl) (List.mem_of_getElem? (i := 227) rfl) (List.mem_of_getElem? (i := 23) rfl) (ci := 4) rfl (fs := [.int 0, .int 0, .int 0, .null, .null, .null, .null, .null, .int 0, .null, .null, .null, .null, .null, .null, .null, .null, .null, .null, .int 0, .null, .null, .int 0, .null, .int 0]) (fun j hj => by rcases (show j = 0 ∨ j = 1 ∨ j = 2 ∨ j = 3 ∨ j = 4 ∨ j = 5 ∨ j = 6 ∨ j = 7 ∨ j = 8 ∨ j = 9 ∨ j = 10 ∨ j = 11 ∨ j = 12 ∨ j = 13 ∨ j = 14 ∨ j = 15 ∨ j = 16 ∨ j = 17 ∨ j = 18 ∨ j = 19 ∨ j = 20 ∨ j = 21 ∨ j = 22 ∨ j = 23 ∨ j = 24 by omega) with rfl | rfl | rfl | rfl | rfl | rfl | rfl | rfl | rfl | rfl | rfl | rfl | rfl | rfl | rfl | rfl | rfl | rfl | rfl | rfl | rfl | rfl | rfl | rfl | rfl <;> rfl) hS (Nat.le_of_ble_eq_true rfl) (Nat.le_of_ble_eq_true rfl) d_L_law_8 (fun H3 hat3 hgr3 hS => ?_)
  have hC3 := hC2.gr hgr3
  refine lv_dup hx hb d_L_law_11 rfl ?_
  have hs2 : s.heap.size ≤ H2.size := by rw [hz2, hgr1.1]; omega
  refine cr_call X (c_M_init l D ct H2.size H3.size) (cw_L_12 X.1.2.2.2.2 rfl rfl ⟨Nat.le_of_ble_eq_true rfl, Nat.le_of_ble_eq_true rfl⟩) (fun _ _ _ _ => trivial) trivial hat3 hS (fun q h => h.elim (fun z => by rw [z]; exact hs2) (fun z => Nat.le_trans (Nat.le_trans hs2 (by rw [hgr3.1]; exact Nat.le_succ _)) z)) rfl hl.1 rfl (Nat.le_of_ble_eq_true rfl) d_L_law_12 ⟨Nat.le_of_ble_eq_true rfl, Nat.le_of_ble_eq_true rfl⟩ (fun H4 locs4 hz4 hcs4 hk4 hS => ?_)
  have hM4 : WM D ct (layM0 H2.size H3.size, d00) H4 := wm_init2 (by rw [hgr3.1]; exact Nat.lt_succ_self _) hcs4
  have hC4 : WC D ct (layC0 s.heap.size H1.size, d00) H4 := hC3.kept (fun q hq => hk4 q (hC3.lt hq) (fun z => absurd (hC2.lt hq) (by rw [z]; exact Nat.lt_irrefl _)))
  have hlM : ∀ q, Wdom (valM (layM0 H2.size H3.size, d00)) (layM0 H2.size H3.size) q → H2.size ≤ q := by
    intro q hq
    obtain ⟨k, i, -, e⟩ := hq
    have e' : layM0 H2.size H3.size k i = q := e
    have hg := hgr3.1
    cases k with
    | zero => have e2 : H2.size = q := e'; omega
    | succ k => have e2 : H3.size + k = q := e'; omega
  have hst : LawSt D ct s (layC0 s.heap.size H1.size) (layM0 H2.size H3.size) d00 d00 H4 locs4 := by
    refine ⟨hC4, hM4, fun q h1 h2 => absurd (hC2.lt h1) (Nat.not_lt.mpr (hlM q h2)), fun q hq => ?_, fun q hq => Nat.le_trans hs2 (hlM q hq), hS⟩
    obtain ⟨k, i, hv, e⟩ := hq
    have e' : layC0 s.heap.size H1.size k i = q := e
    have a := layC0_at (h0 := s.heap.size) (sz := H1.size) (valC_0 hv)
    have hg := hgr1.1
    rw [e'] at a
    omega
  refine lv_astore_n (lv' := [(2, .ref H2.size), (1, .ref s.heap.size), (0, .ref b)]) hx hb d_L_law_15 rfl hl (by decide) rfl (fun ls hl => ?_)
  refine lv_iconst (v := 0) hx hb d_L_law_16 (by decide) ?_
  refine lv_istore_n (lv' := [(3, .int 0), (2, .ref H2.size), (1, .ref s.heap.size), (0, .ref b)]) hx hb d_L_law_17 rfl hl (by decide) rfl (fun ls hl => ?_)
  exact law_loop hL X hX hbl hr hlocks 513 0 _ _ d00 H4 locs4 ls (by omega) (by omega) hst Inv_0 rfl rfl (lv_sub hl [3, 2, 1, 0] rfl)
