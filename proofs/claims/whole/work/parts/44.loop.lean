theorem len6 {L n : Nat} (hL : L ≤ 3072) (hn : 6 * n ≤ L) : nI L - 6 < nI (6 * n) ↔ L < 6 * n + 6 := by
  rw [i32lt, nI_toInt (by omega), show (nI L - 6).toInt = (L : Int) - 6 from pk_sub_toInt (b := 6) (by omega) (by decide)]
  omega
set_option maxHeartbeats 4000000 in
set_option maxRecDepth 100000 in
theorem law_loop {p : Program} {l : Launch} {e : Env} {s : State} {m : MethodId} {below : List Frame} {meth : Method} {c : Code} {D : va_G} {ct : Nat → ClassId} {b L : Nat} {xs : Nat → Int32} (hL : L ≤ 3072) (X : CX p m c code 4 s #[Value.ref b] wA R_L D classes (tysA ct)) (hX : va_X b L xs s s.heap) (hbl : b < s.heap.size) (hr : meth.sig.returnType = ret) (hlocks : meth.locks = false) {x0 m0 : Nat} :
    ∀ (f n : Nat) (layC layM : Nat → Nat → Nat) (d : DC) (H : Heap) (locs : List Loc) (ls : Array Slot), 6 * n ≤ L → 513 ≤ n + f → LawSt D ct s layC layM d d H locs → Inv d n → layC 0 0 = x0 → layM 0 0 = m0 → lv_has ls 4 [(0, .ref b), (1, .ref x0), (2, .ref m0), (3, .int (nI (6 * n)))] → W p l e room_1 s m #[Value.ref b] below meth c H locs (29 + 3 * n) (8136 + 21 * n) (lw_Z below #[Value.ref b] s) (F0 m 18 ls []) := by
  have hx := X.1.1
  have hb := X.1.2.1
  intro f
  induction f with
  | zero => intro n layC layM d H locs ls h1 h2; exact absurd h2 (by omega)
  | succ f ih =>
    intro n layC layM d H locs ls hn hf hst hI ex em hl
    refine lv_iload_n hx hb d_L_law_18 rfl (lv_at hl 3 rfl) ?_
    refine lv_aload_n hx hb d_L_law_19 rfl (lv_at hl 0 rfl) ?_
    refine va_slen hx hb hX hbl (Nat.not_le.mpr hbl) hst.2.2.2.2.2 d_L_law_20 ?_
    refine lv_bipush (v := 6) hx hb d_L_law_21 (by decide) ?_
    refine lv_isub hx hb d_L_law_23 ?_
    refine lv_icmp_gt (tgt := 704) hx hb d_L_law_24 (by decide) (fun c_1 => ?_) (fun c_1 => ?_)
    · refine lv_iconst (v := 1) hx hb d_L_law_704 (by decide) ?_
      refine va_forget (fun q hq => hst.2.2.2.2.2.2.2 q hq) ?_
      refine W.widen (k := 600000) (n := 7302250) (by omega) (by omega) ?_
      exact lw_ret hx hb hr hlocks d_L_law_705
    · have h6 : 6 * n + 6 ≤ L := Nat.not_lt.mp (fun q => c_1 ((len6 hL hn).mpr q))
      have kk : ∀ (layC layM : Nat → Nat → Nat) (d : DC) (H : Heap) (locs : List Loc) (ls : Array Slot), LawSt D ct s layC layM d d H locs → Inv d (n + 1) → layC 0 0 = x0 → layM 0 0 = m0 → lv_has ls 4 [(0, .ref b), (1, .ref x0), (2, .ref m0), (3, .int (nI (6 * n)))] → W p l e room_1 s m #[Value.ref b] below meth c H locs (29 + 3 * (n + 1)) (8136 + 21 * (n + 1)) (lw_Z below #[Value.ref b] s) (F0 m 698 ls []) := by
        intro layC layM d H locs ls hst hI ex em hl
        refine lv_iinc (v := nI (6 * (n + 1))) (lv' := [(3, .int (nI (6 * (n + 1)))), (0, .ref b), (1, .ref x0), (2, .ref m0)]) hx hb d_L_law_698 hl (k := 3) rfl (by rw [show 6 * (n + 1) = 6 * n + 6 by omega]; exact nI_add (6 * n) 6) (by decide) rfl (fun ls hl => ?_)
        refine lv_goto (tgt := 18) hx hb d_L_law_701 (by decide) ?_
        exact ih (n + 1) layC layM d H locs ls (by omega) (by omega) hst hI ex em (lv_sub hl [1, 2, 3, 0] rfl)
      refine lv_aload_n hx hb d_L_law_27 rfl (lv_at hl 0 rfl) ?_
      refine lv_iload_n hx hb d_L_law_28 rfl (lv_at hl 3 rfl) ?_
      refine rn_sld hx hb hX hbl hst.2.2.2.2.2 (t := 6 * n) rfl (by omega) hL d_L_law_29 ?_
      refine lv_bipush (v := 15) hx hb d_L_law_30 (by decide) ?_
      refine lv_iand hx hb d_L_law_32 ?_
      obtain ⟨j, hj, ej⟩ := pk_andE (xs (6 * n)) (m := 15) 4 (by decide)
      rw [ej]
      have hj2 : j < 16 := hj
      rcases (show j = 0 ∨ j = 1 ∨ j = 2 ∨ j = 3 ∨ j = 4 ∨ j = 5 ∨ j = 6 ∨ j = 7 ∨ j = 8 ∨ j = 9 ∨ j = 10 ∨ j = 11 ∨ j = 12 ∨ j = 13 ∨ j = 14 ∨ j = 15 by omega) with rfl | rfl | rfl | rfl | rfl | rfl | rfl | rfl | rfl | rfl | rfl | rfl | rfl | rfl | rfl | rfl
      · refine lv_tableIn (off := 63) (tgt := 96) hx hb d_L_law_33 (by decide) (by decide) (by decide) (by decide) ?_
        exact op_application hL h6 X hX hbl kk hst hI ex em hl
      · refine lv_tableIn (off := 86) (tgt := 119) hx hb d_L_law_33 (by decide) (by decide) (by decide) (by decide) ?_
        exact op_task hL h6 X hX hbl kk hst hI ex em hl
      · refine lv_tableIn (off := 149) (tgt := 182) hx hb d_L_law_33 (by decide) (by decide) (by decide) (by decide) ?_
        exact op_region hL h6 X hX hbl kk hst hI ex em hl
      · refine lv_tableIn (off := 252) (tgt := 285) hx hb d_L_law_33 (by decide) (by decide) (by decide) (by decide) ?_
        exact op_holds hL h6 X hX hbl kk hst hI ex em hl
      · refine lv_tableIn (off := 295) (tgt := 328) hx hb d_L_law_33 (by decide) (by decide) (by decide) (by decide) ?_
        exact op_fault hL h6 X hX hbl kk hst hI ex em hl
      · refine lv_tableIn (off := 328) (tgt := 361) hx hb d_L_law_33 (by decide) (by decide) (by decide) (by decide) ?_
        exact op_cleaned hL h6 X hX hbl kk hst hI ex em hl
      · refine lv_tableIn (off := 361) (tgt := 394) hx hb d_L_law_33 (by decide) (by decide) (by decide) (by decide) ?_
        exact op_hook hL h6 X hX hbl kk hst hI ex em hl
      · refine lv_tableIn (off := 420) (tgt := 453) hx hb d_L_law_33 (by decide) (by decide) (by decide) (by decide) ?_
        exact op_arrival hL h6 X hX hbl kk hst hI ex em hl
      · refine lv_tableIn (off := 483) (tgt := 516) hx hb d_L_law_33 (by decide) (by decide) (by decide) (by decide) ?_
        exact op_trusted hL h6 X hX hbl kk hst hI ex em hl
      · refine lv_tableIn (off := 546) (tgt := 579) hx hb d_L_law_33 (by decide) (by decide) (by decide) (by decide) ?_
        exact op_access hL h6 X hX hbl kk hst hI ex em hl
      · refine lv_tableIn (off := 609) (tgt := 642) hx hb d_L_law_33 (by decide) (by decide) (by decide) (by decide) ?_
        exact op_state hL h6 X hX hbl kk hst hI ex em hl
      · refine lv_tableIn (off := 632) (tgt := 665) hx hb d_L_law_33 (by decide) (by decide) (by decide) (by decide) ?_
        exact op_log hL h6 X hX hbl kk hst hI ex em hl
      · refine lv_tableOut (tgt := 698) hx hb d_L_law_33 (by decide) (by decide) ?_
        refine W.widen (k := 29 + 3 * (n + 1)) (n := 8136 + 21 * (n + 1)) (by omega) (by omega) ?_
        exact kk _ _ _ _ _ ls hst hI.mono ex em hl
      · refine lv_tableOut (tgt := 698) hx hb d_L_law_33 (by decide) (by decide) ?_
        refine W.widen (k := 29 + 3 * (n + 1)) (n := 8136 + 21 * (n + 1)) (by omega) (by omega) ?_
        exact kk _ _ _ _ _ ls hst hI.mono ex em hl
      · refine lv_tableOut (tgt := 698) hx hb d_L_law_33 (by decide) (by decide) ?_
        refine W.widen (k := 29 + 3 * (n + 1)) (n := 8136 + 21 * (n + 1)) (by omega) (by omega) ?_
        exact kk _ _ _ _ _ ls hst hI.mono ex em hl
      · refine lv_tableOut (tgt := 698) hx hb d_L_law_33 (by decide) (by decide) ?_
        refine W.widen (k := 29 + 3 * (n + 1)) (n := 8136 + 21 * (n + 1)) (by omega) (by omega) ?_
        exact kk _ _ _ _ _ ls hst hI.mono ex em hl
