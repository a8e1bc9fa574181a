theorem rs_pos {x : Int32} {n : Nat} (hx : x = nI n) (hn : n < 2 ^ 31) (h : ¬ x = 0) : 0 < x := by
  rw [hx] at h ⊢
  rw [i32lt, nI_toInt hn]
  show (0 : Int) < n
  rcases Nat.eq_zero_or_pos n with q | q
  · subst q; exact absurd rfl h
  · omega
theorem ix4m (c : Nat) : 4 * nI c = nI (4 * c) := pk_mul 4 c
theorem ix4mk (c k : Nat) : 4 * nI c + nI k = nI (4 * c + k) := by rw [ix4m, nI_add]
set_option maxHeartbeats 4000000 in
set_option maxRecDepth 100000 in
theorem c_M_react (l : Launch) (D : va_G) (ct : Nat → ClassId) (lay : Nat → Nat → Nat) (d : DC) (sz : Nat) (x : Int32) (j : Nat) (hj : j < dnt d) (ej : x = nI (j + 1)) (k : Int32) (hna : dna d ≤ 16) (hnt : dnt d ≤ 60) (how : ∀ j, j < dnt d → dow d j < dna d) (h15 : ∀ j, j < dnt d → gI d 15 j 0 = nI (dow d j + 1)) (hrs : ∀ i, i < dna d → ∃ n, n ≤ 10 ∧ gI d 10 i 0 = nI n) (B B1 : Nat) (hB : B + 7680 < 2147483647) (hB1 : B1 < 2147483647) (hok : okc d B B1) (hu : ¬ gI d 0 0 0 = 0) :
    CoI valM cellM l D ct y_M_react b_M_react 7 (some .int) { frames := 3, cells := 0, slots := 0, locals := 65 } (lay, d) sz [.ref (lay 0 0), .int x, .int k] (fun r u => r = (sp_raise d j k).1 ∧ u = (lay, (sp_raise d j k).2)) := by
  refine co_of (by decide) (Nat.le_of_ble_eq_true rfl) (fun p e s m below meth c X hr hlocks hnm hsz hW ls hl => ?_)
  subst hsz
  have hx := X.1.1
  have hb := X.1.2.1
  have hS : va_S (Wfr (valM (lay, d)) lay s.heap.size) s.heap s.heap [] := va_S.rf
  subst ej
  have hl : lv_has ls 7 [(0, .ref (lay 0 0)), (1, .int (nI (j + 1))), (2, .int k)] := hl
  have cut229 : ∀ (r : Int32) (d2 : DC) (H : Heap) (locs : List Loc) (ls : Array Slot), r = (sp_carry (sI d 1 0 0 0) (sp_ask d (sp_lev d)) j).1 → d2 = (sp_carry (sI d 1 0 0 0) (sp_ask d (sp_lev d)) j).2 → WM D ct (lay, d2) H → va_S (Wfr (valM (lay, d)) lay s.heap.size) s.heap H locs → lv_has ls 7 [(4, .int r), (3, .int (nI (sp_lev d))), (0, .ref (lay 0 0)), (1, .int (nI (j + 1))), (2, .int k)] → W p l e { frames := 3, cells := 0, slots := 0, locals := 65 } s m [.ref (lay 0 0), .int (nI (j + 1)), .int k].toArray below meth c H locs 0 0 (MQ below (va_Qi (fun r u => r = (sp_raise d j k).1 ∧ u = (lay, (sp_raise d j k).2)) (WB D classes (tysA ct) valM (fun u : CS => u.1) (cellM ct)) (Wfr (valM (lay, d)) lay s.heap.size)) [.ref (lay 0 0), .int (nI (j + 1)), .int k].toArray s 0 0 (Wfr (valM (lay, d)) lay s.heap.size)) (F0 m 229 ls []) := by
    intro r d2 H locs ls hr1 hd2 hW hS hl
    obtain ⟨-, cc1, hcB, hcc⟩ := (hok.set 1 0 0 0 (by decide)).carry hnt (sp_ask d (sp_lev d)) j
    rw [← hd2] at hcc
    refine lv_aload_n hx hb d_M_react_229 rfl (lv_at hl 2 rfl) ?_
    refine gf_M_107 X (aM0 hW) rfl d_M_react_230 ?_
    refine lv_sipush (v := 500) hx hb d_M_react_233 (by decide) ?_
    refine lv_icmp_ge (tgt := 294) hx hb d_M_react_236 (by decide) (fun c_1 => ?_) (fun c_1 => ?_)
    · have c_1 :  nI 500 ≤ nI cc1 := by rw [← hcc]; exact c_1
      have hc5 : 500 ≤ cc1 := (nI_leI (by decide) (by omega)).mp c_1
      refine lv_aload_n hx hb d_M_react_294 rfl (lv_at hl 2 rfl) ?_
      refine lv_dup hx hb d_M_react_295 rfl ?_
      refine gf_M_107 X (aM0 hW) rfl d_M_react_296 ?_
      refine lv_iconst (v := 1) hx hb d_M_react_299 (by decide) ?_
      refine lv_iadd hx hb d_M_react_300 ?_
      refine pf_M_107 X (aM0 hW) hS (wfr 0 0 ⟨by decide, rfl⟩) rfl rfl (Nat.le_of_ble_eq_true rfl) d_M_react_301 (fun H locs hat hch hS => ?_)
      have hW := wpM_lines hW hat hch
      refine lv_iload hx hb d_M_react_304 (lv_at hl 0 rfl) ?_
      exact leafI (val := valM) (cell := cellM) X hr hlocks hS (u2 := (lay, (sI d2 5 1 0 (gI d2 5 1 0 + 1)))) hW (v := r) ⟨hr1, (wr_n (lay := lay) (d := d2) hcc hc5 (by omega)).trans (by subst hr1; subst hd2; rfl)⟩ d_M_react_306
    · have c_1 : ¬ nI 500 ≤ nI cc1 := by rw [← hcc]; exact c_1
      have hc5 : cc1 < 500 := Nat.not_le.mp (fun q => c_1 (nI_le q (by omega)))
      refine lv_aload_n hx hb d_M_react_239 rfl (lv_at hl 2 rfl) ?_
      refine gf_M_63 X (aM0 hW) rfl d_M_react_240 ?_
      refine lv_iconst (v := 4) hx hb d_M_react_243 (by decide) ?_
      refine lv_aload_n hx hb d_M_react_244 rfl (lv_at hl 2 rfl) ?_
      refine gf_M_107 X (aM0 hW) rfl d_M_react_245 ?_
      refine lv_imul hx hb d_M_react_248 ?_
      refine lv_iload_n hx hb d_M_react_249 rfl (lv_at hl 3 rfl) ?_
      refine rn_iast X 0 (aM18 hW) rfl hS (wfr 18 0 ⟨by decide, rfl⟩) (t := (4 * cc1)) (by rw [show gI d2 5 1 0 = nI cc1 from hcc]; exact ix4m cc1) (by omega) (by decide) d_M_react_250 (fun H locs hat hch hS => ?_)
      have hW := wpM_aI7 (t := (4 * cc1)) hW hat hch
      refine lv_aload_n hx hb d_M_react_251 rfl (lv_at hl 2 rfl) ?_
      refine gf_M_63 X (aM0 hW) rfl d_M_react_252 ?_
      refine lv_iconst (v := 4) hx hb d_M_react_255 (by decide) ?_
      refine lv_aload_n hx hb d_M_react_256 rfl (lv_at hl 2 rfl) ?_
      refine gf_M_107 X (aM0 hW) rfl d_M_react_257 ?_
      refine lv_imul hx hb d_M_react_260 ?_
      refine lv_iconst (v := 1) hx hb d_M_react_261 (by decide) ?_
      refine lv_iadd hx hb d_M_react_262 ?_
      refine lv_iload_n hx hb d_M_react_263 rfl (lv_at hl 4 rfl) ?_
      refine rn_iast X 0 (aM18 hW) rfl hS (wfr 18 0 ⟨by decide, rfl⟩) (t := (4 * cc1 + 1)) (by rw [show gI (sI d2 7 1 (4 * cc1) (nI (j + 1))) 5 1 0 = nI cc1 from hcc]; exact ix4mk cc1 1) (by omega) (by decide) d_M_react_264 (fun H locs hat hch hS => ?_)
      have hW := wpM_aI7 (t := (4 * cc1 + 1)) hW hat hch
      refine lv_aload_n hx hb d_M_react_265 rfl (lv_at hl 2 rfl) ?_
      refine gf_M_63 X (aM0 hW) rfl d_M_react_266 ?_
      refine lv_iconst (v := 4) hx hb d_M_react_269 (by decide) ?_
      refine lv_aload_n hx hb d_M_react_270 rfl (lv_at hl 2 rfl) ?_
      refine gf_M_107 X (aM0 hW) rfl d_M_react_271 ?_
      refine lv_imul hx hb d_M_react_274 ?_
      refine lv_iconst (v := 2) hx hb d_M_react_275 (by decide) ?_
      refine lv_iadd hx hb d_M_react_276 ?_
      refine lv_iload_n hx hb d_M_react_277 rfl (lv_at hl 1 rfl) ?_
      refine rn_iast X 0 (aM18 hW) rfl hS (wfr 18 0 ⟨by decide, rfl⟩) (t := (4 * cc1 + 2)) (by rw [show gI (sI (sI d2 7 1 (4 * cc1) (nI (j + 1))) 7 1 (4 * cc1 + 1) k) 5 1 0 = nI cc1 from hcc]; exact ix4mk cc1 2) (by omega) (by decide) d_M_react_278 (fun H locs hat hch hS => ?_)
      have hW := wpM_aI7 (t := (4 * cc1 + 2)) hW hat hch
      refine lv_aload_n hx hb d_M_react_279 rfl (lv_at hl 2 rfl) ?_
      refine gf_M_63 X (aM0 hW) rfl d_M_react_280 ?_
      refine lv_iconst (v := 4) hx hb d_M_react_283 (by decide) ?_
      refine lv_aload_n hx hb d_M_react_284 rfl (lv_at hl 2 rfl) ?_
      refine gf_M_107 X (aM0 hW) rfl d_M_react_285 ?_
      refine lv_imul hx hb d_M_react_288 ?_
      refine lv_iconst (v := 3) hx hb d_M_react_289 (by decide) ?_
      refine lv_iadd hx hb d_M_react_290 ?_
      refine lv_iload hx hb d_M_react_291 (lv_at hl 0 rfl) ?_
      refine rn_iast X 0 (aM18 hW) rfl hS (wfr 18 0 ⟨by decide, rfl⟩) (t := (4 * cc1 + 3)) (by rw [show gI (sI (sI (sI d2 7 1 (4 * cc1) (nI (j + 1))) 7 1 (4 * cc1 + 1) k) 7 1 (4 * cc1 + 2) (nI (sp_lev d))) 5 1 0 = nI cc1 from hcc]; exact ix4mk cc1 3) (by omega) (by decide) d_M_react_293 (fun H locs hat hch hS => ?_)
      have hW := wpM_aI7 (t := (4 * cc1 + 3)) hW hat hch
      refine lv_aload_n hx hb d_M_react_294 rfl (lv_at hl 2 rfl) ?_
      refine lv_dup hx hb d_M_react_295 rfl ?_
      refine gf_M_107 X (aM0 hW) rfl d_M_react_296 ?_
      refine lv_iconst (v := 1) hx hb d_M_react_299 (by decide) ?_
      refine lv_iadd hx hb d_M_react_300 ?_
      refine pf_M_107 X (aM0 hW) hS (wfr 0 0 ⟨by decide, rfl⟩) rfl rfl (Nat.le_of_ble_eq_true rfl) d_M_react_301 (fun H locs hat hch hS => ?_)
      have hW := wpM_lines hW hat hch
      refine lv_iload hx hb d_M_react_304 (lv_at hl 0 rfl) ?_
      exact leafI (val := valM) (cell := cellM) X hr hlocks hS (u2 := (lay, (sI (sI (sI (sI (sI d2 7 1 (4 * cc1) (nI (j + 1))) 7 1 (4 * cc1 + 1) k) 7 1 (4 * cc1 + 2) (nI (sp_lev d))) 7 1 (4 * cc1 + 3) r) 5 1 0 (gI (sI (sI (sI (sI d2 7 1 (4 * cc1) (nI (j + 1))) 7 1 (4 * cc1 + 1) k) 7 1 (4 * cc1 + 2) (nI (sp_lev d))) 7 1 (4 * cc1 + 3) r) 5 1 0 + 1)))) hW (v := r) ⟨hr1, (wr_y (lay := lay) (d := d2) hcc hc5 (by omega)).trans (by subst hr1; subst hd2; rfl)⟩ d_M_react_306
  have cut61 : ∀ (r : Int32) (ls : Array Slot), r = sp_ask d (sp_lev d) → lv_has ls 7 [(4, .int r), (3, .int (nI (sp_lev d))), (0, .ref (lay 0 0)), (1, .int (nI (j + 1))), (2, .int k)] → W p l e { frames := 3, cells := 0, slots := 0, locals := 65 } s m [.ref (lay 0 0), .int (nI (j + 1)), .int k].toArray below meth c s.heap [] 0 0 (MQ below (va_Qi (fun r u => r = (sp_raise d j k).1 ∧ u = (lay, (sp_raise d j k).2)) (WB D classes (tysA ct) valM (fun u : CS => u.1) (cellM ct)) (Wfr (valM (lay, d)) lay s.heap.size)) [.ref (lay 0 0), .int (nI (j + 1)), .int k].toArray s 0 0 (Wfr (valM (lay, d)) lay s.heap.size)) (F0 m 61 ls []) := by
    intro r ls hra hl
    refine lv_aload_n hx hb d_M_react_61 rfl (lv_at hl 2 rfl) ?_
    refine gf_M_27 X (aM0 hW) rfl d_M_react_62 ?_
    refine lv_iload_n hx hb d_M_react_65 rfl (lv_at hl 3 rfl) ?_
    refine rn_iald X 0 (aM6 hW) rfl (t := (j + 1)) rfl (by omega) (by decide) d_M_react_66 ?_
    refine lv_istore (lv' := [(5, .int (gI d 15 j 0)), (4, .int r), (3, .int (nI (sp_lev d))), (0, .ref (lay 0 0)), (1, .int (nI (j + 1))), (2, .int k)]) hx hb d_M_react_67 hl (by decide) rfl (fun ls hl => ?_)
    refine lv_aload_n hx hb d_M_react_69 rfl (lv_at hl 3 rfl) ?_
    refine lv_iconst (v := 0) hx hb d_M_react_70 (by decide) ?_
    refine pf_M_94 X (aM0 hW) hS (wfr 0 0 ⟨by decide, rfl⟩) rfl rfl (Nat.le_of_ble_eq_true rfl) d_M_react_71 (fun H locs hat hch hS => ?_)
    have hW := wpM_sick hW hat hch
    refine lv_iload hx hb d_M_react_74 (lv_at hl 1 rfl) ?_
    refine lv_iconst (v := 2) hx hb d_M_react_76 (by decide) ?_
    refine lv_icmp_ne (tgt := 85) hx hb d_M_react_77 (by decide) (fun c_2 => ?_) (fun c_2 => ?_)
    · refine lv_iload hx hb d_M_react_85 (lv_at hl 1 rfl) ?_
      refine lv_iconst (v := 3) hx hb d_M_react_87 (by decide) ?_
      refine lv_icmp_ne (tgt := 105) hx hb d_M_react_88 (by decide) (fun c_3 => ?_) (fun c_3 => ?_)
      · refine lv_iload hx hb d_M_react_105 (lv_at hl 1 rfl) ?_
        refine lv_iconst (v := 4) hx hb d_M_react_107 (by decide) ?_
        refine lv_icmp_ne (tgt := 204) hx hb d_M_react_108 (by decide) (fun c_4 => ?_) (fun c_4 => ?_)
        · refine lv_iload hx hb d_M_react_204 (lv_at hl 1 rfl) ?_
          refine lv_iconst (v := 5) hx hb d_M_react_206 (by decide) ?_
          refine lv_icmp_ne (tgt := 214) hx hb d_M_react_207 (by decide) (fun c_5 => ?_) (fun c_5 => ?_)
          · refine lv_aload_n hx hb d_M_react_214 rfl (lv_at hl 3 rfl) ?_
            refine gf_M_76 X (aM0 hW) rfl d_M_react_215 ?_
            refine lv_if_eq (tgt := 225) hx hb d_M_react_218 (by decide) (fun c_6 => ?_) (fun c_6 => ?_)
            · have u_c_6 := dn_0.mp c_6
              refine lv_iload hx hb d_M_react_225 (lv_at hl 1 rfl) ?_
              refine lv_istore (lv' := [(4, .int r), (5, .int (gI d 15 j 0)), (3, .int (nI (sp_lev d))), (0, .ref (lay 0 0)), (1, .int (nI (j + 1))), (2, .int k)]) hx hb d_M_react_227 hl (by decide) rfl (fun ls hl => ?_)
              exact cut229 r (sI d 1 0 0 0) H locs ls (by rw [← hra]; simp [sp_carry, sp_act, c_2, c_3, c_4, c_5, u_c_6, show ¬ gI (sI d 1 0 0 0) 0 0 0 = 0 from hu]) (by rw [← hra]; simp [sp_carry, sp_act, c_2, c_3, c_4, c_5, u_c_6, show ¬ gI (sI d 1 0 0 0) 0 0 0 = 0 from hu]) hW hS (lv_sub hl [0, 2, 3, 4, 5] rfl)
            · have u_c_6 := Decidable.not_not.mp (fun q => c_6 (dn_0.mpr q))
              exact absurd u_c_6 hu
          · refine lv_aload_n hx hb d_M_react_210 rfl (lv_at hl 3 rfl) ?_
            refine wc_callv (val := valM) (lay := fun u : CS => u.1) (cell := cellM ct) (u0 := (lay, (sI d 1 0 0 0))) X (c_M_shutDown l D ct lay (sI d 1 0 0 0) _ hna hnt) (cw_M_97 X.1.2.2.2.2 rfl rfl ⟨Nat.le_of_ble_eq_true rfl, Nat.le_of_ble_eq_true rfl⟩) hW hS (fun q h => h.imp_right (fun z => Nat.le_trans hS.1 z)) (aM0 hW) rfl rfl hl.1 rfl (Nat.le_of_ble_eq_true rfl) d_M_react_211 ⟨Nat.le_of_ble_eq_true rfl, Nat.le_of_ble_eq_true rfl⟩ (fun u H locs hp hW hz hk hS => ?_)
            obtain rfl := hp
            have hW : WM D ct (lay, (sp_shut (sI d 1 0 0 0))) H := hW
            refine lv_aload_n hx hb d_M_react_214 rfl (lv_at hl 3 rfl) ?_
            refine gf_M_76 X (aM0 hW) rfl d_M_react_215 ?_
            refine lv_if_eq (tgt := 225) hx hb d_M_react_218 (by decide) (fun c_7 => ?_) (fun c_7 => ?_)
            · have u_c_7 := dn_0.mp c_7
              exact absurd (up_shut _) u_c_7
            · have u_c_7 := Decidable.not_not.mp (fun q => c_7 (dn_0.mpr q))
              refine lv_iconst (v := 5) hx hb d_M_react_221 (by decide) ?_
              refine lv_goto (tgt := 227) hx hb d_M_react_222 (by decide) ?_
              refine lv_istore (lv' := [(4, .int 5), (5, .int (gI d 15 j 0)), (3, .int (nI (sp_lev d))), (0, .ref (lay 0 0)), (1, .int (nI (j + 1))), (2, .int k)]) hx hb d_M_react_227 hl (by decide) rfl (fun ls hl => ?_)
              exact cut229 5 (sp_shut (sI d 1 0 0 0)) H locs ls (by rw [← hra]; simp [sp_carry, sp_act, c_5, u_c_7, up_shut]) (by rw [← hra]; simp [sp_carry, sp_act, c_5, u_c_7, up_shut]) hW hS (lv_sub hl [0, 2, 3, 4, 5] rfl)
        · refine lv_aload_n hx hb d_M_react_111 rfl (lv_at hl 3 rfl) ?_
          refine lv_iload hx hb d_M_react_112 (lv_at hl 0 rfl) ?_
          refine wc_callv (val := valM) (lay := fun u : CS => u.1) (cell := cellM ct) (u0 := (lay, (sI d 1 0 0 0))) X (c_M_endAll l D ct lay (sI d 1 0 0 0) _ (gI d 15 j 0) (dow d j) (how j hj) (h15 j hj) hna hnt how h15 B B1 hB (hok.set 1 0 0 0 (by decide)) (Or.inr (Or.inl rfl))) (cw_M_104 X.1.2.2.2.2 rfl rfl ⟨Nat.le_of_ble_eq_true rfl, Nat.le_of_ble_eq_true rfl⟩) hW hS (fun q h => h.imp_right (fun z => Nat.le_trans hS.1 z)) (aM0 hW) rfl rfl hl.1 rfl (Nat.le_of_ble_eq_true rfl) d_M_react_114 ⟨Nat.le_of_ble_eq_true rfl, Nat.le_of_ble_eq_true rfl⟩ (fun u H locs hp hW hz hk hS => ?_)
          obtain rfl := hp
          obtain ⟨tI_q_8, tL_q_8, e_q_8⟩ := kp.ex ((kp_sI d 1 0 0 0).tr (kp_all (sI d 1 0 0 0) (dow d j)))
          have hW : WM D ct (lay, (sp_all (sI d 1 0 0 0) (dow d j))) H := hW
          rw [e_q_8] at hW
          have hW : WM D ct (lay, (mk d tI_q_8 tL_q_8)) H := hW
          refine lv_aload_n hx hb d_M_react_117 rfl (lv_at hl 3 rfl) ?_
          refine gf_M_76 X (aM0 hW) rfl d_M_react_118 ?_
          refine lv_if_ne (tgt := 148) hx hb d_M_react_121 (by decide) (fun c_9 => ?_) (fun c_9 => ?_)
          · have u_c_9 := Decidable.not_not.mp (fun q => c_9 (dn_0.mpr q))
            refine lv_aload_n hx hb d_M_react_148 rfl (lv_at hl 3 rfl) ?_
            refine gf_M_76 X (aM0 hW) rfl d_M_react_149 ?_
            refine lv_if_ne (tgt := 204) hx hb d_M_react_152 (by decide) (fun _ => ?_) (fun c_10 => absurd c_10 c_9)
            refine lv_iload hx hb d_M_react_204 (lv_at hl 1 rfl) ?_
            refine lv_iconst (v := 5) hx hb d_M_react_206 (by decide) ?_
            refine lv_icmp_ne (tgt := 214) hx hb d_M_react_207 (by decide) (fun c_11 => ?_) (fun c_11 => ?_)
            · refine lv_aload_n hx hb d_M_react_214 rfl (lv_at hl 3 rfl) ?_
              refine gf_M_76 X (aM0 hW) rfl d_M_react_215 ?_
              refine lv_if_eq (tgt := 225) hx hb d_M_react_218 (by decide) (fun c_12 => absurd c_12 c_9) (fun _ => ?_)
              refine lv_iconst (v := 5) hx hb d_M_react_221 (by decide) ?_
              refine lv_goto (tgt := 227) hx hb d_M_react_222 (by decide) ?_
              refine lv_istore (lv' := [(4, .int 5), (5, .int (gI d 15 j 0)), (3, .int (nI (sp_lev d))), (0, .ref (lay 0 0)), (1, .int (nI (j + 1))), (2, .int k)]) hx hb d_M_react_227 hl (by decide) rfl (fun ls hl => ?_)
              exact cut229 5 (mk d tI_q_8 tL_q_8) H locs ls (by rw [← hra]; unfold sp_carry; rw [show sp_act (sI d 1 0 0 0) r j = mk d tI_q_8 tL_q_8 by rw [← e_q_8]; simp [sp_act, c_4, dow_sI]]; simp [c_4, u_c_9, dow_sI]) (by rw [← hra]; unfold sp_carry; rw [show sp_act (sI d 1 0 0 0) r j = mk d tI_q_8 tL_q_8 by rw [← e_q_8]; simp [sp_act, c_4, dow_sI]]; simp [c_4, u_c_9, dow_sI]) hW hS (lv_sub hl [0, 2, 3, 4, 5] rfl)
            · exact absurd (c_4.symm.trans c_11) (by decide)
          · have u_c_9 := dn_0.mp c_9
            refine lv_aload_n hx hb d_M_react_124 rfl (lv_at hl 3 rfl) ?_
            refine gf_M_7 X (aM0 hW) rfl d_M_react_125 ?_
            refine lv_iload hx hb d_M_react_128 (lv_at hl 0 rfl) ?_
            refine rn_iald X 0 (aM1 hW) rfl (t := (dow d j + 1)) (h15 j hj) (by have := how j hj; omega) (by decide) d_M_react_130 ?_
            refine lv_if_ne (tgt := 148) hx hb d_M_react_131 (by decide) (fun c_13 => ?_) (fun c_13 => ?_)
            · refine lv_aload_n hx hb d_M_react_148 rfl (lv_at hl 3 rfl) ?_
              refine gf_M_76 X (aM0 hW) rfl d_M_react_149 ?_
              refine lv_if_ne (tgt := 204) hx hb d_M_react_152 (by decide) (fun c_14 => absurd c_9 c_14) (fun _ => ?_)
              refine lv_aload_n hx hb d_M_react_155 rfl (lv_at hl 3 rfl) ?_
              refine gf_M_7 X (aM0 hW) rfl d_M_react_156 ?_
              refine lv_iload hx hb d_M_react_159 (lv_at hl 0 rfl) ?_
              refine lv_dup2_11 hx hb d_M_react_161 rfl rfl ?_
              refine rn_iald X 0 (aM1 hW) rfl (t := (dow d j + 1)) (h15 j hj) (by have := how j hj; omega) (by decide) d_M_react_162 ?_
              refine lv_iconst (v := 1) hx hb d_M_react_163 (by decide) ?_
              refine lv_isub hx hb d_M_react_164 ?_
              refine rn_iast X 0 (aM1 hW) rfl hS (wfr 1 0 ⟨by decide, rfl⟩) (t := (dow d j + 1)) (h15 j hj) (by have := how j hj; omega) (by decide) d_M_react_165 (fun H locs hat hch hS => ?_)
              have hW := wpM_aI10 (j := (dow d j)) hW hat hch
              refine lv_iconst (v := 1) hx hb d_M_react_166 (by decide) ?_
              refine lv_istore (lv' := [(6, .int 1), (5, .int (gI d 15 j 0)), (4, .int r), (3, .int (nI (sp_lev d))), (0, .ref (lay 0 0)), (1, .int (nI (j + 1))), (2, .int k)]) hx hb d_M_react_167 hl (by decide) rfl (fun ls hl => ?_)
              have loop : ∀ (n i : Nat) (H : Heap) (locs : List Loc) (ls : Array Slot), i ≤ dnt d → dnt d + 1 ≤ i + n → WM D ct (lay, (sW (sI (mk d tI_q_8 tL_q_8) 10 (dow d j) 0 (gI (mk d tI_q_8 tL_q_8) 10 (dow d j) 0 - 1)) (dow d j) (min i (dnt d)) 1)) H → va_S (Wfr (valM (lay, d)) lay s.heap.size) s.heap H locs → lv_has ls 7 [(6, .int (nI (i + 1))), (4, .int r), (3, .int (nI (sp_lev d))), (0, .ref (lay 0 0)), (1, .int (nI (j + 1))), (2, .int k), (5, .int (gI d 15 j 0))] → W p l e { frames := 3, cells := 0, slots := 0, locals := 65 } s m [.ref (lay 0 0), .int (nI (j + 1)), .int k].toArray below meth c H locs 0 0 (MQ below (va_Qi (fun r u => r = (sp_raise d j k).1 ∧ u = (lay, (sp_raise d j k).2)) (WB D classes (tysA ct) valM (fun u : CS => u.1) (cellM ct)) (Wfr (valM (lay, d)) lay s.heap.size)) [.ref (lay 0 0), .int (nI (j + 1)), .int k].toArray s 0 0 (Wfr (valM (lay, d)) lay s.heap.size)) (F0 m 169 ls []) := by
                intro n
                induction n with
                | zero => intro i  H locs ls h1 h2; exact absurd h2 (by omega)
                | succ n ih =>
                  intro i  H locs ls hi hn  hW hS hl
                  refine lv_iload hx hb d_M_react_169 (lv_at hl 0 rfl) ?_
                  refine lv_aload_n hx hb d_M_react_171 rfl (lv_at hl 3 rfl) ?_
                  refine gf_M_73 X (aM0 hW) rfl d_M_react_172 ?_
                  refine lv_icmp_gt (tgt := 204) hx hb d_M_react_175 (by decide) (fun c_15 => ?_) (fun c_15 => ?_)
                  · have hq : i = dnt d := lpm_out (by omega) hi c_15
                    have hW : WM D ct (lay, sp_start (mk d tI_q_8 tL_q_8) (dow d j)) H := by rw [hq, Nat.min_self] at hW; exact hW
                    have hrp : 0 < gI (mk d tI_q_8 tL_q_8) 10 (dow d j) 0 := by obtain ⟨n9, hn9, e9⟩ := hrs (dow d j) (how j hj); exact rs_pos (n := n9) (by rw [← e_q_8, (kf_all _ _).2 10 _ 0 (by decide)]; exact e9) (by omega) c_13
                    refine lv_iload hx hb d_M_react_204 (lv_at hl 1 rfl) ?_
                    refine lv_iconst (v := 5) hx hb d_M_react_206 (by decide) ?_
                    refine lv_icmp_ne (tgt := 214) hx hb d_M_react_207 (by decide) (fun c_16 => ?_) (fun c_16 => ?_)
                    · refine lv_aload_n hx hb d_M_react_214 rfl (lv_at hl 3 rfl) ?_
                      refine gf_M_76 X (aM0 hW) rfl d_M_react_215 ?_
                      refine lv_if_eq (tgt := 225) hx hb d_M_react_218 (by decide) (fun c_17 => ?_) (fun c_17 => ?_)
                      · have u_c_17 := dn_0.mp c_17
                        refine lv_iload hx hb d_M_react_225 (lv_at hl 1 rfl) ?_
                        refine lv_istore (lv' := [(4, .int r), (6, .int (nI (i + 1))), (3, .int (nI (sp_lev d))), (0, .ref (lay 0 0)), (1, .int (nI (j + 1))), (2, .int k), (5, .int (gI d 15 j 0))]) hx hb d_M_react_227 hl (by decide) rfl (fun ls hl => ?_)
                        exact cut229 r (sp_start (mk d tI_q_8 tL_q_8) (dow d j)) H locs ls (by rw [← hra]; unfold sp_carry; rw [show sp_act (sI d 1 0 0 0) r j = mk d tI_q_8 tL_q_8 by rw [← e_q_8]; simp [sp_act, c_4, dow_sI]]; simp [c_4, u_c_9, hrp, dow_sI]) (by rw [← hra]; unfold sp_carry; rw [show sp_act (sI d 1 0 0 0) r j = mk d tI_q_8 tL_q_8 by rw [← e_q_8]; simp [sp_act, c_4, dow_sI]]; simp [c_4, u_c_9, hrp, dow_sI]) hW hS (lv_sub hl [0, 2, 3, 4, 5] rfl)
                      · have u_c_17 := Decidable.not_not.mp (fun q => c_17 (dn_0.mpr q))
                        exact absurd (show gI (mk d tI_q_8 tL_q_8) 0 0 0 = 0 from u_c_17) u_c_9
                    · exact absurd (c_4.symm.trans c_16) (by decide)
                  · have hq : i < dnt d := lpm_in (by omega) hi c_15
                    refine lv_aload_n hx hb d_M_react_178 rfl (lv_at hl 3 rfl) ?_
                    refine gf_M_27 X (aM0 hW) rfl d_M_react_179 ?_
                    refine lv_iload hx hb d_M_react_182 (lv_at hl 0 rfl) ?_
                    refine rn_iald X 0 (aM6 hW) rfl (t := (i + 1)) rfl (by omega) (by decide) d_M_react_184 ?_
                    refine lv_iload hx hb d_M_react_185 (lv_at hl 6 rfl) ?_
                    refine lv_icmp_ne (tgt := 198) hx hb d_M_react_187 (by decide) (fun c_18 => ?_) (fun c_18 => ?_)
                    · have c_18 : ¬ dow d i = dow d j := fun q => c_18 ((show gI (mk d tI_q_8 tL_q_8) 15 i 0 = nI (dow d i + 1) by rw [← e_q_8, (kf_all _ _).2 15 i 0 (by decide)]; exact h15 i hq).trans (by rw [q]; exact (h15 j hj).symm))
                      refine lv_iinc (v := nI ((i + 1) + 1)) (lv' := [(6, .int (nI ((i + 1) + 1))), (4, .int r), (3, .int (nI (sp_lev d))), (0, .ref (lay 0 0)), (1, .int (nI (j + 1))), (2, .int k), (5, .int (gI d 15 j 0))]) hx hb d_M_react_198 hl (k := 0) rfl (nI_inc _) (by decide) rfl (fun ls hl => ?_)
                      refine lv_goto (tgt := 169) hx hb d_M_react_201 (by decide) ?_
                      exact ih (i + 1) H locs ls (by omega) (by omega) (by rw [← sW_no (d := sI (mk d tI_q_8 tL_q_8) 10 (dow d j) 0 (gI (mk d tI_q_8 tL_q_8) 10 (dow d j) 0 - 1)) (fun q => c_18 q.2)]; exact hW) hS (lv_sub hl [0, 1, 2, 3, 4, 5, 6] rfl)
                    · have c_18 : dow d i = dow d j := by have h9 := (nI_eq (by have := how i hq; omega) (by have := how j hj; omega)).mp ((show gI (mk d tI_q_8 tL_q_8) 15 i 0 = nI (dow d i + 1) by rw [← e_q_8, (kf_all _ _).2 15 i 0 (by decide)]; exact h15 i hq).symm.trans (Eq.trans c_18 (h15 j hj))); omega
                      refine lv_aload_n hx hb d_M_react_190 rfl (lv_at hl 3 rfl) ?_
                      refine gf_M_33 X (aM0 hW) rfl d_M_react_191 ?_
                      refine lv_iload hx hb d_M_react_194 (lv_at hl 0 rfl) ?_
                      refine lv_iconst (v := 1) hx hb d_M_react_196 (by decide) ?_
                      refine rn_zast X 2 (aM8 hW) rfl hS (wfr 8 0 ⟨by decide, rfl⟩) (t := (i + 1)) rfl (by omega) (by decide) rfl d_M_react_197 (fun H locs hat hch hS => ?_)
                      have hW := wpM_aI12 (j := i) hW hat hch
                      refine lv_iinc (v := nI ((i + 1) + 1)) (lv' := [(6, .int (nI ((i + 1) + 1))), (4, .int r), (3, .int (nI (sp_lev d))), (0, .ref (lay 0 0)), (1, .int (nI (j + 1))), (2, .int k), (5, .int (gI d 15 j 0))]) hx hb d_M_react_198 hl (k := 0) rfl (nI_inc _) (by decide) rfl (fun ls hl => ?_)
                      refine lv_goto (tgt := 169) hx hb d_M_react_201 (by decide) ?_
                      exact ih (i + 1) H locs ls (by omega) (by omega) (by rw [← sW_in (d := sI (mk d tI_q_8 tL_q_8) 10 (dow d j) 0 (gI (mk d tI_q_8 tL_q_8) 10 (dow d j) 0 - 1)) hq c_18]; exact hW) hS (lv_sub hl [0, 1, 2, 3, 4, 5, 6] rfl)
              exact loop (dnt d + 1) 0 H locs ls (by omega) (by omega) (by rw [Nat.zero_min, sW_0]; exact hW) hS (lv_sub hl [0, 2, 3, 4, 5, 6, 1] rfl)
            · refine lv_aload_n hx hb d_M_react_134 rfl (lv_at hl 3 rfl) ?_
              refine gf_M_13 X (aM0 hW) rfl d_M_react_135 ?_
              refine lv_iload hx hb d_M_react_138 (lv_at hl 0 rfl) ?_
              refine lv_iconst (v := 1) hx hb d_M_react_140 (by decide) ?_
              refine rn_zast X 2 (aM2 hW) rfl hS (wfr 2 0 ⟨by decide, rfl⟩) (t := (dow d j + 1)) (h15 j hj) (by have := how j hj; omega) (by decide) rfl d_M_react_141 (fun H locs hat hch hS => ?_)
              have hW := wpM_aI11 (j := (dow d j)) hW hat hch
              refine lv_iconst (v := 3) hx hb d_M_react_142 (by decide) ?_
              refine lv_istore (lv' := [(4, .int 3), (5, .int (gI d 15 j 0)), (3, .int (nI (sp_lev d))), (0, .ref (lay 0 0)), (1, .int (nI (j + 1))), (2, .int k)]) hx hb d_M_react_143 hl (by decide) rfl (fun ls hl => ?_)
              refine lv_goto (tgt := 204) hx hb d_M_react_145 (by decide) ?_
              have hrp : ¬ 0 < gI (mk d tI_q_8 tL_q_8) 10 (dow d j) 0 := by have h9 : gI (mk d tI_q_8 tL_q_8) 10 (dow d j) 0 = 0 := c_13; rw [h9]; decide
              refine lv_iload hx hb d_M_react_204 (lv_at hl 0 rfl) ?_
              refine lv_iconst (v := 5) hx hb d_M_react_206 (by decide) ?_
              refine lv_icmp_ne (tgt := 214) hx hb d_M_react_207 (by decide) (fun _ => ?_) (fun c_19 => absurd c_19 (by decide))
              refine lv_aload_n hx hb d_M_react_214 rfl (lv_at hl 3 rfl) ?_
              refine gf_M_76 X (aM0 hW) rfl d_M_react_215 ?_
              refine lv_if_eq (tgt := 225) hx hb d_M_react_218 (by decide) (fun c_20 => ?_) (fun c_20 => ?_)
              · have u_c_20 := dn_0.mp c_20
                refine lv_iload hx hb d_M_react_225 (lv_at hl 0 rfl) ?_
                refine lv_istore (lv' := [(4, .int 3), (5, .int (gI d 15 j 0)), (3, .int (nI (sp_lev d))), (0, .ref (lay 0 0)), (1, .int (nI (j + 1))), (2, .int k)]) hx hb d_M_react_227 hl (by decide) rfl (fun ls hl => ?_)
                exact cut229 3 (sI (mk d tI_q_8 tL_q_8) 11 (dow d j) 0 1) H locs ls (by rw [← hra]; unfold sp_carry; rw [show sp_act (sI d 1 0 0 0) r j = mk d tI_q_8 tL_q_8 by rw [← e_q_8]; simp [sp_act, c_4, dow_sI]]; simp [c_4, u_c_9, hrp, dow_sI]) (by rw [← hra]; unfold sp_carry; rw [show sp_act (sI d 1 0 0 0) r j = mk d tI_q_8 tL_q_8 by rw [← e_q_8]; simp [sp_act, c_4, dow_sI]]; simp [c_4, u_c_9, hrp, dow_sI]) hW hS (lv_sub hl [0, 2, 3, 4, 5] rfl)
              · have u_c_20 := Decidable.not_not.mp (fun q => c_20 (dn_0.mpr q))
                exact absurd (show gI (mk d tI_q_8 tL_q_8) 0 0 0 = 0 from u_c_20) u_c_9
      · refine lv_aload_n hx hb d_M_react_91 rfl (lv_at hl 3 rfl) ?_
        refine gf_M_13 X (aM0 hW) rfl d_M_react_92 ?_
        refine lv_iload hx hb d_M_react_95 (lv_at hl 0 rfl) ?_
        refine lv_iconst (v := 1) hx hb d_M_react_97 (by decide) ?_
        refine rn_zast X 2 (aM2 hW) rfl hS (wfr 2 0 ⟨by decide, rfl⟩) (t := (dow d j + 1)) (h15 j hj) (by have := how j hj; omega) (by decide) rfl d_M_react_98 (fun H locs hat hch hS => ?_)
        have hW := wpM_aI11 (j := (dow d j)) hW hat hch
        refine lv_aload_n hx hb d_M_react_99 rfl (lv_at hl 3 rfl) ?_
        refine lv_iload hx hb d_M_react_100 (lv_at hl 0 rfl) ?_
        refine wc_callv (val := valM) (lay := fun u : CS => u.1) (cell := cellM ct) (u0 := (lay, (sI (sI d 1 0 0 0) 11 (dow d j) 0 1))) X (c_M_endAll l D ct lay (sI (sI d 1 0 0 0) 11 (dow d j) 0 1) _ (gI d 15 j 0) (dow d j) (how j hj) (h15 j hj) hna hnt how h15 B B1 hB ((hok.set 1 0 0 0 (by decide)).set 11 (dow d j) 0 1 (by decide)) (Or.inr (Or.inl rfl))) (cw_M_104 X.1.2.2.2.2 rfl rfl ⟨Nat.le_of_ble_eq_true rfl, Nat.le_of_ble_eq_true rfl⟩) hW hS (fun q h => h.imp_right (fun z => Nat.le_trans hS.1 z)) (aM0 hW) rfl rfl hl.1 rfl (Nat.le_of_ble_eq_true rfl) d_M_react_102 ⟨Nat.le_of_ble_eq_true rfl, Nat.le_of_ble_eq_true rfl⟩ (fun u H locs hp hW hz hk hS => ?_)
        obtain rfl := hp
        have hW : WM D ct (lay, (sp_all (sI (sI d 1 0 0 0) 11 (dow d j) 0 1) (dow d j))) H := hW
        refine lv_iload hx hb d_M_react_105 (lv_at hl 1 rfl) ?_
        refine lv_iconst (v := 4) hx hb d_M_react_107 (by decide) ?_
        refine lv_icmp_ne (tgt := 204) hx hb d_M_react_108 (by decide) (fun c_21 => ?_) (fun c_21 => ?_)
        · refine lv_iload hx hb d_M_react_204 (lv_at hl 1 rfl) ?_
          refine lv_iconst (v := 5) hx hb d_M_react_206 (by decide) ?_
          refine lv_icmp_ne (tgt := 214) hx hb d_M_react_207 (by decide) (fun c_22 => ?_) (fun c_22 => ?_)
          · refine lv_aload_n hx hb d_M_react_214 rfl (lv_at hl 3 rfl) ?_
            refine gf_M_76 X (aM0 hW) rfl d_M_react_215 ?_
            refine lv_if_eq (tgt := 225) hx hb d_M_react_218 (by decide) (fun c_23 => ?_) (fun c_23 => ?_)
            · have u_c_23 := dn_0.mp c_23
              refine lv_iload hx hb d_M_react_225 (lv_at hl 1 rfl) ?_
              refine lv_istore (lv' := [(4, .int r), (5, .int (gI d 15 j 0)), (3, .int (nI (sp_lev d))), (0, .ref (lay 0 0)), (1, .int (nI (j + 1))), (2, .int k)]) hx hb d_M_react_227 hl (by decide) rfl (fun ls hl => ?_)
              exact cut229 r (sp_all (sI (sI d 1 0 0 0) 11 (dow d j) 0 1) (dow d j)) H locs ls (by rw [← hra]; rw [cm_all (d := sI d 1 0 0 0) (how j hj)] at u_c_23; simp [sp_carry, sp_act, c_3, show ¬ gI (sp_all (sI d 1 0 0 0) (dow d j)) 0 0 0 = 0 from u_c_23, dow_sI]) (by rw [← hra]; rw [cm_all (d := sI d 1 0 0 0) (how j hj)] at u_c_23 ⊢; simp [sp_carry, sp_act, c_3, show ¬ gI (sp_all (sI d 1 0 0 0) (dow d j)) 0 0 0 = 0 from u_c_23, dow_sI]) hW hS (lv_sub hl [0, 2, 3, 4, 5] rfl)
            · have u_c_23 := Decidable.not_not.mp (fun q => c_23 (dn_0.mpr q))
              refine lv_iconst (v := 5) hx hb d_M_react_221 (by decide) ?_
              refine lv_goto (tgt := 227) hx hb d_M_react_222 (by decide) ?_
              refine lv_istore (lv' := [(4, .int 5), (5, .int (gI d 15 j 0)), (3, .int (nI (sp_lev d))), (0, .ref (lay 0 0)), (1, .int (nI (j + 1))), (2, .int k)]) hx hb d_M_react_227 hl (by decide) rfl (fun ls hl => ?_)
              exact cut229 5 (sp_all (sI (sI d 1 0 0 0) 11 (dow d j) 0 1) (dow d j)) H locs ls (by rw [← hra]; rw [cm_all (d := sI d 1 0 0 0) (how j hj)] at u_c_23; simp [sp_carry, sp_act, c_3, show gI (sp_all (sI d 1 0 0 0) (dow d j)) 0 0 0 = 0 from u_c_23, dow_sI]) (by rw [← hra]; rw [cm_all (d := sI d 1 0 0 0) (how j hj)] at u_c_23 ⊢; rw [sI_had (de_all (d := sI d 1 0 0 0) (fun q => absurd q hu) (dow d j) (show gI (sp_all (sI d 1 0 0 0) (dow d j)) 0 0 0 = 0 from u_c_23) (dow d j) (by rw [(kp_all (sI d 1 0 0 0) (dow d j)).na]; exact how j hj))]; simp [sp_carry, sp_act, c_3, show gI (sp_all (sI d 1 0 0 0) (dow d j)) 0 0 0 = 0 from u_c_23, dow_sI]) hW hS (lv_sub hl [0, 2, 3, 4, 5] rfl)
          · exact absurd (c_3.symm.trans c_22) (by decide)
        · exact absurd (c_3.symm.trans c_21) (by decide)
    · refine lv_aload_n hx hb d_M_react_80 rfl (lv_at hl 3 rfl) ?_
      refine lv_iload_n hx hb d_M_react_81 rfl (lv_at hl 4 rfl) ?_
      refine wc_callv (val := valM) (lay := fun u : CS => u.1) (cell := cellM ct) (u0 := (lay, (sI d 1 0 0 0))) X (c_M_end l D ct lay (sI d 1 0 0 0) _ (nI (j + 1)) j hj rfl hna hnt B B1 (by omega) (hok.set 1 0 0 0 (by decide)) (Or.inr (Or.inl rfl))) (cw_M_100 X.1.2.2.2.2 rfl rfl ⟨Nat.le_of_ble_eq_true rfl, Nat.le_of_ble_eq_true rfl⟩) hW hS (fun q h => h.imp_right (fun z => Nat.le_trans hS.1 z)) (aM0 hW) rfl rfl hl.1 rfl (Nat.le_of_ble_eq_true rfl) d_M_react_82 ⟨Nat.le_of_ble_eq_true rfl, Nat.le_of_ble_eq_true rfl⟩ (fun u H locs hp hW hz hk hS => ?_)
      obtain rfl := hp
      have hW : WM D ct (lay, (sp_end (sI d 1 0 0 0) j)) H := hW
      refine lv_iload hx hb d_M_react_85 (lv_at hl 1 rfl) ?_
      refine lv_iconst (v := 3) hx hb d_M_react_87 (by decide) ?_
      refine lv_icmp_ne (tgt := 105) hx hb d_M_react_88 (by decide) (fun c_24 => ?_) (fun c_24 => ?_)
      · refine lv_iload hx hb d_M_react_105 (lv_at hl 1 rfl) ?_
        refine lv_iconst (v := 4) hx hb d_M_react_107 (by decide) ?_
        refine lv_icmp_ne (tgt := 204) hx hb d_M_react_108 (by decide) (fun c_25 => ?_) (fun c_25 => ?_)
        · refine lv_iload hx hb d_M_react_204 (lv_at hl 1 rfl) ?_
          refine lv_iconst (v := 5) hx hb d_M_react_206 (by decide) ?_
          refine lv_icmp_ne (tgt := 214) hx hb d_M_react_207 (by decide) (fun c_26 => ?_) (fun c_26 => ?_)
          · refine lv_aload_n hx hb d_M_react_214 rfl (lv_at hl 3 rfl) ?_
            refine gf_M_76 X (aM0 hW) rfl d_M_react_215 ?_
            refine lv_if_eq (tgt := 225) hx hb d_M_react_218 (by decide) (fun c_27 => ?_) (fun c_27 => ?_)
            · have u_c_27 := dn_0.mp c_27
              refine lv_iload hx hb d_M_react_225 (lv_at hl 1 rfl) ?_
              refine lv_istore (lv' := [(4, .int r), (5, .int (gI d 15 j 0)), (3, .int (nI (sp_lev d))), (0, .ref (lay 0 0)), (1, .int (nI (j + 1))), (2, .int k)]) hx hb d_M_react_227 hl (by decide) rfl (fun ls hl => ?_)
              exact cut229 r (sp_end (sI d 1 0 0 0) j) H locs ls (by rw [← hra]; simp [sp_carry, sp_act, c_2, u_c_27]) (by rw [← hra]; simp [sp_carry, sp_act, c_2, u_c_27]) hW hS (lv_sub hl [0, 2, 3, 4, 5] rfl)
            · have u_c_27 := Decidable.not_not.mp (fun q => c_27 (dn_0.mpr q))
              refine lv_iconst (v := 5) hx hb d_M_react_221 (by decide) ?_
              refine lv_goto (tgt := 227) hx hb d_M_react_222 (by decide) ?_
              refine lv_istore (lv' := [(4, .int 5), (5, .int (gI d 15 j 0)), (3, .int (nI (sp_lev d))), (0, .ref (lay 0 0)), (1, .int (nI (j + 1))), (2, .int k)]) hx hb d_M_react_227 hl (by decide) rfl (fun ls hl => ?_)
              exact cut229 5 (sp_end (sI d 1 0 0 0) j) H locs ls (by rw [← hra]; simp [sp_carry, sp_act, c_2, u_c_27]) (by rw [← hra]; simp [sp_carry, sp_act, c_2, u_c_27]) hW hS (lv_sub hl [0, 2, 3, 4, 5] rfl)
          · exact absurd (c_2.symm.trans c_26) (by decide)
        · exact absurd (c_2.symm.trans c_25) (by decide)
      · exact absurd (c_2.symm.trans c_24) (by decide)
  refine lv_iconst (v := 0) hx hb d_M_react_0 (by decide) ?_
  refine lv_istore_n (lv' := [(3, .int 0), (0, .ref (lay 0 0)), (1, .int (nI (j + 1))), (2, .int k)]) hx hb d_M_react_1 rfl hl (by decide) rfl (fun ls hl => ?_)
  refine lv_iload_n hx hb d_M_react_2 rfl (lv_at hl 0 rfl) ?_
  refine lv_iconst (v := 3) hx hb d_M_react_3 (by decide) ?_
  refine lv_icmp_ge (tgt := 31) hx hb d_M_react_4 (by decide) (fun c_28 => absurd c_28 (by decide)) (fun _ => ?_)
  refine lv_aload_n hx hb d_M_react_7 rfl (lv_at hl 1 rfl) ?_
  refine gf_M_54 X (aM0 hW) rfl d_M_react_8 ?_
  refine lv_iload_n hx hb d_M_react_11 rfl (lv_at hl 0 rfl) ?_
  refine rn_zald X 2 (aM15 hW) rfl (t := 0) (by decide) (by decide) (by decide) d_M_react_12 ?_
  refine lv_if_ne (tgt := 31) hx hb d_M_react_13 (by decide) (fun c_29 => ?_) (fun c_29 => ?_)
  · refine lv_iload_n hx hb d_M_react_31 rfl (lv_at hl 0 rfl) ?_
    refine lv_iconst (v := 3) hx hb d_M_react_32 (by decide) ?_
    refine lv_icmp_ne (tgt := 40) hx hb d_M_react_33 (by decide) (fun _ => ?_) (fun c_30 => absurd c_30 (by decide))
    refine lv_aload_n hx hb d_M_react_40 rfl (lv_at hl 1 rfl) ?_
    refine gf_M_54 X (aM0 hW) rfl d_M_react_41 ?_
    refine lv_iload_n hx hb d_M_react_44 rfl (lv_at hl 0 rfl) ?_
    refine rn_zald X 2 (aM15 hW) rfl (t := 0) (by decide) (by decide) (by decide) d_M_react_45 ?_
    refine lv_if_eq (tgt := 53) hx hb d_M_react_46 (by decide) (fun c_31 => absurd c_31 c_29) (fun _ => ?_)
    refine lv_iconst (v := 5) hx hb d_M_react_49 (by decide) ?_
    refine lv_goto (tgt := 59) hx hb d_M_react_50 (by decide) ?_
    refine lv_istore (lv' := [(4, .int 5), (3, .int 0), (0, .ref (lay 0 0)), (1, .int (nI (j + 1))), (2, .int k)]) hx hb d_M_react_59 hl (by decide) rfl (fun ls hl => ?_)
    exact cut61 5 ls (by rw [show sp_lev d = 0 by simp [sp_lev, c_29]]; simp [sp_ask, c_29]) (by rw [show sp_lev d = 0 by simp [sp_lev, c_29]]; exact lv_sub hl [0, 1, 2, 3, 4] rfl)
  · refine lv_aload_n hx hb d_M_react_16 rfl (lv_at hl 1 rfl) ?_
    refine gf_M_51 X (aM0 hW) rfl d_M_react_17 ?_
    refine lv_iload_n hx hb d_M_react_20 rfl (lv_at hl 0 rfl) ?_
    refine rn_iald X 0 (aM14 hW) rfl (t := 0) (by decide) (by decide) (by decide) d_M_react_21 ?_
    refine lv_if_ne (tgt := 31) hx hb d_M_react_22 (by decide) (fun c_32 => ?_) (fun c_32 => ?_)
    · refine lv_iload_n hx hb d_M_react_31 rfl (lv_at hl 0 rfl) ?_
      refine lv_iconst (v := 3) hx hb d_M_react_32 (by decide) ?_
      refine lv_icmp_ne (tgt := 40) hx hb d_M_react_33 (by decide) (fun _ => ?_) (fun c_33 => absurd c_33 (by decide))
      refine lv_aload_n hx hb d_M_react_40 rfl (lv_at hl 1 rfl) ?_
      refine gf_M_54 X (aM0 hW) rfl d_M_react_41 ?_
      refine lv_iload_n hx hb d_M_react_44 rfl (lv_at hl 0 rfl) ?_
      refine rn_zald X 2 (aM15 hW) rfl (t := 0) (by decide) (by decide) (by decide) d_M_react_45 ?_
      refine lv_if_eq (tgt := 53) hx hb d_M_react_46 (by decide) (fun _ => ?_) (fun c_34 => absurd c_29 c_34)
      refine lv_aload_n hx hb d_M_react_53 rfl (lv_at hl 1 rfl) ?_
      refine gf_M_51 X (aM0 hW) rfl d_M_react_54 ?_
      refine lv_iload_n hx hb d_M_react_57 rfl (lv_at hl 0 rfl) ?_
      refine rn_iald X 0 (aM14 hW) rfl (t := 0) (by decide) (by decide) (by decide) d_M_react_58 ?_
      refine lv_istore (lv' := [(4, .int (gI d 3 0 0)), (3, .int 0), (0, .ref (lay 0 0)), (1, .int (nI (j + 1))), (2, .int k)]) hx hb d_M_react_59 hl (by decide) rfl (fun ls hl => ?_)
      exact cut61 (gI d 3 0 0) ls (by rw [show sp_lev d = 0 by simp [sp_lev, c_29, c_32]]; simp [sp_ask, c_29, c_32]) (by rw [show sp_lev d = 0 by simp [sp_lev, c_29, c_32]]; exact lv_sub hl [0, 1, 2, 3, 4] rfl)
    · refine lv_iinc (v := 1) (lv' := [(3, .int 1), (0, .ref (lay 0 0)), (1, .int (nI (j + 1))), (2, .int k)]) hx hb d_M_react_25 hl (k := 0) rfl (by decide) (by decide) rfl (fun ls hl => ?_)
      refine lv_goto (tgt := 2) hx hb d_M_react_28 (by decide) ?_
      refine lv_iload_n hx hb d_M_react_2 rfl (lv_at hl 0 rfl) ?_
      refine lv_iconst (v := 3) hx hb d_M_react_3 (by decide) ?_
      refine lv_icmp_ge (tgt := 31) hx hb d_M_react_4 (by decide) (fun c_35 => absurd c_35 (by decide)) (fun _ => ?_)
      refine lv_aload_n hx hb d_M_react_7 rfl (lv_at hl 1 rfl) ?_
      refine gf_M_54 X (aM0 hW) rfl d_M_react_8 ?_
      refine lv_iload_n hx hb d_M_react_11 rfl (lv_at hl 0 rfl) ?_
      refine rn_zald X 2 (aM15 hW) rfl (t := 1) (by decide) (by decide) (by decide) d_M_react_12 ?_
      refine lv_if_ne (tgt := 31) hx hb d_M_react_13 (by decide) (fun c_36 => ?_) (fun c_36 => ?_)
      · refine lv_iload_n hx hb d_M_react_31 rfl (lv_at hl 0 rfl) ?_
        refine lv_iconst (v := 3) hx hb d_M_react_32 (by decide) ?_
        refine lv_icmp_ne (tgt := 40) hx hb d_M_react_33 (by decide) (fun _ => ?_) (fun c_37 => absurd c_37 (by decide))
        refine lv_aload_n hx hb d_M_react_40 rfl (lv_at hl 1 rfl) ?_
        refine gf_M_54 X (aM0 hW) rfl d_M_react_41 ?_
        refine lv_iload_n hx hb d_M_react_44 rfl (lv_at hl 0 rfl) ?_
        refine rn_zald X 2 (aM15 hW) rfl (t := 1) (by decide) (by decide) (by decide) d_M_react_45 ?_
        refine lv_if_eq (tgt := 53) hx hb d_M_react_46 (by decide) (fun c_38 => absurd c_38 c_36) (fun _ => ?_)
        refine lv_iconst (v := 5) hx hb d_M_react_49 (by decide) ?_
        refine lv_goto (tgt := 59) hx hb d_M_react_50 (by decide) ?_
        refine lv_istore (lv' := [(4, .int 5), (3, .int 1), (0, .ref (lay 0 0)), (1, .int (nI (j + 1))), (2, .int k)]) hx hb d_M_react_59 hl (by decide) rfl (fun ls hl => ?_)
        exact cut61 5 ls (by rw [show sp_lev d = 1 by simp [sp_lev, c_29, c_32, c_36]]; simp [sp_ask, c_29, c_32, c_36]) (by rw [show sp_lev d = 1 by simp [sp_lev, c_29, c_32, c_36]]; exact lv_sub hl [0, 1, 2, 3, 4] rfl)
      · refine lv_aload_n hx hb d_M_react_16 rfl (lv_at hl 1 rfl) ?_
        refine gf_M_51 X (aM0 hW) rfl d_M_react_17 ?_
        refine lv_iload_n hx hb d_M_react_20 rfl (lv_at hl 0 rfl) ?_
        refine rn_iald X 0 (aM14 hW) rfl (t := 1) (by decide) (by decide) (by decide) d_M_react_21 ?_
        refine lv_if_ne (tgt := 31) hx hb d_M_react_22 (by decide) (fun c_39 => ?_) (fun c_39 => ?_)
        · refine lv_iload_n hx hb d_M_react_31 rfl (lv_at hl 0 rfl) ?_
          refine lv_iconst (v := 3) hx hb d_M_react_32 (by decide) ?_
          refine lv_icmp_ne (tgt := 40) hx hb d_M_react_33 (by decide) (fun _ => ?_) (fun c_40 => absurd c_40 (by decide))
          refine lv_aload_n hx hb d_M_react_40 rfl (lv_at hl 1 rfl) ?_
          refine gf_M_54 X (aM0 hW) rfl d_M_react_41 ?_
          refine lv_iload_n hx hb d_M_react_44 rfl (lv_at hl 0 rfl) ?_
          refine rn_zald X 2 (aM15 hW) rfl (t := 1) (by decide) (by decide) (by decide) d_M_react_45 ?_
          refine lv_if_eq (tgt := 53) hx hb d_M_react_46 (by decide) (fun _ => ?_) (fun c_41 => absurd c_36 c_41)
          refine lv_aload_n hx hb d_M_react_53 rfl (lv_at hl 1 rfl) ?_
          refine gf_M_51 X (aM0 hW) rfl d_M_react_54 ?_
          refine lv_iload_n hx hb d_M_react_57 rfl (lv_at hl 0 rfl) ?_
          refine rn_iald X 0 (aM14 hW) rfl (t := 1) (by decide) (by decide) (by decide) d_M_react_58 ?_
          refine lv_istore (lv' := [(4, .int (gI d 3 0 1)), (3, .int 1), (0, .ref (lay 0 0)), (1, .int (nI (j + 1))), (2, .int k)]) hx hb d_M_react_59 hl (by decide) rfl (fun ls hl => ?_)
          exact cut61 (gI d 3 0 1) ls (by rw [show sp_lev d = 1 by simp [sp_lev, c_29, c_32, c_36, c_39]]; simp [sp_ask, c_29, c_32, c_36, c_39]) (by rw [show sp_lev d = 1 by simp [sp_lev, c_29, c_32, c_36, c_39]]; exact lv_sub hl [0, 1, 2, 3, 4] rfl)
        · refine lv_iinc (v := 2) (lv' := [(3, .int 2), (0, .ref (lay 0 0)), (1, .int (nI (j + 1))), (2, .int k)]) hx hb d_M_react_25 hl (k := 0) rfl (by decide) (by decide) rfl (fun ls hl => ?_)
          refine lv_goto (tgt := 2) hx hb d_M_react_28 (by decide) ?_
          refine lv_iload_n hx hb d_M_react_2 rfl (lv_at hl 0 rfl) ?_
          refine lv_iconst (v := 3) hx hb d_M_react_3 (by decide) ?_
          refine lv_icmp_ge (tgt := 31) hx hb d_M_react_4 (by decide) (fun c_42 => absurd c_42 (by decide)) (fun _ => ?_)
          refine lv_aload_n hx hb d_M_react_7 rfl (lv_at hl 1 rfl) ?_
          refine gf_M_54 X (aM0 hW) rfl d_M_react_8 ?_
          refine lv_iload_n hx hb d_M_react_11 rfl (lv_at hl 0 rfl) ?_
          refine rn_zald X 2 (aM15 hW) rfl (t := 2) (by decide) (by decide) (by decide) d_M_react_12 ?_
          refine lv_if_ne (tgt := 31) hx hb d_M_react_13 (by decide) (fun c_43 => ?_) (fun c_43 => ?_)
          · refine lv_iload_n hx hb d_M_react_31 rfl (lv_at hl 0 rfl) ?_
            refine lv_iconst (v := 3) hx hb d_M_react_32 (by decide) ?_
            refine lv_icmp_ne (tgt := 40) hx hb d_M_react_33 (by decide) (fun _ => ?_) (fun c_44 => absurd c_44 (by decide))
            refine lv_aload_n hx hb d_M_react_40 rfl (lv_at hl 1 rfl) ?_
            refine gf_M_54 X (aM0 hW) rfl d_M_react_41 ?_
            refine lv_iload_n hx hb d_M_react_44 rfl (lv_at hl 0 rfl) ?_
            refine rn_zald X 2 (aM15 hW) rfl (t := 2) (by decide) (by decide) (by decide) d_M_react_45 ?_
            refine lv_if_eq (tgt := 53) hx hb d_M_react_46 (by decide) (fun c_45 => absurd c_45 c_43) (fun _ => ?_)
            refine lv_iconst (v := 5) hx hb d_M_react_49 (by decide) ?_
            refine lv_goto (tgt := 59) hx hb d_M_react_50 (by decide) ?_
            refine lv_istore (lv' := [(4, .int 5), (3, .int 2), (0, .ref (lay 0 0)), (1, .int (nI (j + 1))), (2, .int k)]) hx hb d_M_react_59 hl (by decide) rfl (fun ls hl => ?_)
            exact cut61 5 ls (by rw [show sp_lev d = 2 by simp [sp_lev, c_29, c_32, c_36, c_39, c_43]]; simp [sp_ask, c_29, c_32, c_36, c_39, c_43]) (by rw [show sp_lev d = 2 by simp [sp_lev, c_29, c_32, c_36, c_39, c_43]]; exact lv_sub hl [0, 1, 2, 3, 4] rfl)
          · refine lv_aload_n hx hb d_M_react_16 rfl (lv_at hl 1 rfl) ?_
            refine gf_M_51 X (aM0 hW) rfl d_M_react_17 ?_
            refine lv_iload_n hx hb d_M_react_20 rfl (lv_at hl 0 rfl) ?_
            refine rn_iald X 0 (aM14 hW) rfl (t := 2) (by decide) (by decide) (by decide) d_M_react_21 ?_
            refine lv_if_ne (tgt := 31) hx hb d_M_react_22 (by decide) (fun c_46 => ?_) (fun c_46 => ?_)
            · refine lv_iload_n hx hb d_M_react_31 rfl (lv_at hl 0 rfl) ?_
              refine lv_iconst (v := 3) hx hb d_M_react_32 (by decide) ?_
              refine lv_icmp_ne (tgt := 40) hx hb d_M_react_33 (by decide) (fun _ => ?_) (fun c_47 => absurd c_47 (by decide))
              refine lv_aload_n hx hb d_M_react_40 rfl (lv_at hl 1 rfl) ?_
              refine gf_M_54 X (aM0 hW) rfl d_M_react_41 ?_
              refine lv_iload_n hx hb d_M_react_44 rfl (lv_at hl 0 rfl) ?_
              refine rn_zald X 2 (aM15 hW) rfl (t := 2) (by decide) (by decide) (by decide) d_M_react_45 ?_
              refine lv_if_eq (tgt := 53) hx hb d_M_react_46 (by decide) (fun _ => ?_) (fun c_48 => absurd c_43 c_48)
              refine lv_aload_n hx hb d_M_react_53 rfl (lv_at hl 1 rfl) ?_
              refine gf_M_51 X (aM0 hW) rfl d_M_react_54 ?_
              refine lv_iload_n hx hb d_M_react_57 rfl (lv_at hl 0 rfl) ?_
              refine rn_iald X 0 (aM14 hW) rfl (t := 2) (by decide) (by decide) (by decide) d_M_react_58 ?_
              refine lv_istore (lv' := [(4, .int (gI d 3 0 2)), (3, .int 2), (0, .ref (lay 0 0)), (1, .int (nI (j + 1))), (2, .int k)]) hx hb d_M_react_59 hl (by decide) rfl (fun ls hl => ?_)
              exact cut61 (gI d 3 0 2) ls (by rw [show sp_lev d = 2 by simp [sp_lev, c_29, c_32, c_36, c_39, c_43, c_46]]; simp [sp_ask, c_29, c_32, c_36, c_39, c_43, c_46]) (by rw [show sp_lev d = 2 by simp [sp_lev, c_29, c_32, c_36, c_39, c_43, c_46]]; exact lv_sub hl [0, 1, 2, 3, 4] rfl)
            · refine lv_iinc (v := 3) (lv' := [(3, .int 3), (0, .ref (lay 0 0)), (1, .int (nI (j + 1))), (2, .int k)]) hx hb d_M_react_25 hl (k := 0) rfl (by decide) (by decide) rfl (fun ls hl => ?_)
              refine lv_goto (tgt := 2) hx hb d_M_react_28 (by decide) ?_
              refine lv_iload_n hx hb d_M_react_2 rfl (lv_at hl 0 rfl) ?_
              refine lv_iconst (v := 3) hx hb d_M_react_3 (by decide) ?_
              refine lv_icmp_ge (tgt := 31) hx hb d_M_react_4 (by decide) (fun _ => ?_) (fun c_49 => absurd c_49 (by decide))
              refine lv_iload_n hx hb d_M_react_31 rfl (lv_at hl 0 rfl) ?_
              refine lv_iconst (v := 3) hx hb d_M_react_32 (by decide) ?_
              refine lv_icmp_ne (tgt := 40) hx hb d_M_react_33 (by decide) (fun c_50 => absurd c_50 (by decide)) (fun _ => ?_)
              refine lv_iconst (v := 2) hx hb d_M_react_36 (by decide) ?_
              refine lv_goto (tgt := 59) hx hb d_M_react_37 (by decide) ?_
              refine lv_istore (lv' := [(4, .int 2), (3, .int 3), (0, .ref (lay 0 0)), (1, .int (nI (j + 1))), (2, .int k)]) hx hb d_M_react_59 hl (by decide) rfl (fun ls hl => ?_)
              exact cut61 2 ls (by rw [show sp_lev d = 3 by simp [sp_lev, c_29, c_32, c_36, c_39, c_43, c_46]]; simp [sp_ask, c_29, c_32, c_36, c_39, c_43, c_46]) (by rw [show sp_lev d = 3 by simp [sp_lev, c_29, c_32, c_36, c_39, c_43, c_46]]; exact lv_sub hl [0, 1, 2, 3, 4] rfl)
