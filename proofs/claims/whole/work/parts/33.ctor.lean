theorem vp0_I (n : Nat) : ∀ cA : ClassId, vp_cell cA (n, .inl (fun _ => 0)) = arrV cA n (fun _ => defaultValue (newarray.typeOf .int)) := fun _ => rfl
theorem vp0_J (n : Nat) : ∀ cA : ClassId, vp_cell cA (n, .inr (.inl (fun _ => 0))) = arrV cA n (fun _ => defaultValue (newarray.typeOf .long)) := fun _ => rfl
theorem vp0_Z (n : Nat) : ∀ cA : ClassId, vp_cell cA (n, .inl (fun _ => 0)) = arrV cA n (fun _ => defaultValue (newarray.typeOf .boolean)) := fun _ => rfl
set_option maxHeartbeats 1000000 in
set_option maxRecDepth 100000 in
theorem c_B_init (l : Launch) (D : va_G) (ct : Nat → ClassId) (h0 sz : Nat) (n : Int32) :
    CoR l D ct y_B_init b_B_init 2 { frames := 1, cells := 1, slots := 2000, locals := 12 } h0 (.inr (1, [.int 0, .null, .int 0])) (fun _ => True) sz [.int n] [(h0, .inr (1, [.int n, .ref sz, .int 0])), (sz, .inl (ct 0, 2000, .inl (fun _ => 0)))] 1 := by
  refine cr_of (by decide) (Nat.le_of_ble_eq_true rfl) (fun p e s m below meth c X hr hlocks hnm hsz a0 hKK ls hl => ?_)
  subst hsz
  have hx := X.1.1
  have hb := X.1.2.1
  have hS : va_S (fun q => q = h0 ∨ s.heap.size ≤ q) s.heap s.heap [] := va_S.rf
  have h0l : h0 < s.heap.size := a0.lt
  have hz : s.heap.size = s.heap.size := rfl
  have hl : lv_has ls 2 [(0, .ref h0), (1, .int n)] := hl
  refine lv_aload_n hx hb d_B_init_0 rfl (lv_at hl 0 rfl) ?_
  refine rr_objInit X (List.mem_of_getElem? (i := 41) rfl) hl.1 d_B_init_1 (Nat.le_of_ble_eq_true rfl) (Nat.le_of_ble_eq_true rfl) (List.mem_of_getElem? (i := 32) rfl) (List.mem_of_getElem? (i := 33) rfl) ?_
  refine lv_aload_n hx hb d_B_init_4 rfl (lv_at hl 0 rfl) ?_
  refine lv_sipush (v := 2000) hx hb d_B_init_5 (by decide) ?_
  refine rr_newa X (List.mem_of_getElem? (i := 48) rfl) 0 rfl hS (n := 2000) (N' := 2000) (a0 := (2000, .inl (fun _ => 0))) (vp0_I 2000) (by decide) (by decide) (by decide) (Nat.le_of_ble_eq_true rfl) (Nat.le_of_ble_eq_true rfl) d_B_init_8 (fun H hat hgr hS => ?_)
  rw [hz] at hat ⊢
  replace hz : H.size = s.heap.size + 1 := by rw [hgr.1, hz]
  replace a0 := hgr.at a0
  have a1 : va_at D classes (s.heap.size, .inl (ct 0, 2000, .inl (fun _ => 0))) H := hat
  clear hat hgr
  have n1 : s.heap.size ≠ h0 := Nat.ne_of_gt h0l
  refine pf_B_11 X hnm a0 hS (Or.inl rfl) rfl rfl (Nat.le_of_ble_eq_true rfl) d_B_init_10 (fun H locs hat hch hS => ?_)
  replace hz : H.size = s.heap.size + 1 := by rw [hch.1, hz]
  replace a1 := hch.at a1 n1
  replace a0 : va_at D classes (h0, .inr (1, [.int 0, .ref s.heap.size, .int 0])) H := hat
  clear hat hch
  refine lv_aload_n hx hb d_B_init_13 rfl (lv_at hl 0 rfl) ?_
  refine lv_iload_n hx hb d_B_init_14 rfl (lv_at hl 1 rfl) ?_
  refine pf_B_15 X hnm a0 hS (Or.inl rfl) rfl rfl (Nat.le_of_ble_eq_true rfl) d_B_init_15 (fun H locs hat hch hS => ?_)
  replace hz : H.size = s.heap.size + 1 := by rw [hch.1, hz]
  replace a1 := hch.at a1 n1
  replace a0 : va_at D classes (h0, .inr (1, [.int n, .ref s.heap.size, .int 0])) H := hat
  clear hat hch
  refine leafR X hr hlocks hS hz ?_ d_B_init_18
  intro q hq
  simp only [List.mem_cons, List.not_mem_nil, or_false] at hq
  rcases hq with rfl | rfl
  · exact a0
  · exact a1
set_option maxHeartbeats 1000000 in
set_option maxRecDepth 100000 in
theorem c_A_init (l : Launch) (D : va_G) (ct : Nat → ClassId) (h0 sz : Nat) (n : Int32) :
    CoR l D ct y_A_init b_A_init 2 { frames := 1, cells := 2, slots := 16, locals := 12 } h0 (.inr (0, [.null, .null, .int 0, .int 0, .int 0])) (fun _ => True) sz [.int n] [(h0, .inr (0, [.ref sz, .ref (sz + 1), .int 0, .int n, .int 0])), (sz, .inl (ct 1, 8, .inr (.inl (fun _ => 0)))), ((sz + 1), .inl (ct 1, 8, .inr (.inl (fun _ => 0))))] 2 := by
  refine cr_of (by decide) (Nat.le_of_ble_eq_true rfl) (fun p e s m below meth c X hr hlocks hnm hsz a0 hKK ls hl => ?_)
  subst hsz
  have hx := X.1.1
  have hb := X.1.2.1
  have hS : va_S (fun q => q = h0 ∨ s.heap.size ≤ q) s.heap s.heap [] := va_S.rf
  have h0l : h0 < s.heap.size := a0.lt
  have hz : s.heap.size = s.heap.size := rfl
  have hl : lv_has ls 2 [(0, .ref h0), (1, .int n)] := hl
  refine lv_aload_n hx hb d_A_init_0 rfl (lv_at hl 0 rfl) ?_
  refine rr_objInit X (List.mem_of_getElem? (i := 80) rfl) hl.1 d_A_init_1 (Nat.le_of_ble_eq_true rfl) (Nat.le_of_ble_eq_true rfl) (List.mem_of_getElem? (i := 32) rfl) (List.mem_of_getElem? (i := 33) rfl) ?_
  refine lv_aload_n hx hb d_A_init_4 rfl (lv_at hl 0 rfl) ?_
  refine lv_bipush (v := 8) hx hb d_A_init_5 (by decide) ?_
  refine rr_newa X (List.mem_of_getElem? (i := 93) rfl) 1 rfl hS (n := 8) (N' := 8) (a0 := (8, .inr (.inl (fun _ => 0)))) (vp0_J 8) (by decide) (by decide) (by decide) (Nat.le_of_ble_eq_true rfl) (Nat.le_of_ble_eq_true rfl) d_A_init_7 (fun H hat hgr hS => ?_)
  rw [hz] at hat ⊢
  replace hz : H.size = s.heap.size + 1 := by rw [hgr.1, hz]
  replace a0 := hgr.at a0
  have a1 : va_at D classes (s.heap.size, .inl (ct 1, 8, .inr (.inl (fun _ => 0)))) H := hat
  clear hat hgr
  have n1 : s.heap.size ≠ h0 := Nat.ne_of_gt h0l
  refine pf_A_9 X hnm a0 hS (Or.inl rfl) rfl rfl (Nat.le_of_ble_eq_true rfl) d_A_init_9 (fun H locs hat hch hS => ?_)
  replace hz : H.size = s.heap.size + 1 := by rw [hch.1, hz]
  replace a1 := hch.at a1 n1
  replace a0 : va_at D classes (h0, .inr (0, [.ref s.heap.size, .null, .int 0, .int 0, .int 0])) H := hat
  clear hat hch
  refine lv_aload_n hx hb d_A_init_12 rfl (lv_at hl 0 rfl) ?_
  refine lv_bipush (v := 8) hx hb d_A_init_13 (by decide) ?_
  refine rr_newa X (List.mem_of_getElem? (i := 93) rfl) 1 rfl hS (n := 8) (N' := 8) (a0 := (8, .inr (.inl (fun _ => 0)))) (vp0_J 8) (by decide) (by decide) (by decide) (Nat.le_of_ble_eq_true rfl) (Nat.le_of_ble_eq_true rfl) d_A_init_15 (fun H hat hgr hS => ?_)
  rw [hz] at hat ⊢
  replace hz : H.size = s.heap.size + 2 := by rw [hgr.1, hz]
  replace a0 := hgr.at a0
  replace a1 := hgr.at a1
  have a2 : va_at D classes ((s.heap.size + 1), .inl (ct 1, 8, .inr (.inl (fun _ => 0)))) H := hat
  clear hat hgr
  have n2 : (s.heap.size + 1) ≠ h0 := Nat.ne_of_gt (Nat.lt_of_lt_of_le h0l (Nat.le_add_right _ _))
  refine pf_A_15 X hnm a0 hS (Or.inl rfl) rfl rfl (Nat.le_of_ble_eq_true rfl) d_A_init_17 (fun H locs hat hch hS => ?_)
  replace hz : H.size = s.heap.size + 2 := by rw [hch.1, hz]
  replace a1 := hch.at a1 n1
  replace a2 := hch.at a2 n2
  replace a0 : va_at D classes (h0, .inr (0, [.ref s.heap.size, .ref (s.heap.size + 1), .int 0, .int 0, .int 0])) H := hat
  clear hat hch
  refine lv_aload_n hx hb d_A_init_20 rfl (lv_at hl 0 rfl) ?_
  refine lv_iload_n hx hb d_A_init_21 rfl (lv_at hl 1 rfl) ?_
  refine pf_A_18 X a0 hS (Or.inl rfl) rfl rfl (Nat.le_of_ble_eq_true rfl) d_A_init_22 (fun H locs hat hch hS => ?_)
  replace hz : H.size = s.heap.size + 2 := by rw [hch.1, hz]
  replace a1 := hch.at a1 n1
  replace a2 := hch.at a2 n2
  replace a0 : va_at D classes (h0, .inr (0, [.ref s.heap.size, .ref (s.heap.size + 1), .int 0, .int n, .int 0])) H := hat
  clear hat hch
  refine leafR X hr hlocks hS hz ?_ d_A_init_25
  intro q hq
  simp only [List.mem_cons, List.not_mem_nil, or_false] at hq
  rcases hq with rfl | rfl | rfl
  · exact a0
  · exact a1
  · exact a2
set_option maxHeartbeats 1000000 in
set_option maxRecDepth 100000 in
theorem c_T_init (l : Launch) (D : va_G) (ct : Nat → ClassId) (h0 sz : Nat) (n : Int32) (oa : Nat) (v : Int64) :
    CoR l D ct y_T_init b_T_init 5 { frames := 1, cells := 0, slots := 0, locals := 12 } h0 (.inr (2, [.int 0, .null, .long 0, .int 0, .int 0, .int 0, .long 0, .long 0])) (fun _ => True) sz [.int n, .ref oa, .long v] [(h0, .inr (2, [.int n, .ref oa, .long v, .int 1, .int 0, .int 0, .long 0, .long 0]))] 0 := by
  refine cr_of (by decide) (Nat.le_of_ble_eq_true rfl) (fun p e s m below meth c X hr hlocks hnm hsz a0 hKK ls hl => ?_)
  subst hsz
  have hx := X.1.1
  have hb := X.1.2.1
  have hS : va_S (fun q => q = h0 ∨ s.heap.size ≤ q) s.heap s.heap [] := va_S.rf
  have h0l : h0 < s.heap.size := a0.lt
  have hz : s.heap.size = s.heap.size := rfl
  have hl : lv_has ls 5 [(0, .ref h0), (1, .int n), (2, .ref oa), (3, .long v)] := hl
  refine lv_aload_n hx hb d_T_init_0 rfl (lv_at hl 0 rfl) ?_
  refine rr_objInit X (List.mem_of_getElem? (i := 106) rfl) hl.1 d_T_init_1 (Nat.le_of_ble_eq_true rfl) (Nat.le_of_ble_eq_true rfl) (List.mem_of_getElem? (i := 32) rfl) (List.mem_of_getElem? (i := 33) rfl) ?_
  refine lv_aload_n hx hb d_T_init_4 rfl (lv_at hl 0 rfl) ?_
  refine lv_iconst (v := 1) hx hb d_T_init_5 (by decide) ?_
  refine pf_T_7 X a0 hS (Or.inl rfl) rfl rfl (Nat.le_of_ble_eq_true rfl) d_T_init_6 (fun H locs hat hch hS => ?_)
  replace hz : H.size = s.heap.size + 0 := by rw [hch.1, hz]; try rfl
  replace a0 : va_at D classes (h0, .inr (2, [.int 0, .null, .long 0, .int 1, .int 0, .int 0, .long 0, .long 0])) H := hat
  clear hat hch
  refine lv_aload_n hx hb d_T_init_9 rfl (lv_at hl 0 rfl) ?_
  refine lv_iload_n hx hb d_T_init_10 rfl (lv_at hl 1 rfl) ?_
  refine pf_T_13 X hnm a0 hS (Or.inl rfl) rfl rfl (Nat.le_of_ble_eq_true rfl) d_T_init_11 (fun H locs hat hch hS => ?_)
  replace hz : H.size = s.heap.size + 0 := by rw [hch.1, hz]; try rfl
  replace a0 : va_at D classes (h0, .inr (2, [.int n, .null, .long 0, .int 1, .int 0, .int 0, .long 0, .long 0])) H := hat
  clear hat hch
  refine lv_aload_n hx hb d_T_init_14 rfl (lv_at hl 0 rfl) ?_
  refine lv_aload_n hx hb d_T_init_15 rfl (lv_at hl 2 rfl) ?_
  refine pf_T_17 X hnm a0 hS (Or.inl rfl) rfl rfl (Nat.le_of_ble_eq_true rfl) d_T_init_16 (fun H locs hat hch hS => ?_)
  replace hz : H.size = s.heap.size + 0 := by rw [hch.1, hz]; try rfl
  replace a0 : va_at D classes (h0, .inr (2, [.int n, .ref oa, .long 0, .int 1, .int 0, .int 0, .long 0, .long 0])) H := hat
  clear hat hch
  refine lv_aload_n hx hb d_T_init_19 rfl (lv_at hl 0 rfl) ?_
  refine lv_lload_n hx hb d_T_init_20 rfl (lv_at hl 3 rfl) ?_
  refine pf_T_21 X hnm a0 hS (Or.inl rfl) rfl rfl (Nat.le_of_ble_eq_true rfl) d_T_init_21 (fun H locs hat hch hS => ?_)
  replace hz : H.size = s.heap.size + 0 := by rw [hch.1, hz]; try rfl
  replace a0 : va_at D classes (h0, .inr (2, [.int n, .ref oa, .long v, .int 1, .int 0, .int 0, .long 0, .long 0])) H := hat
  clear hat hch
  refine leafR X hr hlocks hS hz ?_ d_T_init_24
  intro q hq
  simp only [List.mem_cons, List.not_mem_nil, or_false] at hq
  rcases hq with rfl
  · exact a0
