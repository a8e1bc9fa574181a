set_option maxHeartbeats 4000000 in
set_option maxRecDepth 100000 in
theorem op_application {p : Program} {l : Launch} {e : Env} {s : State} {m : MethodId} {below : List Frame} {meth : Method} {c : Code} {D : va_G} {ct : Nat → ClassId} {b L n : Nat} {xs : Nat → Int32} (hL : L ≤ 3072) (hn : 6 * n + 6 ≤ L) (X : CX p m c code 4 s #[Value.ref b] wA R_L D classes (tysA ct)) (hX : va_X b L xs s s.heap) (hbl : b < s.heap.size) {x0 m0 : Nat}
    (kk : ∀ (layC layM : Nat → Nat → Nat) (d : DC) (H : Heap) (locs : List Loc) (ls : Array Slot), LawSt D ct s layC layM d d H locs → Inv d (n + 1) → layC 0 0 = x0 → layM 0 0 = m0 → lv_has ls 4 [(0, .ref b), (1, .ref x0), (2, .ref m0), (3, .int (nI (6 * n)))] → W p l e room_1 s m #[Value.ref b] below meth c H locs (29 + 3 * (n + 1)) (8136 + 21 * (n + 1)) (lw_Z below #[Value.ref b] s) (F0 m 698 ls []))
    {layC layM : Nat → Nat → Nat} {d : DC} {H : Heap} {locs : List Loc} {ls : Array Slot} (hst : LawSt D ct s layC layM d d H locs) (hI : Inv d n) (ex : layC 0 0 = x0) (em : layM 0 0 = m0) (hl : lv_has ls 4 [(0, .ref b), (1, .ref x0), (2, .ref m0), (3, .int (nI (6 * n)))]) :
    W p l e room_1 s m #[Value.ref b] below meth c H locs (29 + 3 * n) (8136 + 21 * n) (lw_Z below #[Value.ref b] s) (F0 m 96 ls []) := by
  subst ex; subst em
  have hx := X.1.1
  have hb := X.1.2.1
  refine lv_aload_n hx hb d_L_law_96 rfl (lv_at hl 1 rfl) ?_
  refine lv_aload_n hx hb d_L_law_97 rfl (lv_at hl 0 rfl) ?_
  refine lv_iload_n hx hb d_L_law_98 rfl (lv_at hl 3 rfl) ?_
  refine lv_iconst (v := 1) hx hb d_L_law_99 (by decide) ?_
  refine lv_iadd hx hb d_L_law_100 ?_
  refine rn_sld hx hb hX hbl hst.2.2.2.2.2 (t := 6 * n + 1) (nI_add (6 * n) 1) (by omega) hL d_L_law_101 ?_
  refine wc_calli (val := valC) (lay := fun u : CS => u.1) (cell := cellC ct) (u0 := (layC, d)) X (c_P_application l D ct layC d _ (xs (6 * n + 1)) hI.na hI.ow (hI.1.2.2.2.1 (dna d) (Nat.le_refl _)).1 (hI.2.1.1 (dna d) (Nat.le_refl _)) (hI.1.2.2.2.1 (dna d) (Nat.le_refl _)).2.1 (hI.1.2.2.2.1 (dna d) (Nat.le_refl _)).2.2) (cw_L_13 X.1.2.2.2.2 rfl rfl ⟨Nat.le_of_ble_eq_true rfl, Nat.le_of_ble_eq_true rfl⟩) hst.1 hst.2.2.2.2.2 hst.aC (aC0 hst.1) rfl rfl hl.1 rfl (Nat.le_of_ble_eq_true rfl) d_L_law_102 ⟨by show 29 + 3 * n + 3 ≤ 600000; omega, by show 8136 + 21 * n + 21 ≤ 7302250; omega⟩ (fun r0 u H1 locs1 hp hW1 hz hk hS1 => ?_)
  obtain ⟨layC2, d2⟩ := u
  obtain ⟨rfl, hd2, e0, hdom⟩ := hp
  obtain rfl : (sp_application d (xs (6 * n + 1))).2 = d2 := hd2.symm
  have hst := hst.afterC (layC2 := layC2) (dC2 := (sp_application d (xs (6 * n + 1))).2) hW1 hdom hk hS1
  clear hk hz hS1 hW1
  refine lv_aload_n hx hb d_L_law_105 rfl (lv_at hl 2 rfl) ?_
  refine lv_aload_n hx hb d_L_law_106 rfl (lv_at hl 0 rfl) ?_
  refine lv_iload_n hx hb d_L_law_107 rfl (lv_at hl 3 rfl) ?_
  refine lv_iconst (v := 1) hx hb d_L_law_108 (by decide) ?_
  refine lv_iadd hx hb d_L_law_109 ?_
  refine rn_sld hx hb hX hbl hst.2.2.2.2.2 (t := 6 * n + 1) (nI_add (6 * n) 1) (by omega) hL d_L_law_110 ?_
  refine wc_calli (val := valM) (lay := fun u : CS => u.1) (cell := cellM ct) (u0 := (layM, d)) X (c_M_application l D ct layM d _ (xs (6 * n + 1)) hI.na) (cw_L_17 X.1.2.2.2.2 rfl rfl ⟨Nat.le_of_ble_eq_true rfl, Nat.le_of_ble_eq_true rfl⟩) hst.2.1 hst.2.2.2.2.2 hst.aM (aM0 hst.2.1) rfl rfl hl.1 rfl (Nat.le_of_ble_eq_true rfl) d_L_law_111 ⟨by show 29 + 3 * n + 3 + 0 ≤ 600000; omega, by show 8136 + 21 * n + 21 + 0 ≤ 7302250; omega⟩ (fun r1 u H1 locs1 hp hW1 hz hk hS1 => ?_)
  obtain ⟨rfl, rfl⟩ := hp
  have hst := hst.afterM (dM2 := (sp_application d (xs (6 * n + 1))).2) hW1 hk hS1
  refine lv_icmp_eq (tgt := 698) hx hb d_L_law_114 (by decide) (fun _ => ?_) (fun q => absurd rfl q)
  refine W.widen (k := 29 + 3 * (n + 1)) (n := 8136 + 21 * (n + 1)) (by show 29 + 3 * n + 3 + 0 ≤ 29 + 3 * (n + 1); omega) (by show 8136 + 21 * n + 21 + 0 ≤ 8136 + 21 * (n + 1); omega) ?_
  exact kk _ _ _ _ _ ls hst (hI.application _) e0 rfl hl
set_option maxHeartbeats 4000000 in
set_option maxRecDepth 100000 in
theorem op_task {p : Program} {l : Launch} {e : Env} {s : State} {m : MethodId} {below : List Frame} {meth : Method} {c : Code} {D : va_G} {ct : Nat → ClassId} {b L n : Nat} {xs : Nat → Int32} (hL : L ≤ 3072) (hn : 6 * n + 6 ≤ L) (X : CX p m c code 4 s #[Value.ref b] wA R_L D classes (tysA ct)) (hX : va_X b L xs s s.heap) (hbl : b < s.heap.size) {x0 m0 : Nat}
    (kk : ∀ (layC layM : Nat → Nat → Nat) (d : DC) (H : Heap) (locs : List Loc) (ls : Array Slot), LawSt D ct s layC layM d d H locs → Inv d (n + 1) → layC 0 0 = x0 → layM 0 0 = m0 → lv_has ls 4 [(0, .ref b), (1, .ref x0), (2, .ref m0), (3, .int (nI (6 * n)))] → W p l e room_1 s m #[Value.ref b] below meth c H locs (29 + 3 * (n + 1)) (8136 + 21 * (n + 1)) (lw_Z below #[Value.ref b] s) (F0 m 698 ls []))
    {layC layM : Nat → Nat → Nat} {d : DC} {H : Heap} {locs : List Loc} {ls : Array Slot} (hst : LawSt D ct s layC layM d d H locs) (hI : Inv d n) (ex : layC 0 0 = x0) (em : layM 0 0 = m0) (hl : lv_has ls 4 [(0, .ref b), (1, .ref x0), (2, .ref m0), (3, .int (nI (6 * n)))]) :
    W p l e room_1 s m #[Value.ref b] below meth c H locs (29 + 3 * n) (8136 + 21 * n) (lw_Z below #[Value.ref b] s) (F0 m 119 ls []) := by
  subst ex; subst em
  have hx := X.1.1
  have hb := X.1.2.1
  refine lv_aload_n hx hb d_L_law_119 rfl (lv_at hl 1 rfl) ?_
  refine lv_aload_n hx hb d_L_law_120 rfl (lv_at hl 0 rfl) ?_
  refine lv_iload_n hx hb d_L_law_121 rfl (lv_at hl 3 rfl) ?_
  refine lv_iconst (v := 1) hx hb d_L_law_122 (by decide) ?_
  refine lv_iadd hx hb d_L_law_123 ?_
  refine rn_sld hx hb hX hbl hst.2.2.2.2.2 (t := 6 * n + 1) (nI_add (6 * n) 1) (by omega) hL d_L_law_124 ?_
  refine lv_aload_n hx hb d_L_law_125 rfl (lv_at hl 0 rfl) ?_
  refine lv_iload_n hx hb d_L_law_126 rfl (lv_at hl 3 rfl) ?_
  refine lv_iconst (v := 2) hx hb d_L_law_127 (by decide) ?_
  refine lv_iadd hx hb d_L_law_128 ?_
  refine rn_sld hx hb hX hbl hst.2.2.2.2.2 (t := 6 * n + 2) (nI_add (6 * n) 2) (by omega) hL d_L_law_129 ?_
  refine lv_i2l hx hb d_L_law_130 rfl ?_
  refine lv_bipush (v := 32) hx hb d_L_law_131 (by decide) ?_
  refine lv_lshl hx hb d_L_law_133 rfl ?_
  refine lv_aload_n hx hb d_L_law_134 rfl (lv_at hl 0 rfl) ?_
  refine lv_iload_n hx hb d_L_law_135 rfl (lv_at hl 3 rfl) ?_
  refine lv_iconst (v := 3) hx hb d_L_law_136 (by decide) ?_
  refine lv_iadd hx hb d_L_law_137 ?_
  refine rn_sld hx hb hX hbl hst.2.2.2.2.2 (t := 6 * n + 3) (nI_add (6 * n) 3) (by omega) hL d_L_law_138 ?_
  refine lv_i2l hx hb d_L_law_139 rfl ?_
  refine lv_ldc2 (v := 4294967295) hx hb X.1.2.2.2.1 (X.1.2.2.2.2 _ (List.mem_of_getElem? (i := 353) rfl)) d_L_law_140 ?_
  refine lv_land hx hb d_L_law_143 ?_
  refine lv_lor hx hb d_L_law_144 ?_
  refine lv_topl (fun v2 ev2 => ?_)
  refine wc_calli (val := valC) (lay := fun u : CS => u.1) (cell := cellC ct) (u0 := (layC, d)) X (c_P_task l D ct layC d _ (xs (6 * n + 1)) v2 hI.na hI.nt hI.ow (hI.1.2.2.2.2 (dnt d) (Nat.le_refl _)).1 (hI.1.2.2.2.2 (dnt d) (Nat.le_refl _)).2.1 (hI.1.2.2.2.2 (dnt d) (Nat.le_refl _)).2.2.1 (hI.1.2.2.2.2 (dnt d) (Nat.le_refl _)).2.2.2) (cw_L_20 X.1.2.2.2.2 rfl rfl ⟨Nat.le_of_ble_eq_true rfl, Nat.le_of_ble_eq_true rfl⟩) hst.1 hst.2.2.2.2.2 hst.aC (aC0 hst.1) rfl rfl hl.1 rfl (Nat.le_of_ble_eq_true rfl) d_L_law_145 ⟨by show 29 + 3 * n + 1 ≤ 600000; omega, by show 8136 + 21 * n + 8 ≤ 7302250; omega⟩ (fun r0 u H1 locs1 hp hW1 hz hk hS1 => ?_)
  obtain ⟨layC2, d2⟩ := u
  obtain ⟨rfl, hd2, e0, hdom⟩ := hp
  obtain rfl : (sp_task d (xs (6 * n + 1)) v2).2 = d2 := hd2.symm
  have hst := hst.afterC (layC2 := layC2) (dC2 := (sp_task d (xs (6 * n + 1)) v2).2) hW1 hdom hk hS1
  clear hk hz hS1 hW1
  refine lv_aload_n hx hb d_L_law_148 rfl (lv_at hl 2 rfl) ?_
  refine lv_aload_n hx hb d_L_law_149 rfl (lv_at hl 0 rfl) ?_
  refine lv_iload_n hx hb d_L_law_150 rfl (lv_at hl 3 rfl) ?_
  refine lv_iconst (v := 1) hx hb d_L_law_151 (by decide) ?_
  refine lv_iadd hx hb d_L_law_152 ?_
  refine rn_sld hx hb hX hbl hst.2.2.2.2.2 (t := 6 * n + 1) (nI_add (6 * n) 1) (by omega) hL d_L_law_153 ?_
  refine lv_aload_n hx hb d_L_law_154 rfl (lv_at hl 0 rfl) ?_
  refine lv_iload_n hx hb d_L_law_155 rfl (lv_at hl 3 rfl) ?_
  refine lv_iconst (v := 2) hx hb d_L_law_156 (by decide) ?_
  refine lv_iadd hx hb d_L_law_157 ?_
  refine rn_sld hx hb hX hbl hst.2.2.2.2.2 (t := 6 * n + 2) (nI_add (6 * n) 2) (by omega) hL d_L_law_158 ?_
  refine lv_i2l hx hb d_L_law_159 rfl ?_
  refine lv_bipush (v := 32) hx hb d_L_law_160 (by decide) ?_
  refine lv_lshl hx hb d_L_law_162 rfl ?_
  refine lv_aload_n hx hb d_L_law_163 rfl (lv_at hl 0 rfl) ?_
  refine lv_iload_n hx hb d_L_law_164 rfl (lv_at hl 3 rfl) ?_
  refine lv_iconst (v := 3) hx hb d_L_law_165 (by decide) ?_
  refine lv_iadd hx hb d_L_law_166 ?_
  refine rn_sld hx hb hX hbl hst.2.2.2.2.2 (t := 6 * n + 3) (nI_add (6 * n) 3) (by omega) hL d_L_law_167 ?_
  refine lv_i2l hx hb d_L_law_168 rfl ?_
  refine lv_ldc2 (v := 4294967295) hx hb X.1.2.2.2.1 (X.1.2.2.2.2 _ (List.mem_of_getElem? (i := 353) rfl)) d_L_law_169 ?_
  refine lv_land hx hb d_L_law_172 ?_
  refine lv_lor hx hb d_L_law_173 ?_
  refine lv_topl (fun w2 ew2 => ?_)
  obtain rfl : v2 = w2 := ev2.trans ew2.symm
  refine wc_calli (val := valM) (lay := fun u : CS => u.1) (cell := cellM ct) (u0 := (layM, d)) X (c_M_task l D ct layM d _ (xs (6 * n + 1)) v2 hI.na hI.nt) (cw_L_24 X.1.2.2.2.2 rfl rfl ⟨Nat.le_of_ble_eq_true rfl, Nat.le_of_ble_eq_true rfl⟩) hst.2.1 hst.2.2.2.2.2 hst.aM (aM0 hst.2.1) rfl rfl hl.1 rfl (Nat.le_of_ble_eq_true rfl) d_L_law_174 ⟨by show 29 + 3 * n + 1 + 0 ≤ 600000; omega, by show 8136 + 21 * n + 8 + 0 ≤ 7302250; omega⟩ (fun r1 u H1 locs1 hp hW1 hz hk hS1 => ?_)
  obtain ⟨rfl, rfl⟩ := hp
  have hst := hst.afterM (dM2 := (sp_task d (xs (6 * n + 1)) v2).2) hW1 hk hS1
  refine lv_icmp_eq (tgt := 698) hx hb d_L_law_177 (by decide) (fun _ => ?_) (fun q => absurd rfl q)
  refine W.widen (k := 29 + 3 * (n + 1)) (n := 8136 + 21 * (n + 1)) (by show 29 + 3 * n + 1 + 0 ≤ 29 + 3 * (n + 1); omega) (by show 8136 + 21 * n + 8 + 0 ≤ 8136 + 21 * (n + 1); omega) ?_
  exact kk _ _ _ _ _ ls hst (hI.task _ _) e0 rfl hl
set_option maxHeartbeats 4000000 in
set_option maxRecDepth 100000 in
theorem op_region {p : Program} {l : Launch} {e : Env} {s : State} {m : MethodId} {below : List Frame} {meth : Method} {c : Code} {D : va_G} {ct : Nat → ClassId} {b L n : Nat} {xs : Nat → Int32} (hL : L ≤ 3072) (hn : 6 * n + 6 ≤ L) (X : CX p m c code 4 s #[Value.ref b] wA R_L D classes (tysA ct)) (hX : va_X b L xs s s.heap) (hbl : b < s.heap.size) {x0 m0 : Nat}
    (kk : ∀ (layC layM : Nat → Nat → Nat) (d : DC) (H : Heap) (locs : List Loc) (ls : Array Slot), LawSt D ct s layC layM d d H locs → Inv d (n + 1) → layC 0 0 = x0 → layM 0 0 = m0 → lv_has ls 4 [(0, .ref b), (1, .ref x0), (2, .ref m0), (3, .int (nI (6 * n)))] → W p l e room_1 s m #[Value.ref b] below meth c H locs (29 + 3 * (n + 1)) (8136 + 21 * (n + 1)) (lw_Z below #[Value.ref b] s) (F0 m 698 ls []))
    {layC layM : Nat → Nat → Nat} {d : DC} {H : Heap} {locs : List Loc} {ls : Array Slot} (hst : LawSt D ct s layC layM d d H locs) (hI : Inv d n) (ex : layC 0 0 = x0) (em : layM 0 0 = m0) (hl : lv_has ls 4 [(0, .ref b), (1, .ref x0), (2, .ref m0), (3, .int (nI (6 * n)))]) :
    W p l e room_1 s m #[Value.ref b] below meth c H locs (29 + 3 * n) (8136 + 21 * n) (lw_Z below #[Value.ref b] s) (F0 m 182 ls []) := by
  subst ex; subst em
  have hx := X.1.1
  have hb := X.1.2.1
  refine lv_aload_n hx hb d_L_law_182 rfl (lv_at hl 1 rfl) ?_
  refine lv_aload_n hx hb d_L_law_183 rfl (lv_at hl 0 rfl) ?_
  refine lv_iload_n hx hb d_L_law_184 rfl (lv_at hl 3 rfl) ?_
  refine lv_iconst (v := 1) hx hb d_L_law_185 (by decide) ?_
  refine lv_iadd hx hb d_L_law_186 ?_
  refine rn_sld hx hb hX hbl hst.2.2.2.2.2 (t := 6 * n + 1) (nI_add (6 * n) 1) (by omega) hL d_L_law_187 ?_
  refine lv_aload_n hx hb d_L_law_188 rfl (lv_at hl 0 rfl) ?_
  refine lv_iload_n hx hb d_L_law_189 rfl (lv_at hl 3 rfl) ?_
  refine lv_iconst (v := 2) hx hb d_L_law_190 (by decide) ?_
  refine lv_iadd hx hb d_L_law_191 ?_
  refine rn_sld hx hb hX hbl hst.2.2.2.2.2 (t := 6 * n + 2) (nI_add (6 * n) 2) (by omega) hL d_L_law_192 ?_
  refine lv_i2l hx hb d_L_law_193 rfl ?_
  refine lv_bipush (v := 32) hx hb d_L_law_194 (by decide) ?_
  refine lv_lshl hx hb d_L_law_196 rfl ?_
  refine lv_aload_n hx hb d_L_law_197 rfl (lv_at hl 0 rfl) ?_
  refine lv_iload_n hx hb d_L_law_198 rfl (lv_at hl 3 rfl) ?_
  refine lv_iconst (v := 3) hx hb d_L_law_199 (by decide) ?_
  refine lv_iadd hx hb d_L_law_200 ?_
  refine rn_sld hx hb hX hbl hst.2.2.2.2.2 (t := 6 * n + 3) (nI_add (6 * n) 3) (by omega) hL d_L_law_201 ?_
  refine lv_i2l hx hb d_L_law_202 rfl ?_
  refine lv_ldc2 (v := 4294967295) hx hb X.1.2.2.2.1 (X.1.2.2.2.2 _ (List.mem_of_getElem? (i := 353) rfl)) d_L_law_203 ?_
  refine lv_land hx hb d_L_law_206 ?_
  refine lv_lor hx hb d_L_law_207 ?_
  refine lv_topl (fun v2 ev2 => ?_)
  refine lv_aload_n hx hb d_L_law_208 rfl (lv_at hl 0 rfl) ?_
  refine lv_iload_n hx hb d_L_law_209 rfl (lv_at hl 3 rfl) ?_
  refine lv_iconst (v := 4) hx hb d_L_law_210 (by decide) ?_
  refine lv_iadd hx hb d_L_law_211 ?_
  refine rn_sld hx hb hX hbl hst.2.2.2.2.2 (t := 6 * n + 4) (nI_add (6 * n) 4) (by omega) hL d_L_law_212 ?_
  refine lv_i2l hx hb d_L_law_213 rfl ?_
  refine lv_bipush (v := 32) hx hb d_L_law_214 (by decide) ?_
  refine lv_lshl hx hb d_L_law_216 rfl ?_
  refine lv_aload_n hx hb d_L_law_217 rfl (lv_at hl 0 rfl) ?_
  refine lv_iload_n hx hb d_L_law_218 rfl (lv_at hl 3 rfl) ?_
  refine lv_iconst (v := 5) hx hb d_L_law_219 (by decide) ?_
  refine lv_iadd hx hb d_L_law_220 ?_
  refine rn_sld hx hb hX hbl hst.2.2.2.2.2 (t := 6 * n + 5) (nI_add (6 * n) 5) (by omega) hL d_L_law_221 ?_
  refine lv_i2l hx hb d_L_law_222 rfl ?_
  refine lv_ldc2 (v := 4294967295) hx hb X.1.2.2.2.1 (X.1.2.2.2.2 _ (List.mem_of_getElem? (i := 353) rfl)) d_L_law_223 ?_
  refine lv_land hx hb d_L_law_226 ?_
  refine lv_lor hx hb d_L_law_227 ?_
  refine lv_topl (fun v4 ev4 => ?_)
  refine wc_calli (val := valC) (lay := fun u : CS => u.1) (cell := cellC ct) (u0 := (layC, d)) X (c_P_region l D ct layC d _ (xs (6 * n + 1)) v2 v4 hI.na hI.ow hI.hrcs) (cw_L_25 X.1.2.2.2.2 rfl rfl ⟨Nat.le_of_ble_eq_true rfl, Nat.le_of_ble_eq_true rfl⟩) hst.1 hst.2.2.2.2.2 hst.aC (aC0 hst.1) rfl rfl hl.1 rfl (Nat.le_of_ble_eq_true rfl) d_L_law_228 ⟨by show 29 + 3 * n + 0 ≤ 600000; omega, by show 8136 + 21 * n + 0 ≤ 7302250; omega⟩ (fun r0 u H1 locs1 hp hW1 hz hk hS1 => ?_)
  obtain ⟨rfl, rfl⟩ := hp
  have hst := hst.afterC (layC2 := layC) (dC2 := (sp_region d (xs (6 * n + 1)) v2 v4).2) hW1 (dom_kp (kp_region _ _ _ _)) hk hS1
  clear hk hz hS1 hW1
  refine lv_aload_n hx hb d_L_law_231 rfl (lv_at hl 2 rfl) ?_
  refine lv_aload_n hx hb d_L_law_232 rfl (lv_at hl 0 rfl) ?_
  refine lv_iload_n hx hb d_L_law_233 rfl (lv_at hl 3 rfl) ?_
  refine lv_iconst (v := 1) hx hb d_L_law_234 (by decide) ?_
  refine lv_iadd hx hb d_L_law_235 ?_
  refine rn_sld hx hb hX hbl hst.2.2.2.2.2 (t := 6 * n + 1) (nI_add (6 * n) 1) (by omega) hL d_L_law_236 ?_
  refine lv_aload_n hx hb d_L_law_237 rfl (lv_at hl 0 rfl) ?_
  refine lv_iload_n hx hb d_L_law_238 rfl (lv_at hl 3 rfl) ?_
  refine lv_iconst (v := 2) hx hb d_L_law_239 (by decide) ?_
  refine lv_iadd hx hb d_L_law_240 ?_
  refine rn_sld hx hb hX hbl hst.2.2.2.2.2 (t := 6 * n + 2) (nI_add (6 * n) 2) (by omega) hL d_L_law_241 ?_
  refine lv_i2l hx hb d_L_law_242 rfl ?_
  refine lv_bipush (v := 32) hx hb d_L_law_243 (by decide) ?_
  refine lv_lshl hx hb d_L_law_245 rfl ?_
  refine lv_aload_n hx hb d_L_law_246 rfl (lv_at hl 0 rfl) ?_
  refine lv_iload_n hx hb d_L_law_247 rfl (lv_at hl 3 rfl) ?_
  refine lv_iconst (v := 3) hx hb d_L_law_248 (by decide) ?_
  refine lv_iadd hx hb d_L_law_249 ?_
  refine rn_sld hx hb hX hbl hst.2.2.2.2.2 (t := 6 * n + 3) (nI_add (6 * n) 3) (by omega) hL d_L_law_250 ?_
  refine lv_i2l hx hb d_L_law_251 rfl ?_
  refine lv_ldc2 (v := 4294967295) hx hb X.1.2.2.2.1 (X.1.2.2.2.2 _ (List.mem_of_getElem? (i := 353) rfl)) d_L_law_252 ?_
  refine lv_land hx hb d_L_law_255 ?_
  refine lv_lor hx hb d_L_law_256 ?_
  refine lv_topl (fun w2 ew2 => ?_)
  obtain rfl : v2 = w2 := ev2.trans ew2.symm
  refine lv_aload_n hx hb d_L_law_257 rfl (lv_at hl 0 rfl) ?_
  refine lv_iload_n hx hb d_L_law_258 rfl (lv_at hl 3 rfl) ?_
  refine lv_iconst (v := 4) hx hb d_L_law_259 (by decide) ?_
  refine lv_iadd hx hb d_L_law_260 ?_
  refine rn_sld hx hb hX hbl hst.2.2.2.2.2 (t := 6 * n + 4) (nI_add (6 * n) 4) (by omega) hL d_L_law_261 ?_
  refine lv_i2l hx hb d_L_law_262 rfl ?_
  refine lv_bipush (v := 32) hx hb d_L_law_263 (by decide) ?_
  refine lv_lshl hx hb d_L_law_265 rfl ?_
  refine lv_aload_n hx hb d_L_law_266 rfl (lv_at hl 0 rfl) ?_
  refine lv_iload_n hx hb d_L_law_267 rfl (lv_at hl 3 rfl) ?_
  refine lv_iconst (v := 5) hx hb d_L_law_268 (by decide) ?_
  refine lv_iadd hx hb d_L_law_269 ?_
  refine rn_sld hx hb hX hbl hst.2.2.2.2.2 (t := 6 * n + 5) (nI_add (6 * n) 5) (by omega) hL d_L_law_270 ?_
  refine lv_i2l hx hb d_L_law_271 rfl ?_
  refine lv_ldc2 (v := 4294967295) hx hb X.1.2.2.2.1 (X.1.2.2.2.2 _ (List.mem_of_getElem? (i := 353) rfl)) d_L_law_272 ?_
  refine lv_land hx hb d_L_law_275 ?_
  refine lv_lor hx hb d_L_law_276 ?_
  refine lv_topl (fun w4 ew4 => ?_)
  obtain rfl : v4 = w4 := ev4.trans ew4.symm
  refine wc_calli (val := valM) (lay := fun u : CS => u.1) (cell := cellM ct) (u0 := (layM, d)) X (c_M_region l D ct layM d _ (xs (6 * n + 1)) v2 v4 hI.na hI.hreg) (cw_L_29 X.1.2.2.2.2 rfl rfl ⟨Nat.le_of_ble_eq_true rfl, Nat.le_of_ble_eq_true rfl⟩) hst.2.1 hst.2.2.2.2.2 hst.aM (aM0 hst.2.1) rfl rfl hl.1 rfl (Nat.le_of_ble_eq_true rfl) d_L_law_277 ⟨by show 29 + 3 * n + 0 + 0 ≤ 600000; omega, by show 8136 + 21 * n + 0 + 0 ≤ 7302250; omega⟩ (fun r1 u H1 locs1 hp hW1 hz hk hS1 => ?_)
  obtain ⟨rfl, rfl⟩ := hp
  have hst := hst.afterM (dM2 := (sp_region d (xs (6 * n + 1)) v2 v4).2) hW1 hk hS1
  refine lv_icmp_eq (tgt := 698) hx hb d_L_law_280 (by decide) (fun _ => ?_) (fun q => absurd rfl q)
  refine W.widen (k := 29 + 3 * (n + 1)) (n := 8136 + 21 * (n + 1)) (by show 29 + 3 * n + 0 + 0 ≤ 29 + 3 * (n + 1); omega) (by show 8136 + 21 * n + 0 + 0 ≤ 8136 + 21 * (n + 1); omega) ?_
  exact kk _ _ _ _ _ ls hst (hI.region _ _ _) rfl rfl hl
set_option maxHeartbeats 4000000 in
set_option maxRecDepth 100000 in
theorem op_holds {p : Program} {l : Launch} {e : Env} {s : State} {m : MethodId} {below : List Frame} {meth : Method} {c : Code} {D : va_G} {ct : Nat → ClassId} {b L n : Nat} {xs : Nat → Int32} (hL : L ≤ 3072) (hn : 6 * n + 6 ≤ L) (X : CX p m c code 4 s #[Value.ref b] wA R_L D classes (tysA ct)) (hX : va_X b L xs s s.heap) (hbl : b < s.heap.size) {x0 m0 : Nat}
    (kk : ∀ (layC layM : Nat → Nat → Nat) (d : DC) (H : Heap) (locs : List Loc) (ls : Array Slot), LawSt D ct s layC layM d d H locs → Inv d (n + 1) → layC 0 0 = x0 → layM 0 0 = m0 → lv_has ls 4 [(0, .ref b), (1, .ref x0), (2, .ref m0), (3, .int (nI (6 * n)))] → W p l e room_1 s m #[Value.ref b] below meth c H locs (29 + 3 * (n + 1)) (8136 + 21 * (n + 1)) (lw_Z below #[Value.ref b] s) (F0 m 698 ls []))
    {layC layM : Nat → Nat → Nat} {d : DC} {H : Heap} {locs : List Loc} {ls : Array Slot} (hst : LawSt D ct s layC layM d d H locs) (hI : Inv d n) (ex : layC 0 0 = x0) (em : layM 0 0 = m0) (hl : lv_has ls 4 [(0, .ref b), (1, .ref x0), (2, .ref m0), (3, .int (nI (6 * n)))]) :
    W p l e room_1 s m #[Value.ref b] below meth c H locs (29 + 3 * n) (8136 + 21 * n) (lw_Z below #[Value.ref b] s) (F0 m 285 ls []) := by
  subst ex; subst em
  have hx := X.1.1
  have hb := X.1.2.1
  refine lv_aload_n hx hb d_L_law_285 rfl (lv_at hl 1 rfl) ?_
  refine lv_aload_n hx hb d_L_law_286 rfl (lv_at hl 0 rfl) ?_
  refine lv_iload_n hx hb d_L_law_287 rfl (lv_at hl 3 rfl) ?_
  refine lv_iconst (v := 1) hx hb d_L_law_288 (by decide) ?_
  refine lv_iadd hx hb d_L_law_289 ?_
  refine rn_sld hx hb hX hbl hst.2.2.2.2.2 (t := 6 * n + 1) (nI_add (6 * n) 1) (by omega) hL d_L_law_290 ?_
  refine lv_aload_n hx hb d_L_law_291 rfl (lv_at hl 0 rfl) ?_
  refine lv_iload_n hx hb d_L_law_292 rfl (lv_at hl 3 rfl) ?_
  refine lv_iconst (v := 2) hx hb d_L_law_293 (by decide) ?_
  refine lv_iadd hx hb d_L_law_294 ?_
  refine rn_sld hx hb hX hbl hst.2.2.2.2.2 (t := 6 * n + 2) (nI_add (6 * n) 2) (by omega) hL d_L_law_295 ?_
  refine lv_aload_n hx hb d_L_law_296 rfl (lv_at hl 0 rfl) ?_
  refine lv_iload_n hx hb d_L_law_297 rfl (lv_at hl 3 rfl) ?_
  refine lv_iconst (v := 3) hx hb d_L_law_298 (by decide) ?_
  refine lv_iadd hx hb d_L_law_299 ?_
  refine rn_sld hx hb hX hbl hst.2.2.2.2.2 (t := 6 * n + 3) (nI_add (6 * n) 3) (by omega) hL d_L_law_300 ?_
  refine wc_calli (val := valC) (lay := fun u : CS => u.1) (cell := cellC ct) (u0 := (layC, d)) X (c_P_holds l D ct layC d _ (xs (6 * n + 1)) (xs (6 * n + 2)) (xs (6 * n + 3)) hI.na hI.nt hI.ow) (cw_L_30 X.1.2.2.2.2 rfl rfl ⟨Nat.le_of_ble_eq_true rfl, Nat.le_of_ble_eq_true rfl⟩) hst.1 hst.2.2.2.2.2 hst.aC (aC0 hst.1) rfl rfl hl.1 rfl (Nat.le_of_ble_eq_true rfl) d_L_law_301 ⟨by show 29 + 3 * n + 0 ≤ 600000; omega, by show 8136 + 21 * n + 0 ≤ 7302250; omega⟩ (fun r0 u H1 locs1 hp hW1 hz hk hS1 => ?_)
  obtain ⟨rfl, rfl⟩ := hp
  have hst := hst.afterC (layC2 := layC) (dC2 := (sp_holds d (xs (6 * n + 1)) (xs (6 * n + 2)) (xs (6 * n + 3))).2) hW1 (dom_kp (kp_holds _ _ _ _)) hk hS1
  clear hk hz hS1 hW1
  refine lv_aload_n hx hb d_L_law_304 rfl (lv_at hl 2 rfl) ?_
  refine lv_aload_n hx hb d_L_law_305 rfl (lv_at hl 0 rfl) ?_
  refine lv_iload_n hx hb d_L_law_306 rfl (lv_at hl 3 rfl) ?_
  refine lv_iconst (v := 1) hx hb d_L_law_307 (by decide) ?_
  refine lv_iadd hx hb d_L_law_308 ?_
  refine rn_sld hx hb hX hbl hst.2.2.2.2.2 (t := 6 * n + 1) (nI_add (6 * n) 1) (by omega) hL d_L_law_309 ?_
  refine lv_aload_n hx hb d_L_law_310 rfl (lv_at hl 0 rfl) ?_
  refine lv_iload_n hx hb d_L_law_311 rfl (lv_at hl 3 rfl) ?_
  refine lv_iconst (v := 2) hx hb d_L_law_312 (by decide) ?_
  refine lv_iadd hx hb d_L_law_313 ?_
  refine rn_sld hx hb hX hbl hst.2.2.2.2.2 (t := 6 * n + 2) (nI_add (6 * n) 2) (by omega) hL d_L_law_314 ?_
  refine lv_aload_n hx hb d_L_law_315 rfl (lv_at hl 0 rfl) ?_
  refine lv_iload_n hx hb d_L_law_316 rfl (lv_at hl 3 rfl) ?_
  refine lv_iconst (v := 3) hx hb d_L_law_317 (by decide) ?_
  refine lv_iadd hx hb d_L_law_318 ?_
  refine rn_sld hx hb hX hbl hst.2.2.2.2.2 (t := 6 * n + 3) (nI_add (6 * n) 3) (by omega) hL d_L_law_319 ?_
  refine wc_calli (val := valM) (lay := fun u : CS => u.1) (cell := cellM ct) (u0 := (layM, d)) X (c_M_holds l D ct layM d _ (xs (6 * n + 1)) (xs (6 * n + 2)) (xs (6 * n + 3)) hI.nt hI.hhold) (cw_L_34 X.1.2.2.2.2 rfl rfl ⟨Nat.le_of_ble_eq_true rfl, Nat.le_of_ble_eq_true rfl⟩) hst.2.1 hst.2.2.2.2.2 hst.aM (aM0 hst.2.1) rfl rfl hl.1 rfl (Nat.le_of_ble_eq_true rfl) d_L_law_320 ⟨by show 29 + 3 * n + 0 + 0 ≤ 600000; omega, by show 8136 + 21 * n + 0 + 0 ≤ 7302250; omega⟩ (fun r1 u H1 locs1 hp hW1 hz hk hS1 => ?_)
  obtain ⟨rfl, rfl⟩ := hp
  have hst := hst.afterM (dM2 := (sp_holds d (xs (6 * n + 1)) (xs (6 * n + 2)) (xs (6 * n + 3))).2) hW1 hk hS1
  refine lv_icmp_eq (tgt := 698) hx hb d_L_law_323 (by decide) (fun _ => ?_) (fun q => absurd rfl q)
  refine W.widen (k := 29 + 3 * (n + 1)) (n := 8136 + 21 * (n + 1)) (by show 29 + 3 * n + 0 + 0 ≤ 29 + 3 * (n + 1); omega) (by show 8136 + 21 * n + 0 + 0 ≤ 8136 + 21 * (n + 1); omega) ?_
  exact kk _ _ _ _ _ ls hst (hI.holds _ _ _) rfl rfl hl
set_option maxHeartbeats 4000000 in
set_option maxRecDepth 100000 in
theorem op_fault {p : Program} {l : Launch} {e : Env} {s : State} {m : MethodId} {below : List Frame} {meth : Method} {c : Code} {D : va_G} {ct : Nat → ClassId} {b L n : Nat} {xs : Nat → Int32} (hL : L ≤ 3072) (hn : 6 * n + 6 ≤ L) (X : CX p m c code 4 s #[Value.ref b] wA R_L D classes (tysA ct)) (hX : va_X b L xs s s.heap) (hbl : b < s.heap.size) {x0 m0 : Nat}
    (kk : ∀ (layC layM : Nat → Nat → Nat) (d : DC) (H : Heap) (locs : List Loc) (ls : Array Slot), LawSt D ct s layC layM d d H locs → Inv d (n + 1) → layC 0 0 = x0 → layM 0 0 = m0 → lv_has ls 4 [(0, .ref b), (1, .ref x0), (2, .ref m0), (3, .int (nI (6 * n)))] → W p l e room_1 s m #[Value.ref b] below meth c H locs (29 + 3 * (n + 1)) (8136 + 21 * (n + 1)) (lw_Z below #[Value.ref b] s) (F0 m 698 ls []))
    {layC layM : Nat → Nat → Nat} {d : DC} {H : Heap} {locs : List Loc} {ls : Array Slot} (hst : LawSt D ct s layC layM d d H locs) (hI : Inv d n) (ex : layC 0 0 = x0) (em : layM 0 0 = m0) (hl : lv_has ls 4 [(0, .ref b), (1, .ref x0), (2, .ref m0), (3, .int (nI (6 * n)))]) :
    W p l e room_1 s m #[Value.ref b] below meth c H locs (29 + 3 * n) (8136 + 21 * n) (lw_Z below #[Value.ref b] s) (F0 m 328 ls []) := by
  subst ex; subst em
  have hx := X.1.1
  have hb := X.1.2.1
  refine lv_aload_n hx hb d_L_law_328 rfl (lv_at hl 1 rfl) ?_
  refine lv_aload_n hx hb d_L_law_329 rfl (lv_at hl 0 rfl) ?_
  refine lv_iload_n hx hb d_L_law_330 rfl (lv_at hl 3 rfl) ?_
  refine lv_iconst (v := 1) hx hb d_L_law_331 (by decide) ?_
  refine lv_iadd hx hb d_L_law_332 ?_
  refine rn_sld hx hb hX hbl hst.2.2.2.2.2 (t := 6 * n + 1) (nI_add (6 * n) 1) (by omega) hL d_L_law_333 ?_
  refine lv_aload_n hx hb d_L_law_334 rfl (lv_at hl 0 rfl) ?_
  refine lv_iload_n hx hb d_L_law_335 rfl (lv_at hl 3 rfl) ?_
  refine lv_iconst (v := 2) hx hb d_L_law_336 (by decide) ?_
  refine lv_iadd hx hb d_L_law_337 ?_
  refine rn_sld hx hb hX hbl hst.2.2.2.2.2 (t := 6 * n + 2) (nI_add (6 * n) 2) (by omega) hL d_L_law_338 ?_
  refine wc_calli (val := valC) (lay := fun u : CS => u.1) (cell := cellC ct) (u0 := (layC, d)) X (c_P_fault l D ct layC d _ (xs (6 * n + 1)) (xs (6 * n + 2)) hI.na hI.nt hI.ow (7680 * n) n (by omega) (by omega) hI.okc) (cw_L_35 X.1.2.2.2.2 rfl rfl ⟨Nat.le_of_ble_eq_true rfl, Nat.le_of_ble_eq_true rfl⟩) hst.1 hst.2.2.2.2.2 hst.aC (aC0 hst.1) rfl rfl hl.1 rfl (Nat.le_of_ble_eq_true rfl) d_L_law_339 ⟨by show 29 + 3 * n + 0 ≤ 600000; omega, by show 8136 + 21 * n + 0 ≤ 7302250; omega⟩ (fun r0 u H1 locs1 hp hW1 hz hk hS1 => ?_)
  obtain ⟨rfl, rfl⟩ := hp
  have hst := hst.afterC (layC2 := layC) (dC2 := (sp_fault d (xs (6 * n + 1)) (xs (6 * n + 2))).2) hW1 (dom_kp (kp_fault _ _ _)) hk hS1
  clear hk hz hS1 hW1
  refine lv_aload_n hx hb d_L_law_342 rfl (lv_at hl 2 rfl) ?_
  refine lv_aload_n hx hb d_L_law_343 rfl (lv_at hl 0 rfl) ?_
  refine lv_iload_n hx hb d_L_law_344 rfl (lv_at hl 3 rfl) ?_
  refine lv_iconst (v := 1) hx hb d_L_law_345 (by decide) ?_
  refine lv_iadd hx hb d_L_law_346 ?_
  refine rn_sld hx hb hX hbl hst.2.2.2.2.2 (t := 6 * n + 1) (nI_add (6 * n) 1) (by omega) hL d_L_law_347 ?_
  refine lv_aload_n hx hb d_L_law_348 rfl (lv_at hl 0 rfl) ?_
  refine lv_iload_n hx hb d_L_law_349 rfl (lv_at hl 3 rfl) ?_
  refine lv_iconst (v := 2) hx hb d_L_law_350 (by decide) ?_
  refine lv_iadd hx hb d_L_law_351 ?_
  refine rn_sld hx hb hX hbl hst.2.2.2.2.2 (t := 6 * n + 2) (nI_add (6 * n) 2) (by omega) hL d_L_law_352 ?_
  refine wc_calli (val := valM) (lay := fun u : CS => u.1) (cell := cellM ct) (u0 := (layM, d)) X (c_M_fault l D ct layM d _ (xs (6 * n + 1)) (xs (6 * n + 2)) hI.na hI.nt hI.ow hI.h15 hI.hrs (7680 * n) n (by omega) (by omega) hI.okc) (cw_L_39 X.1.2.2.2.2 rfl rfl ⟨Nat.le_of_ble_eq_true rfl, Nat.le_of_ble_eq_true rfl⟩) hst.2.1 hst.2.2.2.2.2 hst.aM (aM0 hst.2.1) rfl rfl hl.1 rfl (Nat.le_of_ble_eq_true rfl) d_L_law_353 ⟨by show 29 + 3 * n + 0 + 0 ≤ 600000; omega, by show 8136 + 21 * n + 0 + 0 ≤ 7302250; omega⟩ (fun r1 u H1 locs1 hp hW1 hz hk hS1 => ?_)
  obtain ⟨rfl, rfl⟩ := hp
  have hst := hst.afterM (dM2 := (sp_fault d (xs (6 * n + 1)) (xs (6 * n + 2))).2) hW1 hk hS1
  refine lv_icmp_eq (tgt := 698) hx hb d_L_law_356 (by decide) (fun _ => ?_) (fun q => absurd rfl q)
  refine W.widen (k := 29 + 3 * (n + 1)) (n := 8136 + 21 * (n + 1)) (by show 29 + 3 * n + 0 + 0 ≤ 29 + 3 * (n + 1); omega) (by show 8136 + 21 * n + 0 + 0 ≤ 8136 + 21 * (n + 1); omega) ?_
  exact kk _ _ _ _ _ ls hst (hI.fault (by omega) _ _) rfl rfl hl
set_option maxHeartbeats 4000000 in
set_option maxRecDepth 100000 in
theorem op_cleaned {p : Program} {l : Launch} {e : Env} {s : State} {m : MethodId} {below : List Frame} {meth : Method} {c : Code} {D : va_G} {ct : Nat → ClassId} {b L n : Nat} {xs : Nat → Int32} (hL : L ≤ 3072) (hn : 6 * n + 6 ≤ L) (X : CX p m c code 4 s #[Value.ref b] wA R_L D classes (tysA ct)) (hX : va_X b L xs s s.heap) (hbl : b < s.heap.size) {x0 m0 : Nat}
    (kk : ∀ (layC layM : Nat → Nat → Nat) (d : DC) (H : Heap) (locs : List Loc) (ls : Array Slot), LawSt D ct s layC layM d d H locs → Inv d (n + 1) → layC 0 0 = x0 → layM 0 0 = m0 → lv_has ls 4 [(0, .ref b), (1, .ref x0), (2, .ref m0), (3, .int (nI (6 * n)))] → W p l e room_1 s m #[Value.ref b] below meth c H locs (29 + 3 * (n + 1)) (8136 + 21 * (n + 1)) (lw_Z below #[Value.ref b] s) (F0 m 698 ls []))
    {layC layM : Nat → Nat → Nat} {d : DC} {H : Heap} {locs : List Loc} {ls : Array Slot} (hst : LawSt D ct s layC layM d d H locs) (hI : Inv d n) (ex : layC 0 0 = x0) (em : layM 0 0 = m0) (hl : lv_has ls 4 [(0, .ref b), (1, .ref x0), (2, .ref m0), (3, .int (nI (6 * n)))]) :
    W p l e room_1 s m #[Value.ref b] below meth c H locs (29 + 3 * n) (8136 + 21 * n) (lw_Z below #[Value.ref b] s) (F0 m 361 ls []) := by
  subst ex; subst em
  have hx := X.1.1
  have hb := X.1.2.1
  refine lv_aload_n hx hb d_L_law_361 rfl (lv_at hl 1 rfl) ?_
  refine lv_aload_n hx hb d_L_law_362 rfl (lv_at hl 0 rfl) ?_
  refine lv_iload_n hx hb d_L_law_363 rfl (lv_at hl 3 rfl) ?_
  refine lv_iconst (v := 1) hx hb d_L_law_364 (by decide) ?_
  refine lv_iadd hx hb d_L_law_365 ?_
  refine rn_sld hx hb hX hbl hst.2.2.2.2.2 (t := 6 * n + 1) (nI_add (6 * n) 1) (by omega) hL d_L_law_366 ?_
  refine lv_aload_n hx hb d_L_law_367 rfl (lv_at hl 0 rfl) ?_
  refine lv_iload_n hx hb d_L_law_368 rfl (lv_at hl 3 rfl) ?_
  refine lv_iconst (v := 2) hx hb d_L_law_369 (by decide) ?_
  refine lv_iadd hx hb d_L_law_370 ?_
  refine rn_sld hx hb hX hbl hst.2.2.2.2.2 (t := 6 * n + 2) (nI_add (6 * n) 2) (by omega) hL d_L_law_371 ?_
  refine wc_calli (val := valC) (lay := fun u : CS => u.1) (cell := cellC ct) (u0 := (layC, d)) X (c_P_cleaned l D ct layC d _ (xs (6 * n + 1)) (xs (6 * n + 2)) ) (cw_L_40 X.1.2.2.2.2 rfl rfl ⟨Nat.le_of_ble_eq_true rfl, Nat.le_of_ble_eq_true rfl⟩) hst.1 hst.2.2.2.2.2 hst.aC (aC0 hst.1) rfl rfl hl.1 rfl (Nat.le_of_ble_eq_true rfl) d_L_law_372 ⟨by show 29 + 3 * n + 0 ≤ 600000; omega, by show 8136 + 21 * n + 0 ≤ 7302250; omega⟩ (fun r0 u H1 locs1 hp hW1 hz hk hS1 => ?_)
  obtain ⟨rfl, rfl⟩ := hp
  have hst := hst.afterC (layC2 := layC) (dC2 := d) hW1 (fun q h => Or.inl h) hk hS1
  clear hk hz hS1 hW1
  refine lv_aload_n hx hb d_L_law_375 rfl (lv_at hl 2 rfl) ?_
  refine lv_aload_n hx hb d_L_law_376 rfl (lv_at hl 0 rfl) ?_
  refine lv_iload_n hx hb d_L_law_377 rfl (lv_at hl 3 rfl) ?_
  refine lv_iconst (v := 1) hx hb d_L_law_378 (by decide) ?_
  refine lv_iadd hx hb d_L_law_379 ?_
  refine rn_sld hx hb hX hbl hst.2.2.2.2.2 (t := 6 * n + 1) (nI_add (6 * n) 1) (by omega) hL d_L_law_380 ?_
  refine lv_aload_n hx hb d_L_law_381 rfl (lv_at hl 0 rfl) ?_
  refine lv_iload_n hx hb d_L_law_382 rfl (lv_at hl 3 rfl) ?_
  refine lv_iconst (v := 2) hx hb d_L_law_383 (by decide) ?_
  refine lv_iadd hx hb d_L_law_384 ?_
  refine rn_sld hx hb hX hbl hst.2.2.2.2.2 (t := 6 * n + 2) (nI_add (6 * n) 2) (by omega) hL d_L_law_385 ?_
  refine wc_calli (val := valM) (lay := fun u : CS => u.1) (cell := cellM ct) (u0 := (layM, d)) X (c_M_cleaned l D ct layM d _ (xs (6 * n + 1)) (xs (6 * n + 2)) (hI.hcl (by omega))) (cw_L_43 X.1.2.2.2.2 rfl rfl ⟨Nat.le_of_ble_eq_true rfl, Nat.le_of_ble_eq_true rfl⟩) hst.2.1 hst.2.2.2.2.2 hst.aM (aM0 hst.2.1) rfl rfl hl.1 rfl (Nat.le_of_ble_eq_true rfl) d_L_law_386 ⟨by show 29 + 3 * n + 0 + 0 ≤ 600000; omega, by show 8136 + 21 * n + 0 + 0 ≤ 7302250; omega⟩ (fun r1 u H1 locs1 hp hW1 hz hk hS1 => ?_)
  obtain ⟨rfl, rfl⟩ := hp
  have hst := hst.afterM (dM2 := d) hW1 hk hS1
  refine lv_icmp_eq (tgt := 698) hx hb d_L_law_389 (by decide) (fun _ => ?_) (fun q => absurd rfl q)
  refine W.widen (k := 29 + 3 * (n + 1)) (n := 8136 + 21 * (n + 1)) (by show 29 + 3 * n + 0 + 0 ≤ 29 + 3 * (n + 1); omega) (by show 8136 + 21 * n + 0 + 0 ≤ 8136 + 21 * (n + 1); omega) ?_
  exact kk _ _ _ _ _ ls hst (hI.mono) rfl rfl hl
set_option maxHeartbeats 4000000 in
set_option maxRecDepth 100000 in
theorem op_hook {p : Program} {l : Launch} {e : Env} {s : State} {m : MethodId} {below : List Frame} {meth : Method} {c : Code} {D : va_G} {ct : Nat → ClassId} {b L n : Nat} {xs : Nat → Int32} (hL : L ≤ 3072) (hn : 6 * n + 6 ≤ L) (X : CX p m c code 4 s #[Value.ref b] wA R_L D classes (tysA ct)) (hX : va_X b L xs s s.heap) (hbl : b < s.heap.size) {x0 m0 : Nat}
    (kk : ∀ (layC layM : Nat → Nat → Nat) (d : DC) (H : Heap) (locs : List Loc) (ls : Array Slot), LawSt D ct s layC layM d d H locs → Inv d (n + 1) → layC 0 0 = x0 → layM 0 0 = m0 → lv_has ls 4 [(0, .ref b), (1, .ref x0), (2, .ref m0), (3, .int (nI (6 * n)))] → W p l e room_1 s m #[Value.ref b] below meth c H locs (29 + 3 * (n + 1)) (8136 + 21 * (n + 1)) (lw_Z below #[Value.ref b] s) (F0 m 698 ls []))
    {layC layM : Nat → Nat → Nat} {d : DC} {H : Heap} {locs : List Loc} {ls : Array Slot} (hst : LawSt D ct s layC layM d d H locs) (hI : Inv d n) (ex : layC 0 0 = x0) (em : layM 0 0 = m0) (hl : lv_has ls 4 [(0, .ref b), (1, .ref x0), (2, .ref m0), (3, .int (nI (6 * n)))]) :
    W p l e room_1 s m #[Value.ref b] below meth c H locs (29 + 3 * n) (8136 + 21 * n) (lw_Z below #[Value.ref b] s) (F0 m 394 ls []) := by
  subst ex; subst em
  have hx := X.1.1
  have hb := X.1.2.1
  refine lv_aload_n hx hb d_L_law_394 rfl (lv_at hl 1 rfl) ?_
  refine lv_aload_n hx hb d_L_law_395 rfl (lv_at hl 0 rfl) ?_
  refine lv_iload_n hx hb d_L_law_396 rfl (lv_at hl 3 rfl) ?_
  refine lv_iconst (v := 1) hx hb d_L_law_397 (by decide) ?_
  refine lv_iadd hx hb d_L_law_398 ?_
  refine rn_sld hx hb hX hbl hst.2.2.2.2.2 (t := 6 * n + 1) (nI_add (6 * n) 1) (by omega) hL d_L_law_399 ?_
  refine lv_aload_n hx hb d_L_law_400 rfl (lv_at hl 0 rfl) ?_
  refine lv_iload_n hx hb d_L_law_401 rfl (lv_at hl 3 rfl) ?_
  refine lv_iconst (v := 2) hx hb d_L_law_402 (by decide) ?_
  refine lv_iadd hx hb d_L_law_403 ?_
  refine rn_sld hx hb hX hbl hst.2.2.2.2.2 (t := 6 * n + 2) (nI_add (6 * n) 2) (by omega) hL d_L_law_404 ?_
  refine lv_aload_n hx hb d_L_law_405 rfl (lv_at hl 0 rfl) ?_
  refine lv_iload_n hx hb d_L_law_406 rfl (lv_at hl 3 rfl) ?_
  refine lv_iconst (v := 3) hx hb d_L_law_407 (by decide) ?_
  refine lv_iadd hx hb d_L_law_408 ?_
  refine rn_sld hx hb hX hbl hst.2.2.2.2.2 (t := 6 * n + 3) (nI_add (6 * n) 3) (by omega) hL d_L_law_409 ?_
  refine lv_if_eq (tgt := 417) hx hb d_L_law_410 (by decide) (fun cz => ?_) (fun cz => ?_)
  · refine lv_iconst (v := 0) hx hb d_L_law_417 (by decide) ?_
    refine wc_calli (val := valC) (lay := fun u : CS => u.1) (cell := cellC ct) (u0 := (layC, d)) X (c_P_hook l D ct layC d _ (xs (6 * n + 1)) (xs (6 * n + 2)) 0 (by first | exact Or.inl rfl | exact Or.inr rfl)) (cw_L_44 X.1.2.2.2.2 rfl rfl ⟨Nat.le_of_ble_eq_true rfl, Nat.le_of_ble_eq_true rfl⟩) hst.1 hst.2.2.2.2.2 hst.aC (aC0 hst.1) rfl rfl hl.1 rfl (Nat.le_of_ble_eq_true rfl) d_L_law_418 ⟨by show 29 + 3 * n + 0 ≤ 600000; omega, by show 8136 + 21 * n + 0 ≤ 7302250; omega⟩ (fun r0 u H1 locs1 hp hW1 hz hk hS1 => ?_)
    obtain ⟨rfl, rfl⟩ := hp
    have hst := hst.afterC (layC2 := layC) (dC2 := (sp_hook d (xs (6 * n + 1)) (xs (6 * n + 2)) 0).2) hW1 (dom_kp (kp_hook _ _ _ _)) hk hS1
    clear hk hz hS1 hW1
    refine lv_aload_n hx hb d_L_law_421 rfl (lv_at hl 2 rfl) ?_
    refine lv_aload_n hx hb d_L_law_422 rfl (lv_at hl 0 rfl) ?_
    refine lv_iload_n hx hb d_L_law_423 rfl (lv_at hl 3 rfl) ?_
    refine lv_iconst (v := 1) hx hb d_L_law_424 (by decide) ?_
    refine lv_iadd hx hb d_L_law_425 ?_
    refine rn_sld hx hb hX hbl hst.2.2.2.2.2 (t := 6 * n + 1) (nI_add (6 * n) 1) (by omega) hL d_L_law_426 ?_
    refine lv_aload_n hx hb d_L_law_427 rfl (lv_at hl 0 rfl) ?_
    refine lv_iload_n hx hb d_L_law_428 rfl (lv_at hl 3 rfl) ?_
    refine lv_iconst (v := 2) hx hb d_L_law_429 (by decide) ?_
    refine lv_iadd hx hb d_L_law_430 ?_
    refine rn_sld hx hb hX hbl hst.2.2.2.2.2 (t := 6 * n + 2) (nI_add (6 * n) 2) (by omega) hL d_L_law_431 ?_
    refine lv_aload_n hx hb d_L_law_432 rfl (lv_at hl 0 rfl) ?_
    refine lv_iload_n hx hb d_L_law_433 rfl (lv_at hl 3 rfl) ?_
    refine lv_iconst (v := 3) hx hb d_L_law_434 (by decide) ?_
    refine lv_iadd hx hb d_L_law_435 ?_
    refine rn_sld hx hb hX hbl hst.2.2.2.2.2 (t := 6 * n + 3) (nI_add (6 * n) 3) (by omega) hL d_L_law_436 ?_
    refine lv_if_eq (tgt := 444) hx hb d_L_law_437 (by decide) (fun _ => ?_) (fun q => absurd cz q)
    refine lv_iconst (v := 0) hx hb d_L_law_444 (by decide) ?_
    refine wc_calli (val := valM) (lay := fun u : CS => u.1) (cell := cellM ct) (u0 := (layM, d)) X (c_M_hook l D ct layM d _ (xs (6 * n + 1)) (xs (6 * n + 2)) 0 (by first | exact Or.inl rfl | exact Or.inr rfl)) (cw_L_48 X.1.2.2.2.2 rfl rfl ⟨Nat.le_of_ble_eq_true rfl, Nat.le_of_ble_eq_true rfl⟩) hst.2.1 hst.2.2.2.2.2 hst.aM (aM0 hst.2.1) rfl rfl hl.1 rfl (Nat.le_of_ble_eq_true rfl) d_L_law_445 ⟨by show 29 + 3 * n + 0 + 0 ≤ 600000; omega, by show 8136 + 21 * n + 0 + 0 ≤ 7302250; omega⟩ (fun r1 u H1 locs1 hp hW1 hz hk hS1 => ?_)
    obtain ⟨rfl, rfl⟩ := hp
    have hst := hst.afterM (dM2 := (sp_hook d (xs (6 * n + 1)) (xs (6 * n + 2)) 0).2) hW1 hk hS1
    refine lv_icmp_eq (tgt := 698) hx hb d_L_law_448 (by decide) (fun _ => ?_) (fun q => absurd rfl q)
    refine W.widen (k := 29 + 3 * (n + 1)) (n := 8136 + 21 * (n + 1)) (by show 29 + 3 * n + 0 + 0 ≤ 29 + 3 * (n + 1); omega) (by show 8136 + 21 * n + 0 + 0 ≤ 8136 + 21 * (n + 1); omega) ?_
    exact kk _ _ _ _ _ ls hst (hI.hook _ _ _) rfl rfl hl
  · refine lv_iconst (v := 1) hx hb d_L_law_413 (by decide) ?_
    refine lv_goto (tgt := 418) hx hb d_L_law_414 (by decide) ?_
    refine wc_calli (val := valC) (lay := fun u : CS => u.1) (cell := cellC ct) (u0 := (layC, d)) X (c_P_hook l D ct layC d _ (xs (6 * n + 1)) (xs (6 * n + 2)) 1 (by first | exact Or.inl rfl | exact Or.inr rfl)) (cw_L_44 X.1.2.2.2.2 rfl rfl ⟨Nat.le_of_ble_eq_true rfl, Nat.le_of_ble_eq_true rfl⟩) hst.1 hst.2.2.2.2.2 hst.aC (aC0 hst.1) rfl rfl hl.1 rfl (Nat.le_of_ble_eq_true rfl) d_L_law_418 ⟨by show 29 + 3 * n + 0 ≤ 600000; omega, by show 8136 + 21 * n + 0 ≤ 7302250; omega⟩ (fun r0 u H1 locs1 hp hW1 hz hk hS1 => ?_)
    obtain ⟨rfl, rfl⟩ := hp
    have hst := hst.afterC (layC2 := layC) (dC2 := (sp_hook d (xs (6 * n + 1)) (xs (6 * n + 2)) 1).2) hW1 (dom_kp (kp_hook _ _ _ _)) hk hS1
    clear hk hz hS1 hW1
    refine lv_aload_n hx hb d_L_law_421 rfl (lv_at hl 2 rfl) ?_
    refine lv_aload_n hx hb d_L_law_422 rfl (lv_at hl 0 rfl) ?_
    refine lv_iload_n hx hb d_L_law_423 rfl (lv_at hl 3 rfl) ?_
    refine lv_iconst (v := 1) hx hb d_L_law_424 (by decide) ?_
    refine lv_iadd hx hb d_L_law_425 ?_
    refine rn_sld hx hb hX hbl hst.2.2.2.2.2 (t := 6 * n + 1) (nI_add (6 * n) 1) (by omega) hL d_L_law_426 ?_
    refine lv_aload_n hx hb d_L_law_427 rfl (lv_at hl 0 rfl) ?_
    refine lv_iload_n hx hb d_L_law_428 rfl (lv_at hl 3 rfl) ?_
    refine lv_iconst (v := 2) hx hb d_L_law_429 (by decide) ?_
    refine lv_iadd hx hb d_L_law_430 ?_
    refine rn_sld hx hb hX hbl hst.2.2.2.2.2 (t := 6 * n + 2) (nI_add (6 * n) 2) (by omega) hL d_L_law_431 ?_
    refine lv_aload_n hx hb d_L_law_432 rfl (lv_at hl 0 rfl) ?_
    refine lv_iload_n hx hb d_L_law_433 rfl (lv_at hl 3 rfl) ?_
    refine lv_iconst (v := 3) hx hb d_L_law_434 (by decide) ?_
    refine lv_iadd hx hb d_L_law_435 ?_
    refine rn_sld hx hb hX hbl hst.2.2.2.2.2 (t := 6 * n + 3) (nI_add (6 * n) 3) (by omega) hL d_L_law_436 ?_
    refine lv_if_eq (tgt := 444) hx hb d_L_law_437 (by decide) (fun q => absurd q cz) (fun _ => ?_)
    refine lv_iconst (v := 1) hx hb d_L_law_440 (by decide) ?_
    refine lv_goto (tgt := 445) hx hb d_L_law_441 (by decide) ?_
    refine wc_calli (val := valM) (lay := fun u : CS => u.1) (cell := cellM ct) (u0 := (layM, d)) X (c_M_hook l D ct layM d _ (xs (6 * n + 1)) (xs (6 * n + 2)) 1 (by first | exact Or.inl rfl | exact Or.inr rfl)) (cw_L_48 X.1.2.2.2.2 rfl rfl ⟨Nat.le_of_ble_eq_true rfl, Nat.le_of_ble_eq_true rfl⟩) hst.2.1 hst.2.2.2.2.2 hst.aM (aM0 hst.2.1) rfl rfl hl.1 rfl (Nat.le_of_ble_eq_true rfl) d_L_law_445 ⟨by show 29 + 3 * n + 0 + 0 ≤ 600000; omega, by show 8136 + 21 * n + 0 + 0 ≤ 7302250; omega⟩ (fun r1 u H1 locs1 hp hW1 hz hk hS1 => ?_)
    obtain ⟨rfl, rfl⟩ := hp
    have hst := hst.afterM (dM2 := (sp_hook d (xs (6 * n + 1)) (xs (6 * n + 2)) 1).2) hW1 hk hS1
    refine lv_icmp_eq (tgt := 698) hx hb d_L_law_448 (by decide) (fun _ => ?_) (fun q => absurd rfl q)
    refine W.widen (k := 29 + 3 * (n + 1)) (n := 8136 + 21 * (n + 1)) (by show 29 + 3 * n + 0 + 0 ≤ 29 + 3 * (n + 1); omega) (by show 8136 + 21 * n + 0 + 0 ≤ 8136 + 21 * (n + 1); omega) ?_
    exact kk _ _ _ _ _ ls hst (hI.hook _ _ _) rfl rfl hl
set_option maxHeartbeats 4000000 in
set_option maxRecDepth 100000 in
theorem op_arrival {p : Program} {l : Launch} {e : Env} {s : State} {m : MethodId} {below : List Frame} {meth : Method} {c : Code} {D : va_G} {ct : Nat → ClassId} {b L n : Nat} {xs : Nat → Int32} (hL : L ≤ 3072) (hn : 6 * n + 6 ≤ L) (X : CX p m c code 4 s #[Value.ref b] wA R_L D classes (tysA ct)) (hX : va_X b L xs s s.heap) (hbl : b < s.heap.size) {x0 m0 : Nat}
    (kk : ∀ (layC layM : Nat → Nat → Nat) (d : DC) (H : Heap) (locs : List Loc) (ls : Array Slot), LawSt D ct s layC layM d d H locs → Inv d (n + 1) → layC 0 0 = x0 → layM 0 0 = m0 → lv_has ls 4 [(0, .ref b), (1, .ref x0), (2, .ref m0), (3, .int (nI (6 * n)))] → W p l e room_1 s m #[Value.ref b] below meth c H locs (29 + 3 * (n + 1)) (8136 + 21 * (n + 1)) (lw_Z below #[Value.ref b] s) (F0 m 698 ls []))
    {layC layM : Nat → Nat → Nat} {d : DC} {H : Heap} {locs : List Loc} {ls : Array Slot} (hst : LawSt D ct s layC layM d d H locs) (hI : Inv d n) (ex : layC 0 0 = x0) (em : layM 0 0 = m0) (hl : lv_has ls 4 [(0, .ref b), (1, .ref x0), (2, .ref m0), (3, .int (nI (6 * n)))]) :
    W p l e room_1 s m #[Value.ref b] below meth c H locs (29 + 3 * n) (8136 + 21 * n) (lw_Z below #[Value.ref b] s) (F0 m 453 ls []) := by
  subst ex; subst em
  have hx := X.1.1
  have hb := X.1.2.1
  refine lv_aload_n hx hb d_L_law_453 rfl (lv_at hl 1 rfl) ?_
  refine lv_aload_n hx hb d_L_law_454 rfl (lv_at hl 0 rfl) ?_
  refine lv_iload_n hx hb d_L_law_455 rfl (lv_at hl 3 rfl) ?_
  refine lv_iconst (v := 1) hx hb d_L_law_456 (by decide) ?_
  refine lv_iadd hx hb d_L_law_457 ?_
  refine rn_sld hx hb hX hbl hst.2.2.2.2.2 (t := 6 * n + 1) (nI_add (6 * n) 1) (by omega) hL d_L_law_458 ?_
  refine lv_aload_n hx hb d_L_law_459 rfl (lv_at hl 0 rfl) ?_
  refine lv_iload_n hx hb d_L_law_460 rfl (lv_at hl 3 rfl) ?_
  refine lv_iconst (v := 2) hx hb d_L_law_461 (by decide) ?_
  refine lv_iadd hx hb d_L_law_462 ?_
  refine rn_sld hx hb hX hbl hst.2.2.2.2.2 (t := 6 * n + 2) (nI_add (6 * n) 2) (by omega) hL d_L_law_463 ?_
  refine lv_i2l hx hb d_L_law_464 rfl ?_
  refine lv_bipush (v := 32) hx hb d_L_law_465 (by decide) ?_
  refine lv_lshl hx hb d_L_law_467 rfl ?_
  refine lv_aload_n hx hb d_L_law_468 rfl (lv_at hl 0 rfl) ?_
  refine lv_iload_n hx hb d_L_law_469 rfl (lv_at hl 3 rfl) ?_
  refine lv_iconst (v := 3) hx hb d_L_law_470 (by decide) ?_
  refine lv_iadd hx hb d_L_law_471 ?_
  refine rn_sld hx hb hX hbl hst.2.2.2.2.2 (t := 6 * n + 3) (nI_add (6 * n) 3) (by omega) hL d_L_law_472 ?_
  refine lv_i2l hx hb d_L_law_473 rfl ?_
  refine lv_ldc2 (v := 4294967295) hx hb X.1.2.2.2.1 (X.1.2.2.2.2 _ (List.mem_of_getElem? (i := 353) rfl)) d_L_law_474 ?_
  refine lv_land hx hb d_L_law_477 ?_
  refine lv_lor hx hb d_L_law_478 ?_
  refine lv_topl (fun v2 ev2 => ?_)
  refine wc_calli (val := valC) (lay := fun u : CS => u.1) (cell := cellC ct) (u0 := (layC, d)) X (c_P_arrival l D ct layC d _ (xs (6 * n + 1)) v2 hI.na hI.nt hI.ow (7680 * n) n (by omega) (by omega) hI.okc) (cw_L_49 X.1.2.2.2.2 rfl rfl ⟨Nat.le_of_ble_eq_true rfl, Nat.le_of_ble_eq_true rfl⟩) hst.1 hst.2.2.2.2.2 hst.aC (aC0 hst.1) rfl rfl hl.1 rfl (Nat.le_of_ble_eq_true rfl) d_L_law_479 ⟨by show 29 + 3 * n + 0 ≤ 600000; omega, by show 8136 + 21 * n + 0 ≤ 7302250; omega⟩ (fun r0 u H1 locs1 hp hW1 hz hk hS1 => ?_)
  obtain ⟨rfl, rfl⟩ := hp
  have hst := hst.afterC (layC2 := layC) (dC2 := (sp_arrival d (xs (6 * n + 1)) v2).2) hW1 (dom_kp (kp_arrival _ _ _)) hk hS1
  clear hk hz hS1 hW1
  refine lv_aload_n hx hb d_L_law_482 rfl (lv_at hl 2 rfl) ?_
  refine lv_aload_n hx hb d_L_law_483 rfl (lv_at hl 0 rfl) ?_
  refine lv_iload_n hx hb d_L_law_484 rfl (lv_at hl 3 rfl) ?_
  refine lv_iconst (v := 1) hx hb d_L_law_485 (by decide) ?_
  refine lv_iadd hx hb d_L_law_486 ?_
  refine rn_sld hx hb hX hbl hst.2.2.2.2.2 (t := 6 * n + 1) (nI_add (6 * n) 1) (by omega) hL d_L_law_487 ?_
  refine lv_aload_n hx hb d_L_law_488 rfl (lv_at hl 0 rfl) ?_
  refine lv_iload_n hx hb d_L_law_489 rfl (lv_at hl 3 rfl) ?_
  refine lv_iconst (v := 2) hx hb d_L_law_490 (by decide) ?_
  refine lv_iadd hx hb d_L_law_491 ?_
  refine rn_sld hx hb hX hbl hst.2.2.2.2.2 (t := 6 * n + 2) (nI_add (6 * n) 2) (by omega) hL d_L_law_492 ?_
  refine lv_i2l hx hb d_L_law_493 rfl ?_
  refine lv_bipush (v := 32) hx hb d_L_law_494 (by decide) ?_
  refine lv_lshl hx hb d_L_law_496 rfl ?_
  refine lv_aload_n hx hb d_L_law_497 rfl (lv_at hl 0 rfl) ?_
  refine lv_iload_n hx hb d_L_law_498 rfl (lv_at hl 3 rfl) ?_
  refine lv_iconst (v := 3) hx hb d_L_law_499 (by decide) ?_
  refine lv_iadd hx hb d_L_law_500 ?_
  refine rn_sld hx hb hX hbl hst.2.2.2.2.2 (t := 6 * n + 3) (nI_add (6 * n) 3) (by omega) hL d_L_law_501 ?_
  refine lv_i2l hx hb d_L_law_502 rfl ?_
  refine lv_ldc2 (v := 4294967295) hx hb X.1.2.2.2.1 (X.1.2.2.2.2 _ (List.mem_of_getElem? (i := 353) rfl)) d_L_law_503 ?_
  refine lv_land hx hb d_L_law_506 ?_
  refine lv_lor hx hb d_L_law_507 ?_
  refine lv_topl (fun w2 ew2 => ?_)
  obtain rfl : v2 = w2 := ev2.trans ew2.symm
  refine wc_calli (val := valM) (lay := fun u : CS => u.1) (cell := cellM ct) (u0 := (layM, d)) X (c_M_arrival l D ct layM d _ (xs (6 * n + 1)) v2 hI.na hI.nt hI.ow hI.h15 hI.hrs (7680 * n) n (by omega) (by omega) hI.okc hI.htold) (cw_L_52 X.1.2.2.2.2 rfl rfl ⟨Nat.le_of_ble_eq_true rfl, Nat.le_of_ble_eq_true rfl⟩) hst.2.1 hst.2.2.2.2.2 hst.aM (aM0 hst.2.1) rfl rfl hl.1 rfl (Nat.le_of_ble_eq_true rfl) d_L_law_508 ⟨by show 29 + 3 * n + 0 + 0 ≤ 600000; omega, by show 8136 + 21 * n + 0 + 0 ≤ 7302250; omega⟩ (fun r1 u H1 locs1 hp hW1 hz hk hS1 => ?_)
  obtain ⟨rfl, rfl⟩ := hp
  have hst := hst.afterM (dM2 := (sp_arrival d (xs (6 * n + 1)) v2).2) hW1 hk hS1
  refine lv_icmp_eq (tgt := 698) hx hb d_L_law_511 (by decide) (fun _ => ?_) (fun q => absurd rfl q)
  refine W.widen (k := 29 + 3 * (n + 1)) (n := 8136 + 21 * (n + 1)) (by show 29 + 3 * n + 0 + 0 ≤ 29 + 3 * (n + 1); omega) (by show 8136 + 21 * n + 0 + 0 ≤ 8136 + 21 * (n + 1); omega) ?_
  exact kk _ _ _ _ _ ls hst (hI.arrival (by omega) _ _) rfl rfl hl
set_option maxHeartbeats 4000000 in
set_option maxRecDepth 100000 in
theorem op_trusted {p : Program} {l : Launch} {e : Env} {s : State} {m : MethodId} {below : List Frame} {meth : Method} {c : Code} {D : va_G} {ct : Nat → ClassId} {b L n : Nat} {xs : Nat → Int32} (hL : L ≤ 3072) (hn : 6 * n + 6 ≤ L) (X : CX p m c code 4 s #[Value.ref b] wA R_L D classes (tysA ct)) (hX : va_X b L xs s s.heap) (hbl : b < s.heap.size) {x0 m0 : Nat}
    (kk : ∀ (layC layM : Nat → Nat → Nat) (d : DC) (H : Heap) (locs : List Loc) (ls : Array Slot), LawSt D ct s layC layM d d H locs → Inv d (n + 1) → layC 0 0 = x0 → layM 0 0 = m0 → lv_has ls 4 [(0, .ref b), (1, .ref x0), (2, .ref m0), (3, .int (nI (6 * n)))] → W p l e room_1 s m #[Value.ref b] below meth c H locs (29 + 3 * (n + 1)) (8136 + 21 * (n + 1)) (lw_Z below #[Value.ref b] s) (F0 m 698 ls []))
    {layC layM : Nat → Nat → Nat} {d : DC} {H : Heap} {locs : List Loc} {ls : Array Slot} (hst : LawSt D ct s layC layM d d H locs) (hI : Inv d n) (ex : layC 0 0 = x0) (em : layM 0 0 = m0) (hl : lv_has ls 4 [(0, .ref b), (1, .ref x0), (2, .ref m0), (3, .int (nI (6 * n)))]) :
    W p l e room_1 s m #[Value.ref b] below meth c H locs (29 + 3 * n) (8136 + 21 * n) (lw_Z below #[Value.ref b] s) (F0 m 516 ls []) := by
  subst ex; subst em
  have hx := X.1.1
  have hb := X.1.2.1
  refine lv_aload_n hx hb d_L_law_516 rfl (lv_at hl 1 rfl) ?_
  refine lv_aload_n hx hb d_L_law_517 rfl (lv_at hl 0 rfl) ?_
  refine lv_iload_n hx hb d_L_law_518 rfl (lv_at hl 3 rfl) ?_
  refine lv_iconst (v := 1) hx hb d_L_law_519 (by decide) ?_
  refine lv_iadd hx hb d_L_law_520 ?_
  refine rn_sld hx hb hX hbl hst.2.2.2.2.2 (t := 6 * n + 1) (nI_add (6 * n) 1) (by omega) hL d_L_law_521 ?_
  refine lv_aload_n hx hb d_L_law_522 rfl (lv_at hl 0 rfl) ?_
  refine lv_iload_n hx hb d_L_law_523 rfl (lv_at hl 3 rfl) ?_
  refine lv_iconst (v := 2) hx hb d_L_law_524 (by decide) ?_
  refine lv_iadd hx hb d_L_law_525 ?_
  refine rn_sld hx hb hX hbl hst.2.2.2.2.2 (t := 6 * n + 2) (nI_add (6 * n) 2) (by omega) hL d_L_law_526 ?_
  refine lv_i2l hx hb d_L_law_527 rfl ?_
  refine lv_bipush (v := 32) hx hb d_L_law_528 (by decide) ?_
  refine lv_lshl hx hb d_L_law_530 rfl ?_
  refine lv_aload_n hx hb d_L_law_531 rfl (lv_at hl 0 rfl) ?_
  refine lv_iload_n hx hb d_L_law_532 rfl (lv_at hl 3 rfl) ?_
  refine lv_iconst (v := 3) hx hb d_L_law_533 (by decide) ?_
  refine lv_iadd hx hb d_L_law_534 ?_
  refine rn_sld hx hb hX hbl hst.2.2.2.2.2 (t := 6 * n + 3) (nI_add (6 * n) 3) (by omega) hL d_L_law_535 ?_
  refine lv_i2l hx hb d_L_law_536 rfl ?_
  refine lv_ldc2 (v := 4294967295) hx hb X.1.2.2.2.1 (X.1.2.2.2.2 _ (List.mem_of_getElem? (i := 353) rfl)) d_L_law_537 ?_
  refine lv_land hx hb d_L_law_540 ?_
  refine lv_lor hx hb d_L_law_541 ?_
  refine lv_topl (fun v2 ev2 => ?_)
  refine wc_calli (val := valC) (lay := fun u : CS => u.1) (cell := cellC ct) (u0 := (layC, d)) X (c_P_trusted l D ct layC d _ (xs (6 * n + 1)) v2 hI.na hI.nt hI.ow hI.hrcs) (cw_L_53 X.1.2.2.2.2 rfl rfl ⟨Nat.le_of_ble_eq_true rfl, Nat.le_of_ble_eq_true rfl⟩) hst.1 hst.2.2.2.2.2 hst.aC (aC0 hst.1) rfl rfl hl.1 rfl (Nat.le_of_ble_eq_true rfl) d_L_law_542 ⟨by show 29 + 3 * n + 0 ≤ 600000; omega, by show 8136 + 21 * n + 0 ≤ 7302250; omega⟩ (fun r0 u H1 locs1 hp hW1 hz hk hS1 => ?_)
  obtain ⟨rfl, rfl⟩ := hp
  have hst := hst.afterC (layC2 := layC) (dC2 := d) hW1 (fun q h => Or.inl h) hk hS1
  clear hk hz hS1 hW1
  refine lv_aload_n hx hb d_L_law_545 rfl (lv_at hl 2 rfl) ?_
  refine lv_aload_n hx hb d_L_law_546 rfl (lv_at hl 0 rfl) ?_
  refine lv_iload_n hx hb d_L_law_547 rfl (lv_at hl 3 rfl) ?_
  refine lv_iconst (v := 1) hx hb d_L_law_548 (by decide) ?_
  refine lv_iadd hx hb d_L_law_549 ?_
  refine rn_sld hx hb hX hbl hst.2.2.2.2.2 (t := 6 * n + 1) (nI_add (6 * n) 1) (by omega) hL d_L_law_550 ?_
  refine lv_aload_n hx hb d_L_law_551 rfl (lv_at hl 0 rfl) ?_
  refine lv_iload_n hx hb d_L_law_552 rfl (lv_at hl 3 rfl) ?_
  refine lv_iconst (v := 2) hx hb d_L_law_553 (by decide) ?_
  refine lv_iadd hx hb d_L_law_554 ?_
  refine rn_sld hx hb hX hbl hst.2.2.2.2.2 (t := 6 * n + 2) (nI_add (6 * n) 2) (by omega) hL d_L_law_555 ?_
  refine lv_i2l hx hb d_L_law_556 rfl ?_
  refine lv_bipush (v := 32) hx hb d_L_law_557 (by decide) ?_
  refine lv_lshl hx hb d_L_law_559 rfl ?_
  refine lv_aload_n hx hb d_L_law_560 rfl (lv_at hl 0 rfl) ?_
  refine lv_iload_n hx hb d_L_law_561 rfl (lv_at hl 3 rfl) ?_
  refine lv_iconst (v := 3) hx hb d_L_law_562 (by decide) ?_
  refine lv_iadd hx hb d_L_law_563 ?_
  refine rn_sld hx hb hX hbl hst.2.2.2.2.2 (t := 6 * n + 3) (nI_add (6 * n) 3) (by omega) hL d_L_law_564 ?_
  refine lv_i2l hx hb d_L_law_565 rfl ?_
  refine lv_ldc2 (v := 4294967295) hx hb X.1.2.2.2.1 (X.1.2.2.2.2 _ (List.mem_of_getElem? (i := 353) rfl)) d_L_law_566 ?_
  refine lv_land hx hb d_L_law_569 ?_
  refine lv_lor hx hb d_L_law_570 ?_
  refine lv_topl (fun w2 ew2 => ?_)
  obtain rfl : v2 = w2 := ev2.trans ew2.symm
  refine wc_calli (val := valM) (lay := fun u : CS => u.1) (cell := cellM ct) (u0 := (layM, d)) X (c_M_trusted l D ct layM d _ (xs (6 * n + 1)) v2 hI.na hI.nt hI.ow hI.h15 hI.hreg) (cw_L_56 X.1.2.2.2.2 rfl rfl ⟨Nat.le_of_ble_eq_true rfl, Nat.le_of_ble_eq_true rfl⟩) hst.2.1 hst.2.2.2.2.2 hst.aM (aM0 hst.2.1) rfl rfl hl.1 rfl (Nat.le_of_ble_eq_true rfl) d_L_law_571 ⟨by show 29 + 3 * n + 0 + 0 ≤ 600000; omega, by show 8136 + 21 * n + 0 + 0 ≤ 7302250; omega⟩ (fun r1 u H1 locs1 hp hW1 hz hk hS1 => ?_)
  obtain ⟨rfl, rfl⟩ := hp
  have hst := hst.afterM (dM2 := d) hW1 hk hS1
  refine lv_icmp_eq (tgt := 698) hx hb d_L_law_574 (by decide) (fun _ => ?_) (fun q => absurd rfl q)
  refine W.widen (k := 29 + 3 * (n + 1)) (n := 8136 + 21 * (n + 1)) (by show 29 + 3 * n + 0 + 0 ≤ 29 + 3 * (n + 1); omega) (by show 8136 + 21 * n + 0 + 0 ≤ 8136 + 21 * (n + 1); omega) ?_
  exact kk _ _ _ _ _ ls hst (hI.mono) rfl rfl hl
set_option maxHeartbeats 4000000 in
set_option maxRecDepth 100000 in
theorem op_access {p : Program} {l : Launch} {e : Env} {s : State} {m : MethodId} {below : List Frame} {meth : Method} {c : Code} {D : va_G} {ct : Nat → ClassId} {b L n : Nat} {xs : Nat → Int32} (hL : L ≤ 3072) (hn : 6 * n + 6 ≤ L) (X : CX p m c code 4 s #[Value.ref b] wA R_L D classes (tysA ct)) (hX : va_X b L xs s s.heap) (hbl : b < s.heap.size) {x0 m0 : Nat}
    (kk : ∀ (layC layM : Nat → Nat → Nat) (d : DC) (H : Heap) (locs : List Loc) (ls : Array Slot), LawSt D ct s layC layM d d H locs → Inv d (n + 1) → layC 0 0 = x0 → layM 0 0 = m0 → lv_has ls 4 [(0, .ref b), (1, .ref x0), (2, .ref m0), (3, .int (nI (6 * n)))] → W p l e room_1 s m #[Value.ref b] below meth c H locs (29 + 3 * (n + 1)) (8136 + 21 * (n + 1)) (lw_Z below #[Value.ref b] s) (F0 m 698 ls []))
    {layC layM : Nat → Nat → Nat} {d : DC} {H : Heap} {locs : List Loc} {ls : Array Slot} (hst : LawSt D ct s layC layM d d H locs) (hI : Inv d n) (ex : layC 0 0 = x0) (em : layM 0 0 = m0) (hl : lv_has ls 4 [(0, .ref b), (1, .ref x0), (2, .ref m0), (3, .int (nI (6 * n)))]) :
    W p l e room_1 s m #[Value.ref b] below meth c H locs (29 + 3 * n) (8136 + 21 * n) (lw_Z below #[Value.ref b] s) (F0 m 579 ls []) := by
  subst ex; subst em
  have hx := X.1.1
  have hb := X.1.2.1
  refine lv_aload_n hx hb d_L_law_579 rfl (lv_at hl 1 rfl) ?_
  refine lv_aload_n hx hb d_L_law_580 rfl (lv_at hl 0 rfl) ?_
  refine lv_iload_n hx hb d_L_law_581 rfl (lv_at hl 3 rfl) ?_
  refine lv_iconst (v := 1) hx hb d_L_law_582 (by decide) ?_
  refine lv_iadd hx hb d_L_law_583 ?_
  refine rn_sld hx hb hX hbl hst.2.2.2.2.2 (t := 6 * n + 1) (nI_add (6 * n) 1) (by omega) hL d_L_law_584 ?_
  refine lv_aload_n hx hb d_L_law_585 rfl (lv_at hl 0 rfl) ?_
  refine lv_iload_n hx hb d_L_law_586 rfl (lv_at hl 3 rfl) ?_
  refine lv_iconst (v := 2) hx hb d_L_law_587 (by decide) ?_
  refine lv_iadd hx hb d_L_law_588 ?_
  refine rn_sld hx hb hX hbl hst.2.2.2.2.2 (t := 6 * n + 2) (nI_add (6 * n) 2) (by omega) hL d_L_law_589 ?_
  refine lv_i2l hx hb d_L_law_590 rfl ?_
  refine lv_bipush (v := 32) hx hb d_L_law_591 (by decide) ?_
  refine lv_lshl hx hb d_L_law_593 rfl ?_
  refine lv_aload_n hx hb d_L_law_594 rfl (lv_at hl 0 rfl) ?_
  refine lv_iload_n hx hb d_L_law_595 rfl (lv_at hl 3 rfl) ?_
  refine lv_iconst (v := 3) hx hb d_L_law_596 (by decide) ?_
  refine lv_iadd hx hb d_L_law_597 ?_
  refine rn_sld hx hb hX hbl hst.2.2.2.2.2 (t := 6 * n + 3) (nI_add (6 * n) 3) (by omega) hL d_L_law_598 ?_
  refine lv_i2l hx hb d_L_law_599 rfl ?_
  refine lv_ldc2 (v := 4294967295) hx hb X.1.2.2.2.1 (X.1.2.2.2.2 _ (List.mem_of_getElem? (i := 353) rfl)) d_L_law_600 ?_
  refine lv_land hx hb d_L_law_603 ?_
  refine lv_lor hx hb d_L_law_604 ?_
  refine lv_topl (fun v2 ev2 => ?_)
  refine wc_calli (val := valC) (lay := fun u : CS => u.1) (cell := cellC ct) (u0 := (layC, d)) X (c_P_access l D ct layC d _ (xs (6 * n + 1)) v2 hI.na hI.nt hI.ow (7680 * n) n (by omega) (by omega) hI.okc hI.hrcs) (cw_L_57 X.1.2.2.2.2 rfl rfl ⟨Nat.le_of_ble_eq_true rfl, Nat.le_of_ble_eq_true rfl⟩) hst.1 hst.2.2.2.2.2 hst.aC (aC0 hst.1) rfl rfl hl.1 rfl (Nat.le_of_ble_eq_true rfl) d_L_law_605 ⟨by show 29 + 3 * n + 0 ≤ 600000; omega, by show 8136 + 21 * n + 0 ≤ 7302250; omega⟩ (fun r0 u H1 locs1 hp hW1 hz hk hS1 => ?_)
  obtain ⟨rfl, rfl⟩ := hp
  have hst := hst.afterC (layC2 := layC) (dC2 := (sp_access d (xs (6 * n + 1)) v2).2) hW1 (dom_kp (kp_access _ _ _)) hk hS1
  clear hk hz hS1 hW1
  refine lv_aload_n hx hb d_L_law_608 rfl (lv_at hl 2 rfl) ?_
  refine lv_aload_n hx hb d_L_law_609 rfl (lv_at hl 0 rfl) ?_
  refine lv_iload_n hx hb d_L_law_610 rfl (lv_at hl 3 rfl) ?_
  refine lv_iconst (v := 1) hx hb d_L_law_611 (by decide) ?_
  refine lv_iadd hx hb d_L_law_612 ?_
  refine rn_sld hx hb hX hbl hst.2.2.2.2.2 (t := 6 * n + 1) (nI_add (6 * n) 1) (by omega) hL d_L_law_613 ?_
  refine lv_aload_n hx hb d_L_law_614 rfl (lv_at hl 0 rfl) ?_
  refine lv_iload_n hx hb d_L_law_615 rfl (lv_at hl 3 rfl) ?_
  refine lv_iconst (v := 2) hx hb d_L_law_616 (by decide) ?_
  refine lv_iadd hx hb d_L_law_617 ?_
  refine rn_sld hx hb hX hbl hst.2.2.2.2.2 (t := 6 * n + 2) (nI_add (6 * n) 2) (by omega) hL d_L_law_618 ?_
  refine lv_i2l hx hb d_L_law_619 rfl ?_
  refine lv_bipush (v := 32) hx hb d_L_law_620 (by decide) ?_
  refine lv_lshl hx hb d_L_law_622 rfl ?_
  refine lv_aload_n hx hb d_L_law_623 rfl (lv_at hl 0 rfl) ?_
  refine lv_iload_n hx hb d_L_law_624 rfl (lv_at hl 3 rfl) ?_
  refine lv_iconst (v := 3) hx hb d_L_law_625 (by decide) ?_
  refine lv_iadd hx hb d_L_law_626 ?_
  refine rn_sld hx hb hX hbl hst.2.2.2.2.2 (t := 6 * n + 3) (nI_add (6 * n) 3) (by omega) hL d_L_law_627 ?_
  refine lv_i2l hx hb d_L_law_628 rfl ?_
  refine lv_ldc2 (v := 4294967295) hx hb X.1.2.2.2.1 (X.1.2.2.2.2 _ (List.mem_of_getElem? (i := 353) rfl)) d_L_law_629 ?_
  refine lv_land hx hb d_L_law_632 ?_
  refine lv_lor hx hb d_L_law_633 ?_
  refine lv_topl (fun w2 ew2 => ?_)
  obtain rfl : v2 = w2 := ev2.trans ew2.symm
  refine wc_calli (val := valM) (lay := fun u : CS => u.1) (cell := cellM ct) (u0 := (layM, d)) X (c_M_access l D ct layM d _ (xs (6 * n + 1)) v2 hI.na hI.nt hI.ow hI.h15 hI.hrs (7680 * n) n (by omega) (by omega) hI.okc hI.hreg) (cw_L_60 X.1.2.2.2.2 rfl rfl ⟨Nat.le_of_ble_eq_true rfl, Nat.le_of_ble_eq_true rfl⟩) hst.2.1 hst.2.2.2.2.2 hst.aM (aM0 hst.2.1) rfl rfl hl.1 rfl (Nat.le_of_ble_eq_true rfl) d_L_law_634 ⟨by show 29 + 3 * n + 0 + 0 ≤ 600000; omega, by show 8136 + 21 * n + 0 + 0 ≤ 7302250; omega⟩ (fun r1 u H1 locs1 hp hW1 hz hk hS1 => ?_)
  obtain ⟨rfl, rfl⟩ := hp
  have hst := hst.afterM (dM2 := (sp_access d (xs (6 * n + 1)) v2).2) hW1 hk hS1
  refine lv_icmp_eq (tgt := 698) hx hb d_L_law_637 (by decide) (fun _ => ?_) (fun q => absurd rfl q)
  refine W.widen (k := 29 + 3 * (n + 1)) (n := 8136 + 21 * (n + 1)) (by show 29 + 3 * n + 0 + 0 ≤ 29 + 3 * (n + 1); omega) (by show 8136 + 21 * n + 0 + 0 ≤ 8136 + 21 * (n + 1); omega) ?_
  exact kk _ _ _ _ _ ls hst (hI.access (by omega) _ _) rfl rfl hl
set_option maxHeartbeats 4000000 in
set_option maxRecDepth 100000 in
theorem op_state {p : Program} {l : Launch} {e : Env} {s : State} {m : MethodId} {below : List Frame} {meth : Method} {c : Code} {D : va_G} {ct : Nat → ClassId} {b L n : Nat} {xs : Nat → Int32} (hL : L ≤ 3072) (hn : 6 * n + 6 ≤ L) (X : CX p m c code 4 s #[Value.ref b] wA R_L D classes (tysA ct)) (hX : va_X b L xs s s.heap) (hbl : b < s.heap.size) {x0 m0 : Nat}
    (kk : ∀ (layC layM : Nat → Nat → Nat) (d : DC) (H : Heap) (locs : List Loc) (ls : Array Slot), LawSt D ct s layC layM d d H locs → Inv d (n + 1) → layC 0 0 = x0 → layM 0 0 = m0 → lv_has ls 4 [(0, .ref b), (1, .ref x0), (2, .ref m0), (3, .int (nI (6 * n)))] → W p l e room_1 s m #[Value.ref b] below meth c H locs (29 + 3 * (n + 1)) (8136 + 21 * (n + 1)) (lw_Z below #[Value.ref b] s) (F0 m 698 ls []))
    {layC layM : Nat → Nat → Nat} {d : DC} {H : Heap} {locs : List Loc} {ls : Array Slot} (hst : LawSt D ct s layC layM d d H locs) (hI : Inv d n) (ex : layC 0 0 = x0) (em : layM 0 0 = m0) (hl : lv_has ls 4 [(0, .ref b), (1, .ref x0), (2, .ref m0), (3, .int (nI (6 * n)))]) :
    W p l e room_1 s m #[Value.ref b] below meth c H locs (29 + 3 * n) (8136 + 21 * n) (lw_Z below #[Value.ref b] s) (F0 m 642 ls []) := by
  subst ex; subst em
  have hx := X.1.1
  have hb := X.1.2.1
  refine lv_aload_n hx hb d_L_law_642 rfl (lv_at hl 1 rfl) ?_
  refine lv_aload_n hx hb d_L_law_643 rfl (lv_at hl 0 rfl) ?_
  refine lv_iload_n hx hb d_L_law_644 rfl (lv_at hl 3 rfl) ?_
  refine lv_iconst (v := 1) hx hb d_L_law_645 (by decide) ?_
  refine lv_iadd hx hb d_L_law_646 ?_
  refine rn_sld hx hb hX hbl hst.2.2.2.2.2 (t := 6 * n + 1) (nI_add (6 * n) 1) (by omega) hL d_L_law_647 ?_
  refine wc_calli (val := valC) (lay := fun u : CS => u.1) (cell := cellC ct) (u0 := (layC, d)) X (c_P_state l D ct layC d _ (xs (6 * n + 1)) hI.na hI.ow) (cw_L_61 X.1.2.2.2.2 rfl rfl ⟨Nat.le_of_ble_eq_true rfl, Nat.le_of_ble_eq_true rfl⟩) hst.1 hst.2.2.2.2.2 hst.aC (aC0 hst.1) rfl rfl hl.1 rfl (Nat.le_of_ble_eq_true rfl) d_L_law_648 ⟨by show 29 + 3 * n + 0 ≤ 600000; omega, by show 8136 + 21 * n + 0 ≤ 7302250; omega⟩ (fun r0 u H1 locs1 hp hW1 hz hk hS1 => ?_)
  obtain ⟨rfl, rfl⟩ := hp
  have hst := hst.afterC (layC2 := layC) (dC2 := d) hW1 (fun q h => Or.inl h) hk hS1
  clear hk hz hS1 hW1
  refine lv_aload_n hx hb d_L_law_651 rfl (lv_at hl 2 rfl) ?_
  refine lv_aload_n hx hb d_L_law_652 rfl (lv_at hl 0 rfl) ?_
  refine lv_iload_n hx hb d_L_law_653 rfl (lv_at hl 3 rfl) ?_
  refine lv_iconst (v := 1) hx hb d_L_law_654 (by decide) ?_
  refine lv_iadd hx hb d_L_law_655 ?_
  refine rn_sld hx hb hX hbl hst.2.2.2.2.2 (t := 6 * n + 1) (nI_add (6 * n) 1) (by omega) hL d_L_law_656 ?_
  refine wc_calli (val := valM) (lay := fun u : CS => u.1) (cell := cellM ct) (u0 := (layM, d)) X (c_M_state l D ct layM d _ (xs (6 * n + 1)) hI.na) (cw_L_64 X.1.2.2.2.2 rfl rfl ⟨Nat.le_of_ble_eq_true rfl, Nat.le_of_ble_eq_true rfl⟩) hst.2.1 hst.2.2.2.2.2 hst.aM (aM0 hst.2.1) rfl rfl hl.1 rfl (Nat.le_of_ble_eq_true rfl) d_L_law_657 ⟨by show 29 + 3 * n + 0 + 0 ≤ 600000; omega, by show 8136 + 21 * n + 0 + 0 ≤ 7302250; omega⟩ (fun r1 u H1 locs1 hp hW1 hz hk hS1 => ?_)
  obtain ⟨rfl, rfl⟩ := hp
  have hst := hst.afterM (dM2 := d) hW1 hk hS1
  refine lv_icmp_eq (tgt := 698) hx hb d_L_law_660 (by decide) (fun _ => ?_) (fun q => absurd rfl q)
  refine W.widen (k := 29 + 3 * (n + 1)) (n := 8136 + 21 * (n + 1)) (by show 29 + 3 * n + 0 + 0 ≤ 29 + 3 * (n + 1); omega) (by show 8136 + 21 * n + 0 + 0 ≤ 8136 + 21 * (n + 1); omega) ?_
  exact kk _ _ _ _ _ ls hst (hI.mono) rfl rfl hl
set_option maxHeartbeats 4000000 in
set_option maxRecDepth 100000 in
theorem op_log {p : Program} {l : Launch} {e : Env} {s : State} {m : MethodId} {below : List Frame} {meth : Method} {c : Code} {D : va_G} {ct : Nat → ClassId} {b L n : Nat} {xs : Nat → Int32} (hL : L ≤ 3072) (hn : 6 * n + 6 ≤ L) (X : CX p m c code 4 s #[Value.ref b] wA R_L D classes (tysA ct)) (hX : va_X b L xs s s.heap) (hbl : b < s.heap.size) {x0 m0 : Nat}
    (kk : ∀ (layC layM : Nat → Nat → Nat) (d : DC) (H : Heap) (locs : List Loc) (ls : Array Slot), LawSt D ct s layC layM d d H locs → Inv d (n + 1) → layC 0 0 = x0 → layM 0 0 = m0 → lv_has ls 4 [(0, .ref b), (1, .ref x0), (2, .ref m0), (3, .int (nI (6 * n)))] → W p l e room_1 s m #[Value.ref b] below meth c H locs (29 + 3 * (n + 1)) (8136 + 21 * (n + 1)) (lw_Z below #[Value.ref b] s) (F0 m 698 ls []))
    {layC layM : Nat → Nat → Nat} {d : DC} {H : Heap} {locs : List Loc} {ls : Array Slot} (hst : LawSt D ct s layC layM d d H locs) (hI : Inv d n) (ex : layC 0 0 = x0) (em : layM 0 0 = m0) (hl : lv_has ls 4 [(0, .ref b), (1, .ref x0), (2, .ref m0), (3, .int (nI (6 * n)))]) :
    W p l e room_1 s m #[Value.ref b] below meth c H locs (29 + 3 * n) (8136 + 21 * n) (lw_Z below #[Value.ref b] s) (F0 m 665 ls []) := by
  subst ex; subst em
  have hx := X.1.1
  have hb := X.1.2.1
  refine lv_aload_n hx hb d_L_law_665 rfl (lv_at hl 1 rfl) ?_
  refine lv_aload_n hx hb d_L_law_666 rfl (lv_at hl 0 rfl) ?_
  refine lv_iload_n hx hb d_L_law_667 rfl (lv_at hl 3 rfl) ?_
  refine lv_iconst (v := 1) hx hb d_L_law_668 (by decide) ?_
  refine lv_iadd hx hb d_L_law_669 ?_
  refine rn_sld hx hb hX hbl hst.2.2.2.2.2 (t := 6 * n + 1) (nI_add (6 * n) 1) (by omega) hL d_L_law_670 ?_
  refine lv_aload_n hx hb d_L_law_671 rfl (lv_at hl 0 rfl) ?_
  refine lv_iload_n hx hb d_L_law_672 rfl (lv_at hl 3 rfl) ?_
  refine lv_iconst (v := 2) hx hb d_L_law_673 (by decide) ?_
  refine lv_iadd hx hb d_L_law_674 ?_
  refine rn_sld hx hb hX hbl hst.2.2.2.2.2 (t := 6 * n + 2) (nI_add (6 * n) 2) (by omega) hL d_L_law_675 ?_
  refine wc_calli (val := valC) (lay := fun u : CS => u.1) (cell := cellC ct) (u0 := (layC, d)) X (c_P_log l D ct layC d _ (xs (6 * n + 1)) (xs (6 * n + 2)) ) (cw_L_65 X.1.2.2.2.2 rfl rfl ⟨Nat.le_of_ble_eq_true rfl, Nat.le_of_ble_eq_true rfl⟩) hst.1 hst.2.2.2.2.2 hst.aC (aC0 hst.1) rfl rfl hl.1 rfl (Nat.le_of_ble_eq_true rfl) d_L_law_676 ⟨by show 29 + 3 * n + 0 ≤ 600000; omega, by show 8136 + 21 * n + 0 ≤ 7302250; omega⟩ (fun r0 u H1 locs1 hp hW1 hz hk hS1 => ?_)
  obtain ⟨rfl, rfl⟩ := hp
  have hst := hst.afterC (layC2 := layC) (dC2 := d) hW1 (fun q h => Or.inl h) hk hS1
  clear hk hz hS1 hW1
  refine lv_aload_n hx hb d_L_law_679 rfl (lv_at hl 2 rfl) ?_
  refine lv_aload_n hx hb d_L_law_680 rfl (lv_at hl 0 rfl) ?_
  refine lv_iload_n hx hb d_L_law_681 rfl (lv_at hl 3 rfl) ?_
  refine lv_iconst (v := 1) hx hb d_L_law_682 (by decide) ?_
  refine lv_iadd hx hb d_L_law_683 ?_
  refine rn_sld hx hb hX hbl hst.2.2.2.2.2 (t := 6 * n + 1) (nI_add (6 * n) 1) (by omega) hL d_L_law_684 ?_
  refine lv_aload_n hx hb d_L_law_685 rfl (lv_at hl 0 rfl) ?_
  refine lv_iload_n hx hb d_L_law_686 rfl (lv_at hl 3 rfl) ?_
  refine lv_iconst (v := 2) hx hb d_L_law_687 (by decide) ?_
  refine lv_iadd hx hb d_L_law_688 ?_
  refine rn_sld hx hb hX hbl hst.2.2.2.2.2 (t := 6 * n + 2) (nI_add (6 * n) 2) (by omega) hL d_L_law_689 ?_
  refine wc_calli (val := valM) (lay := fun u : CS => u.1) (cell := cellM ct) (u0 := (layM, d)) X (c_M_log l D ct layM d _ (xs (6 * n + 1)) (xs (6 * n + 2)) ) (cw_L_68 X.1.2.2.2.2 rfl rfl ⟨Nat.le_of_ble_eq_true rfl, Nat.le_of_ble_eq_true rfl⟩) hst.2.1 hst.2.2.2.2.2 hst.aM (aM0 hst.2.1) rfl rfl hl.1 rfl (Nat.le_of_ble_eq_true rfl) d_L_law_690 ⟨by show 29 + 3 * n + 0 + 0 ≤ 600000; omega, by show 8136 + 21 * n + 0 + 0 ≤ 7302250; omega⟩ (fun r1 u H1 locs1 hp hW1 hz hk hS1 => ?_)
  obtain ⟨rfl, rfl⟩ := hp
  have hst := hst.afterM (dM2 := d) hW1 hk hS1
  refine lv_icmp_eq (tgt := 698) hx hb d_L_law_693 (by decide) (fun _ => ?_) (fun q => absurd rfl q)
  refine W.widen (k := 29 + 3 * (n + 1)) (n := 8136 + 21 * (n + 1)) (by show 29 + 3 * n + 0 + 0 ≤ 29 + 3 * (n + 1); omega) (by show 8136 + 21 * n + 0 + 0 ≤ 8136 + 21 * (n + 1); omega) ?_
  exact kk _ _ _ _ _ ls hst (hI.mono) rfl rfl hl
