theorem i64le {a b : Int64} : a ≤ b ↔ a.toInt ≤ b.toInt := Int64.le_iff_toInt_le
theorem kf_act (d : DC) (a : Int32) (j : Nat) : kf d (sp_act d a j) := by
  unfold sp_act
  split
  · exact kf_shut d
  · split
    · exact kf_end d j
    · split
      · exact kf_all d _
      · exact kf.rf
theorem Jv.all {d : DC} {B : Nat} (h : Jv d B) (hnt : dnt d ≤ 60) (hB : B + 7680 < 2147483647) (o : Nat) : Jv (sp_all d o) (B + 7680) := (Jv.al o (dnt d) 0 d B (by omega) h).mono (by omega)
theorem Jv.act {d : DC} {B : Nat} (h : Jv d B) (hnt : dnt d ≤ 60) (hB : B + 7680 < 2147483647) (a : Int32) (j : Nat) : Jv (sp_act d a j) (B + 7680) := by
  unfold sp_act
  split
  · exact h.shut.mono (by omega)
  · split
    · exact (h.end (by omega) j).mono (by omega)
    · split
      · exact h.all hnt hB _
      · exact h.mono (by omega)
theorem Jv.start {d : DC} {B : Nat} (h : Jv d B) (o : Nat) : Jv (sp_start d o) B :=
  h.same (Nat.le_refl _) rfl (fun k i j q => by
    unfold sp_start
    rw [gI_sW, if_neg (by omega), gI_sI]
    unfold up3
    rw [if_neg (by omega)])
theorem Jv.carry {d : DC} {B : Nat} (h : Jv d B) (hnt : dnt d ≤ 60) (hB : B + 7680 < 2147483647) (a : Int32) {j : Nat} (ho : dow d j < dna d) : Jv (sp_carry d a j).2 (B + 7680) := by
  have h2 := h.act hnt hB a j
  unfold sp_carry
  split
  · exact h2
  · split
    · exact h2.start _
    · split
      · exact h2.fI _ _ _ _ (by rw [(kp_act d a j).na]; simp; omega)
      · exact h2
theorem Sv.start {d : DC} (h : Sv d) {o : Nat} (ho : o < dna d) (hr : 0 < gI d 10 o 0) : Sv (sp_start d o) := by
  obtain ⟨h1, h2, h3, h4, h5⟩ := h
  refine ⟨h1, h2, fun i hi => ?_, h4, h5⟩
  obtain ⟨⟨r, q1, q2⟩, q3⟩ := h3 i hi
  refine ⟨?_, q3⟩
  have e : gI (sp_start d o) 10 i 0 = if i = o then gI d 10 o 0 - 1 else gI d 10 i 0 := by
    unfold sp_start
    rw [gI_sW, if_neg (fun z => absurd z.1 (by decide)), gI_sI]
    unfold up3
    by_cases hq : i = o
    · rw [if_pos ⟨rfl, hq, rfl⟩, if_pos hq]
    · rw [if_neg (fun z => hq z.2.1), if_neg hq]
  rw [e]
  by_cases hq : i = o
  · subst hq
    rw [if_pos rfl, q2]
    rw [q2, i32lt, nI_toInt (by omega)] at hr
    have hr2 : (0 : Int) < r := hr
    obtain ⟨r2, rfl⟩ : ∃ z, r = z + 1 := ⟨r - 1, by omega⟩
    exact ⟨r2, by omega, nI_pred r2⟩
  · rw [if_neg hq]; exact ⟨r, q1, q2⟩
theorem Sv.carry {d : DC} (h : Sv d) (a : Int32) {j : Nat} (hj : j < dnt d) : Sv (sp_carry d a j).2 := by
  have ho : dow d j < dna d := (h.2.1 j hj).1
  have h2 := h.keep (kp_act d a j) (kf_act d a j)
  unfold sp_carry
  split
  · exact h2
  · split
    · rename_i q
      exact h2.start (by rw [(kp_act d a j).na]; exact ho) q.2
    · split
      · exact h2.keep (kp_sI _ _ _ _ _) (kf_sI _ _ _ _ _ (by decide))
      · exact h2
/-- behind n calls -/
def Inv (d : DC) (n : Nat) : Prop := Sv d ∧ Jv d (7680 * n) ∧ ∃ c, c ≤ n ∧ gI d 5 1 0 = nI c
theorem Inv.okc {d : DC} {n : Nat} (h : Inv d n) : okc d (7680 * n) n := by
  obtain ⟨-, ⟨-, -, c, h1, h2, -⟩, c2, h3, h4⟩ := h
  exact ⟨⟨c, h1, h2⟩, c2, h3, h4⟩
theorem Inv.mono {d : DC} {n : Nat} (h : Inv d n) : Inv d (n + 1) := by
  obtain ⟨h1, h2, c2, h3, h4⟩ := h
  exact ⟨h1, h2.mono (by omega), c2, by omega, h4⟩
theorem Inv.raise {d : DC} {n : Nat} (h : Inv d n) (hn : n ≤ 512) {j : Nat} (hj : j < dnt d) (k : Int32) : Inv (sp_raise d j k).2 (n + 1) := by
  have hok := h.okc
  obtain ⟨h1, h2, h3⟩ := h
  have ho : dow d j < dna d := (h1.2.1 j hj).1
  have hnt : dnt d ≤ 60 := h1.1.2
  have s1 : Sv (sI d 1 0 0 0) := h1.keep (kp_sI _ _ _ _ _) (kf_sI _ _ _ _ _ (by decide))
  have s2 := s1.carry (sp_ask d (sp_lev d)) hj
  have j1 := (h2.fI 1 0 0 0 (by simp)).carry hnt (by omega) (sp_ask d (sp_lev d)) (j := j) ho
  obtain ⟨-, c, hc1, hc2⟩ := (hok.set 1 0 0 0 (by decide)).carry hnt (sp_ask d (sp_lev d)) j
  refine ⟨s2.keep (kp_write _ _ _ _ _ _) (kf_write _ _ _ _ _ _), ?_, c + 1, by omega, ?_⟩
  · refine j1.same (by omega) (kp_write _ _ _ _ _ _).na (fun k' i' j' q => ?_)
    unfold sp_raise sp_write sp_row
    dsimp only
    rw [gI_sI]
    unfold up3
    rw [if_neg (by omega)]
    split
    · simp only [gI_sI, up3]
      rw [if_neg (by omega), if_neg (by omega), if_neg (by omega), if_neg (by omega)]
    · rfl
  · show gI (sp_write _ _ _ _ _ _) 5 1 0 = _
    rw [ct_write, hc2, nI_1]
theorem Inv.same {d d2 : DC} {n : Nat} (h : Inv d n) (hs : Sv d2) (hn : dna d2 = dna d) (e : ∀ k i j, (k = 2 ∨ k = 20 ∨ k = 21 ∨ k = 5 ∨ k = 7 ∨ k = 11) → gI d2 k i j = gI d k i j) : Inv d2 (n + 1) := by
  obtain ⟨-, h2, c, h3, h4⟩ := h
  exact ⟨hs, h2.same (by omega) hn (fun k i j q => e k i j (by omega)), c, by omega, by rw [e 5 1 0 (by decide)]; exact h4⟩
theorem Inv.application {d : DC} {n : Nat} (h : Inv d n) (r : Int32) : Inv (sp_application d r).2 (n + 1) := by
  unfold sp_application
  split
  · exact h.mono
  · rename_i hr
    split
    · exact h.mono
    · split
      · exact h.mono
      · rename_i h16
        obtain ⟨⟨h1, h2, h3, h4, h5⟩, ⟨j1, j2, c, j3, j4, j5⟩, c2, k1, k2⟩ := h
        have hr0 : ¬ r < 0 := fun q => hr (Or.inl q)
        have hr1 : r ≤ 10 := Decidable.not_not.mp (fun q => hr (Or.inr q))
        obtain ⟨m, hm, em⟩ := nI_of2 (M := 10) (n := 10) rfl hr0 hr1
        have e10 : ∀ i, gI (sNa (sI d 10 (dna d) 0 r) (dna d + 1)) 10 i 0 = if i = dna d then r else gI d 10 i 0 := fun i => by
          show (if 10 = 10 ∧ i = dna d ∧ 0 = 0 then r else gI d 10 i 0) = _
          simp
        refine ⟨⟨⟨by show dna d + 1 ≤ 16; omega, h1.2⟩, fun j hj => ?_, fun i hi => ?_, fun i hi => ?_, h5⟩, ⟨fun i hi => j1 i (Nat.le_of_succ_le hi), j2, c, by omega, j4, j5⟩, c2, by omega, k2⟩
        · exact ⟨Nat.lt_succ_of_lt (h2 j hj).1, (h2 j hj).2⟩
        · rw [e10]
          by_cases hq : i = dna d
          · subst hq
            rw [if_pos rfl]
            exact ⟨⟨m, hm, em⟩, 0, by omega, (h4 (dna d) (Nat.le_refl _)).1, fun k hk => absurd hk (by omega)⟩
          · rw [if_neg hq]
            exact h3 i (by have hi2 : i < dna d + 1 := hi; omega)
        · exact h4 i (Nat.le_of_succ_le hi)
theorem Inv.task {d : DC} {n : Nat} (h : Inv d n) (a : Int32) (v : Int64) : Inv (sp_task d a v).2 (n + 1) := by
  unfold sp_task
  split
  · exact h.mono
  · rename_i i hix
    have hi : i < dna d ∧ a = nI (i + 1) := by
      unfold ix at hix
      split at hix
      · rename_i hq
        obtain ⟨j, hj, ej⟩ := nI_of1 (n := dna d) (by have := h.1.1.1; omega) hq.1 hq.2
        rw [ej, nI_clamp (by have := h.1.1.1; omega)] at hix
        have : i = j := by have := Option.some.inj hix; omega
        subst this; exact ⟨hj, ej⟩
      · cases hix
    split
    · exact h.mono
    · split
      · exact h.mono
      · split
        · exact h.mono
        · rename_i h60
          obtain ⟨⟨h1, h2, h3, h4, h5⟩, ⟨j1, j2, c, j3, j4, j5⟩, c2, k1, k2⟩ := h
          have eo : ∀ j, dow (sp_newT d i v) j = if j = dnt d then i else dow d j := fun j => rfl
          have e15 : ∀ j, gI (sp_newT d i v) 15 j 0 = if j = dnt d then nI (i + 1) else gI d 15 j 0 := fun j => by
            show (if 15 = 15 ∧ j = dnt d ∧ 0 = 0 then nI (i + 1) else gI d 15 j 0) = _
            simp
          refine ⟨⟨⟨h1.1, by show dnt d + 1 ≤ 60; omega⟩, fun j hj => ?_, h3, h4, fun j hj => h5 j (Nat.le_of_succ_le hj)⟩, ⟨j1, j2, c, by omega, j4, j5⟩, c2, by omega, k2⟩
          rw [eo, e15]
          by_cases hq : j = dnt d
          · subst hq
            rw [if_pos rfl, if_pos rfl]
            refine ⟨hi.1, rfl, ?_⟩
            show 0 ≤ gL d 4 (dnt d) 0
            rw [(h5 (dnt d) (Nat.le_refl _)).2.2.2]; decide
          · rw [if_neg hq, if_neg hq]
            exact h2 j (by have hj2 : j < dnt d + 1 := hj; omega)
theorem ix_lt {n i : Nat} {x : Int32} (hn : n ≤ 60) (h : ix n x = some i) : i < n ∧ x = nI (i + 1) := by
  unfold ix at h
  split at h
  · rename_i hq
    obtain ⟨j, hj, ej⟩ := nI_of1 (n := n) (by omega) hq.1 hq.2
    rw [ej, nI_clamp (by omega)] at h
    have : i = j := by have := Option.some.inj h; omega
    subst this; exact ⟨hj, ej⟩
  · cases h
theorem Inv.region {d : DC} {n : Nat} (h : Inv d n) (a : Int32) (f m : Int64) : Inv (sp_region d a f m).2 (n + 1) := by
  unfold sp_region
  split
  · exact h.mono
  · rename_i i hix
    have hi := (ix_lt (by have := h.1.1.1; omega) hix).1
    split
    · exact h.mono
    · rename_i hrng
      split
      · exact h.mono
      · split
        · exact h.mono
        · rename_i h8
          obtain ⟨⟨r, q1, q2⟩, w, q3, q4, q5⟩ := h.1.2.2.1 i hi
          have hw : w < 8 := by
            rcases Nat.lt_or_ge w 8 with z | z
            · exact z
            · exact absurd (by rw [q4, show w = 8 by omega]; rfl) h8
          have ecl : (gI d 9 i 0).toNatClampNeg = w := by rw [q4]; exact nI_clamp (by omega)
          have f0 : 0 ≤ f := Int64.not_lt.mp (fun z => hrng (Or.inl z))
          have f1 : f ≤ 1099511627776 := Int64.not_lt.mp (fun z => hrng (Or.inr (Or.inl z)))
          have m0 : 1 ≤ m := Int64.not_lt.mp (fun z => hrng (Or.inr (Or.inr (Or.inl z))))
          have m1 : m ≤ 1099511627776 := Decidable.not_not.mp (fun z => hrng (Or.inr (Or.inr (Or.inr z))))
          have e9 : ∀ x, gI (sp_addR d i f m) 9 x 0 = if x = i then gI d 9 i 0 + 1 else gI d 9 x 0 := fun x => by
            show (if 9 = 9 ∧ x = i ∧ 0 = 0 then _ else gI d 9 x 0) = _
            simp
          have eL0 : ∀ x k, gL (sp_addR d i f m) 0 x k = if x = i ∧ k = w then f else gL d 0 x k := fun x k => by
            show (if 0 = 1 ∧ x = i ∧ k = (gI d 9 i 0).toNatClampNeg then m else if 0 = 0 ∧ x = i ∧ k = (gI d 9 i 0).toNatClampNeg then f else gL d 0 x k) = _
            rw [ecl]; simp
          have eL1 : ∀ x k, gL (sp_addR d i f m) 1 x k = if x = i ∧ k = w then m else gL d 1 x k := fun x k => by
            show (if 1 = 1 ∧ x = i ∧ k = (gI d 9 i 0).toNatClampNeg then m else if 1 = 0 ∧ x = i ∧ k = (gI d 9 i 0).toNatClampNeg then f else gL d 1 x k) = _
            rw [ecl]; simp
          obtain ⟨h1, h2, h3, h4, h5⟩ := id h.1
          refine h.same ⟨h1, h2, fun x hx => ?_, fun x hx => ?_, h5⟩ rfl (fun k' i' j' q => ?_)
          · obtain ⟨g1, w2, g3, g4, g5⟩ := h3 x hx
            refine ⟨g1, ?_⟩
            rw [e9]
            by_cases hq : x = i
            · subst hq
              rw [if_pos rfl]
              refine ⟨w + 1, by omega, by rw [q4, nI_1], fun k hk => ?_⟩
              unfold rgok
              rw [eL0, eL1]
              by_cases hkw : k = w
              · rw [if_pos ⟨rfl, hkw⟩, if_pos ⟨rfl, hkw⟩]; exact ⟨f0, f1, m1, m0⟩
              · rw [if_neg (fun z => hkw z.2), if_neg (fun z => hkw z.2)]; exact q5 k (by omega)
            · rw [if_neg hq]
              refine ⟨w2, g3, g4, fun k hk => ?_⟩
              unfold rgok
              rw [eL0, eL1, if_neg (fun z => hq z.1), if_neg (fun z => hq z.1)]; exact g5 k hk
          · have hne : x ≠ i := fun z => by have hx2 : dna d ≤ x := hx; omega
            rw [e9, if_neg hne]
            exact ⟨(h4 x hx).1, fun k => by rw [eL0, if_neg (fun z => hne z.1)]; exact (h4 x hx).2.1 k, fun k => by rw [eL1, if_neg (fun z => hne z.1)]; exact (h4 x hx).2.2 k⟩
          · show (if k' = 9 ∧ i' = i ∧ j' = 0 then _ else gI d k' i' j') = _
            rw [if_neg (by omega)]
theorem Inv.hook {d : DC} {n : Nat} (h : Inv d n) (l x f : Int32) : Inv (sp_hook d l x f).2 (n + 1) := by
  unfold sp_hook
  split
  · exact h.mono
  · split
    · exact h.mono
    · split
      · exact h.mono
      · refine h.same (show Sv (sI (sI d 3 0 l.toNatClampNeg x) 4 0 l.toNatClampNeg f) from h.1) rfl (fun k i j q => ?_)
        show (if k = 4 ∧ _ then _ else if k = 3 ∧ _ then _ else gI d k i j) = _
        rw [if_neg (by omega), if_neg (by omega)]
theorem Inv.holds {d : DC} {n : Nat} (h : Inv d n) (x k w : Int32) : Inv (sp_holds d x k w).2 (n + 1) := by
  unfold sp_holds
  split
  · exact h.mono
  · rename_i j hix
    have hj := (ix_lt h.1.1.2 hix).1
    split
    · exact h.mono
    · split
      · exact h.mono
      · obtain ⟨h1, ⟨j1, j2, c, j3, j4, j5⟩, c2, k1, k2⟩ := h
        refine ⟨show Sv (sI d 2 0 _ _) from h1, ⟨j1, fun t ht => ?_, c, by omega, j4, j5⟩, c2, by omega, k2⟩
        rw [gI_sI]
        unfold up3
        split
        · exact ⟨j + 1, by have := h1.1.2; omega, rfl⟩
        · exact j2 t ht
theorem Inv.fault {d : DC} {n : Nat} (h : Inv d n) (hn : n ≤ 512) (x k : Int32) : Inv (sp_fault d x k).2 (n + 1) := by
  unfold sp_fault
  split
  · exact h.mono
  · rename_i j hix
    split
    · exact h.mono
    · split
      · exact h.mono
      · exact h.raise hn (ix_lt h.1.1.2 hix).1 k
theorem Inv.access {d : DC} {n : Nat} (h : Inv d n) (hn : n ≤ 512) (x : Int32) (a : Int64) : Inv (sp_access d x a).2 (n + 1) := by
  unfold sp_access
  split
  · exact h.mono
  · rename_i j hix
    split
    · exact h.mono
    · split
      · exact h.mono
      · exact h.raise hn (ix_lt h.1.1.2 hix).1 2
theorem Sv.told {d : DC} (h : Sv d) {j : Nat} (hj : j < dnt d) {t : Int64} (ht : 0 ≤ t) : Sv (sL d 4 j 0 t) := by
  obtain ⟨h1, h2, h3, h4, h5⟩ := h
  have e : ∀ x, gL (sL d 4 j 0 t) 4 x 0 = if x = j then t else gL d 4 x 0 := fun x => by
    show (if 4 = 4 ∧ x = j ∧ 0 = 0 then t else gL d 4 x 0) = _
    simp
  refine ⟨h1, fun x hx => ?_, h3, h4, fun x hx => ?_⟩
  · refine ⟨(h2 x hx).1, (h2 x hx).2.1, ?_⟩
    rw [e]; split
    · exact ht
    · exact (h2 x hx).2.2
  · refine ⟨(h5 x hx).1, (h5 x hx).2.1, (h5 x hx).2.2.1, ?_⟩
    rw [e, if_neg (fun z => by have hx2 : dnt d ≤ x := hx; omega)]; exact (h5 x hx).2.2.2
theorem Sv.came {d : DC} (h : Sv d) {j : Nat} (hj : j < dnt d) (t : Int64) : Sv (sL d 3 j 0 t) := by
  obtain ⟨h1, h2, h3, h4, h5⟩ := h
  refine ⟨h1, h2, h3, h4, fun x hx => ⟨(h5 x hx).1, (h5 x hx).2.1, ?_, (h5 x hx).2.2.2⟩⟩
  show (if 3 = 3 ∧ x = j ∧ 0 = 0 then t else gL d 3 x 0) = 0
  rw [if_neg (fun z => by have hx2 : dnt d ≤ x := hx; omega)]; exact (h5 x hx).2.2.1
theorem Sv.f14 {d : DC} (h : Sv d) {j : Nat} (hj : j < dnt d) (v : Int32) : Sv (sI d 14 j 0 v) := by
  obtain ⟨h1, h2, h3, h4, h5⟩ := h
  refine ⟨h1, h2, h3, h4, fun x hx => ⟨(h5 x hx).1, ?_, (h5 x hx).2.2⟩⟩
  show (if 14 = 14 ∧ x = j ∧ 0 = 0 then v else gI d 14 x 0) = 0
  rw [if_neg (fun z => by have hx2 : dnt d ≤ x := hx; omega)]; exact (h5 x hx).2.1
theorem Sv.f13 {d : DC} (h : Sv d) {j : Nat} (hj : j < dnt d) (v : Int32) : Sv (sI d 13 j 0 v) := by
  obtain ⟨h1, h2, h3, h4, h5⟩ := h
  refine ⟨h1, h2, h3, h4, fun x hx => ⟨?_, (h5 x hx).2⟩⟩
  show (if 13 = 13 ∧ x = j ∧ 0 = 0 then v else gI d 13 x 0) = 0
  rw [if_neg (fun z => by have hx2 : dnt d ≤ x := hx; omega)]; exact (h5 x hx).1
theorem Inv.arrival {d : DC} {n : Nat} (h : Inv d n) (hn : n ≤ 512) (x : Int32) (t : Int64) : Inv (sp_arrival d x t).2 (n + 1) := by
  unfold sp_arrival
  split
  · exact h.mono
  · rename_i j hix
    have hj := (ix_lt h.1.1.2 hix).1
    split
    · exact h.mono
    · rename_i ht
      have ht0 : 0 ≤ t := by
        have h9 := (h.1.2.1 j hj).2.2
        have h8 : gL d 4 j 0 ≤ t := Decidable.not_not.mp ht
        rw [i64le] at h9 h8 ⊢
        omega
      have st := h.1.told hj ht0
      split
      · exact h.mono
      · split
        · split
          · refine h.same (st.f14 hj 1) rfl (fun k i q z => ?_)
            show (if k = 14 ∧ _ then _ else gI d k i q) = _
            rw [if_neg (by omega)]
          · have h9 : Inv (sI (sL d 4 j 0 t) 14 j 0 0) n := by
              obtain ⟨h1, h2, c, h3, h4⟩ := h
              exact ⟨st.f14 hj 0, Jv.fI (d := sL d 4 j 0 t) h2 14 j 0 0 (by simp), c, h3, h4⟩
            exact h9.raise hn hj 4
        · refine h.same (((st.f14 hj 0).f13 hj 1).came hj t) rfl (fun k i q z => ?_)
          show (if k = 13 ∧ _ then _ else if k = 14 ∧ _ then _ else gI d k i q) = _
          rw [if_neg (by omega), if_neg (by omega)]
