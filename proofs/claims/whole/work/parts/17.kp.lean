/-! What the functions keep: numbers of applications and tasks, the tasks' applications. -/
def kp (d d2 : DC) : Prop := d2.1 = d.1 ∧ d2.2.1 = d.2.1 ∧ d2.2.2.1 = d.2.2.1
def mk (d : DC) (tI : T3) (tL : L3) : DC := (d.1, d.2.1, d.2.2.1, tI, tL)
theorem kp.ex {d d2 : DC} (h : kp d d2) : ∃ (tI : T3) (tL : L3), d2 = mk d tI tL := ⟨d2.2.2.2.1, d2.2.2.2.2, by
  obtain ⟨a, b, c, e, f⟩ := d2
  obtain ⟨h1, h2, h3⟩ := h
  simp only at h1 h2 h3
  subst h1; subst h2; subst h3
  rfl⟩
theorem kp.rf {d : DC} : kp d d := ⟨rfl, rfl, rfl⟩
theorem kp.tr {d d2 d3 : DC} (h : kp d d2) (h2 : kp d2 d3) : kp d d3 := ⟨h2.1.trans h.1, h2.2.1.trans h.2.1, h2.2.2.trans h.2.2⟩
theorem kp.na {d d2 : DC} (h : kp d d2) : dna d2 = dna d := h.1
theorem kp.nt {d d2 : DC} (h : kp d d2) : dnt d2 = dnt d := h.2.1
theorem kp.ow {d d2 : DC} (h : kp d d2) : dow d2 = dow d := h.2.2
theorem kp_mk (d : DC) (tI : T3) (tL : L3) : kp d (mk d tI tL) := ⟨rfl, rfl, rfl⟩
theorem kp_sI (d : DC) (k i j : Nat) (v : Int32) : kp d (sI d k i j v) := ⟨rfl, rfl, rfl⟩
theorem kp_sL (d : DC) (k i j : Nat) (v : Int64) : kp d (sL d k i j v) := ⟨rfl, rfl, rfl⟩
theorem kp_sA (d : DC) (k n : Nat) (v : Int32) : kp d (sA d k n v) := ⟨rfl, rfl, rfl⟩
theorem kp_sW (d : DC) (o n : Nat) (v : Int32) : kp d (sW d o n v) := ⟨rfl, rfl, rfl⟩
theorem kp_shut (d : DC) : kp d (sp_shut d) := ⟨rfl, rfl, rfl⟩
theorem kp_row (d : DC) (b : Nat) (a1 a2 a3 a4 : Int32) : kp d (sp_row d b a1 a2 a3 a4) := by
  unfold sp_row; split <;> exact ⟨rfl, rfl, rfl⟩
theorem kp_write (d : DC) (b : Nat) (a1 a2 a3 a4 : Int32) : kp d (sp_write d b a1 a2 a3 a4) := (kp_row d b a1 a2 a3 a4).tr (kp_sI _ _ _ _ _)
theorem kp_note (d : DC) (t j : Nat) : kp d (sp_note d t j) := by
  unfold sp_note; split <;> exact ⟨rfl, rfl, rfl⟩
theorem kp_clean (d : DC) (t j : Nat) : kp d (sp_clean d t j) := by
  have h := (((kp_sI d 2 0 t 0).tr (kp_note _ t j)).tr (kp_write _ 0 (nI (j + 1)) (nI (t / 32)) (nI (t % 32 + 1)) 0))
  unfold sp_clean
  dsimp only
  split
  · exact h
  · split
    · exact h.tr (kp_sI _ _ _ _ _)
    · exact (h.tr (kp_shut _)).tr (kp_sI _ _ _ _ _)
theorem kp_el (j : Nat) : ∀ (n t : Nat) (d : DC), kp d (sp_el j n t d)
  | 0, _, _ => kp.rf
  | n + 1, t, d => by
    unfold sp_el
    split
    · exact kp.rf
    · split
      · exact (kp_clean d t j).tr (kp_el j n (t + 1) _)
      · exact kp_el j n (t + 1) _
theorem kp_end (d : DC) (j : Nat) : kp d (sp_end d j) := (kp_sI d 12 j 0 0).tr (kp_el j 128 0 _)
theorem kp_al (o : Nat) : ∀ (n j : Nat) (d : DC), kp d (sp_al o n j d)
  | 0, _, _ => kp.rf
  | n + 1, j, d => by
    unfold sp_al
    split
    · exact (kp_end d j).tr (kp_al o n (j + 1) _)
    · exact kp_al o n (j + 1) _
theorem kp_all (d : DC) (o : Nat) : kp d (sp_all d o) := kp_al o _ 0 d
theorem kp_start (d : DC) (o : Nat) : kp d (sp_start d o) := ⟨rfl, rfl, rfl⟩
theorem kp_act (d : DC) (a : Int32) (j : Nat) : kp d (sp_act d a j) := by
  unfold sp_act
  split
  · exact kp_shut d
  · split
    · exact kp_end d j
    · split
      · exact kp_all d _
      · exact kp.rf
theorem kp_carry (d : DC) (a : Int32) (j : Nat) : kp d (sp_carry d a j).2 := by
  unfold sp_carry
  split
  · exact kp_act d a j
  · split
    · exact (kp_act d a j).tr (kp_start _ _)
    · split
      · exact (kp_act d a j).tr (kp_sI _ _ _ _ _)
      · exact kp_act d a j
theorem kp_raise (d : DC) (j : Nat) (k : Int32) : kp d (sp_raise d j k).2 := ((kp_sI d 1 0 0 0).tr (kp_carry _ _ j)).tr (kp_write _ _ _ _ _ _)
/-! counts -/
theorem ct_write (d : DC) (b : Nat) (a1 a2 a3 a4 : Int32) : gI (sp_write d b a1 a2 a3 a4) 5 b 0 = gI d 5 b 0 + 1 := by
  simp [sp_write, gI_sI, up3]
theorem ct_row (d : DC) (b b2 : Nat) (a1 a2 a3 a4 : Int32) (k i j : Nat) (hk : k ≠ 7) : gI (sp_row d b a1 a2 a3 a4) k i j = gI d k i j := by
  unfold sp_row; split <;> simp [gI_sI, up3, hk]
theorem ct_note (d : DC) (t q : Nat) (k i j : Nat) (hk : k ≠ 20) (hk2 : k ≠ 21) : gI (sp_note d t q) k i j = gI d k i j := by
  unfold sp_note; split <;> simp [gI_sI, up3, hk, hk2]
theorem ct_wr (d : DC) (b : Nat) (a1 a2 a3 a4 : Int32) (k i j : Nat) (hk : k ≠ 7) (hk2 : k ≠ 5) : gI (sp_write d b a1 a2 a3 a4) k i j = gI d k i j := by
  unfold sp_write
  rw [gI_sI]
  simp only [up3, hk2, false_and, if_false]
  exact ct_row d b b a1 a2 a3 a4 k i j hk
theorem gI_sA (d : DC) (k n : Nat) (v : Int32) (k' i' j' : Nat) : gI (sA d k n v) k' i' j' = if k' = k ∧ i' < n ∧ j' = 0 then v else gI d k' i' j' := rfl
theorem gI_sW (d : DC) (o n : Nat) (v : Int32) (k' i' j' : Nat) : gI (sW d o n v) k' i' j' = if k' = 12 ∧ i' < n ∧ dow d i' = o ∧ j' = 0 then v else gI d k' i' j' := rfl
theorem ct_shut (d : DC) (k i j : Nat) (h0 : k ≠ 0) (h1 : k ≠ 12) (h2 : k ≠ 11) : gI (sp_shut d) k i j = gI d k i j := by
  unfold sp_shut
  rw [gI_sA, if_neg (fun q => h2 q.1), gI_sA, if_neg (fun q => h1 q.1), gI_sI]
  simp [up3, h0]
theorem ct_clean (d : DC) (t j : Nat) : gI (sp_clean d t j) 5 0 0 = gI d 5 0 0 + 1 := by
  have h : gI (sp_write (sp_note (sI d 2 0 t 0) t j) 0 (nI (j + 1)) (nI (t / 32)) (nI (t % 32 + 1)) 0) 5 0 0 = gI d 5 0 0 + 1 := by
    rw [ct_write, ct_note _ _ _ _ _ _ (by decide) (by decide), gI_sI]
    rfl
  unfold sp_clean
  dsimp only
  split
  · exact h
  · split
    · rw [gI_sI]; exact h
    · rw [gI_sI]
      show gI (sp_shut _) 5 0 0 = _
      rw [ct_shut _ _ _ _ (by decide) (by decide) (by decide)]
      exact h
theorem ct_clean1 (d : DC) (t j : Nat) : gI (sp_clean d t j) 5 1 0 = gI d 5 1 0 := by
  have h : gI (sp_write (sp_note (sI d 2 0 t 0) t j) 0 (nI (j + 1)) (nI (t / 32)) (nI (t % 32 + 1)) 0) 5 1 0 = gI d 5 1 0 := by
    unfold sp_write
    rw [gI_sI]
    show gI (sp_row _ _ _ _ _ _) 5 1 0 = _
    rw [ct_row _ _ 0 _ _ _ _ _ _ _ (by decide), ct_note _ _ _ _ _ _ (by decide) (by decide), gI_sI]
    rfl
  unfold sp_clean
  dsimp only
  split
  · exact h
  · split
    · rw [gI_sI]; exact h
    · rw [gI_sI]
      show gI (sp_shut _) 5 1 0 = _
      rw [ct_shut _ _ _ _ (by decide) (by decide) (by decide)]
      exact h
/-- the counts of the two books: the first at most B -/
def okc (d : DC) (B B1 : Nat) : Prop := (∃ c, c ≤ B ∧ gI d 5 0 0 = nI c) ∧ ∃ c, c ≤ B1 ∧ gI d 5 1 0 = nI c
theorem okc.mono {d : DC} {B B2 B1 B3 : Nat} (h : okc d B B1) (hb : B ≤ B2) (hb1 : B1 ≤ B3) : okc d B2 B3 := by
  obtain ⟨⟨c, h1, h2⟩, c2, h3, h4⟩ := h
  exact ⟨⟨c, Nat.le_trans h1 hb, h2⟩, c2, Nat.le_trans h3 hb1, h4⟩
theorem okc.set {d : DC} {B B1 : Nat} (h : okc d B B1) (k i j : Nat) (v : Int32) (hk : k ≠ 5) : okc (sI d k i j v) B B1 := by
  obtain ⟨⟨c, h1, h2⟩, c2, h3, h4⟩ := h
  refine ⟨⟨c, h1, ?_⟩, c2, h3, ?_⟩
  · rw [gI_sI]; simp only [up3, Ne.symm hk, false_and, if_false]; exact h2
  · rw [gI_sI]; simp only [up3, Ne.symm hk, false_and, if_false]; exact h4
theorem okc.clean {d : DC} {B B1 : Nat} (h : okc d B B1) (t j : Nat) : okc (sp_clean d t j) (B + 1) B1 := by
  obtain ⟨⟨c, h1, h2⟩, c2, h3, h4⟩ := h
  exact ⟨⟨c + 1, by omega, by rw [ct_clean, h2, nI_1]⟩, c2, h3, by rw [ct_clean1]; exact h4⟩
theorem okc.shut {d : DC} {B B1 : Nat} (h : okc d B B1) : okc (sp_shut d) B B1 := by
  obtain ⟨⟨c, h1, h2⟩, c2, h3, h4⟩ := h
  exact ⟨⟨c, h1, by rw [ct_shut _ _ _ _ (by decide) (by decide) (by decide)]; exact h2⟩, c2, h3, by rw [ct_shut _ _ _ _ (by decide) (by decide) (by decide)]; exact h4⟩
theorem okc.el {B1 : Nat} (j : Nat) : ∀ (n t : Nat) (d : DC) (B : Nat), okc d B B1 → okc (sp_el j n t d) (B + n) B1
  | 0, _, _, _, h => h
  | n + 1, t, d, B, h => by
    unfold sp_el
    split
    · exact h.mono (by omega) (Nat.le_refl _)
    · split
      · exact (okc.el j n (t + 1) _ (B + 1) (h.clean t j)).mono (by omega) (Nat.le_refl _)
      · exact (okc.el j n (t + 1) _ B h).mono (by omega) (Nat.le_refl _)
theorem okc.end {d : DC} {B B1 : Nat} (h : okc d B B1) (j : Nat) : okc (sp_end d j) (B + 128) B1 := okc.el j 128 0 _ B (h.set 12 j 0 0 (by decide))
theorem okc.al {B1 : Nat} (o : Nat) : ∀ (n j : Nat) (d : DC) (B : Nat), okc d B B1 → okc (sp_al o n j d) (B + 128 * n) B1
  | 0, _, _, _, h => h
  | n + 1, j, d, B, h => by
    unfold sp_al
    split
    · exact (okc.al o n (j + 1) _ (B + 128) (h.end j)).mono (by omega) (Nat.le_refl _)
    · exact (okc.al o n (j + 1) _ B h).mono (by omega) (Nat.le_refl _)
