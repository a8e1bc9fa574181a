/-! What holds of the data at every call. -/
def rgok (d : DC) (i k : Nat) : Prop := 0 ≤ gL d 0 i k ∧ gL d 0 i k ≤ 1099511627776 ∧ gL d 1 i k ≤ 1099511627776 ∧ 1 ≤ gL d 1 i k
def Sv (d : DC) : Prop := (dna d ≤ 16 ∧ dnt d ≤ 60) ∧ (∀ j, j < dnt d → dow d j < dna d ∧ gI d 15 j 0 = nI (dow d j + 1) ∧ 0 ≤ gL d 4 j 0) ∧
  (∀ i, i < dna d → (∃ r, r ≤ 10 ∧ gI d 10 i 0 = nI r) ∧ ∃ m, m ≤ 8 ∧ gI d 9 i 0 = nI m ∧ ∀ k, k < m → rgok d i k) ∧
  (∀ i, dna d ≤ i → gI d 9 i 0 = 0 ∧ (∀ k, gL d 0 i k = 0) ∧ ∀ k, gL d 1 i k = 0) ∧
  (∀ j, dnt d ≤ j → gI d 13 j 0 = 0 ∧ gI d 14 j 0 = 0 ∧ gL d 3 j 0 = 0 ∧ gL d 4 j 0 = 0)
theorem Sv.keep {d d2 : DC} (h : Sv d) (hp : kp d d2) (hk : kf d d2) : Sv d2 := by
  obtain ⟨h1, h2, h3, h4, h5⟩ := h
  have e : ∀ k i j, (k = 3 ∨ k = 4 ∨ k = 9 ∨ k = 10 ∨ k = 13 ∨ k = 14 ∨ k = 15) → gI d2 k i j = gI d k i j := hk.2
  have eL := hk.1
  unfold Sv rgok
  rw [hp.na, hp.nt, hp.ow]
  refine ⟨h1, fun j hj => ?_, fun i hi => ?_, fun i hi => ?_, fun j hj => ?_⟩
  · rw [e 15 j 0 (by decide), eL]; exact h2 j hj
  · obtain ⟨⟨r, q1, q2⟩, m, q3, q4, q5⟩ := h3 i hi
    refine ⟨⟨r, q1, by rw [e 10 i 0 (by decide)]; exact q2⟩, m, q3, by rw [e 9 i 0 (by decide)]; exact q4, fun k hk => ?_⟩
    rw [eL, eL]; exact q5 k hk
  · rw [e 9 i 0 (by decide)]; exact ⟨(h4 i hi).1, fun k => by rw [eL]; exact (h4 i hi).2.1 k, fun k => by rw [eL]; exact (h4 i hi).2.2 k⟩
  · rw [e 13 j 0 (by decide), e 14 j 0 (by decide), eL, eL]; exact h5 j hj
def CL (d : DC) (i : Nat) : Prop := gI d 7 0 (4 * i) = gI d 20 0 i ∧ ∃ p, p < 128 ∧ gI d 21 0 i = nI p ∧ gI d 7 0 (4 * i + 1) = nI (p / 32) ∧ gI d 7 0 (4 * i + 2) = nI (p % 32 + 1)
def Jv (d : DC) (B : Nat) : Prop := (∀ i, dna d ≤ i → gI d 11 i 0 = 0) ∧ (∀ t, t < 128 → ∃ h, h ≤ 60 ∧ gI d 2 0 t = nI h) ∧ ∃ c, c ≤ B ∧ gI d 5 0 0 = nI c ∧ ∀ i, i < 500 → i < c → CL d i
/-- the fields that Jv speaks of are alike -/
theorem Jv.same {d d2 : DC} {B B2 : Nat} (h : Jv d B) (hB : B ≤ B2) (hn : dna d2 = dna d) (e : ∀ k i j, (k = 2 ∨ k = 20 ∨ k = 21 ∨ (k = 5 ∧ i = 0) ∨ (k = 7 ∧ i = 0) ∨ (k = 11 ∧ dna d ≤ i)) → gI d2 k i j = gI d k i j) : Jv d2 B2 := by
  obtain ⟨h1, h2, c, h3, h4, h5⟩ := h
  refine ⟨fun i hi => ?_, fun t ht => ?_, c, Nat.le_trans h3 hB, ?_, fun i hi hc => ?_⟩
  · rw [hn] at hi; rw [e 11 i 0 (by simp [hi])]; exact h1 i hi
  · rw [e 2 0 t (by simp)]; exact h2 t ht
  · rw [e 5 0 0 (by simp)]; exact h4
  · have h9 := h5 i hi hc
    unfold CL at h9 ⊢
    rw [e 7 0 _ (by simp), e 7 0 _ (by simp), e 7 0 _ (by simp), e 20 0 _ (by simp), e 21 0 _ (by simp)]
    exact h9
theorem Jv.fI {d : DC} {B : Nat} (h : Jv d B) (k i j : Nat) (v : Int32) (hk : ¬ (k = 2 ∨ k = 20 ∨ k = 21 ∨ (k = 5 ∧ i = 0) ∨ (k = 7 ∧ i = 0) ∨ (k = 11 ∧ dna d ≤ i))) : Jv (sI d k i j v) B :=
  h.same (Nat.le_refl _) rfl (fun k' i' j' q => by
    rw [gI_sI]; unfold up3
    exact if_neg (fun z => hk (by rw [← z.1, ← z.2.1]; exact q)))
theorem Jv.shut {d : DC} {B : Nat} (h : Jv d B) : Jv (sp_shut d) B :=
  h.same (Nat.le_refl _) rfl (fun k i j q => by
    unfold sp_shut
    rw [gI_sA, if_neg (by omega), gI_sA, if_neg (by omega), gI_sI]
    unfold up3
    rw [if_neg (by omega)])
set_option maxHeartbeats 1000000 in
theorem Jv.row {d : DC} {B : Nat} (h : Jv d B) (hB : B < 2147483647) {t j : Nat} (ht : t < 128) : Jv (D1 d t j) (B + 1) := by
  obtain ⟨h1, h2, c, h3, h4, h5⟩ := h
  have e5 : gI (sI d 2 0 t 0) 5 0 0 = nI c := h4
  have eN : gI (sp_note (sI d 2 0 t 0) t j) 5 0 0 = nI c := by rw [ct_note _ _ _ _ _ _ (by decide) (by decide)]; exact h4
  have hcl : (nI c).toNatClampNeg = c := nI_clamp (by omega)
  have hlt5 : c < 500 → nI c < (500 : Int32) := fun h => nI_lt (a := c) (b := 500) h (by decide)
  have hge5 : ¬ c < 500 → ¬ nI c < (500 : Int32) := fun h => nI_nlt (a := c) (b := 500) (by omega) (by omega)
  refine ⟨fun i hi => ?_, fun x hx => ?_, c + 1, by omega, ?_, fun i hi hc => ?_⟩
  · rw [(kp_D1 d t j).na] at hi
    rw [ct_wr _ _ _ _ _ _ _ _ _ (by decide) (by decide), ct_note _ _ _ _ _ _ (by decide) (by decide)]
    exact h1 i hi
  · rw [ct_wr _ _ _ _ _ _ _ _ _ (by decide) (by decide), ct_note _ _ _ _ _ _ (by decide) (by decide), gI_sI]
    unfold up3
    by_cases hq : x = t
    · exact ⟨0, by omega, by rw [if_pos ⟨rfl, rfl, hq⟩]; rfl⟩
    · obtain ⟨y, hy, ey⟩ := h2 x hx
      exact ⟨y, hy, by rw [if_neg (fun z => hq z.2.2)]; exact ey⟩
  · show gI (sp_write _ _ _ _ _ _) 5 0 0 = _
    rw [ct_write, eN, nI_1]
  · have w7 : ∀ x, gI (D1 d t j) 7 0 x = if c < 500 then (if x = 4 * c + 3 then 0 else if x = 4 * c + 2 then nI (t % 32 + 1) else if x = 4 * c + 1 then nI (t / 32) else if x = 4 * c then nI (j + 1) else gI d 7 0 x) else gI d 7 0 x := by
      intro x
      show gI (sp_write _ _ _ _ _ _) 7 0 x = _
      unfold sp_write sp_row
      rw [eN, hcl]
      by_cases hc5 : c < 500
      · rw [if_pos (hlt5 hc5), if_pos hc5]
        simp only [gI_sI, up3]
        simp only [show ¬ (7 = 5) by decide, false_and, if_false, true_and]
        rw [ct_note _ _ _ _ _ _ (by decide) (by decide), gI_sI]
        rfl
      · rw [if_neg (hge5 hc5), if_neg hc5]
        rw [gI_sI]
        show gI (sp_note _ _ _) 7 0 x = _
        rw [ct_note _ _ _ _ _ _ (by decide) (by decide), gI_sI]
        rfl
    have w20 : ∀ x, gI (D1 d t j) 20 0 x = if c < 500 ∧ x = c then nI (j + 1) else gI d 20 0 x := by
      intro x
      rw [ct_wr _ _ _ _ _ _ _ _ _ (by decide) (by decide)]
      unfold sp_note
      rw [e5, hcl]
      by_cases hc5 : c < 500
      · rw [if_pos (hlt5 hc5)]
        simp only [gI_sI, up3]
        by_cases hx : x = c <;> simp [hx, hc5]
      · rw [if_neg (hge5 hc5), if_neg (fun z => hc5 z.1)]
        rfl
    have w21 : ∀ x, gI (D1 d t j) 21 0 x = if c < 500 ∧ x = c then nI t else gI d 21 0 x := by
      intro x
      rw [ct_wr _ _ _ _ _ _ _ _ _ (by decide) (by decide)]
      unfold sp_note
      rw [e5, hcl]
      by_cases hc5 : c < 500
      · rw [if_pos (hlt5 hc5)]
        simp only [gI_sI, up3]
        by_cases hx : x = c <;> simp [hx, hc5]
      · rw [if_neg (hge5 hc5), if_neg (fun z => hc5 z.1)]
        rfl
    by_cases hic : i = c
    · subst hic
      exact ⟨by rw [w7, w20, if_pos hi, if_pos (show i < 500 ∧ i = i from ⟨hi, rfl⟩), if_neg (by omega), if_neg (by omega), if_neg (by omega), if_pos rfl], t, ht, by rw [w21, if_pos (show i < 500 ∧ i = i from ⟨hi, rfl⟩)], by rw [w7, if_pos hi, if_neg (by omega), if_neg (by omega), if_pos rfl], by rw [w7, if_pos hi, if_neg (by omega), if_pos rfl]⟩
    · have hne : ¬ (c < 500 ∧ i = c) := fun z => hic z.2
      have h9 := h5 i hi (by omega)
      have k7 : ∀ y, y < 4 → gI (D1 d t j) 7 0 (4 * i + y) = gI d 7 0 (4 * i + y) := by
        intro y hy
        rw [w7]
        split
        · rw [if_neg (by omega), if_neg (by omega), if_neg (by omega), if_neg (by omega)]
        · rfl
      obtain ⟨g0, p, g1, g2, g3, g4⟩ := h9
      exact ⟨by rw [w20, if_neg hne]; exact (k7 0 (by omega)).trans g0, p, g1, by rw [w21, if_neg hne]; exact g2, (k7 1 (by omega)).trans g3, (k7 2 (by omega)).trans g4⟩
theorem Jv.clean {d : DC} {B : Nat} (h : Jv d B) (hB : B < 2147483647) {t : Nat} (j : Nat) (ht : t < 128) : Jv (sp_clean d t j) (B + 1) := by
  have h1 := h.row hB (j := j) ht
  unfold sp_clean
  dsimp only
  split
  · exact h1
  · split
    · exact h1.fI _ _ _ _ (by simp)
    · exact h1.shut.fI _ _ _ _ (by simp)
theorem Jv.mono {d : DC} {B B2 : Nat} (h : Jv d B) (hB : B ≤ B2) : Jv d B2 := h.same hB rfl (fun _ _ _ _ => rfl)
theorem Jv.el (j : Nat) : ∀ (n t : Nat) (d : DC) (B : Nat), t + n ≤ 128 → B + n < 2147483647 → Jv d B → Jv (sp_el j n t d) (B + n)
  | 0, _, _, _, _, _, h => h
  | n + 1, t, d, B, ht, hB, h => by
    unfold sp_el
    split
    · exact h.mono (by omega)
    · split
      · exact (Jv.el j n (t + 1) _ (B + 1) (by omega) (by omega) (h.clean (by omega) j (by omega))).mono (by omega)
      · exact (Jv.el j n (t + 1) _ B (by omega) (by omega) h).mono (by omega)
theorem Jv.end {d : DC} {B : Nat} (h : Jv d B) (hB : B + 128 < 2147483647) (j : Nat) : Jv (sp_end d j) (B + 128) := Jv.el j 128 0 _ B (by omega) hB (h.fI 12 j 0 0 (by simp))
theorem Jv.al (o : Nat) : ∀ (n j : Nat) (d : DC) (B : Nat), B + 128 * n < 2147483647 → Jv d B → Jv (sp_al o n j d) (B + 128 * n)
  | 0, _, _, _, _, h => h
  | n + 1, j, d, B, hB, h => by
    unfold sp_al
    split
    · exact (Jv.al o n (j + 1) _ (B + 128) (by omega) (h.end (by omega) j)).mono (by omega)
    · exact (Jv.al o n (j + 1) _ B (by omega) h).mono (by omega)
