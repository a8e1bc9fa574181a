/-! What the reference's cells don't hold: the class's cells of the first book, the tasks' applications as numbers from 0. -/
def visM (d d2 : DC) : Prop := (d2.1 = d.1 ∧ d2.2.1 = d.2.1) ∧ (∀ k i j, gL d k i j = gL d2 k i j) ∧ ∀ k i j, ¬ (k = 7 ∧ i = 0) → gI d k i j = gI d2 k i j
theorem visM.wm {D : va_G} {ct : Nat → ClassId} {lay : Nat → Nat → Nat} {d d2 : DC} {H : Heap} (h : visM d d2) (hW : WM D ct (lay, d) H) : WM D ct (lay, d2) H := by
  obtain ⟨⟨h1, h2⟩, hL, hI⟩ := h
  have e : ∀ k, k ≠ 7 → gI d2 k = gI d k := fun k a => funext fun i => funext fun j => (hI k i j (fun q => a q.1)).symm
  have eL : ∀ k, gL d2 k = gL d k := fun k => funext fun i => funext fun j => (hL k i j).symm
  have en : dna d2 = dna d := h1
  have et : dnt d2 = dnt d := h2
  have e7 : gI d2 7 1 = gI d 7 1 := funext fun j => (hI 7 1 j (fun q => absurd q.2 (by decide))).symm
  have hc : ∀ k i, cellM ct (lay, d2) k i = cellM ct (lay, d) k i := by
    intro k i
    unfold cellM fM0 dn
    simp only [en, et, e7, eL, e 0 (by decide), e 1 (by decide), e 2 (by decide), e 3 (by decide), e 4 (by decide), e 5 (by decide), e 9 (by decide), e 10 (by decide), e 11 (by decide), e 12 (by decide), e 13 (by decide), e 14 (by decide), e 15 (by decide), e 20 (by decide), e 21 (by decide)]
  refine ⟨fun k i hk => ?_, hW.2⟩
  rw [hc]
  exact hW.1 k i hk
theorem visM.rf {d : DC} : visM d d := ⟨⟨rfl, rfl⟩, fun _ _ _ => rfl, fun _ _ _ _ => rfl⟩
theorem visM.of {d d2 : DC} (h : d = d2) : visM d d2 := by subst h; exact visM.rf
theorem visM.tr {d d2 d3 : DC} (h : visM d d2) (h2 : visM d2 d3) : visM d d3 := ⟨⟨h2.1.1.trans h.1.1, h2.1.2.trans h.1.2⟩, fun k i j => (h.2.1 k i j).trans (h2.2.1 k i j), fun k i j q => (h.2.2 k i j q).trans (h2.2.2 k i j q)⟩
theorem visM.sI {d d2 : DC} (h : visM d d2) (k i j : Nat) (v : Int32) : visM (sI d k i j v) (sI d2 k i j v) :=
  ⟨h.1, h.2.1, fun k' i' j' a => by rw [gI_sI, gI_sI]; unfold up3; split <;> first | rfl | exact h.2.2 k' i' j' a⟩
theorem visM.shut {d d2 : DC} (h : visM d d2) : visM (sp_shut d) (sp_shut d2) := by
  refine ⟨h.1, h.2.1, fun k' i' j' a => ?_⟩
  unfold sp_shut
  rw [gI_sA, gI_sA, gI_sA, gI_sA, gI_sI, gI_sI]
  have en : dna d2 = dna d := h.1.1
  have et : dnt d2 = dnt d := h.1.2
  rw [en, et]
  unfold up3
  rw [h.2.2 k' i' j' a]
theorem visM_row (d : DC) (a1 a2 a3 a4 : Int32) : visM d (sp_row d 0 a1 a2 a3 a4) := by
  unfold sp_row
  split
  · refine ⟨⟨rfl, rfl⟩, fun _ _ _ => rfl, fun k i j q => ?_⟩
    simp only [gI_sI, up3]
    rw [if_neg (fun z => q ⟨z.1, z.2.1⟩), if_neg (fun z => q ⟨z.1, z.2.1⟩), if_neg (fun z => q ⟨z.1, z.2.1⟩), if_neg (fun z => q ⟨z.1, z.2.1⟩)]
  · exact visM.rf
/-- the reference's own writes at a cleaning -/
theorem visM_clean (d : DC) (t j : Nat) (a1 a2 a3 a4 : Int32) : visM (sI (sp_note (sI d 2 0 t 0) t j) 5 0 0 (gI d 5 0 0 + 1)) (sp_write (sp_note (sI d 2 0 t 0) t j) 0 a1 a2 a3 a4) := by
  unfold sp_write
  rw [ct_note (sI d 2 0 t 0) t j 5 0 0 (by decide) (by decide)]
  exact (visM_row _ a1 a2 a3 a4).sI 5 0 0 _
theorem sI_same (d : DC) (k i j : Nat) : sI d k i j (gI d k i j) = d := dc_ext ⟨rfl, rfl, rfl⟩ (fun k' i' j' => by rw [gI_sI]; unfold up3; split <;> first | rfl | (rename_i h; obtain ⟨rfl, rfl, rfl⟩ := h; rfl)) (fun _ _ _ => rfl)
theorem sI_shut (d : DC) (v : Int32) : sp_shut (sI d 1 0 0 v) = sI (sp_shut d) 1 0 0 v := by
  refine dc_ext ⟨rfl, rfl, rfl⟩ (fun k i j => ?_) (fun _ _ _ => rfl)
  unfold sp_shut
  rw [gI_sI]
  simp only [up3, gI_sA, gI_sI, dna_sI, dnt_sI]
  by_cases h : k = 1 ∧ i = 0 ∧ j = 0
  · obtain ⟨rfl, rfl, rfl⟩ := h
    simp
  · by_cases h1 : k = 11 ∧ i < dna d ∧ j = 0
    · simp [h, h1]
    · by_cases h2 : k = 12 ∧ i < dnt d ∧ j = 0
      · simp [h, h1, h2]
      · simp [h, h1, h2]
theorem dn_0 {d : DC} : dn d = 0 ↔ ¬ gI d 0 0 0 = 0 := by
  unfold dn
  by_cases h : gI d 0 0 0 = 0
  · simp [h]
  · simp [h]
theorem lpm_out {n i : Nat} (hn : n < 2 ^ 30) (hi : i ≤ n) (h : nI n < nI (i + 1)) : i = n := by
  have := (nI_ltI (by omega) (by omega)).mp h
  omega
theorem lpm_in {n i : Nat} (hn : n < 2 ^ 30) (hi : i ≤ n) (h : ¬ nI n < nI (i + 1)) : i < n := by
  rcases Nat.lt_or_ge i n with q | q
  · exact q
  · exact absurd (nI_lt (show n < i + 1 by omega) (by omega)) h
/-! fields that cleaning and ending leave alone -/
def kf (d d2 : DC) : Prop := (∀ k i j, gL d2 k i j = gL d k i j) ∧ ∀ k i j, (k = 3 ∨ k = 4 ∨ k = 9 ∨ k = 10 ∨ k = 13 ∨ k = 14 ∨ k = 15) → gI d2 k i j = gI d k i j
theorem kf.rf {d : DC} : kf d d := ⟨fun _ _ _ => rfl, fun _ _ _ _ => rfl⟩
theorem kf.tr {d d2 d3 : DC} (h : kf d d2) (h2 : kf d2 d3) : kf d d3 := ⟨fun k i j => (h2.1 k i j).trans (h.1 k i j), fun k i j q => (h2.2 k i j q).trans (h.2 k i j q)⟩
theorem kf_sI (d : DC) (k i j : Nat) (v : Int32) (hk : ¬ (k = 3 ∨ k = 4 ∨ k = 9 ∨ k = 10 ∨ k = 13 ∨ k = 14 ∨ k = 15)) : kf d (sI d k i j v) :=
  ⟨fun _ _ _ => rfl, fun k' i' j' q => by rw [gI_sI]; unfold up3; exact if_neg (fun z : k' = k ∧ i' = i ∧ j' = j => hk (by rw [← z.1]; exact q))⟩
theorem kf_shut (d : DC) : kf d (sp_shut d) := ⟨fun _ _ _ => rfl, fun k i j q => ct_shut d k i j (by omega) (by omega) (by omega)⟩
theorem kf_write (d : DC) (b : Nat) (a1 a2 a3 a4 : Int32) : kf d (sp_write d b a1 a2 a3 a4) := by
  refine ⟨?_, fun k i j q => ct_wr d b a1 a2 a3 a4 k i j (by omega) (by omega)⟩
  intro k i j
  unfold sp_write sp_row
  split <;> rfl
theorem kf_note (d : DC) (t j : Nat) : kf d (sp_note d t j) := by
  refine ⟨?_, fun k i q z => ct_note d t j k i q (by omega) (by omega)⟩
  intro k i q
  unfold sp_note
  split <;> rfl
theorem kf_clean (d : DC) (t j : Nat) : kf d (sp_clean d t j) := by
  have h := ((kf_sI d 2 0 t 0 (by decide)).tr (kf_note _ t j)).tr (kf_write _ 0 (nI (j + 1)) (nI (t / 32)) (nI (t % 32 + 1)) 0)
  unfold sp_clean
  dsimp only
  split
  · exact h
  · split
    · exact h.tr (kf_sI _ _ _ _ _ (by decide))
    · exact (h.tr (kf_shut _)).tr (kf_sI _ _ _ _ _ (by decide))
theorem kf_el (j : Nat) : ∀ (n t : Nat) (d : DC), kf d (sp_el j n t d)
  | 0, _, _ => kf.rf
  | n + 1, t, d => by
    unfold sp_el
    split
    · exact kf.rf
    · split
      · exact (kf_clean d t j).tr (kf_el j n (t + 1) _)
      · exact kf_el j n (t + 1) _
theorem kf_end (d : DC) (j : Nat) : kf d (sp_end d j) := (kf_sI d 12 j 0 0 (by decide)).tr (kf_el j 128 0 _)
theorem kf_al (o : Nat) : ∀ (n j : Nat) (d : DC), kf d (sp_al o n j d)
  | 0, _, _ => kf.rf
  | n + 1, j, d => by
    unfold sp_al
    split
    · exact (kf_end d j).tr (kf_al o n (j + 1) _)
    · exact kf_al o n (j + 1) _
theorem kf_all (d : DC) (o : Nat) : kf d (sp_all d o) := kf_al o _ 0 d
/-! how many of kind 3 have been cleaned, while up -/
def sk (d : DC) : Prop := gI d 0 0 0 = 0 ∨ gI d 1 0 0 = 0 ∨ gI d 1 0 0 = 1
theorem up_shut (d : DC) : gI (sp_shut d) 0 0 0 = 0 := by
  unfold sp_shut; rw [gI_sA, if_neg (fun q => absurd q.1 (by decide)), gI_sA, if_neg (fun q => absurd q.1 (by decide)), gI_sI]; rfl
theorem up_clean1 (d : DC) (t j k : Nat) (hk : k = 0 ∨ k = 1) : gI (sp_write (sp_note (sI d 2 0 t 0) t j) 0 (nI (j + 1)) (nI (t / 32)) (nI (t % 32 + 1)) 0) k 0 0 = gI d k 0 0 := by
  rw [ct_wr _ _ _ _ _ _ _ _ _ (by omega) (by omega), ct_note _ _ _ _ _ _ (by omega) (by omega), gI_sI]
  unfold up3
  rw [if_neg (by omega)]
theorem sk_clean {d : DC} (h : sk d) (t j : Nat) : sk (sp_clean d t j) := by
  unfold sp_clean
  dsimp only
  split
  · unfold sk
    rw [up_clean1 d t j 0 (Or.inl rfl), up_clean1 d t j 1 (Or.inr rfl)]
    exact h
  · split
    · exact Or.inr (Or.inr (by rw [gI_sI]; rfl))
    · exact Or.inl (by rw [gI_sI]; show gI (sp_shut _) 0 0 0 = 0; exact up_shut _)
theorem sk_el {j : Nat} : ∀ (n t : Nat) (d : DC), sk d → sk (sp_el j n t d)
  | 0, _, _, h => h
  | n + 1, t, d, h => by
    unfold sp_el
    split
    · exact h
    · split
      · exact sk_el n (t + 1) _ (sk_clean h t j)
      · exact sk_el n (t + 1) _ h
theorem sk_end {d : DC} (h : sk d) (j : Nat) : sk (sp_end d j) := sk_el 128 0 _ h
theorem ite01' {P : Prop} [Decidable P] : ((if P then (1 : Int32) else 0) = 0) ↔ ¬ P := by
  by_cases h : P
  · simp [h]
  · simp [h]
