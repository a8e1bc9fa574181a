/-! the reference's cleaning is the same -/
theorem visM_w (d : DC) (a1 a2 a3 a4 : Int32) : visM (sI d 5 0 0 (gI d 5 0 0 + 1)) (sp_write d 0 a1 a2 a3 a4) := (visM_row d a1 a2 a3 a4).sI 5 0 0 _
theorem note_y {d : DC} {t j c : Nat} (hc : gI d 5 0 0 = nI c) (h : c < 500) : sI (sI d 20 0 c (nI (j + 1))) 21 0 c (nI t) = sp_note d t j := by
  unfold sp_note
  rw [if_pos (by rw [hc]; exact nI_lt (b := 500) h (by decide)), show (gI d 5 0 0).toNatClampNeg = c by rw [hc]; exact nI_clamp (by omega)]
theorem note_n {d : DC} {t j c : Nat} (hc : gI d 5 0 0 = nI c) (h : 500 ≤ c) (h2 : c < 2 ^ 31) : d = sp_note d t j := by
  unfold sp_note
  rw [if_neg (by rw [hc]; exact nI_nlt (b := 500) h h2)]
abbrev D1 (d : DC) (t j : Nat) : DC := sp_write (sp_note (sI d 2 0 t 0) t j) 0 (nI (j + 1)) (nI (t / 32)) (nI (t % 32 + 1)) 0
theorem clm_lo {d : DC} {t j : Nat} (h : t < 96) : sp_clean d t j = sI (D1 d t j) 1 0 0 (gI (D1 d t j) 1 0 0) := by
  rw [sI_same]; unfold sp_clean; dsimp only; rw [if_pos h]
theorem clm_0 {d : DC} {t j : Nat} (h : ¬ t < 96) (h0 : gI d 1 0 0 = 0) : sp_clean d t j = sI (D1 d t j) 1 0 0 (gI (D1 d t j) 1 0 0 + 1) := by
  unfold sp_clean; dsimp only; rw [if_neg h, if_pos h0, up_clean1 d t j 1 (Or.inr rfl), h0]; rfl
theorem clm_1 {d : DC} {t j : Nat} (h : ¬ t < 96) (h0 : gI d 1 0 0 = 1) : sp_clean d t j = sp_shut (sI (D1 d t j) 1 0 0 (gI (D1 d t j) 1 0 0 + 1)) := by
  unfold sp_clean; dsimp only; rw [if_neg h, if_neg (by rw [h0]; decide), sI_shut, up_clean1 d t j 1 (Or.inr rfl), h0]; rfl
theorem D1_k (d : DC) (t j : Nat) : gI (D1 d t j) 1 0 0 = gI d 1 0 0 := up_clean1 d t j 1 (Or.inr rfl)
theorem kp_D1 (d : DC) (t j : Nat) : kp d (D1 d t j) := ((kp_sI d 2 0 t 0).tr (kp_note _ t j)).tr (kp_write _ _ _ _ _ _)
/-! 'ended' set before or behind the ending of all tasks of an application -/
theorem sI_cm (d : DC) {k k2 : Nat} (i j i2 j2 : Nat) (v v2 : Int32) (h : k ≠ k2) : sI (sI d k i j v) k2 i2 j2 v2 = sI (sI d k2 i2 j2 v2) k i j v := by
  refine dc_ext ⟨rfl, rfl, rfl⟩ (fun k' i' j' => ?_) (fun _ _ _ => rfl)
  simp only [gI_sI, up3]
  by_cases h1 : k' = k ∧ i' = i ∧ j' = j
  · rw [if_neg (fun z => h (h1.1.symm.trans z.1)), if_pos h1, if_pos h1]
  · rw [if_neg h1, if_neg h1]
theorem cm_note (d : DC) (o t j : Nat) : sp_note (sI d 11 o 0 1) t j = sI (sp_note d t j) 11 o 0 1 := by
  have e : gI (sI d 11 o 0 1) 5 0 0 = gI d 5 0 0 := rfl
  unfold sp_note
  rw [e]
  split
  · rw [sI_cm d o 0 _ _ _ _ (show 11 ≠ 20 by decide), sI_cm _ o 0 _ _ _ _ (show 11 ≠ 21 by decide)]
  · rfl
theorem cm_write (d : DC) (o b : Nat) (a1 a2 a3 a4 : Int32) : sp_write (sI d 11 o 0 1) b a1 a2 a3 a4 = sI (sp_write d b a1 a2 a3 a4) 11 o 0 1 := by
  have e : gI (sI d 11 o 0 1) 5 b 0 = gI d 5 b 0 := rfl
  unfold sp_write sp_row
  rw [e]
  split
  · rw [sI_cm d o 0 _ _ _ _ (show 11 ≠ 7 by decide), sI_cm _ o 0 _ _ _ _ (show 11 ≠ 7 by decide), sI_cm _ o 0 _ _ _ _ (show 11 ≠ 7 by decide), sI_cm _ o 0 _ _ _ _ (show 11 ≠ 7 by decide), sI_cm _ o 0 _ _ _ _ (show 11 ≠ 5 by decide)]
  · rw [sI_cm _ o 0 _ _ _ _ (show 11 ≠ 5 by decide)]
theorem cm_shut {d : DC} {o : Nat} (ho : o < dna d) : sp_shut (sI d 11 o 0 1) = sI (sp_shut d) 11 o 0 1 := by
  refine dc_ext ⟨rfl, rfl, rfl⟩ (fun k i j => ?_) (fun _ _ _ => rfl)
  unfold sp_shut
  rw [gI_sI]
  simp only [up3, gI_sA, gI_sI, dna_sI, dnt_sI]
  by_cases h1 : k = 11 ∧ i < dna d ∧ j = 0
  · rw [if_pos h1]
    by_cases h2 : k = 11 ∧ i = o ∧ j = 0
    · rw [if_pos h2]
    · rw [if_neg h2, if_pos h1]
  · rw [if_neg h1]
    have h2 : ¬ (k = 11 ∧ i = o ∧ j = 0) := fun z => h1 ⟨z.1, by rw [z.2.1]; exact ho, z.2.2⟩
    rw [if_neg h2, if_neg h2, if_neg h1]
theorem cm_clean {d : DC} {o : Nat} (ho : o < dna d) (t j : Nat) : sp_clean (sI d 11 o 0 1) t j = sI (sp_clean d t j) 11 o 0 1 := by
  have e : gI (sI d 11 o 0 1) 1 0 0 = gI d 1 0 0 := rfl
  have h : D1 (sI d 11 o 0 1) t j = sI (D1 d t j) 11 o 0 1 := by
    unfold D1
    rw [sI_cm d o 0 _ _ _ _ (show 11 ≠ 2 by decide), cm_note, cm_write]
  unfold sp_clean
  dsimp only
  show (if t < 96 then D1 (sI d 11 o 0 1) t j else if gI (sI d 11 o 0 1) 1 0 0 = 0 then sI (D1 (sI d 11 o 0 1) t j) 1 0 0 1 else sI (sp_shut (D1 (sI d 11 o 0 1) t j)) 1 0 0 2) = sI (if t < 96 then D1 d t j else if gI d 1 0 0 = 0 then sI (D1 d t j) 1 0 0 1 else sI (sp_shut (D1 d t j)) 1 0 0 2) 11 o 0 1
  rw [h, e]
  split
  · rfl
  · split
    · rw [sI_cm _ o 0 _ _ _ _ (show 11 ≠ 1 by decide)]
    · rw [cm_shut (by rw [(kp_D1 d t j).na]; exact ho), sI_cm _ o 0 _ _ _ _ (show 11 ≠ 1 by decide)]
theorem cm_el {o j : Nat} : ∀ (n t : Nat) (d : DC), o < dna d → sp_el j n t (sI d 11 o 0 1) = sI (sp_el j n t d) 11 o 0 1
  | 0, _, _, _ => rfl
  | n + 1, t, d, ho => by
    have e0 : gI (sI d 11 o 0 1) 0 0 0 = gI d 0 0 0 := rfl
    have e2 : gI (sI d 11 o 0 1) 2 0 t = gI d 2 0 t := rfl
    unfold sp_el
    rw [e0, e2]
    split
    · rfl
    · split
      · rw [cm_clean ho]; exact cm_el n (t + 1) _ (by rw [(kp_clean d t j).na]; exact ho)
      · exact cm_el n (t + 1) _ ho
theorem cm_end {d : DC} {o : Nat} (ho : o < dna d) (j : Nat) : sp_end (sI d 11 o 0 1) j = sI (sp_end d j) 11 o 0 1 := by
  unfold sp_end
  rw [sI_cm d o 0 _ _ _ _ (show 11 ≠ 12 by decide)]
  exact cm_el 128 0 _ ho
theorem cm_al {o o2 : Nat} : ∀ (n j : Nat) (d : DC), o < dna d → sp_al o2 n j (sI d 11 o 0 1) = sI (sp_al o2 n j d) 11 o 0 1
  | 0, _, _, _ => rfl
  | n + 1, j, d, ho => by
    have e0 : gI (sI d 11 o 0 1) 0 0 0 = gI d 0 0 0 := rfl
    have e2 : gI (sI d 11 o 0 1) 12 j 0 = gI d 12 j 0 := rfl
    have e3 : dow (sI d 11 o 0 1) j = dow d j := rfl
    unfold sp_al
    rw [e0, e2, e3]
    split
    · rw [cm_end ho]; exact cm_al n (j + 1) _ (by rw [(kp_end d j).na]; exact ho)
    · exact cm_al n (j + 1) _ ho
theorem cm_all {d : DC} {o : Nat} (ho : o < dna d) : sp_all (sI d 11 o 0 1) o = sI (sp_all d o) 11 o 0 1 := cm_al _ 0 d ho
/-! down: all have ended -/
def de (d : DC) : Prop := gI d 0 0 0 = 0 → ∀ i, i < dna d → gI d 11 i 0 = 1
theorem de_shut (d : DC) : de (sp_shut d) := fun _ i hi => by
  unfold sp_shut; rw [gI_sA, if_pos ⟨rfl, hi, rfl⟩]
theorem de_sI {d : DC} (h : de d) (k i j : Nat) (v : Int32) (h0 : k ≠ 0) (h1 : k ≠ 11) : de (sI d k i j v) := fun hu q hq => by
  rw [gI_sI] at hu ⊢
  simp only [up3, Ne.symm h0, Ne.symm h1, false_and, if_false] at hu ⊢
  exact h hu q hq
theorem de_note {d : DC} (h : de d) (t j : Nat) : de (sp_note d t j) := by
  unfold sp_note; split
  · exact de_sI (de_sI h _ _ _ _ (by decide) (by decide)) _ _ _ _ (by decide) (by decide)
  · exact h
theorem de_write {d : DC} (h : de d) (b : Nat) (a1 a2 a3 a4 : Int32) : de (sp_write d b a1 a2 a3 a4) := by
  unfold sp_write sp_row; split
  · exact de_sI (de_sI (de_sI (de_sI (de_sI h _ _ _ _ (by decide) (by decide)) _ _ _ _ (by decide) (by decide)) _ _ _ _ (by decide) (by decide)) _ _ _ _ (by decide) (by decide)) _ _ _ _ (by decide) (by decide)
  · exact de_sI h _ _ _ _ (by decide) (by decide)
theorem de_clean {d : DC} (h : de d) (t j : Nat) : de (sp_clean d t j) := by
  have h1 := de_write (de_note (de_sI h 2 0 t 0 (by decide) (by decide)) t j) 0 (nI (j + 1)) (nI (t / 32)) (nI (t % 32 + 1)) 0
  unfold sp_clean
  dsimp only
  split
  · exact h1
  · split
    · exact de_sI h1 _ _ _ _ (by decide) (by decide)
    · exact de_sI (de_shut _) _ _ _ _ (by decide) (by decide)
theorem de_el {j : Nat} : ∀ (n t : Nat) (d : DC), de d → de (sp_el j n t d)
  | 0, _, _, h => h
  | n + 1, t, d, h => by
    unfold sp_el
    split
    · exact h
    · split
      · exact de_el n (t + 1) _ (de_clean h t j)
      · exact de_el n (t + 1) _ h
theorem de_end {d : DC} (h : de d) (j : Nat) : de (sp_end d j) := de_el 128 0 _ (de_sI h 12 j 0 0 (by decide) (by decide))
theorem de_al {o : Nat} : ∀ (n j : Nat) (d : DC), de d → de (sp_al o n j d)
  | 0, _, _, h => h
  | n + 1, j, d, h => by
    unfold sp_al
    split
    · exact de_al n (j + 1) _ (de_end h j)
    · exact de_al n (j + 1) _ h
theorem de_all {d : DC} (h : de d) (o : Nat) : de (sp_all d o) := de_al _ 0 d h
/-- what is set already -/
theorem sI_had {d : DC} {k i j : Nat} {v : Int32} (h : gI d k i j = v) : sI d k i j v = d := by rw [← h]; exact sI_same d k i j
