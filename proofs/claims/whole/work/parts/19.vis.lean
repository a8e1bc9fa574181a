/-! What the class's cells don't hold: fields 15, 20, 21. -/
def visC (d d2 : DC) : Prop := kp0 d d2 ∧ (∀ k i j, gL d k i j = gL d2 k i j) ∧ ∀ k i j, k ≠ 15 → k ≠ 20 → k ≠ 21 → gI d k i j = gI d2 k i j
theorem visC.wc {D : va_G} {ct : Nat → ClassId} {lay : Nat → Nat → Nat} {d d2 : DC} {H : Heap} (h : visC d d2) (hW : WC D ct (lay, d) H) : WC D ct (lay, d2) H := by
  obtain ⟨⟨h1, h2, h3⟩, hL, hI⟩ := h
  have e : ∀ k, k ≠ 15 → k ≠ 20 → k ≠ 21 → gI d2 k = gI d k := fun k a b c => funext fun i => funext fun j => (hI k i j a b c).symm
  have eL : ∀ k, gL d2 k = gL d k := fun k => funext fun i => funext fun j => (hL k i j).symm
  have en : dna d2 = dna d := h1
  have et : dnt d2 = dnt d := h2
  have eo : dow d2 = dow d := h3
  have e0 := e 0 (by decide) (by decide) (by decide)
  have e1 := e 1 (by decide) (by decide) (by decide)
  have e2 := e 2 (by decide) (by decide) (by decide)
  have e3 := e 3 (by decide) (by decide) (by decide)
  have e4 := e 4 (by decide) (by decide) (by decide)
  have e5 := e 5 (by decide) (by decide) (by decide)
  have e7 := e 7 (by decide) (by decide) (by decide)
  have e9 := e 9 (by decide) (by decide) (by decide)
  have e10 := e 10 (by decide) (by decide) (by decide)
  have e11 := e 11 (by decide) (by decide) (by decide)
  have e12 := e 12 (by decide) (by decide) (by decide)
  have e13 := e 13 (by decide) (by decide) (by decide)
  have e14 := e 14 (by decide) (by decide) (by decide)
  have hc : ∀ k i, cellC ct (lay, d2) k i = cellC ct (lay, d) k i := by
    intro k i
    unfold cellC fC0 fC6 fC8 fC11 dl
    simp only [en, et, eo, e0, e1, e2, e3, e4, e5, e7, e9, e10, e11, e12, e13, e14, eL]
  have hv : ∀ k i, valC (lay, d2) k i = valC (lay, d) k i := by
    intro k i
    unfold valC
    simp only [en, et]
  refine ⟨fun k i hk => ?_, fun k i k' i' a b => hW.2 k i k' i' (by rw [← hv]; exact a) (by rw [← hv]; exact b)⟩
  rw [hc]
  exact hW.1 k i (by rw [← hv]; exact hk)
theorem visC.rf {d : DC} : visC d d := ⟨⟨rfl, rfl, rfl⟩, fun _ _ _ => rfl, fun _ _ _ _ _ _ => rfl⟩
theorem visC.sI {d d2 : DC} (h : visC d d2) (k i j : Nat) (v : Int32) : visC (sI d k i j v) (sI d2 k i j v) :=
  ⟨h.1, h.2.1, fun k' i' j' a b c => by rw [gI_sI, gI_sI]; unfold up3; split <;> first | rfl | exact h.2.2 k' i' j' a b c⟩
theorem visC.shut {d d2 : DC} (h : visC d d2) : visC (sp_shut d) (sp_shut d2) := by
  refine ⟨h.1, h.2.1, fun k' i' j' a b c => ?_⟩
  unfold sp_shut
  rw [gI_sA, gI_sA, gI_sA, gI_sA, gI_sI, gI_sI]
  have en : dna d2 = dna d := h.1.1
  have et : dnt d2 = dnt d := h.1.2.1
  rw [en, et]
  unfold up3
  rw [h.2.2 k' i' j' a b c]
theorem visC.write {d d2 : DC} (h : visC d d2) (b : Nat) (a1 a2 a3 a4 : Int32) : visC (sp_write d b a1 a2 a3 a4) (sp_write d2 b a1 a2 a3 a4) := by
  have e : gI d2 5 b 0 = gI d 5 b 0 := (h.2.2 5 b 0 (by decide) (by decide) (by decide)).symm
  unfold sp_write sp_row
  rw [e]
  split
  · exact ((((h.sI _ _ _ _).sI _ _ _ _).sI _ _ _ _).sI _ _ _ _).sI _ _ _ _
  · exact h.sI _ _ _ _
theorem visC_note (d : DC) (t j : Nat) : visC d (sp_note d t j) := by
  refine ⟨?_, ?_, fun k i q _ b c => (ct_note d t j k i q b c).symm⟩
  · unfold sp_note; split <;> exact ⟨rfl, rfl, rfl⟩
  · unfold sp_note; intro k i q; split <;> rfl
theorem visC_clean (d : DC) (t j : Nat) : visC (sp_write (sI d 2 0 t 0) 0 (nI (j + 1)) (nI (t / 32)) (nI (t % 32 + 1)) 0) (sp_write (sp_note (sI d 2 0 t 0) t j) 0 (nI (j + 1)) (nI (t / 32)) (nI (t % 32 + 1)) 0) := (visC_note _ t j).write _ _ _ _ _
theorem cl_lo {d : DC} {t j : Nat} (h : t < 96) : visC (sp_write (sI d 2 0 t 0) 0 (nI (j + 1)) (nI (t / 32)) (nI (t % 32 + 1)) 0) (sp_clean d t j) := by
  unfold sp_clean; dsimp only; rw [if_pos h]; exact visC_clean d t j
theorem cl_hi0 {d : DC} {t j : Nat} (h : ¬ t < 96) (h0 : gI d 1 0 0 = 0) : visC (sI (sp_write (sI d 2 0 t 0) 0 (nI (j + 1)) (nI (t / 32)) (nI (t % 32 + 1)) 0) 1 0 0 1) (sp_clean d t j) := by
  unfold sp_clean; dsimp only; rw [if_neg h, if_pos h0]; exact (visC_clean d t j).sI _ _ _ _
theorem cl_hi1 {d : DC} {t j : Nat} (h : ¬ t < 96) (h0 : ¬ gI d 1 0 0 = 0) : visC (sI (sp_shut (sp_write (sI d 2 0 t 0) 0 (nI (j + 1)) (nI (t / 32)) (nI (t % 32 + 1)) 0)) 1 0 0 2) (sp_clean d t j) := by
  unfold sp_clean; dsimp only; rw [if_neg h, if_neg h0]; exact (visC_clean d t j).shut.sI _ _ _ _
theorem cl_k {d : DC} {t j : Nat} : gI (sp_write (sI d 2 0 t 0) 0 (nI (j + 1)) (nI (t / 32)) (nI (t % 32 + 1)) 0) 1 0 0 = gI d 1 0 0 := by
  rw [ct_wr _ _ _ _ _ _ _ _ _ (by decide) (by decide), gI_sI]; rfl
theorem dl_0 {d : DC} : dl d = 0 ↔ gI d 1 0 0 = 0 := by
  unfold dl
  by_cases h : gI d 1 0 0 = 0
  · simp [h]
  · simp [h]
/-! the loops, a step -/
theorem el_down {j n t : Nat} {d : DC} (h : gI d 0 0 0 = 0) : sp_el j n t d = d := by
  cases n with
  | zero => rfl
  | succ n => unfold sp_el; rw [if_pos h]
theorem el_no {j n t : Nat} {d : DC} (ht : t < n) (h : ¬ gI d 0 0 0 = 0) (h2 : ¬ gI d 2 0 t = nI (j + 1)) : sp_el j (n - t) t d = sp_el j (n - (t + 1)) (t + 1) d := by
  rw [show n - t = (n - (t + 1)) + 1 by omega]
  conv => lhs; unfold sp_el
  rw [if_neg h, if_neg h2]
theorem el_yes {j n t : Nat} {d : DC} (ht : t < n) (h : ¬ gI d 0 0 0 = 0) (h2 : gI d 2 0 t = nI (j + 1)) : sp_el j (n - t) t d = sp_el j (n - (t + 1)) (t + 1) (sp_clean d t j) := by
  rw [show n - t = (n - (t + 1)) + 1 by omega]
  conv => lhs; unfold sp_el
  rw [if_neg h, if_pos h2]
theorem al_down {o : Nat} : ∀ {n j : Nat} {d : DC}, gI d 0 0 0 = 0 → sp_al o n j d = d
  | 0, _, _, _ => rfl
  | n + 1, j, d, h => by
    unfold sp_al
    rw [if_neg (fun q => q.1 h)]
    exact al_down h
theorem al_no {o n j : Nat} {d : DC} (hj : j < n) (h : ¬ (¬ gI d 0 0 0 = 0 ∧ dow d j = o ∧ ¬ gI d 12 j 0 = 0)) : sp_al o (n - j) j d = sp_al o (n - (j + 1)) (j + 1) d := by
  rw [show n - j = (n - (j + 1)) + 1 by omega]
  conv => lhs; unfold sp_al
  rw [if_neg h]
theorem al_yes {o n j : Nat} {d : DC} (hj : j < n) (h : ¬ gI d 0 0 0 = 0 ∧ dow d j = o ∧ ¬ gI d 12 j 0 = 0) : sp_al o (n - j) j d = sp_al o (n - (j + 1)) (j + 1) (sp_end d j) := by
  rw [show n - j = (n - (j + 1)) + 1 by omega]
  conv => lhs; unfold sp_al
  rw [if_pos h]
theorem al_past {o n j : Nat} {d : DC} (hj : ¬ j < n) : sp_al o (n - j) j d = sp_al o (n - (j + 1)) (j + 1) d := by
  rw [show n - j = 0 by omega, show n - (j + 1) = 0 by omega]
  rfl
