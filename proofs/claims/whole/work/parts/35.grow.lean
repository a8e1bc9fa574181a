/-! A new application, a new task: the class's world grows. -/
def layA (lay : Nat → Nat → Nat) (n q s1 s2 : Nat) : Nat → Nat → Nat := fun k i => if k = 8 ∧ i = n then q else if k = 9 ∧ i = n then s1 else if k = 10 ∧ i = n then s2 else lay k i
def layT (lay : Nat → Nat → Nat) (n q : Nat) : Nat → Nat → Nat := fun k i => if k = 11 ∧ i = n then q else lay k i
theorem layA_o {lay : Nat → Nat → Nat} {n q s1 s2 k i : Nat} (h : i ≠ n) : layA lay n q s1 s2 k i = lay k i := by
  unfold layA
  rw [if_neg (fun z => h z.2), if_neg (fun z => h z.2), if_neg (fun z => h z.2)]
theorem layT_o {lay : Nat → Nat → Nat} {n q k i : Nat} (h : i ≠ n) : layT lay n q k i = lay k i := by
  unfold layT
  rw [if_neg (fun z => h z.2)]
/-- the valid cells behind: the old ones and the three -/
theorem valA {lay lay2 : Nat → Nat → Nat} {d d2 : DC} (hn : dna d2 = dna d + 1) (ht : dnt d2 = dnt d) {k i : Nat} (h : valC (lay2, d2) k i) : valC (lay, d) k i ∧ ¬ ((k = 8 ∨ k = 9 ∨ k = 10) ∧ i = dna d) ∨ ((k = 8 ∨ k = 9 ∨ k = 10) ∧ i = dna d) := by
  have hn2 : dna (lay2, d2).2 = dna d + 1 := hn
  have ht2 : dnt (lay2, d2).2 = dnt d := ht
  unfold valC at h ⊢
  split at h
  · exact Or.inl ⟨h, by omega⟩
  · exact Or.inl ⟨h, by omega⟩
  · exact Or.inl ⟨h, by omega⟩
  · exact Or.inl ⟨h, by omega⟩
  · exact Or.inl ⟨h, by omega⟩
  · exact Or.inl ⟨h, by omega⟩
  · exact Or.inl ⟨h, by omega⟩
  · exact Or.inl ⟨h, by omega⟩
  · rw [hn2] at h; rcases Nat.lt_or_ge i (dna d) with q | q
    · exact Or.inl ⟨q, by omega⟩
    · exact Or.inr ⟨by decide, by omega⟩
  · rw [hn2] at h; rcases Nat.lt_or_ge i (dna d) with q | q
    · exact Or.inl ⟨q, by omega⟩
    · exact Or.inr ⟨by decide, by omega⟩
  · rw [hn2] at h; rcases Nat.lt_or_ge i (dna d) with q | q
    · exact Or.inl ⟨q, by omega⟩
    · exact Or.inr ⟨by decide, by omega⟩
  · rw [ht2] at h; exact Or.inl ⟨h, by omega⟩
  · exact h.elim
theorem valT {lay lay2 : Nat → Nat → Nat} {d d2 : DC} (hn : dna d2 = dna d) (ht : dnt d2 = dnt d + 1) {k i : Nat} (h : valC (lay2, d2) k i) : valC (lay, d) k i ∧ ¬ (k = 11 ∧ i = dnt d) ∨ (k = 11 ∧ i = dnt d) := by
  have hn2 : dna (lay2, d2).2 = dna d := hn
  have ht2 : dnt (lay2, d2).2 = dnt d + 1 := ht
  unfold valC at h ⊢
  split at h
  · exact Or.inl ⟨h, by omega⟩
  · exact Or.inl ⟨h, by omega⟩
  · exact Or.inl ⟨h, by omega⟩
  · exact Or.inl ⟨h, by omega⟩
  · exact Or.inl ⟨h, by omega⟩
  · exact Or.inl ⟨h, by omega⟩
  · exact Or.inl ⟨h, by omega⟩
  · exact Or.inl ⟨h, by omega⟩
  · rw [hn2] at h; exact Or.inl ⟨h, by omega⟩
  · rw [hn2] at h; exact Or.inl ⟨h, by omega⟩
  · rw [hn2] at h; exact Or.inl ⟨h, by omega⟩
  · rw [ht2] at h; rcases Nat.lt_or_ge i (dnt d) with q | q
    · exact Or.inl ⟨q, by omega⟩
    · exact Or.inr ⟨rfl, by omega⟩
  · exact h.elim
theorem wc_app {D : va_G} {ct : Nat → ClassId} {lay : Nat → Nat → Nat} {d : DC} {H2 H3 H4 : Heap} {q s1 s2 : Nat} {r : Int32} (hW : WC D ct (lay, d) H2)
    (f1 : ∀ k i, valC (lay, d) k i → lay k i ≠ q ∧ lay k i ≠ s1 ∧ lay k i ≠ s2) (hq1 : q ≠ s1) (hq2 : q ≠ s2) (h12 : s1 ≠ s2)
    (a1 : va_at D classes (q, .inr (0, [.ref s1, .ref s2, .int 0, .int r, .int 0])) H2) (a2 : va_at D classes (s1, .inl (ct 1, 8, .inr (.inl (fun _ => 0)))) H2) (a3 : va_at D classes (s2, .inl (ct 1, 8, .inr (.inl (fun _ => 0)))) H2)
    (how : ∀ j, j < dnt d → dow d j < dna d) (z9 : gI d 9 (dna d) 0 = 0) (z11 : gI d 11 (dna d) 0 = 0) (z0 : ∀ k, gL d 0 (dna d) k = 0) (z1 : ∀ k, gL d 1 (dna d) k = 0)
    (hat3 : va_at D classes (lay 1 0, .inl (ct 3, 16, .inr (.inr (.inr (.inr (va_up (fun j => if j < dna d then some (lay 8 j) else none) (dna d) (some q))))))) H3) (hch3 : rr_ch (lay 1 0) H2 H3)
    (hat4 : va_at D classes (lay 0 0, .inr (3, (fC0 lay d).set 7 (.int (nI (dna d + 1))))) H4) (hch4 : rr_ch (lay 0 0) H3 H4) : WC D ct (layA lay (dna d) q s1 s2, sNa (sI d 10 (dna d) 0 r) (dna d + 1)) H4 := by
  have n01 : lay 0 0 ≠ lay 1 0 := fun z => absurd (hW.2 0 0 1 0 rfl rfl z).1 (by decide)
  have v0 : valC (lay, d) 0 0 := rfl
  have v1 : valC (lay, d) 1 0 := rfl
  -- an old cell but the two
  have old : ∀ k i, valC (lay, d) k i → k ≠ 0 → k ≠ 1 → va_at D classes (lay k i, cellC ct (lay, d) k i) H4 := fun k i hv h0 h1 =>
    hch4.at (hch3.at (hW.1 k i hv) (fun z => h1 (hW.2 k i 1 0 hv v1 z).1)) (fun z => h0 (hW.2 k i 0 0 hv v0 z).1)
  have b1 := hch4.at (hch3.at a1 (fun z => (f1 1 0 v1).1 z.symm)) (fun z => (f1 0 0 v0).1 z.symm)
  have b2 := hch4.at (hch3.at a2 (fun z => (f1 1 0 v1).2.1 z.symm)) (fun z => (f1 0 0 v0).2.1 z.symm)
  have b3 := hch4.at (hch3.at a3 (fun z => (f1 1 0 v1).2.2 z.symm)) (fun z => (f1 0 0 v0).2.2 z.symm)
  have e1 : ∀ z, gL d 0 (dna d) z = (fun _ => (0 : Int64)) z := z0
  refine ⟨fun k i hk => ?_, fun k i k' i' h1 h2 he => ?_⟩
  · rcases valA (lay := lay) (d := d) (d2 := sNa (sI d 10 (dna d) 0 r) (dna d + 1)) rfl rfl hk with ⟨hv, hne⟩ | ⟨hkk, hi⟩
    · match k, hk, hv, hne with
      | 0, hk, hv, hne => obtain rfl : i = 0 := hv; exact hat4
      | 1, hk, hv, hne =>
        obtain rfl : i = 0 := hv
        have h9 := hch4.at hat3 n01.symm
        have e9 : (fun j => if j < dna d + 1 then some (layA lay (dna d) q s1 s2 8 j) else none) = va_up (fun j => if j < dna d then some (lay 8 j) else none) (dna d) (some q) := by
          funext j
          unfold va_up
          by_cases hj : j = dna d
          · subst hj
            rw [if_pos (Nat.lt_succ_self _), if_pos rfl]
            unfold layA; rw [if_pos ⟨rfl, rfl⟩]
          · rw [if_neg hj, layA_o hj]
            show (if j < dna d + 1 then some (lay 8 j) else none) = if j < dna d then some (lay 8 j) else none
            by_cases hj2 : j < dna d
            · rw [if_pos hj2, if_pos (by omega)]
            · rw [if_neg hj2, if_neg (by omega)]
        show va_at D classes (lay 1 0, .inl (ct 3, 16, .inr (.inr (.inr (.inr (fun j => if j < dna d + 1 then some (layA lay (dna d) q s1 s2 8 j) else none)))))) H4
        rw [e9]; exact h9
      | 2, hk, hv, hne => obtain rfl : i = 0 := hv; exact old 2 0 rfl (by decide) (by decide)
      | 3, hk, hv, hne => obtain rfl : i = 0 := hv; exact old 3 0 rfl (by decide) (by decide)
      | 4, hk, hv, hne => obtain rfl : i = 0 := hv; exact old 4 0 rfl (by decide) (by decide)
      | 5, hk, hv, hne => obtain rfl : i = 0 := hv; exact old 5 0 rfl (by decide) (by decide)
      | 6, hk, hv, hne => exact old 6 i hv (by decide) (by decide)
      | 7, hk, hv, hne => exact old 7 i hv (by decide) (by decide)
      | 8, hk, hv, hne =>
        have hi : i ≠ dna d := Nat.ne_of_lt hv
        have h9 := old 8 i hv (by decide) (by decide)
        have e9 : cellC ct (layA lay (dna d) q s1 s2, sNa (sI d 10 (dna d) 0 r) (dna d + 1)) 8 i = cellC ct (lay, d) 8 i := by
          simp only [cellC, fC8, layA_o hi, sNa, sI, gI, up3]; simp [hi]
        show va_at D classes (layA lay (dna d) q s1 s2 8 i, _) H4
        rw [e9, layA_o hi]; exact h9
      | 9, hk, hv, hne =>
        have hi : i ≠ dna d := Nat.ne_of_lt hv
        show va_at D classes (layA lay (dna d) q s1 s2 9 i, _) H4
        rw [layA_o hi]; exact old 9 i hv (by decide) (by decide)
      | 10, hk, hv, hne =>
        have hi : i ≠ dna d := Nat.ne_of_lt hv
        show va_at D classes (layA lay (dna d) q s1 s2 10 i, _) H4
        rw [layA_o hi]; exact old 10 i hv (by decide) (by decide)
      | 11, hk, hv, hne =>
        have h9 := old 11 i hv (by decide) (by decide)
        have e9 : cellC ct (layA lay (dna d) q s1 s2, sNa (sI d 10 (dna d) 0 r) (dna d + 1)) 11 i = cellC ct (lay, d) 11 i := by
          have ho : dow d i ≠ dna d := Nat.ne_of_lt (how i hv)
          show (.inr (2, fC11 (layA lay (dna d) q s1 s2) (sNa (sI d 10 (dna d) 0 r) (dna d + 1)) i) : va_E) = .inr (2, fC11 lay d i)
          unfold fC11
          rw [show layA lay (dna d) q s1 s2 8 (dow (sNa (sI d 10 (dna d) 0 r) (dna d + 1)) i) = lay 8 (dow d i) from layA_o ho]
          rfl
        show va_at D classes (lay 11 i, _) H4
        rw [e9]; exact h9
      | n + 12, hk, hv, hne => exact hv.elim
    · subst hi
      rcases hkk with rfl | rfl | rfl
      · have e8 : layA lay (dna d) q s1 s2 8 (dna d) = q := by unfold layA; rw [if_pos ⟨rfl, rfl⟩]
        have e9 : layA lay (dna d) q s1 s2 9 (dna d) = s1 := by unfold layA; rw [if_neg (fun z => absurd z.1 (by decide)), if_pos ⟨rfl, rfl⟩]
        have e10 : layA lay (dna d) q s1 s2 10 (dna d) = s2 := by unfold layA; rw [if_neg (fun z => absurd z.1 (by decide)), if_neg (fun z => absurd z.1 (by decide)), if_pos ⟨rfl, rfl⟩]
        have ec : cellC ct (layA lay (dna d) q s1 s2, sNa (sI d 10 (dna d) 0 r) (dna d + 1)) 8 (dna d) = .inr (0, [.ref s1, .ref s2, .int 0, .int r, .int 0]) := by
          show (.inr (0, fC8 (layA lay (dna d) q s1 s2) (sNa (sI d 10 (dna d) 0 r) (dna d + 1)) (dna d)) : va_E) = _
          unfold fC8
          rw [e9, e10, show gI (sNa (sI d 10 (dna d) 0 r) (dna d + 1)) 9 (dna d) 0 = 0 from z9, show gI (sNa (sI d 10 (dna d) 0 r) (dna d + 1)) 11 (dna d) 0 = 0 from z11, show gI (sNa (sI d 10 (dna d) 0 r) (dna d + 1)) 10 (dna d) 0 = r by show (if _ then _ else _) = _; rw [if_pos ⟨rfl, rfl, rfl⟩]]
        show va_at D classes (layA lay (dna d) q s1 s2 8 (dna d), _) H4
        rw [ec, e8]; exact b1
      · have e9 : layA lay (dna d) q s1 s2 9 (dna d) = s1 := by unfold layA; rw [if_neg (fun z => absurd z.1 (by decide)), if_pos ⟨rfl, rfl⟩]
        have ec : cellC ct (layA lay (dna d) q s1 s2, sNa (sI d 10 (dna d) 0 r) (dna d + 1)) 9 (dna d) = .inl (ct 1, 8, .inr (.inl (fun _ => 0))) := by
          show (.inl (ct 1, 8, .inr (.inl (gL d 0 (dna d)))) : va_E) = _
          rw [show gL d 0 (dna d) = fun _ => 0 from funext z0]
        show va_at D classes (layA lay (dna d) q s1 s2 9 (dna d), _) H4
        rw [ec, e9]; exact b2
      · have e9 : layA lay (dna d) q s1 s2 10 (dna d) = s2 := by unfold layA; rw [if_neg (fun z => absurd z.1 (by decide)), if_neg (fun z => absurd z.1 (by decide)), if_pos ⟨rfl, rfl⟩]
        have ec : cellC ct (layA lay (dna d) q s1 s2, sNa (sI d 10 (dna d) 0 r) (dna d + 1)) 10 (dna d) = .inl (ct 1, 8, .inr (.inl (fun _ => 0))) := by
          show (.inl (ct 1, 8, .inr (.inl (gL d 1 (dna d)))) : va_E) = _
          rw [show gL d 1 (dna d) = fun _ => 0 from funext z1]
        show va_at D classes (layA lay (dna d) q s1 s2 10 (dna d), _) H4
        rw [ec, e9]; exact b3
  · have key : ∀ k i, valC (layA lay (dna d) q s1 s2, sNa (sI d 10 (dna d) 0 r) (dna d + 1)) k i → (valC (lay, d) k i ∧ layA lay (dna d) q s1 s2 k i = lay k i) ∨ (k = 8 ∧ i = dna d ∧ layA lay (dna d) q s1 s2 k i = q) ∨ (k = 9 ∧ i = dna d ∧ layA lay (dna d) q s1 s2 k i = s1) ∨ (k = 10 ∧ i = dna d ∧ layA lay (dna d) q s1 s2 k i = s2) := by
      intro k i hk
      rcases valA (lay := lay) (d := d) (d2 := sNa (sI d 10 (dna d) 0 r) (dna d + 1)) rfl rfl hk with ⟨hv, hne⟩ | ⟨hkk, rfl⟩
      · refine Or.inl ⟨hv, ?_⟩
        unfold layA
        rw [if_neg (fun z => hne ⟨Or.inl z.1, z.2⟩), if_neg (fun z => hne ⟨Or.inr (Or.inl z.1), z.2⟩), if_neg (fun z => hne ⟨Or.inr (Or.inr z.1), z.2⟩)]
      · rcases hkk with rfl | rfl | rfl
        · exact Or.inr (Or.inl ⟨rfl, rfl, by unfold layA; rw [if_pos ⟨rfl, rfl⟩]⟩)
        · exact Or.inr (Or.inr (Or.inl ⟨rfl, rfl, by unfold layA; rw [if_neg (fun z => absurd z.1 (by decide)), if_pos ⟨rfl, rfl⟩]⟩))
        · exact Or.inr (Or.inr (Or.inr ⟨rfl, rfl, by unfold layA; rw [if_neg (fun z => absurd z.1 (by decide)), if_neg (fun z => absurd z.1 (by decide)), if_pos ⟨rfl, rfl⟩]⟩))
    have he' : layA lay (dna d) q s1 s2 k i = layA lay (dna d) q s1 s2 k' i' := he
    rcases key k i h1 with ⟨u1, e1⟩ | ⟨rfl, rfl, e1⟩ | ⟨rfl, rfl, e1⟩ | ⟨rfl, rfl, e1⟩ <;> rcases key k' i' h2 with ⟨u2, e2⟩ | ⟨rfl, rfl, e2⟩ | ⟨rfl, rfl, e2⟩ | ⟨rfl, rfl, e2⟩ <;> replace he' := e1.symm.trans (he'.trans e2)
    · exact hW.2 _ _ _ _ u1 u2 he'
    · exact absurd he' (f1 _ _ u1).1
    · exact absurd he' (f1 _ _ u1).2.1
    · exact absurd he' (f1 _ _ u1).2.2
    · exact absurd he'.symm (f1 _ _ u2).1
    · exact ⟨rfl, rfl⟩
    · exact absurd he' hq1
    · exact absurd he' hq2
    · exact absurd he'.symm (f1 _ _ u2).2.1
    · exact absurd he'.symm hq1
    · exact ⟨rfl, rfl⟩
    · exact absurd he' h12
    · exact absurd he'.symm (f1 _ _ u2).2.2
    · exact absurd he'.symm hq2
    · exact absurd he'.symm h12
    · exact ⟨rfl, rfl⟩
theorem wc_task {D : va_G} {ct : Nat → ClassId} {lay : Nat → Nat → Nat} {d : DC} {H2 H3 H4 : Heap} {q i0 : Nat} {v : Int64} (hW : WC D ct (lay, d) H2)
    (f1 : ∀ k i, valC (lay, d) k i → lay k i ≠ q)
    (a1 : va_at D classes (q, .inr (2, [.int (nI (dnt d + 1)), .ref (lay 8 i0), .long v, .int 1, .int 0, .int 0, .long 0, .long 0])) H2)
    (z13 : gI d 13 (dnt d) 0 = 0) (z14 : gI d 14 (dnt d) 0 = 0) (z3 : gL d 3 (dnt d) 0 = 0) (z4 : gL d 4 (dnt d) 0 = 0)
    (hat3 : va_at D classes (lay 2 0, .inl (ct 4, 60, .inr (.inr (.inr (.inr (va_up (fun j => if j < dnt d then some (lay 11 j) else none) (dnt d) (some q))))))) H3) (hch3 : rr_ch (lay 2 0) H2 H3)
    (hat4 : va_at D classes (lay 0 0, .inr (3, (fC0 lay d).set 8 (.int (nI (dnt d + 1))))) H4) (hch4 : rr_ch (lay 0 0) H3 H4) : WC D ct (layT lay (dnt d) q, sp_newT d i0 v) H4 := by
  have n02 : lay 0 0 ≠ lay 2 0 := fun z => absurd (hW.2 0 0 2 0 rfl rfl z).1 (by decide)
  have v0 : valC (lay, d) 0 0 := rfl
  have v2 : valC (lay, d) 2 0 := rfl
  have old : ∀ k i, valC (lay, d) k i → k ≠ 0 → k ≠ 2 → va_at D classes (lay k i, cellC ct (lay, d) k i) H4 := fun k i hv h0 h1 =>
    hch4.at (hch3.at (hW.1 k i hv) (fun z => h1 (hW.2 k i 2 0 hv v2 z).1)) (fun z => h0 (hW.2 k i 0 0 hv v0 z).1)
  have b1 := hch4.at (hch3.at a1 (fun z => f1 2 0 v2 z.symm)) (fun z => f1 0 0 v0 z.symm)
  refine ⟨fun k i hk => ?_, fun k i k' i' h1 h2 he => ?_⟩
  · rcases valT (lay := lay) (d := d) (d2 := sp_newT d i0 v) rfl rfl hk with ⟨hv, hne⟩ | ⟨rfl, rfl⟩
    · match k, hk, hv, hne with
      | 0, hk, hv, hne => obtain rfl : i = 0 := hv; exact hat4
      | 1, hk, hv, hne => obtain rfl : i = 0 := hv; exact old 1 0 rfl (by decide) (by decide)
      | 2, hk, hv, hne =>
        obtain rfl : i = 0 := hv
        have h9 := hch4.at hat3 n02.symm
        have e9 : (fun j => if j < dnt d + 1 then some (layT lay (dnt d) q 11 j) else none) = va_up (fun j => if j < dnt d then some (lay 11 j) else none) (dnt d) (some q) := by
          funext j
          unfold va_up
          by_cases hj : j = dnt d
          · subst hj
            rw [if_pos (Nat.lt_succ_self _), if_pos rfl]
            unfold layT; rw [if_pos ⟨rfl, rfl⟩]
          · rw [if_neg hj, layT_o hj]
            show (if j < dnt d + 1 then some (lay 11 j) else none) = if j < dnt d then some (lay 11 j) else none
            by_cases hj2 : j < dnt d
            · rw [if_pos hj2, if_pos (by omega)]
            · rw [if_neg hj2, if_neg (by omega)]
        show va_at D classes (lay 2 0, .inl (ct 4, 60, .inr (.inr (.inr (.inr (fun j => if j < dnt d + 1 then some (layT lay (dnt d) q 11 j) else none)))))) H4
        rw [e9]; exact h9
      | 3, hk, hv, hne => obtain rfl : i = 0 := hv; exact old 3 0 rfl (by decide) (by decide)
      | 4, hk, hv, hne => obtain rfl : i = 0 := hv; exact old 4 0 rfl (by decide) (by decide)
      | 5, hk, hv, hne => obtain rfl : i = 0 := hv; exact old 5 0 rfl (by decide) (by decide)
      | 6, hk, hv, hne => exact old 6 i hv (by decide) (by decide)
      | 7, hk, hv, hne => exact old 7 i hv (by decide) (by decide)
      | 8, hk, hv, hne => exact old 8 i hv (by decide) (by decide)
      | 9, hk, hv, hne => exact old 9 i hv (by decide) (by decide)
      | 10, hk, hv, hne => exact old 10 i hv (by decide) (by decide)
      | 11, hk, hv, hne =>
        have hi : i ≠ dnt d := Nat.ne_of_lt hv
        have h9 := old 11 i hv (by decide) (by decide)
        have e9 : cellC ct (layT lay (dnt d) q, sp_newT d i0 v) 11 i = cellC ct (lay, d) 11 i := by
          show (.inr (2, fC11 (layT lay (dnt d) q) (sp_newT d i0 v) i) : va_E) = .inr (2, fC11 lay d i)
          have ho : dow (sp_newT d i0 v) i = dow d i := if_neg hi
          unfold fC11
          rw [ho]
          have h12 : gI (sp_newT d i0 v) 12 i 0 = gI d 12 i 0 := if_neg (fun z => hi z.2.1)
          have hL2 : gL (sp_newT d i0 v) 2 i 0 = gL d 2 i 0 := if_neg (fun z => hi z.2.1)
          rw [h12, hL2]
          rfl
        show va_at D classes (layT lay (dnt d) q 11 i, _) H4
        rw [e9, layT_o hi]; exact h9
      | n + 12, hk, hv, hne => exact hv.elim
    · have e8 : layT lay (dnt d) q 11 (dnt d) = q := by unfold layT; rw [if_pos ⟨rfl, rfl⟩]
      have ec : cellC ct (layT lay (dnt d) q, sp_newT d i0 v) 11 (dnt d) = .inr (2, [.int (nI (dnt d + 1)), .ref (lay 8 i0), .long v, .int 1, .int 0, .int 0, .long 0, .long 0]) := by
        show (.inr (2, fC11 (layT lay (dnt d) q) (sp_newT d i0 v) (dnt d)) : va_E) = _
        unfold fC11
        have ho : dow (sp_newT d i0 v) (dnt d) = i0 := if_pos rfl
        rw [ho, show layT lay (dnt d) q 8 i0 = lay 8 i0 from rfl, show gL (sp_newT d i0 v) 2 (dnt d) 0 = v from if_pos ⟨rfl, rfl, rfl⟩, show gI (sp_newT d i0 v) 12 (dnt d) 0 = 1 from if_pos ⟨rfl, rfl, rfl⟩, show gI (sp_newT d i0 v) 13 (dnt d) 0 = 0 from z13, show gI (sp_newT d i0 v) 14 (dnt d) 0 = 0 from z14, show gL (sp_newT d i0 v) 3 (dnt d) 0 = 0 from z3, show gL (sp_newT d i0 v) 4 (dnt d) 0 = 0 from z4]
      show va_at D classes (layT lay (dnt d) q 11 (dnt d), _) H4
      rw [ec, e8]; exact b1
  · have key : ∀ k i, valC (layT lay (dnt d) q, sp_newT d i0 v) k i → (valC (lay, d) k i ∧ layT lay (dnt d) q k i = lay k i) ∨ (k = 11 ∧ i = dnt d ∧ layT lay (dnt d) q k i = q) := by
      intro k i hk
      rcases valT (lay := lay) (d := d) (d2 := sp_newT d i0 v) rfl rfl hk with ⟨hv, hne⟩ | ⟨rfl, rfl⟩
      · exact Or.inl ⟨hv, by unfold layT; rw [if_neg hne]⟩
      · exact Or.inr ⟨rfl, rfl, by unfold layT; rw [if_pos ⟨rfl, rfl⟩]⟩
    have he' : layT lay (dnt d) q k i = layT lay (dnt d) q k' i' := he
    rcases key k i h1 with ⟨u1, e1⟩ | ⟨rfl, rfl, e1⟩ <;> rcases key k' i' h2 with ⟨u2, e2⟩ | ⟨rfl, rfl, e2⟩ <;> replace he' := e1.symm.trans (he'.trans e2)
    · exact hW.2 _ _ _ _ u1 u2 he'
    · exact absurd he' (f1 _ _ u1)
    · exact absurd he'.symm (f1 _ _ u2)
    · exact ⟨rfl, rfl⟩
