/-! The start: fresh objects. -/
def dz : DC := (0, 0, fun _ => 0, fun _ _ _ => 0, fun _ _ _ => 0)
def d00 : DC := sI dz 0 0 0 1
theorem Inv_0 : Inv d00 0 := by
  refine ⟨⟨⟨by decide, by decide⟩, fun j hj => absurd hj (Nat.not_lt_zero j), fun i hi => absurd hi (Nat.not_lt_zero i), fun i _ => ⟨rfl, fun _ => rfl, fun _ => rfl⟩, fun j _ => ⟨rfl, rfl, rfl, rfl⟩⟩, ⟨fun i _ => rfl, fun t _ => ⟨0, by omega, rfl⟩, 0, by omega, rfl, fun i _ h => absurd h (Nat.not_lt_zero i)⟩, 0, by omega, rfl⟩
def layC0 (h0 sz : Nat) : Nat → Nat → Nat := fun k i => match k with
  | 0 => h0
  | 1 => sz
  | 2 => sz + 1
  | 3 => sz + 2
  | 4 => sz + 3
  | 5 => sz + 4
  | 6 => if i = 0 then sz + 5 else sz + 7
  | _ => if i = 0 then sz + 6 else sz + 8
def layM0 (h0 sz : Nat) : Nat → Nat → Nat := fun k _ => match k with
  | 0 => h0
  | k + 1 => sz + k
theorem valC_0 {lay : Nat → Nat → Nat} {k i : Nat} (h : valC (lay, d00) k i) : (k ≤ 5 ∧ i = 0) ∨ ((k = 6 ∨ k = 7) ∧ (i = 0 ∨ i = 1)) := by
  match k, h with
  | 0, h => exact Or.inl ⟨by omega, h⟩
  | 1, h => exact Or.inl ⟨by omega, h⟩
  | 2, h => exact Or.inl ⟨by omega, h⟩
  | 3, h => exact Or.inl ⟨by omega, h⟩
  | 4, h => exact Or.inl ⟨by omega, h⟩
  | 5, h => exact Or.inl ⟨by omega, h⟩
  | 6, h => have h2 : i < 2 := h; exact Or.inr ⟨Or.inl rfl, by omega⟩
  | 7, h => have h2 : i < 2 := h; exact Or.inr ⟨Or.inr rfl, by omega⟩
  | 8, h => exact absurd h (Nat.not_lt_zero i)
  | 9, h => exact absurd h (Nat.not_lt_zero i)
  | 10, h => exact absurd h (Nat.not_lt_zero i)
  | 11, h => exact absurd h (Nat.not_lt_zero i)
  | n + 12, h => exact h.elim
theorem layC0_at {h0 sz k i : Nat} (h : (k ≤ 5 ∧ i = 0) ∨ ((k = 6 ∨ k = 7) ∧ (i = 0 ∨ i = 1))) : (k = 0 ∧ i = 0 ∧ layC0 h0 sz k i = h0) ∨ (k = 1 ∧ i = 0 ∧ layC0 h0 sz k i = sz) ∨ (k = 2 ∧ i = 0 ∧ layC0 h0 sz k i = sz + 1) ∨ (k = 3 ∧ i = 0 ∧ layC0 h0 sz k i = sz + 2) ∨ (k = 4 ∧ i = 0 ∧ layC0 h0 sz k i = sz + 3) ∨ (k = 5 ∧ i = 0 ∧ layC0 h0 sz k i = sz + 4) ∨ (k = 6 ∧ i = 0 ∧ layC0 h0 sz k i = sz + 5) ∨ (k = 6 ∧ i = 1 ∧ layC0 h0 sz k i = sz + 7) ∨ (k = 7 ∧ i = 0 ∧ layC0 h0 sz k i = sz + 6) ∨ (k = 7 ∧ i = 1 ∧ layC0 h0 sz k i = sz + 8) := by
  rcases h with ⟨h1, rfl⟩ | ⟨rfl | rfl, rfl | rfl⟩
  · rcases (show k = 0 ∨ k = 1 ∨ k = 2 ∨ k = 3 ∨ k = 4 ∨ k = 5 by omega) with rfl | rfl | rfl | rfl | rfl | rfl
    · exact Or.inl ⟨rfl, rfl, rfl⟩
    · exact Or.inr (Or.inl ⟨rfl, rfl, rfl⟩)
    · exact Or.inr (Or.inr (Or.inl ⟨rfl, rfl, rfl⟩))
    · exact Or.inr (Or.inr (Or.inr (Or.inl ⟨rfl, rfl, rfl⟩)))
    · exact Or.inr (Or.inr (Or.inr (Or.inr (Or.inl ⟨rfl, rfl, rfl⟩))))
    · exact Or.inr (Or.inr (Or.inr (Or.inr (Or.inr (Or.inl ⟨rfl, rfl, rfl⟩)))))
  · exact Or.inr (Or.inr (Or.inr (Or.inr (Or.inr (Or.inr (Or.inl ⟨rfl, rfl, rfl⟩))))))
  · exact Or.inr (Or.inr (Or.inr (Or.inr (Or.inr (Or.inr (Or.inr (Or.inl ⟨rfl, rfl, rfl⟩)))))))
  · exact Or.inr (Or.inr (Or.inr (Or.inr (Or.inr (Or.inr (Or.inr (Or.inr (Or.inl ⟨rfl, rfl, rfl⟩))))))))
  · exact Or.inr (Or.inr (Or.inr (Or.inr (Or.inr (Or.inr (Or.inr (Or.inr (Or.inr ⟨rfl, rfl, rfl⟩))))))))
theorem wc_init {D : va_G} {ct : Nat → ClassId} {h0 sz : Nat} {H : Heap} (hlt : h0 < sz)
    (hcs : ∀ q ∈ ([(h0, .inr (3, [.ref sz, .ref (sz + 1), .ref (sz + 2), .ref (sz + 3), .ref (sz + 4), .ref (sz + 5), .ref (sz + 7), .int 0, .int 0, .int 1, .int 0])), (sz, .inl (ct 3, 16, .inr (.inr (.inr (.inr (fun _ => none)))))), (sz + 1, .inl (ct 4, 60, .inr (.inr (.inr (.inr (fun _ => none)))))), (sz + 2, .inl (ct 0, 128, .inl (fun _ => 0))), (sz + 3, .inl (ct 0, 3, .inl (fun _ => 0))), (sz + 4, .inl (ct 2, 3, .inl (fun _ => 0))), (sz + 5, .inr (1, [.int 3, .ref (sz + 6), .int 0])), (sz + 6, .inl (ct 0, 2000, .inl (fun _ => 0))), (sz + 7, .inr (1, [.int 4, .ref (sz + 8), .int 0])), (sz + 8, .inl (ct 0, 2000, .inl (fun _ => 0)))] : List (Nat × va_E)), va_at D classes q H) : WC D ct (layC0 h0 sz, d00) H := by
  have g : ∀ n q, ([(h0, .inr (3, [.ref sz, .ref (sz + 1), .ref (sz + 2), .ref (sz + 3), .ref (sz + 4), .ref (sz + 5), .ref (sz + 7), .int 0, .int 0, .int 1, .int 0])), (sz, .inl (ct 3, 16, .inr (.inr (.inr (.inr (fun _ => none)))))), (sz + 1, .inl (ct 4, 60, .inr (.inr (.inr (.inr (fun _ => none)))))), (sz + 2, .inl (ct 0, 128, .inl (fun _ => 0))), (sz + 3, .inl (ct 0, 3, .inl (fun _ => 0))), (sz + 4, .inl (ct 2, 3, .inl (fun _ => 0))), (sz + 5, .inr (1, [.int 3, .ref (sz + 6), .int 0])), (sz + 6, .inl (ct 0, 2000, .inl (fun _ => 0))), (sz + 7, .inr (1, [.int 4, .ref (sz + 8), .int 0])), (sz + 8, .inl (ct 0, 2000, .inl (fun _ => 0)))] : List (Nat × va_E))[n]? = some q → va_at D classes q H := fun n q h => hcs q (List.mem_of_getElem? h)
  refine ⟨fun k i hk => ?_, fun k i k' i' h1 h2 he => ?_⟩
  · rcases valC_0 hk with ⟨h1, rfl⟩ | ⟨rfl | rfl, rfl | rfl⟩
    · rcases (show k = 0 ∨ k = 1 ∨ k = 2 ∨ k = 3 ∨ k = 4 ∨ k = 5 by omega) with rfl | rfl | rfl | rfl | rfl | rfl
      · exact g 0 _ rfl
      · have h9 := g 1 _ rfl
        have e : (fun j => if j < dna d00 then some (layC0 h0 sz 8 j) else none) = fun _ => none := funext fun j => if_neg (Nat.not_lt_zero j)
        show va_at D classes (sz, .inl (ct 3, 16, .inr (.inr (.inr (.inr (fun j => if j < dna d00 then some (layC0 h0 sz 8 j) else none)))))) H
        rw [e]; exact h9
      · have h9 := g 2 _ rfl
        have e : (fun j => if j < dnt d00 then some (layC0 h0 sz 11 j) else none) = fun _ => none := funext fun j => if_neg (Nat.not_lt_zero j)
        show va_at D classes (sz + 1, .inl (ct 4, 60, .inr (.inr (.inr (.inr (fun j => if j < dnt d00 then some (layC0 h0 sz 11 j) else none)))))) H
        rw [e]; exact h9
      · exact g 3 _ rfl
      · exact g 4 _ rfl
      · exact g 5 _ rfl
    · exact g 6 _ rfl
    · exact g 8 _ rfl
    · exact g 7 _ rfl
    · exact g 9 _ rfl
  · have he' : layC0 h0 sz k i = layC0 h0 sz k' i' := he
    have a := layC0_at (h0 := h0) (sz := sz) (valC_0 h1)
    have b := layC0_at (h0 := h0) (sz := sz) (valC_0 h2)
    rw [he'] at a
    generalize layC0 h0 sz k' i' = z at a b
    omega
theorem wm_init {D : va_G} {ct : Nat → ClassId} {h0 sz : Nat} {H : Heap} (hlt : h0 < sz) (g : ∀ k, k < 19 → va_at D classes (layM0 h0 sz k 0, cellM ct (layM0 h0 sz, d00) k 0) H) : WM D ct (layM0 h0 sz, d00) H := by
  refine ⟨fun k i hk => ?_, fun k i k' i' h1 h2 he => ?_⟩
  · obtain ⟨h1, rfl⟩ := hk
    exact g k h1
  · have he' : layM0 h0 sz k i = layM0 h0 sz k' i' := he
    refine ⟨?_, h1.2.trans h2.2.symm⟩
    cases k with
    | zero => cases k' with
      | zero => rfl
      | succ n => exact absurd he' (fun q => by have q2 : h0 = sz + n := q; omega)
    | succ m => cases k' with
      | zero => exact absurd he' (fun q => by have q2 : sz + m = h0 := q; omega)
      | succ n => have q2 : sz + m = sz + n := he'; omega
theorem az_00 (k : Nat) (hk : k ≠ 0) : az 0 (fun i => gI d00 k i 0) = fun _ => (0 : Int32) := by
  funext t
  cases t with
  | zero => rfl
  | succ i =>
    show (if k = 0 ∧ i = 0 ∧ 0 = 0 then 1 else 0) = (0 : Int32)
    rw [if_neg (fun z => hk z.1)]
theorem az_0L (k : Nat) : az 0 (fun i => gL d00 k i 0) = fun _ => (0 : Int64) := by
  funext t
  cases t <;> rfl
theorem rz_0 (k : Nat) : rz (gL d00 k) = fun _ => (0 : Int64) := by
  funext t
  unfold rz
  split <;> rfl
