/-! The data of a side: numbers of applications and tasks, the tasks' applications, ints and longs by field, object, place. -/
abbrev T3 : Type := Nat → Nat → Nat → Int32
abbrev L3 : Type := Nat → Nat → Nat → Int64
abbrev DC : Type := Nat × Nat × (Nat → Nat) × T3 × L3
abbrev CS : Type := (Nat → Nat → Nat) × DC
def dna (d : DC) : Nat := d.1
def dnt (d : DC) : Nat := d.2.1
def dow (d : DC) : Nat → Nat := d.2.2.1
def gI (d : DC) : T3 := d.2.2.2.1
def gL (d : DC) : L3 := d.2.2.2.2
def up3 {α : Type} (f : Nat → Nat → Nat → α) (k i j : Nat) (v : α) : Nat → Nat → Nat → α := fun k' i' j' => if k' = k ∧ i' = i ∧ j' = j then v else f k' i' j'
def sI (d : DC) (k i j : Nat) (v : Int32) : DC := (d.1, d.2.1, d.2.2.1, up3 d.2.2.2.1 k i j v, d.2.2.2.2)
def sL (d : DC) (k i j : Nat) (v : Int64) : DC := (d.1, d.2.1, d.2.2.1, d.2.2.2.1, up3 d.2.2.2.2 k i j v)
theorem gI_sI (d : DC) (k i j : Nat) (v : Int32) : gI (sI d k i j v) = up3 (gI d) k i j v := rfl
theorem gI_sL (d : DC) (k i j : Nat) (v : Int64) : gI (sL d k i j v) = gI d := rfl
theorem gL_sI (d : DC) (k i j : Nat) (v : Int32) : gL (sI d k i j v) = gL d := rfl
theorem gL_sL (d : DC) (k i j : Nat) (v : Int64) : gL (sL d k i j v) = up3 (gL d) k i j v := rfl
theorem dna_sI (d : DC) (k i j : Nat) (v : Int32) : dna (sI d k i j v) = dna d := rfl
theorem dna_sL (d : DC) (k i j : Nat) (v : Int64) : dna (sL d k i j v) = dna d := rfl
theorem dnt_sI (d : DC) (k i j : Nat) (v : Int32) : dnt (sI d k i j v) = dnt d := rfl
theorem dnt_sL (d : DC) (k i j : Nat) (v : Int64) : dnt (sL d k i j v) = dnt d := rfl
theorem dow_sI (d : DC) (k i j : Nat) (v : Int32) : dow (sI d k i j v) = dow d := rfl
theorem dow_sL (d : DC) (k i j : Nat) (v : Int64) : dow (sL d k i j v) = dow d := rfl
def sNa (d : DC) (n : Nat) : DC := (n, d.2)
def sNt (d : DC) (n : Nat) : DC := (d.1, n, d.2.2)
def sOw (d : DC) (j o : Nat) : DC := (d.1, d.2.1, fun x => if x = j then o else d.2.2.1 x, d.2.2.2)
/-- the class's mark: something of kind 3 has been cleaned; the reference's mark: down -/
def dl (d : DC) : Int32 := if gI d 1 0 0 = 0 then 0 else 1
def dn (d : DC) : Int32 := if gI d 0 0 0 = 0 then 1 else 0
/-- the reference's arrays: place t + 1 is object t's; regions by eights -/
def az {α : Type} (z : α) (g : Nat → α) : Nat → α := fun t => match t with
  | 0 => z
  | i + 1 => g i
def rz (g : Nat → Nat → Int64) : Nat → Int64 := fun r => if r < 8 then 0 else g (r / 8 - 1) (r % 8)
theorem wfr {val : Nat → Nat → Prop} {lay : Nat → Nat → Nat} {sz : Nat} (k i : Nat) (h : val k i) : Wfr val lay sz (lay k i) := Or.inl ⟨k, i, h, rfl⟩
theorem nrz {x : Int32} (h : x = 0 ∨ x = 1) : narrow .boolean (.int x) = .int x := by rcases h with rfl | rfl <;> rfl
theorem fiz {x : Int32} (h : x = 0 ∨ x = 1) : fits .boolean (.int x) = true := by rcases h with rfl | rfl <;> rfl
def valC (u : CS) (k i : Nat) : Prop := match k with
  | 0 => i = 0 | 1 => i = 0 | 2 => i = 0 | 3 => i = 0 | 4 => i = 0 | 5 => i = 0 | 6 => i < 2 | 7 => i < 2 | 8 => i < dna u.2 | 9 => i < dna u.2 | 10 => i < dna u.2 | 11 => i < dnt u.2 | _ => False
def fC0 (lay : Nat → Nat → Nat) (d : DC) : List Value := [.ref (lay 1 0), .ref (lay 2 0), .ref (lay 3 0), .ref (lay 4 0), .ref (lay 5 0), .ref (lay 6 0), .ref (lay 6 1), .int (nI (dna d)), .int (nI (dnt d)), .int (gI d 0 0 0), .int (dl d)]
def fC6 (lay : Nat → Nat → Nat) (d : DC) (i : Nat) : List Value := [.int (nI (3 + i)), .ref (lay 7 i), .int (gI d 5 i 0)]
def fC8 (lay : Nat → Nat → Nat) (d : DC) (i : Nat) : List Value := [.ref (lay 9 i), .ref (lay 10 i), .int (gI d 9 i 0), .int (gI d 10 i 0), .int (gI d 11 i 0)]
def fC11 (lay : Nat → Nat → Nat) (d : DC) (i : Nat) : List Value := [.int (nI (i + 1)), .ref (lay 8 (dow d i)), .long (gL d 2 i 0), .int (gI d 12 i 0), .int (gI d 13 i 0), .int (gI d 14 i 0), .long (gL d 3 i 0), .long (gL d 4 i 0)]
def cellC (ct : Nat → ClassId) (u : CS) (k i : Nat) : va_E := match k with
  | 0 => .inr (3, fC0 u.1 u.2)
  | 1 => .inl (ct 3, 16, .inr (.inr (.inr (.inr (fun j => if j < dna u.2 then some (u.1 8 j) else none)))))
  | 2 => .inl (ct 4, 60, .inr (.inr (.inr (.inr (fun j => if j < dnt u.2 then some (u.1 11 j) else none)))))
  | 3 => .inl (ct 0, 128, .inl (gI u.2 2 0))
  | 4 => .inl (ct 0, 3, .inl (gI u.2 3 0))
  | 5 => .inl (ct 2, 3, .inl (gI u.2 4 0))
  | 6 => .inr (1, fC6 u.1 u.2 i)
  | 7 => .inl (ct 0, 2000, .inl (gI u.2 7 i))
  | 8 => .inr (0, fC8 u.1 u.2 i)
  | 9 => .inl (ct 1, 8, .inr (.inl (gL u.2 0 i)))
  | 10 => .inl (ct 1, 8, .inr (.inl (gL u.2 1 i)))
  | _ => .inr (2, fC11 u.1 u.2 i)
abbrev WC (D : va_G) (ct : Nat → ClassId) (u : CS) (H : Heap) : Prop := Wf D classes (valC u) u.1 (cellC ct u) H
section STC
variable {D : va_G} {ct : Nat → ClassId} {lay : Nat → Nat → Nat} {d : DC} {H H1 : Heap}
theorem aC0 (hW : WC D ct (lay, d) H) : va_at D classes (lay 0 0, .inr (3, fC0 lay d)) H := hW.1 0 0 rfl
theorem aC1 (hW : WC D ct (lay, d) H) : va_at D classes (lay 1 0, .inl (ct 3, 16, .inr (.inr (.inr (.inr (fun j => if j < dna d then some (lay 8 j) else none)))))) H := hW.1 1 0 rfl
theorem aC2 (hW : WC D ct (lay, d) H) : va_at D classes (lay 2 0, .inl (ct 4, 60, .inr (.inr (.inr (.inr (fun j => if j < dnt d then some (lay 11 j) else none)))))) H := hW.1 2 0 rfl
theorem aC3 (hW : WC D ct (lay, d) H) : va_at D classes (lay 3 0, .inl (ct 0, 128, .inl (gI d 2 0))) H := hW.1 3 0 rfl
theorem aC4 (hW : WC D ct (lay, d) H) : va_at D classes (lay 4 0, .inl (ct 0, 3, .inl (gI d 3 0))) H := hW.1 4 0 rfl
theorem aC5 (hW : WC D ct (lay, d) H) : va_at D classes (lay 5 0, .inl (ct 2, 3, .inl (gI d 4 0))) H := hW.1 5 0 rfl
theorem aC6 (hW : WC D ct (lay, d) H) {i : Nat} (hi : i < 2) : va_at D classes (lay 6 i, .inr (1, fC6 lay d i)) H := hW.1 6 i hi
theorem aC7 (hW : WC D ct (lay, d) H) {i : Nat} (hi : i < 2) : va_at D classes (lay 7 i, .inl (ct 0, 2000, .inl (gI d 7 i))) H := hW.1 7 i hi
theorem aC8 (hW : WC D ct (lay, d) H) {i : Nat} (hi : i < dna d) : va_at D classes (lay 8 i, .inr (0, fC8 lay d i)) H := hW.1 8 i hi
theorem aC9 (hW : WC D ct (lay, d) H) {i : Nat} (hi : i < dna d) : va_at D classes (lay 9 i, .inl (ct 1, 8, .inr (.inl (gL d 0 i)))) H := hW.1 9 i hi
theorem aC10 (hW : WC D ct (lay, d) H) {i : Nat} (hi : i < dna d) : va_at D classes (lay 10 i, .inl (ct 1, 8, .inr (.inl (gL d 1 i)))) H := hW.1 10 i hi
theorem aC11 (hW : WC D ct (lay, d) H) {i : Nat} (hi : i < dnt d) : va_at D classes (lay 11 i, .inr (2, fC11 lay d i)) H := hW.1 11 i hi
theorem wpC_I0 {v : Int32} (hW : WC D ct (lay, d) H) (hat : va_at D classes (lay 0 0, .inr (3, (fC0 lay d).set 9 (.int v))) H1) (hch : rr_ch (lay 0 0) H H1) : WC D ct (lay, sI d 0 0 0 v) H1 := by
  refine Wf.put (cell' := cellC ct (lay, sI d 0 0 0 v)) hW (k := 0) (i := 0) rfl hat hch ?_ ?_
  · first | rfl | (simp [cellC, fC0, fC6, fC8, fC11, sI, sL, gI, gL, dna, dnt, dow, up3, dl, dn]; done) | (simp [cellC, fC0, fC6, fC8, fC11, sI, sL, gI, gL, dna, dnt, dow, up3, dl, dn]; rfl)
  · intro k' i' hv hne
    match k', hv, hne with
    | 0, hv, hne => exact absurd ⟨rfl, hv⟩ hne
    | 1, hv, hne => rfl
    | 2, hv, hne => rfl
    | 3, hv, hne => rfl
    | 4, hv, hne => rfl
    | 5, hv, hne => rfl
    | 6, hv, hne => rfl
    | 7, hv, hne => rfl
    | 8, hv, hne => rfl
    | 9, hv, hne => rfl
    | 10, hv, hne => rfl
    | 11, hv, hne => rfl
    | n + 12, hv, hne => exact hv.elim
theorem wpC_I5 {v : Int32} (hW : WC D ct (lay, d) H) {i : Nat} (hi : i < 2) (hat : va_at D classes (lay 6 i, .inr (1, (fC6 lay d i).set 2 (.int v))) H1) (hch : rr_ch (lay 6 i) H H1) : WC D ct (lay, sI d 5 i 0 v) H1 := by
  refine Wf.put (cell' := cellC ct (lay, sI d 5 i 0 v)) hW (k := 6) (i := i) hi hat hch ?_ ?_
  · first | rfl | (simp [cellC, fC0, fC6, fC8, fC11, sI, sL, gI, gL, dna, dnt, dow, up3, dl, dn]; done) | (simp [cellC, fC0, fC6, fC8, fC11, sI, sL, gI, gL, dna, dnt, dow, up3, dl, dn]; rfl)
  · intro k' i' hv hne
    match k', hv, hne with
    | 0, hv, hne => rfl
    | 1, hv, hne => rfl
    | 2, hv, hne => rfl
    | 3, hv, hne => rfl
    | 4, hv, hne => rfl
    | 5, hv, hne => rfl
    | 6, hv, hne => have hq : ¬ i' = i := fun q => hne ⟨rfl, q⟩; simp [cellC, fC0, fC6, fC8, fC11, sI, sL, gI, gL, dna, dnt, dow, up3, dl, dn, hq]
    | 7, hv, hne => rfl
    | 8, hv, hne => rfl
    | 9, hv, hne => rfl
    | 10, hv, hne => rfl
    | 11, hv, hne => rfl
    | n + 12, hv, hne => exact hv.elim
theorem wpC_I9 {v : Int32} (hW : WC D ct (lay, d) H) {i : Nat} (hi : i < dna d) (hat : va_at D classes (lay 8 i, .inr (0, (fC8 lay d i).set 2 (.int v))) H1) (hch : rr_ch (lay 8 i) H H1) : WC D ct (lay, sI d 9 i 0 v) H1 := by
  refine Wf.put (cell' := cellC ct (lay, sI d 9 i 0 v)) hW (k := 8) (i := i) hi hat hch ?_ ?_
  · first | rfl | (simp [cellC, fC0, fC6, fC8, fC11, sI, sL, gI, gL, dna, dnt, dow, up3, dl, dn]; done) | (simp [cellC, fC0, fC6, fC8, fC11, sI, sL, gI, gL, dna, dnt, dow, up3, dl, dn]; rfl)
  · intro k' i' hv hne
    match k', hv, hne with
    | 0, hv, hne => rfl
    | 1, hv, hne => rfl
    | 2, hv, hne => rfl
    | 3, hv, hne => rfl
    | 4, hv, hne => rfl
    | 5, hv, hne => rfl
    | 6, hv, hne => rfl
    | 7, hv, hne => rfl
    | 8, hv, hne => have hq : ¬ i' = i := fun q => hne ⟨rfl, q⟩; simp [cellC, fC0, fC6, fC8, fC11, sI, sL, gI, gL, dna, dnt, dow, up3, dl, dn, hq]
    | 9, hv, hne => rfl
    | 10, hv, hne => rfl
    | 11, hv, hne => rfl
    | n + 12, hv, hne => exact hv.elim
theorem wpC_I10 {v : Int32} (hW : WC D ct (lay, d) H) {i : Nat} (hi : i < dna d) (hat : va_at D classes (lay 8 i, .inr (0, (fC8 lay d i).set 3 (.int v))) H1) (hch : rr_ch (lay 8 i) H H1) : WC D ct (lay, sI d 10 i 0 v) H1 := by
  refine Wf.put (cell' := cellC ct (lay, sI d 10 i 0 v)) hW (k := 8) (i := i) hi hat hch ?_ ?_
  · first | rfl | (simp [cellC, fC0, fC6, fC8, fC11, sI, sL, gI, gL, dna, dnt, dow, up3, dl, dn]; done) | (simp [cellC, fC0, fC6, fC8, fC11, sI, sL, gI, gL, dna, dnt, dow, up3, dl, dn]; rfl)
  · intro k' i' hv hne
    match k', hv, hne with
    | 0, hv, hne => rfl
    | 1, hv, hne => rfl
    | 2, hv, hne => rfl
    | 3, hv, hne => rfl
    | 4, hv, hne => rfl
    | 5, hv, hne => rfl
    | 6, hv, hne => rfl
    | 7, hv, hne => rfl
    | 8, hv, hne => have hq : ¬ i' = i := fun q => hne ⟨rfl, q⟩; simp [cellC, fC0, fC6, fC8, fC11, sI, sL, gI, gL, dna, dnt, dow, up3, dl, dn, hq]
    | 9, hv, hne => rfl
    | 10, hv, hne => rfl
    | 11, hv, hne => rfl
    | n + 12, hv, hne => exact hv.elim
theorem wpC_I11 {v : Int32} (hW : WC D ct (lay, d) H) {i : Nat} (hi : i < dna d) (hat : va_at D classes (lay 8 i, .inr (0, (fC8 lay d i).set 4 (.int v))) H1) (hch : rr_ch (lay 8 i) H H1) : WC D ct (lay, sI d 11 i 0 v) H1 := by
  refine Wf.put (cell' := cellC ct (lay, sI d 11 i 0 v)) hW (k := 8) (i := i) hi hat hch ?_ ?_
  · first | rfl | (simp [cellC, fC0, fC6, fC8, fC11, sI, sL, gI, gL, dna, dnt, dow, up3, dl, dn]; done) | (simp [cellC, fC0, fC6, fC8, fC11, sI, sL, gI, gL, dna, dnt, dow, up3, dl, dn]; rfl)
  · intro k' i' hv hne
    match k', hv, hne with
    | 0, hv, hne => rfl
    | 1, hv, hne => rfl
    | 2, hv, hne => rfl
    | 3, hv, hne => rfl
    | 4, hv, hne => rfl
    | 5, hv, hne => rfl
    | 6, hv, hne => rfl
    | 7, hv, hne => rfl
    | 8, hv, hne => have hq : ¬ i' = i := fun q => hne ⟨rfl, q⟩; simp [cellC, fC0, fC6, fC8, fC11, sI, sL, gI, gL, dna, dnt, dow, up3, dl, dn, hq]
    | 9, hv, hne => rfl
    | 10, hv, hne => rfl
    | 11, hv, hne => rfl
    | n + 12, hv, hne => exact hv.elim
theorem wpC_I12 {v : Int32} (hW : WC D ct (lay, d) H) {i : Nat} (hi : i < dnt d) (hat : va_at D classes (lay 11 i, .inr (2, (fC11 lay d i).set 3 (.int v))) H1) (hch : rr_ch (lay 11 i) H H1) : WC D ct (lay, sI d 12 i 0 v) H1 := by
  refine Wf.put (cell' := cellC ct (lay, sI d 12 i 0 v)) hW (k := 11) (i := i) hi hat hch ?_ ?_
  · first | rfl | (simp [cellC, fC0, fC6, fC8, fC11, sI, sL, gI, gL, dna, dnt, dow, up3, dl, dn]; done) | (simp [cellC, fC0, fC6, fC8, fC11, sI, sL, gI, gL, dna, dnt, dow, up3, dl, dn]; rfl)
  · intro k' i' hv hne
    match k', hv, hne with
    | 0, hv, hne => rfl
    | 1, hv, hne => rfl
    | 2, hv, hne => rfl
    | 3, hv, hne => rfl
    | 4, hv, hne => rfl
    | 5, hv, hne => rfl
    | 6, hv, hne => rfl
    | 7, hv, hne => rfl
    | 8, hv, hne => rfl
    | 9, hv, hne => rfl
    | 10, hv, hne => rfl
    | 11, hv, hne => have hq : ¬ i' = i := fun q => hne ⟨rfl, q⟩; simp [cellC, fC0, fC6, fC8, fC11, sI, sL, gI, gL, dna, dnt, dow, up3, dl, dn, hq]
    | n + 12, hv, hne => exact hv.elim
theorem wpC_I13 {v : Int32} (hW : WC D ct (lay, d) H) {i : Nat} (hi : i < dnt d) (hat : va_at D classes (lay 11 i, .inr (2, (fC11 lay d i).set 4 (.int v))) H1) (hch : rr_ch (lay 11 i) H H1) : WC D ct (lay, sI d 13 i 0 v) H1 := by
  refine Wf.put (cell' := cellC ct (lay, sI d 13 i 0 v)) hW (k := 11) (i := i) hi hat hch ?_ ?_
  · first | rfl | (simp [cellC, fC0, fC6, fC8, fC11, sI, sL, gI, gL, dna, dnt, dow, up3, dl, dn]; done) | (simp [cellC, fC0, fC6, fC8, fC11, sI, sL, gI, gL, dna, dnt, dow, up3, dl, dn]; rfl)
  · intro k' i' hv hne
    match k', hv, hne with
    | 0, hv, hne => rfl
    | 1, hv, hne => rfl
    | 2, hv, hne => rfl
    | 3, hv, hne => rfl
    | 4, hv, hne => rfl
    | 5, hv, hne => rfl
    | 6, hv, hne => rfl
    | 7, hv, hne => rfl
    | 8, hv, hne => rfl
    | 9, hv, hne => rfl
    | 10, hv, hne => rfl
    | 11, hv, hne => have hq : ¬ i' = i := fun q => hne ⟨rfl, q⟩; simp [cellC, fC0, fC6, fC8, fC11, sI, sL, gI, gL, dna, dnt, dow, up3, dl, dn, hq]
    | n + 12, hv, hne => exact hv.elim
theorem wpC_I14 {v : Int32} (hW : WC D ct (lay, d) H) {i : Nat} (hi : i < dnt d) (hat : va_at D classes (lay 11 i, .inr (2, (fC11 lay d i).set 5 (.int v))) H1) (hch : rr_ch (lay 11 i) H H1) : WC D ct (lay, sI d 14 i 0 v) H1 := by
  refine Wf.put (cell' := cellC ct (lay, sI d 14 i 0 v)) hW (k := 11) (i := i) hi hat hch ?_ ?_
  · first | rfl | (simp [cellC, fC0, fC6, fC8, fC11, sI, sL, gI, gL, dna, dnt, dow, up3, dl, dn]; done) | (simp [cellC, fC0, fC6, fC8, fC11, sI, sL, gI, gL, dna, dnt, dow, up3, dl, dn]; rfl)
  · intro k' i' hv hne
    match k', hv, hne with
    | 0, hv, hne => rfl
    | 1, hv, hne => rfl
    | 2, hv, hne => rfl
    | 3, hv, hne => rfl
    | 4, hv, hne => rfl
    | 5, hv, hne => rfl
    | 6, hv, hne => rfl
    | 7, hv, hne => rfl
    | 8, hv, hne => rfl
    | 9, hv, hne => rfl
    | 10, hv, hne => rfl
    | 11, hv, hne => have hq : ¬ i' = i := fun q => hne ⟨rfl, q⟩; simp [cellC, fC0, fC6, fC8, fC11, sI, sL, gI, gL, dna, dnt, dow, up3, dl, dn, hq]
    | n + 12, hv, hne => exact hv.elim
theorem wpC_L3 {v : Int64} (hW : WC D ct (lay, d) H) {i : Nat} (hi : i < dnt d) (hat : va_at D classes (lay 11 i, .inr (2, (fC11 lay d i).set 6 (.long v))) H1) (hch : rr_ch (lay 11 i) H H1) : WC D ct (lay, sL d 3 i 0 v) H1 := by
  refine Wf.put (cell' := cellC ct (lay, sL d 3 i 0 v)) hW (k := 11) (i := i) hi hat hch ?_ ?_
  · first | rfl | (simp [cellC, fC0, fC6, fC8, fC11, sI, sL, gI, gL, dna, dnt, dow, up3, dl, dn]; done) | (simp [cellC, fC0, fC6, fC8, fC11, sI, sL, gI, gL, dna, dnt, dow, up3, dl, dn]; rfl)
  · intro k' i' hv hne
    match k', hv, hne with
    | 0, hv, hne => rfl
    | 1, hv, hne => rfl
    | 2, hv, hne => rfl
    | 3, hv, hne => rfl
    | 4, hv, hne => rfl
    | 5, hv, hne => rfl
    | 6, hv, hne => rfl
    | 7, hv, hne => rfl
    | 8, hv, hne => rfl
    | 9, hv, hne => rfl
    | 10, hv, hne => rfl
    | 11, hv, hne => have hq : ¬ i' = i := fun q => hne ⟨rfl, q⟩; simp [cellC, fC0, fC6, fC8, fC11, sI, sL, gI, gL, dna, dnt, dow, up3, dl, dn, hq]
    | n + 12, hv, hne => exact hv.elim
theorem wpC_L4 {v : Int64} (hW : WC D ct (lay, d) H) {i : Nat} (hi : i < dnt d) (hat : va_at D classes (lay 11 i, .inr (2, (fC11 lay d i).set 7 (.long v))) H1) (hch : rr_ch (lay 11 i) H H1) : WC D ct (lay, sL d 4 i 0 v) H1 := by
  refine Wf.put (cell' := cellC ct (lay, sL d 4 i 0 v)) hW (k := 11) (i := i) hi hat hch ?_ ?_
  · first | rfl | (simp [cellC, fC0, fC6, fC8, fC11, sI, sL, gI, gL, dna, dnt, dow, up3, dl, dn]; done) | (simp [cellC, fC0, fC6, fC8, fC11, sI, sL, gI, gL, dna, dnt, dow, up3, dl, dn]; rfl)
  · intro k' i' hv hne
    match k', hv, hne with
    | 0, hv, hne => rfl
    | 1, hv, hne => rfl
    | 2, hv, hne => rfl
    | 3, hv, hne => rfl
    | 4, hv, hne => rfl
    | 5, hv, hne => rfl
    | 6, hv, hne => rfl
    | 7, hv, hne => rfl
    | 8, hv, hne => rfl
    | 9, hv, hne => rfl
    | 10, hv, hne => rfl
    | 11, hv, hne => have hq : ¬ i' = i := fun q => hne ⟨rfl, q⟩; simp [cellC, fC0, fC6, fC8, fC11, sI, sL, gI, gL, dna, dnt, dow, up3, dl, dn, hq]
    | n + 12, hv, hne => exact hv.elim
theorem wpC_aI2 {t : Nat} {v : Int32} (hW : WC D ct (lay, d) H) (hat : va_at D classes (lay 3 0, .inl (ct 0, 128, .inl (upd (gI d 2 0) t v))) H1) (hch : rr_ch (lay 3 0) H H1) : WC D ct (lay, sI d 2 0 t v) H1 := by
  refine Wf.put (cell' := cellC ct (lay, sI d 2 0 t v)) hW (k := 3) (i := 0) rfl hat hch ?_ ?_
  · show (_ : va_E) = _
    congr 4; funext z; simp [sI, sL, gI, gL, up3, upd, vp_updL]
  · intro k' i' hv hne
    match k', hv, hne with
    | 0, hv, hne => rfl
    | 1, hv, hne => rfl
    | 2, hv, hne => rfl
    | 3, hv, hne => exact absurd ⟨rfl, hv⟩ hne
    | 4, hv, hne => rfl
    | 5, hv, hne => rfl
    | 6, hv, hne => rfl
    | 7, hv, hne => rfl
    | 8, hv, hne => rfl
    | 9, hv, hne => rfl
    | 10, hv, hne => rfl
    | 11, hv, hne => rfl
    | n + 12, hv, hne => exact hv.elim
theorem wpC_aI3 {t : Nat} {v : Int32} (hW : WC D ct (lay, d) H) (hat : va_at D classes (lay 4 0, .inl (ct 0, 3, .inl (upd (gI d 3 0) t v))) H1) (hch : rr_ch (lay 4 0) H H1) : WC D ct (lay, sI d 3 0 t v) H1 := by
  refine Wf.put (cell' := cellC ct (lay, sI d 3 0 t v)) hW (k := 4) (i := 0) rfl hat hch ?_ ?_
  · show (_ : va_E) = _
    congr 4; funext z; simp [sI, sL, gI, gL, up3, upd, vp_updL]
  · intro k' i' hv hne
    match k', hv, hne with
    | 0, hv, hne => rfl
    | 1, hv, hne => rfl
    | 2, hv, hne => rfl
    | 3, hv, hne => rfl
    | 4, hv, hne => exact absurd ⟨rfl, hv⟩ hne
    | 5, hv, hne => rfl
    | 6, hv, hne => rfl
    | 7, hv, hne => rfl
    | 8, hv, hne => rfl
    | 9, hv, hne => rfl
    | 10, hv, hne => rfl
    | 11, hv, hne => rfl
    | n + 12, hv, hne => exact hv.elim
theorem wpC_aI4 {t : Nat} {v : Int32} (hW : WC D ct (lay, d) H) (hat : va_at D classes (lay 5 0, .inl (ct 2, 3, .inl (upd (gI d 4 0) t v))) H1) (hch : rr_ch (lay 5 0) H H1) : WC D ct (lay, sI d 4 0 t v) H1 := by
  refine Wf.put (cell' := cellC ct (lay, sI d 4 0 t v)) hW (k := 5) (i := 0) rfl hat hch ?_ ?_
  · show (_ : va_E) = _
    congr 4; funext z; simp [sI, sL, gI, gL, up3, upd, vp_updL]
  · intro k' i' hv hne
    match k', hv, hne with
    | 0, hv, hne => rfl
    | 1, hv, hne => rfl
    | 2, hv, hne => rfl
    | 3, hv, hne => rfl
    | 4, hv, hne => rfl
    | 5, hv, hne => exact absurd ⟨rfl, hv⟩ hne
    | 6, hv, hne => rfl
    | 7, hv, hne => rfl
    | 8, hv, hne => rfl
    | 9, hv, hne => rfl
    | 10, hv, hne => rfl
    | 11, hv, hne => rfl
    | n + 12, hv, hne => exact hv.elim
theorem wpC_aI7 {t : Nat} {v : Int32} (hW : WC D ct (lay, d) H) {i : Nat} (hi : i < 2) (hat : va_at D classes (lay 7 i, .inl (ct 0, 2000, .inl (upd (gI d 7 i) t v))) H1) (hch : rr_ch (lay 7 i) H H1) : WC D ct (lay, sI d 7 i t v) H1 := by
  refine Wf.put (cell' := cellC ct (lay, sI d 7 i t v)) hW (k := 7) (i := i) hi hat hch ?_ ?_
  · show (_ : va_E) = _
    congr 4; funext z; simp [sI, sL, gI, gL, up3, upd, vp_updL]
  · intro k' i' hv hne
    match k', hv, hne with
    | 0, hv, hne => rfl
    | 1, hv, hne => rfl
    | 2, hv, hne => rfl
    | 3, hv, hne => rfl
    | 4, hv, hne => rfl
    | 5, hv, hne => rfl
    | 6, hv, hne => rfl
    | 7, hv, hne => have hq : ¬ i' = i := fun q => hne ⟨rfl, q⟩; simp only [cellC, fC0, fC6, fC8, fC11, sI, sL, gI, gL, dna, dnt, dow, up3, dl, dn]; simp [hq]; funext z; simp [up3, hq]
    | 8, hv, hne => rfl
    | 9, hv, hne => rfl
    | 10, hv, hne => rfl
    | 11, hv, hne => rfl
    | n + 12, hv, hne => exact hv.elim
theorem wpC_aL0 {t : Nat} {v : Int64} (hW : WC D ct (lay, d) H) {i : Nat} (hi : i < dna d) (hat : va_at D classes (lay 9 i, .inl (ct 1, 8, .inr (.inl (vp_updL (gL d 0 i) t v)))) H1) (hch : rr_ch (lay 9 i) H H1) : WC D ct (lay, sL d 0 i t v) H1 := by
  refine Wf.put (cell' := cellC ct (lay, sL d 0 i t v)) hW (k := 9) (i := i) hi hat hch ?_ ?_
  · show (_ : va_E) = _
    congr 5; funext z; simp [sI, sL, gI, gL, up3, upd, vp_updL]
  · intro k' i' hv hne
    match k', hv, hne with
    | 0, hv, hne => rfl
    | 1, hv, hne => rfl
    | 2, hv, hne => rfl
    | 3, hv, hne => rfl
    | 4, hv, hne => rfl
    | 5, hv, hne => rfl
    | 6, hv, hne => rfl
    | 7, hv, hne => rfl
    | 8, hv, hne => rfl
    | 9, hv, hne => have hq : ¬ i' = i := fun q => hne ⟨rfl, q⟩; simp only [cellC, fC0, fC6, fC8, fC11, sI, sL, gI, gL, dna, dnt, dow, up3, dl, dn]; simp [hq]; funext z; simp [up3, hq]
    | 10, hv, hne => rfl
    | 11, hv, hne => rfl
    | n + 12, hv, hne => exact hv.elim
theorem wpC_aL1 {t : Nat} {v : Int64} (hW : WC D ct (lay, d) H) {i : Nat} (hi : i < dna d) (hat : va_at D classes (lay 10 i, .inl (ct 1, 8, .inr (.inl (vp_updL (gL d 1 i) t v)))) H1) (hch : rr_ch (lay 10 i) H H1) : WC D ct (lay, sL d 1 i t v) H1 := by
  refine Wf.put (cell' := cellC ct (lay, sL d 1 i t v)) hW (k := 10) (i := i) hi hat hch ?_ ?_
  · show (_ : va_E) = _
    congr 5; funext z; simp [sI, sL, gI, gL, up3, upd, vp_updL]
  · intro k' i' hv hne
    match k', hv, hne with
    | 0, hv, hne => rfl
    | 1, hv, hne => rfl
    | 2, hv, hne => rfl
    | 3, hv, hne => rfl
    | 4, hv, hne => rfl
    | 5, hv, hne => rfl
    | 6, hv, hne => rfl
    | 7, hv, hne => rfl
    | 8, hv, hne => rfl
    | 9, hv, hne => rfl
    | 10, hv, hne => have hq : ¬ i' = i := fun q => hne ⟨rfl, q⟩; simp only [cellC, fC0, fC6, fC8, fC11, sI, sL, gI, gL, dna, dnt, dow, up3, dl, dn]; simp [hq]; funext z; simp [up3, hq]
    | 11, hv, hne => rfl
    | n + 12, hv, hne => exact hv.elim
theorem wpC_d {v : Int32} (w : Int32) (hw : v = if w = 0 then 0 else 1) (hW : WC D ct (lay, d) H) (hat : va_at D classes (lay 0 0, .inr (3, (fC0 lay d).set 10 (.int v))) H1) (hch : rr_ch (lay 0 0) H H1) : WC D ct (lay, sI d 1 0 0 w) H1 := by
  subst hw
  refine Wf.put (cell' := cellC ct (lay, sI d 1 0 0 w)) hW (k := 0) (i := 0) rfl hat hch ?_ ?_
  · simp [cellC, fC0, sI, sL, gI, gL, dna, dnt, dow, up3, dl, dn]
  · intro k' i' hv hne
    match k', hv, hne with
    | 0, hv, hne => exact absurd ⟨rfl, hv⟩ hne
    | 1, hv, hne => rfl
    | 2, hv, hne => rfl
    | 3, hv, hne => rfl
    | 4, hv, hne => rfl
    | 5, hv, hne => rfl
    | 6, hv, hne => rfl
    | 7, hv, hne => rfl
    | 8, hv, hne => rfl
    | 9, hv, hne => rfl
    | 10, hv, hne => rfl
    | 11, hv, hne => rfl
    | n + 12, hv, hne => exact hv.elim
end STC
