def valM (u : CS) (k i : Nat) : Prop := k < 19 ∧ i = 0
def fM0 (lay : Nat → Nat → Nat) (d : DC) : List Value := [.int (gI d 0 0 0), .int (gI d 1 0 0), .int (gI d 2 0 0), .ref (lay 1 0), .ref (lay 2 0), .ref (lay 3 0), .ref (lay 4 0), .ref (lay 5 0), .int (gI d 3 0 0), .ref (lay 6 0), .ref (lay 7 0), .ref (lay 8 0), .ref (lay 9 0), .ref (lay 10 0), .ref (lay 11 0), .ref (lay 12 0), .ref (lay 13 0), .ref (lay 14 0), .ref (lay 15 0), .int (gI d 4 0 0), .ref (lay 16 0), .ref (lay 17 0), .int (gI d 5 0 0), .ref (lay 18 0), .int (gI d 6 0 0)]
def cellM (ct : Nat → ClassId) (u : CS) (k i : Nat) : va_E := match k with
  | 0 => .inr (4, fM0 u.1 u.2)
  | 1 => .inl (ct 0, 17, .inl (gI u.2 10 0))
  | 2 => .inl (ct 2, 17, .inl (gI u.2 11 0))
  | 3 => .inl (ct 0, 17, .inl (gI u.2 12 0))
  | 4 => .inl (ct 1, 136, .inr (.inl (gL u.2 0 0)))
  | 5 => .inl (ct 1, 136, .inr (.inl (gL u.2 1 0)))
  | 6 => .inl (ct 0, 61, .inl (gI u.2 13 0))
  | 7 => .inl (ct 1, 61, .inr (.inl (gL u.2 2 0)))
  | 8 => .inl (ct 2, 61, .inl (gI u.2 14 0))
  | 9 => .inl (ct 2, 61, .inl (gI u.2 15 0))
  | 10 => .inl (ct 1, 61, .inr (.inl (gL u.2 3 0)))
  | 11 => .inl (ct 1, 61, .inr (.inl (gL u.2 4 0)))
  | 12 => .inl (ct 2, 61, .inl (gI u.2 16 0))
  | 13 => .inl (ct 0, 128, .inl (gI u.2 17 0))
  | 14 => .inl (ct 0, 3, .inl (gI u.2 18 0))
  | 15 => .inl (ct 2, 3, .inl (gI u.2 19 0))
  | 16 => .inl (ct 0, 500, .inl (gI u.2 20 0))
  | 17 => .inl (ct 0, 500, .inl (gI u.2 21 0))
  | _ => .inl (ct 0, 2000, .inl (gI u.2 22 0))
abbrev WM (D : va_G) (ct : Nat → ClassId) (u : CS) (H : Heap) : Prop := Wf D classes (valM u) u.1 (cellM ct u) H
section STM
variable {D : va_G} {ct : Nat → ClassId} {lay : Nat → Nat → Nat} {d : DC} {H H1 : Heap}
theorem aM0 (hW : WM D ct (lay, d) H) : va_at D classes (lay 0 0, .inr (4, fM0 lay d)) H := hW.1 0 0 ⟨by decide, rfl⟩
theorem aM1 (hW : WM D ct (lay, d) H) : va_at D classes (lay 1 0, .inl (ct 0, 17, .inl (gI d 10 0))) H := hW.1 1 0 ⟨by decide, rfl⟩
theorem aM2 (hW : WM D ct (lay, d) H) : va_at D classes (lay 2 0, .inl (ct 2, 17, .inl (gI d 11 0))) H := hW.1 2 0 ⟨by decide, rfl⟩
theorem aM3 (hW : WM D ct (lay, d) H) : va_at D classes (lay 3 0, .inl (ct 0, 17, .inl (gI d 12 0))) H := hW.1 3 0 ⟨by decide, rfl⟩
theorem aM4 (hW : WM D ct (lay, d) H) : va_at D classes (lay 4 0, .inl (ct 1, 136, .inr (.inl (gL d 0 0)))) H := hW.1 4 0 ⟨by decide, rfl⟩
theorem aM5 (hW : WM D ct (lay, d) H) : va_at D classes (lay 5 0, .inl (ct 1, 136, .inr (.inl (gL d 1 0)))) H := hW.1 5 0 ⟨by decide, rfl⟩
theorem aM6 (hW : WM D ct (lay, d) H) : va_at D classes (lay 6 0, .inl (ct 0, 61, .inl (gI d 13 0))) H := hW.1 6 0 ⟨by decide, rfl⟩
theorem aM7 (hW : WM D ct (lay, d) H) : va_at D classes (lay 7 0, .inl (ct 1, 61, .inr (.inl (gL d 2 0)))) H := hW.1 7 0 ⟨by decide, rfl⟩
theorem aM8 (hW : WM D ct (lay, d) H) : va_at D classes (lay 8 0, .inl (ct 2, 61, .inl (gI d 14 0))) H := hW.1 8 0 ⟨by decide, rfl⟩
theorem aM9 (hW : WM D ct (lay, d) H) : va_at D classes (lay 9 0, .inl (ct 2, 61, .inl (gI d 15 0))) H := hW.1 9 0 ⟨by decide, rfl⟩
theorem aM10 (hW : WM D ct (lay, d) H) : va_at D classes (lay 10 0, .inl (ct 1, 61, .inr (.inl (gL d 3 0)))) H := hW.1 10 0 ⟨by decide, rfl⟩
theorem aM11 (hW : WM D ct (lay, d) H) : va_at D classes (lay 11 0, .inl (ct 1, 61, .inr (.inl (gL d 4 0)))) H := hW.1 11 0 ⟨by decide, rfl⟩
theorem aM12 (hW : WM D ct (lay, d) H) : va_at D classes (lay 12 0, .inl (ct 2, 61, .inl (gI d 16 0))) H := hW.1 12 0 ⟨by decide, rfl⟩
theorem aM13 (hW : WM D ct (lay, d) H) : va_at D classes (lay 13 0, .inl (ct 0, 128, .inl (gI d 17 0))) H := hW.1 13 0 ⟨by decide, rfl⟩
theorem aM14 (hW : WM D ct (lay, d) H) : va_at D classes (lay 14 0, .inl (ct 0, 3, .inl (gI d 18 0))) H := hW.1 14 0 ⟨by decide, rfl⟩
theorem aM15 (hW : WM D ct (lay, d) H) : va_at D classes (lay 15 0, .inl (ct 2, 3, .inl (gI d 19 0))) H := hW.1 15 0 ⟨by decide, rfl⟩
theorem aM16 (hW : WM D ct (lay, d) H) : va_at D classes (lay 16 0, .inl (ct 0, 500, .inl (gI d 20 0))) H := hW.1 16 0 ⟨by decide, rfl⟩
theorem aM17 (hW : WM D ct (lay, d) H) : va_at D classes (lay 17 0, .inl (ct 0, 500, .inl (gI d 21 0))) H := hW.1 17 0 ⟨by decide, rfl⟩
theorem aM18 (hW : WM D ct (lay, d) H) : va_at D classes (lay 18 0, .inl (ct 0, 2000, .inl (gI d 22 0))) H := hW.1 18 0 ⟨by decide, rfl⟩
theorem wpM_I0 {v : Int32} (hW : WM D ct (lay, d) H) (hat : va_at D classes (lay 0 0, .inr (4, (fM0 lay d).set 0 (.int v))) H1) (hch : rr_ch (lay 0 0) H H1) : WM D ct (lay, sI d 0 0 0 v) H1 := by
  refine Wf.put (cell' := cellM ct (lay, sI d 0 0 0 v)) hW (k := 0) (i := 0) ⟨by decide, rfl⟩ hat hch ?_ ?_
  · simp [cellM, fM0, sI, sL, gI, gL, dna, dnt, dow, up3]
  · intro k' i' hv hne
    match k', hv, hne with
    | 0, hv, hne => exact absurd ⟨rfl, hv.2⟩ hne
    | 1, hv, hne => rfl
    | 2, hv, hne => rfl
    | 3, hv, hne => rfl
    | 4, hv, hne => rfl
    | 5, hv, hne => rfl
    | 6, hv, hne => rfl
    | 7, hv, hne => rfl
    | 8, hv, hne => rfl
    | 9, hv, hne => rfl
    | 10, hv, hne => rfl
    | 11, hv, hne => rfl
    | 12, hv, hne => rfl
    | 13, hv, hne => rfl
    | 14, hv, hne => rfl
    | 15, hv, hne => rfl
    | 16, hv, hne => rfl
    | 17, hv, hne => rfl
    | 18, hv, hne => rfl
    | n + 19, hv, hne => exact absurd hv.1 (by omega)
theorem wpM_I1 {v : Int32} (hW : WM D ct (lay, d) H) (hat : va_at D classes (lay 0 0, .inr (4, (fM0 lay d).set 1 (.int v))) H1) (hch : rr_ch (lay 0 0) H H1) : WM D ct (lay, sI d 1 0 0 v) H1 := by
  refine Wf.put (cell' := cellM ct (lay, sI d 1 0 0 v)) hW (k := 0) (i := 0) ⟨by decide, rfl⟩ hat hch ?_ ?_
  · simp [cellM, fM0, sI, sL, gI, gL, dna, dnt, dow, up3]
  · intro k' i' hv hne
    match k', hv, hne with
    | 0, hv, hne => exact absurd ⟨rfl, hv.2⟩ hne
    | 1, hv, hne => rfl
    | 2, hv, hne => rfl
    | 3, hv, hne => rfl
    | 4, hv, hne => rfl
    | 5, hv, hne => rfl
    | 6, hv, hne => rfl
    | 7, hv, hne => rfl
    | 8, hv, hne => rfl
    | 9, hv, hne => rfl
    | 10, hv, hne => rfl
    | 11, hv, hne => rfl
    | 12, hv, hne => rfl
    | 13, hv, hne => rfl
    | 14, hv, hne => rfl
    | 15, hv, hne => rfl
    | 16, hv, hne => rfl
    | 17, hv, hne => rfl
    | 18, hv, hne => rfl
    | n + 19, hv, hne => exact absurd hv.1 (by omega)
theorem wpM_I2 {v : Int32} (hW : WM D ct (lay, d) H) (hat : va_at D classes (lay 0 0, .inr (4, (fM0 lay d).set 2 (.int v))) H1) (hch : rr_ch (lay 0 0) H H1) : WM D ct (lay, sI d 2 0 0 v) H1 := by
  refine Wf.put (cell' := cellM ct (lay, sI d 2 0 0 v)) hW (k := 0) (i := 0) ⟨by decide, rfl⟩ hat hch ?_ ?_
  · simp [cellM, fM0, sI, sL, gI, gL, dna, dnt, dow, up3]
  · intro k' i' hv hne
    match k', hv, hne with
    | 0, hv, hne => exact absurd ⟨rfl, hv.2⟩ hne
    | 1, hv, hne => rfl
    | 2, hv, hne => rfl
    | 3, hv, hne => rfl
    | 4, hv, hne => rfl
    | 5, hv, hne => rfl
    | 6, hv, hne => rfl
    | 7, hv, hne => rfl
    | 8, hv, hne => rfl
    | 9, hv, hne => rfl
    | 10, hv, hne => rfl
    | 11, hv, hne => rfl
    | 12, hv, hne => rfl
    | 13, hv, hne => rfl
    | 14, hv, hne => rfl
    | 15, hv, hne => rfl
    | 16, hv, hne => rfl
    | 17, hv, hne => rfl
    | 18, hv, hne => rfl
    | n + 19, hv, hne => exact absurd hv.1 (by omega)
theorem wpM_I3 {v : Int32} (hW : WM D ct (lay, d) H) (hat : va_at D classes (lay 0 0, .inr (4, (fM0 lay d).set 8 (.int v))) H1) (hch : rr_ch (lay 0 0) H H1) : WM D ct (lay, sI d 3 0 0 v) H1 := by
  refine Wf.put (cell' := cellM ct (lay, sI d 3 0 0 v)) hW (k := 0) (i := 0) ⟨by decide, rfl⟩ hat hch ?_ ?_
  · simp [cellM, fM0, sI, sL, gI, gL, dna, dnt, dow, up3]
  · intro k' i' hv hne
    match k', hv, hne with
    | 0, hv, hne => exact absurd ⟨rfl, hv.2⟩ hne
    | 1, hv, hne => rfl
    | 2, hv, hne => rfl
    | 3, hv, hne => rfl
    | 4, hv, hne => rfl
    | 5, hv, hne => rfl
    | 6, hv, hne => rfl
    | 7, hv, hne => rfl
    | 8, hv, hne => rfl
    | 9, hv, hne => rfl
    | 10, hv, hne => rfl
    | 11, hv, hne => rfl
    | 12, hv, hne => rfl
    | 13, hv, hne => rfl
    | 14, hv, hne => rfl
    | 15, hv, hne => rfl
    | 16, hv, hne => rfl
    | 17, hv, hne => rfl
    | 18, hv, hne => rfl
    | n + 19, hv, hne => exact absurd hv.1 (by omega)
theorem wpM_I4 {v : Int32} (hW : WM D ct (lay, d) H) (hat : va_at D classes (lay 0 0, .inr (4, (fM0 lay d).set 19 (.int v))) H1) (hch : rr_ch (lay 0 0) H H1) : WM D ct (lay, sI d 4 0 0 v) H1 := by
  refine Wf.put (cell' := cellM ct (lay, sI d 4 0 0 v)) hW (k := 0) (i := 0) ⟨by decide, rfl⟩ hat hch ?_ ?_
  · simp [cellM, fM0, sI, sL, gI, gL, dna, dnt, dow, up3]
  · intro k' i' hv hne
    match k', hv, hne with
    | 0, hv, hne => exact absurd ⟨rfl, hv.2⟩ hne
    | 1, hv, hne => rfl
    | 2, hv, hne => rfl
    | 3, hv, hne => rfl
    | 4, hv, hne => rfl
    | 5, hv, hne => rfl
    | 6, hv, hne => rfl
    | 7, hv, hne => rfl
    | 8, hv, hne => rfl
    | 9, hv, hne => rfl
    | 10, hv, hne => rfl
    | 11, hv, hne => rfl
    | 12, hv, hne => rfl
    | 13, hv, hne => rfl
    | 14, hv, hne => rfl
    | 15, hv, hne => rfl
    | 16, hv, hne => rfl
    | 17, hv, hne => rfl
    | 18, hv, hne => rfl
    | n + 19, hv, hne => exact absurd hv.1 (by omega)
theorem wpM_I5 {v : Int32} (hW : WM D ct (lay, d) H) (hat : va_at D classes (lay 0 0, .inr (4, (fM0 lay d).set 22 (.int v))) H1) (hch : rr_ch (lay 0 0) H H1) : WM D ct (lay, sI d 5 0 0 v) H1 := by
  refine Wf.put (cell' := cellM ct (lay, sI d 5 0 0 v)) hW (k := 0) (i := 0) ⟨by decide, rfl⟩ hat hch ?_ ?_
  · simp [cellM, fM0, sI, sL, gI, gL, dna, dnt, dow, up3]
  · intro k' i' hv hne
    match k', hv, hne with
    | 0, hv, hne => exact absurd ⟨rfl, hv.2⟩ hne
    | 1, hv, hne => rfl
    | 2, hv, hne => rfl
    | 3, hv, hne => rfl
    | 4, hv, hne => rfl
    | 5, hv, hne => rfl
    | 6, hv, hne => rfl
    | 7, hv, hne => rfl
    | 8, hv, hne => rfl
    | 9, hv, hne => rfl
    | 10, hv, hne => rfl
    | 11, hv, hne => rfl
    | 12, hv, hne => rfl
    | 13, hv, hne => rfl
    | 14, hv, hne => rfl
    | 15, hv, hne => rfl
    | 16, hv, hne => rfl
    | 17, hv, hne => rfl
    | 18, hv, hne => rfl
    | n + 19, hv, hne => exact absurd hv.1 (by omega)
theorem wpM_I6 {v : Int32} (hW : WM D ct (lay, d) H) (hat : va_at D classes (lay 0 0, .inr (4, (fM0 lay d).set 24 (.int v))) H1) (hch : rr_ch (lay 0 0) H H1) : WM D ct (lay, sI d 6 0 0 v) H1 := by
  refine Wf.put (cell' := cellM ct (lay, sI d 6 0 0 v)) hW (k := 0) (i := 0) ⟨by decide, rfl⟩ hat hch ?_ ?_
  · simp [cellM, fM0, sI, sL, gI, gL, dna, dnt, dow, up3]
  · intro k' i' hv hne
    match k', hv, hne with
    | 0, hv, hne => exact absurd ⟨rfl, hv.2⟩ hne
    | 1, hv, hne => rfl
    | 2, hv, hne => rfl
    | 3, hv, hne => rfl
    | 4, hv, hne => rfl
    | 5, hv, hne => rfl
    | 6, hv, hne => rfl
    | 7, hv, hne => rfl
    | 8, hv, hne => rfl
    | 9, hv, hne => rfl
    | 10, hv, hne => rfl
    | 11, hv, hne => rfl
    | 12, hv, hne => rfl
    | 13, hv, hne => rfl
    | 14, hv, hne => rfl
    | 15, hv, hne => rfl
    | 16, hv, hne => rfl
    | 17, hv, hne => rfl
    | 18, hv, hne => rfl
    | n + 19, hv, hne => exact absurd hv.1 (by omega)
theorem wpM_aI10 {t : Nat} {v : Int32} (hW : WM D ct (lay, d) H) (hat : va_at D classes (lay 1 0, .inl (ct 0, 17, .inl (upd (gI d 10 0) t v))) H1) (hch : rr_ch (lay 1 0) H H1) : WM D ct (lay, sI d 10 0 t v) H1 := by
  refine Wf.put (cell' := cellM ct (lay, sI d 10 0 t v)) hW (k := 1) (i := 0) ⟨by decide, rfl⟩ hat hch ?_ ?_
  · show (_ : va_E) = _
    congr 4; funext z; simp [sI, sL, gI, gL, up3, upd, vp_updL]
  · intro k' i' hv hne
    match k', hv, hne with
    | 0, hv, hne => rfl
    | 1, hv, hne => exact absurd ⟨rfl, hv.2⟩ hne
    | 2, hv, hne => rfl
    | 3, hv, hne => rfl
    | 4, hv, hne => rfl
    | 5, hv, hne => rfl
    | 6, hv, hne => rfl
    | 7, hv, hne => rfl
    | 8, hv, hne => rfl
    | 9, hv, hne => rfl
    | 10, hv, hne => rfl
    | 11, hv, hne => rfl
    | 12, hv, hne => rfl
    | 13, hv, hne => rfl
    | 14, hv, hne => rfl
    | 15, hv, hne => rfl
    | 16, hv, hne => rfl
    | 17, hv, hne => rfl
    | 18, hv, hne => rfl
    | n + 19, hv, hne => exact absurd hv.1 (by omega)
theorem wpM_aI11 {t : Nat} {v : Int32} (hW : WM D ct (lay, d) H) (hat : va_at D classes (lay 2 0, .inl (ct 2, 17, .inl (upd (gI d 11 0) t v))) H1) (hch : rr_ch (lay 2 0) H H1) : WM D ct (lay, sI d 11 0 t v) H1 := by
  refine Wf.put (cell' := cellM ct (lay, sI d 11 0 t v)) hW (k := 2) (i := 0) ⟨by decide, rfl⟩ hat hch ?_ ?_
  · show (_ : va_E) = _
    congr 4; funext z; simp [sI, sL, gI, gL, up3, upd, vp_updL]
  · intro k' i' hv hne
    match k', hv, hne with
    | 0, hv, hne => rfl
    | 1, hv, hne => rfl
    | 2, hv, hne => exact absurd ⟨rfl, hv.2⟩ hne
    | 3, hv, hne => rfl
    | 4, hv, hne => rfl
    | 5, hv, hne => rfl
    | 6, hv, hne => rfl
    | 7, hv, hne => rfl
    | 8, hv, hne => rfl
    | 9, hv, hne => rfl
    | 10, hv, hne => rfl
    | 11, hv, hne => rfl
    | 12, hv, hne => rfl
    | 13, hv, hne => rfl
    | 14, hv, hne => rfl
    | 15, hv, hne => rfl
    | 16, hv, hne => rfl
    | 17, hv, hne => rfl
    | 18, hv, hne => rfl
    | n + 19, hv, hne => exact absurd hv.1 (by omega)
theorem wpM_aI12 {t : Nat} {v : Int32} (hW : WM D ct (lay, d) H) (hat : va_at D classes (lay 3 0, .inl (ct 0, 17, .inl (upd (gI d 12 0) t v))) H1) (hch : rr_ch (lay 3 0) H H1) : WM D ct (lay, sI d 12 0 t v) H1 := by
  refine Wf.put (cell' := cellM ct (lay, sI d 12 0 t v)) hW (k := 3) (i := 0) ⟨by decide, rfl⟩ hat hch ?_ ?_
  · show (_ : va_E) = _
    congr 4; funext z; simp [sI, sL, gI, gL, up3, upd, vp_updL]
  · intro k' i' hv hne
    match k', hv, hne with
    | 0, hv, hne => rfl
    | 1, hv, hne => rfl
    | 2, hv, hne => rfl
    | 3, hv, hne => exact absurd ⟨rfl, hv.2⟩ hne
    | 4, hv, hne => rfl
    | 5, hv, hne => rfl
    | 6, hv, hne => rfl
    | 7, hv, hne => rfl
    | 8, hv, hne => rfl
    | 9, hv, hne => rfl
    | 10, hv, hne => rfl
    | 11, hv, hne => rfl
    | 12, hv, hne => rfl
    | 13, hv, hne => rfl
    | 14, hv, hne => rfl
    | 15, hv, hne => rfl
    | 16, hv, hne => rfl
    | 17, hv, hne => rfl
    | 18, hv, hne => rfl
    | n + 19, hv, hne => exact absurd hv.1 (by omega)
theorem wpM_aL0 {t : Nat} {v : Int64} (hW : WM D ct (lay, d) H) (hat : va_at D classes (lay 4 0, .inl (ct 1, 136, .inr (.inl (vp_updL (gL d 0 0) t v)))) H1) (hch : rr_ch (lay 4 0) H H1) : WM D ct (lay, sL d 0 0 t v) H1 := by
  refine Wf.put (cell' := cellM ct (lay, sL d 0 0 t v)) hW (k := 4) (i := 0) ⟨by decide, rfl⟩ hat hch ?_ ?_
  · show (_ : va_E) = _
    congr 5; funext z; simp [sI, sL, gI, gL, up3, upd, vp_updL]
  · intro k' i' hv hne
    match k', hv, hne with
    | 0, hv, hne => rfl
    | 1, hv, hne => rfl
    | 2, hv, hne => rfl
    | 3, hv, hne => rfl
    | 4, hv, hne => exact absurd ⟨rfl, hv.2⟩ hne
    | 5, hv, hne => rfl
    | 6, hv, hne => rfl
    | 7, hv, hne => rfl
    | 8, hv, hne => rfl
    | 9, hv, hne => rfl
    | 10, hv, hne => rfl
    | 11, hv, hne => rfl
    | 12, hv, hne => rfl
    | 13, hv, hne => rfl
    | 14, hv, hne => rfl
    | 15, hv, hne => rfl
    | 16, hv, hne => rfl
    | 17, hv, hne => rfl
    | 18, hv, hne => rfl
    | n + 19, hv, hne => exact absurd hv.1 (by omega)
theorem wpM_aL1 {t : Nat} {v : Int64} (hW : WM D ct (lay, d) H) (hat : va_at D classes (lay 5 0, .inl (ct 1, 136, .inr (.inl (vp_updL (gL d 1 0) t v)))) H1) (hch : rr_ch (lay 5 0) H H1) : WM D ct (lay, sL d 1 0 t v) H1 := by
  refine Wf.put (cell' := cellM ct (lay, sL d 1 0 t v)) hW (k := 5) (i := 0) ⟨by decide, rfl⟩ hat hch ?_ ?_
  · show (_ : va_E) = _
    congr 5; funext z; simp [sI, sL, gI, gL, up3, upd, vp_updL]
  · intro k' i' hv hne
    match k', hv, hne with
    | 0, hv, hne => rfl
    | 1, hv, hne => rfl
    | 2, hv, hne => rfl
    | 3, hv, hne => rfl
    | 4, hv, hne => rfl
    | 5, hv, hne => exact absurd ⟨rfl, hv.2⟩ hne
    | 6, hv, hne => rfl
    | 7, hv, hne => rfl
    | 8, hv, hne => rfl
    | 9, hv, hne => rfl
    | 10, hv, hne => rfl
    | 11, hv, hne => rfl
    | 12, hv, hne => rfl
    | 13, hv, hne => rfl
    | 14, hv, hne => rfl
    | 15, hv, hne => rfl
    | 16, hv, hne => rfl
    | 17, hv, hne => rfl
    | 18, hv, hne => rfl
    | n + 19, hv, hne => exact absurd hv.1 (by omega)
theorem wpM_aI13 {t : Nat} {v : Int32} (hW : WM D ct (lay, d) H) (hat : va_at D classes (lay 6 0, .inl (ct 0, 61, .inl (upd (gI d 13 0) t v))) H1) (hch : rr_ch (lay 6 0) H H1) : WM D ct (lay, sI d 13 0 t v) H1 := by
  refine Wf.put (cell' := cellM ct (lay, sI d 13 0 t v)) hW (k := 6) (i := 0) ⟨by decide, rfl⟩ hat hch ?_ ?_
  · show (_ : va_E) = _
    congr 4; funext z; simp [sI, sL, gI, gL, up3, upd, vp_updL]
  · intro k' i' hv hne
    match k', hv, hne with
    | 0, hv, hne => rfl
    | 1, hv, hne => rfl
    | 2, hv, hne => rfl
    | 3, hv, hne => rfl
    | 4, hv, hne => rfl
    | 5, hv, hne => rfl
    | 6, hv, hne => exact absurd ⟨rfl, hv.2⟩ hne
    | 7, hv, hne => rfl
    | 8, hv, hne => rfl
    | 9, hv, hne => rfl
    | 10, hv, hne => rfl
    | 11, hv, hne => rfl
    | 12, hv, hne => rfl
    | 13, hv, hne => rfl
    | 14, hv, hne => rfl
    | 15, hv, hne => rfl
    | 16, hv, hne => rfl
    | 17, hv, hne => rfl
    | 18, hv, hne => rfl
    | n + 19, hv, hne => exact absurd hv.1 (by omega)
theorem wpM_aL2 {t : Nat} {v : Int64} (hW : WM D ct (lay, d) H) (hat : va_at D classes (lay 7 0, .inl (ct 1, 61, .inr (.inl (vp_updL (gL d 2 0) t v)))) H1) (hch : rr_ch (lay 7 0) H H1) : WM D ct (lay, sL d 2 0 t v) H1 := by
  refine Wf.put (cell' := cellM ct (lay, sL d 2 0 t v)) hW (k := 7) (i := 0) ⟨by decide, rfl⟩ hat hch ?_ ?_
  · show (_ : va_E) = _
    congr 5; funext z; simp [sI, sL, gI, gL, up3, upd, vp_updL]
  · intro k' i' hv hne
    match k', hv, hne with
    | 0, hv, hne => rfl
    | 1, hv, hne => rfl
    | 2, hv, hne => rfl
    | 3, hv, hne => rfl
    | 4, hv, hne => rfl
    | 5, hv, hne => rfl
    | 6, hv, hne => rfl
    | 7, hv, hne => exact absurd ⟨rfl, hv.2⟩ hne
    | 8, hv, hne => rfl
    | 9, hv, hne => rfl
    | 10, hv, hne => rfl
    | 11, hv, hne => rfl
    | 12, hv, hne => rfl
    | 13, hv, hne => rfl
    | 14, hv, hne => rfl
    | 15, hv, hne => rfl
    | 16, hv, hne => rfl
    | 17, hv, hne => rfl
    | 18, hv, hne => rfl
    | n + 19, hv, hne => exact absurd hv.1 (by omega)
theorem wpM_aI14 {t : Nat} {v : Int32} (hW : WM D ct (lay, d) H) (hat : va_at D classes (lay 8 0, .inl (ct 2, 61, .inl (upd (gI d 14 0) t v))) H1) (hch : rr_ch (lay 8 0) H H1) : WM D ct (lay, sI d 14 0 t v) H1 := by
  refine Wf.put (cell' := cellM ct (lay, sI d 14 0 t v)) hW (k := 8) (i := 0) ⟨by decide, rfl⟩ hat hch ?_ ?_
  · show (_ : va_E) = _
    congr 4; funext z; simp [sI, sL, gI, gL, up3, upd, vp_updL]
  · intro k' i' hv hne
    match k', hv, hne with
    | 0, hv, hne => rfl
    | 1, hv, hne => rfl
    | 2, hv, hne => rfl
    | 3, hv, hne => rfl
    | 4, hv, hne => rfl
    | 5, hv, hne => rfl
    | 6, hv, hne => rfl
    | 7, hv, hne => rfl
    | 8, hv, hne => exact absurd ⟨rfl, hv.2⟩ hne
    | 9, hv, hne => rfl
    | 10, hv, hne => rfl
    | 11, hv, hne => rfl
    | 12, hv, hne => rfl
    | 13, hv, hne => rfl
    | 14, hv, hne => rfl
    | 15, hv, hne => rfl
    | 16, hv, hne => rfl
    | 17, hv, hne => rfl
    | 18, hv, hne => rfl
    | n + 19, hv, hne => exact absurd hv.1 (by omega)
theorem wpM_aI15 {t : Nat} {v : Int32} (hW : WM D ct (lay, d) H) (hat : va_at D classes (lay 9 0, .inl (ct 2, 61, .inl (upd (gI d 15 0) t v))) H1) (hch : rr_ch (lay 9 0) H H1) : WM D ct (lay, sI d 15 0 t v) H1 := by
  refine Wf.put (cell' := cellM ct (lay, sI d 15 0 t v)) hW (k := 9) (i := 0) ⟨by decide, rfl⟩ hat hch ?_ ?_
  · show (_ : va_E) = _
    congr 4; funext z; simp [sI, sL, gI, gL, up3, upd, vp_updL]
  · intro k' i' hv hne
    match k', hv, hne with
    | 0, hv, hne => rfl
    | 1, hv, hne => rfl
    | 2, hv, hne => rfl
    | 3, hv, hne => rfl
    | 4, hv, hne => rfl
    | 5, hv, hne => rfl
    | 6, hv, hne => rfl
    | 7, hv, hne => rfl
    | 8, hv, hne => rfl
    | 9, hv, hne => exact absurd ⟨rfl, hv.2⟩ hne
    | 10, hv, hne => rfl
    | 11, hv, hne => rfl
    | 12, hv, hne => rfl
    | 13, hv, hne => rfl
    | 14, hv, hne => rfl
    | 15, hv, hne => rfl
    | 16, hv, hne => rfl
    | 17, hv, hne => rfl
    | 18, hv, hne => rfl
    | n + 19, hv, hne => exact absurd hv.1 (by omega)
theorem wpM_aL3 {t : Nat} {v : Int64} (hW : WM D ct (lay, d) H) (hat : va_at D classes (lay 10 0, .inl (ct 1, 61, .inr (.inl (vp_updL (gL d 3 0) t v)))) H1) (hch : rr_ch (lay 10 0) H H1) : WM D ct (lay, sL d 3 0 t v) H1 := by
  refine Wf.put (cell' := cellM ct (lay, sL d 3 0 t v)) hW (k := 10) (i := 0) ⟨by decide, rfl⟩ hat hch ?_ ?_
  · show (_ : va_E) = _
    congr 5; funext z; simp [sI, sL, gI, gL, up3, upd, vp_updL]
  · intro k' i' hv hne
    match k', hv, hne with
    | 0, hv, hne => rfl
    | 1, hv, hne => rfl
    | 2, hv, hne => rfl
    | 3, hv, hne => rfl
    | 4, hv, hne => rfl
    | 5, hv, hne => rfl
    | 6, hv, hne => rfl
    | 7, hv, hne => rfl
    | 8, hv, hne => rfl
    | 9, hv, hne => rfl
    | 10, hv, hne => exact absurd ⟨rfl, hv.2⟩ hne
    | 11, hv, hne => rfl
    | 12, hv, hne => rfl
    | 13, hv, hne => rfl
    | 14, hv, hne => rfl
    | 15, hv, hne => rfl
    | 16, hv, hne => rfl
    | 17, hv, hne => rfl
    | 18, hv, hne => rfl
    | n + 19, hv, hne => exact absurd hv.1 (by omega)
theorem wpM_aL4 {t : Nat} {v : Int64} (hW : WM D ct (lay, d) H) (hat : va_at D classes (lay 11 0, .inl (ct 1, 61, .inr (.inl (vp_updL (gL d 4 0) t v)))) H1) (hch : rr_ch (lay 11 0) H H1) : WM D ct (lay, sL d 4 0 t v) H1 := by
  refine Wf.put (cell' := cellM ct (lay, sL d 4 0 t v)) hW (k := 11) (i := 0) ⟨by decide, rfl⟩ hat hch ?_ ?_
  · show (_ : va_E) = _
    congr 5; funext z; simp [sI, sL, gI, gL, up3, upd, vp_updL]
  · intro k' i' hv hne
    match k', hv, hne with
    | 0, hv, hne => rfl
    | 1, hv, hne => rfl
    | 2, hv, hne => rfl
    | 3, hv, hne => rfl
    | 4, hv, hne => rfl
    | 5, hv, hne => rfl
    | 6, hv, hne => rfl
    | 7, hv, hne => rfl
    | 8, hv, hne => rfl
    | 9, hv, hne => rfl
    | 10, hv, hne => rfl
    | 11, hv, hne => exact absurd ⟨rfl, hv.2⟩ hne
    | 12, hv, hne => rfl
    | 13, hv, hne => rfl
    | 14, hv, hne => rfl
    | 15, hv, hne => rfl
    | 16, hv, hne => rfl
    | 17, hv, hne => rfl
    | 18, hv, hne => rfl
    | n + 19, hv, hne => exact absurd hv.1 (by omega)
theorem wpM_aI16 {t : Nat} {v : Int32} (hW : WM D ct (lay, d) H) (hat : va_at D classes (lay 12 0, .inl (ct 2, 61, .inl (upd (gI d 16 0) t v))) H1) (hch : rr_ch (lay 12 0) H H1) : WM D ct (lay, sI d 16 0 t v) H1 := by
  refine Wf.put (cell' := cellM ct (lay, sI d 16 0 t v)) hW (k := 12) (i := 0) ⟨by decide, rfl⟩ hat hch ?_ ?_
  · show (_ : va_E) = _
    congr 4; funext z; simp [sI, sL, gI, gL, up3, upd, vp_updL]
  · intro k' i' hv hne
    match k', hv, hne with
    | 0, hv, hne => rfl
    | 1, hv, hne => rfl
    | 2, hv, hne => rfl
    | 3, hv, hne => rfl
    | 4, hv, hne => rfl
    | 5, hv, hne => rfl
    | 6, hv, hne => rfl
    | 7, hv, hne => rfl
    | 8, hv, hne => rfl
    | 9, hv, hne => rfl
    | 10, hv, hne => rfl
    | 11, hv, hne => rfl
    | 12, hv, hne => exact absurd ⟨rfl, hv.2⟩ hne
    | 13, hv, hne => rfl
    | 14, hv, hne => rfl
    | 15, hv, hne => rfl
    | 16, hv, hne => rfl
    | 17, hv, hne => rfl
    | 18, hv, hne => rfl
    | n + 19, hv, hne => exact absurd hv.1 (by omega)
theorem wpM_aI17 {t : Nat} {v : Int32} (hW : WM D ct (lay, d) H) (hat : va_at D classes (lay 13 0, .inl (ct 0, 128, .inl (upd (gI d 17 0) t v))) H1) (hch : rr_ch (lay 13 0) H H1) : WM D ct (lay, sI d 17 0 t v) H1 := by
  refine Wf.put (cell' := cellM ct (lay, sI d 17 0 t v)) hW (k := 13) (i := 0) ⟨by decide, rfl⟩ hat hch ?_ ?_
  · show (_ : va_E) = _
    congr 4; funext z; simp [sI, sL, gI, gL, up3, upd, vp_updL]
  · intro k' i' hv hne
    match k', hv, hne with
    | 0, hv, hne => rfl
    | 1, hv, hne => rfl
    | 2, hv, hne => rfl
    | 3, hv, hne => rfl
    | 4, hv, hne => rfl
    | 5, hv, hne => rfl
    | 6, hv, hne => rfl
    | 7, hv, hne => rfl
    | 8, hv, hne => rfl
    | 9, hv, hne => rfl
    | 10, hv, hne => rfl
    | 11, hv, hne => rfl
    | 12, hv, hne => rfl
    | 13, hv, hne => exact absurd ⟨rfl, hv.2⟩ hne
    | 14, hv, hne => rfl
    | 15, hv, hne => rfl
    | 16, hv, hne => rfl
    | 17, hv, hne => rfl
    | 18, hv, hne => rfl
    | n + 19, hv, hne => exact absurd hv.1 (by omega)
theorem wpM_aI18 {t : Nat} {v : Int32} (hW : WM D ct (lay, d) H) (hat : va_at D classes (lay 14 0, .inl (ct 0, 3, .inl (upd (gI d 18 0) t v))) H1) (hch : rr_ch (lay 14 0) H H1) : WM D ct (lay, sI d 18 0 t v) H1 := by
  refine Wf.put (cell' := cellM ct (lay, sI d 18 0 t v)) hW (k := 14) (i := 0) ⟨by decide, rfl⟩ hat hch ?_ ?_
  · show (_ : va_E) = _
    congr 4; funext z; simp [sI, sL, gI, gL, up3, upd, vp_updL]
  · intro k' i' hv hne
    match k', hv, hne with
    | 0, hv, hne => rfl
    | 1, hv, hne => rfl
    | 2, hv, hne => rfl
    | 3, hv, hne => rfl
    | 4, hv, hne => rfl
    | 5, hv, hne => rfl
    | 6, hv, hne => rfl
    | 7, hv, hne => rfl
    | 8, hv, hne => rfl
    | 9, hv, hne => rfl
    | 10, hv, hne => rfl
    | 11, hv, hne => rfl
    | 12, hv, hne => rfl
    | 13, hv, hne => rfl
    | 14, hv, hne => exact absurd ⟨rfl, hv.2⟩ hne
    | 15, hv, hne => rfl
    | 16, hv, hne => rfl
    | 17, hv, hne => rfl
    | 18, hv, hne => rfl
    | n + 19, hv, hne => exact absurd hv.1 (by omega)
theorem wpM_aI19 {t : Nat} {v : Int32} (hW : WM D ct (lay, d) H) (hat : va_at D classes (lay 15 0, .inl (ct 2, 3, .inl (upd (gI d 19 0) t v))) H1) (hch : rr_ch (lay 15 0) H H1) : WM D ct (lay, sI d 19 0 t v) H1 := by
  refine Wf.put (cell' := cellM ct (lay, sI d 19 0 t v)) hW (k := 15) (i := 0) ⟨by decide, rfl⟩ hat hch ?_ ?_
  · show (_ : va_E) = _
    congr 4; funext z; simp [sI, sL, gI, gL, up3, upd, vp_updL]
  · intro k' i' hv hne
    match k', hv, hne with
    | 0, hv, hne => rfl
    | 1, hv, hne => rfl
    | 2, hv, hne => rfl
    | 3, hv, hne => rfl
    | 4, hv, hne => rfl
    | 5, hv, hne => rfl
    | 6, hv, hne => rfl
    | 7, hv, hne => rfl
    | 8, hv, hne => rfl
    | 9, hv, hne => rfl
    | 10, hv, hne => rfl
    | 11, hv, hne => rfl
    | 12, hv, hne => rfl
    | 13, hv, hne => rfl
    | 14, hv, hne => rfl
    | 15, hv, hne => exact absurd ⟨rfl, hv.2⟩ hne
    | 16, hv, hne => rfl
    | 17, hv, hne => rfl
    | 18, hv, hne => rfl
    | n + 19, hv, hne => exact absurd hv.1 (by omega)
theorem wpM_aI20 {t : Nat} {v : Int32} (hW : WM D ct (lay, d) H) (hat : va_at D classes (lay 16 0, .inl (ct 0, 500, .inl (upd (gI d 20 0) t v))) H1) (hch : rr_ch (lay 16 0) H H1) : WM D ct (lay, sI d 20 0 t v) H1 := by
  refine Wf.put (cell' := cellM ct (lay, sI d 20 0 t v)) hW (k := 16) (i := 0) ⟨by decide, rfl⟩ hat hch ?_ ?_
  · show (_ : va_E) = _
    congr 4; funext z; simp [sI, sL, gI, gL, up3, upd, vp_updL]
  · intro k' i' hv hne
    match k', hv, hne with
    | 0, hv, hne => rfl
    | 1, hv, hne => rfl
    | 2, hv, hne => rfl
    | 3, hv, hne => rfl
    | 4, hv, hne => rfl
    | 5, hv, hne => rfl
    | 6, hv, hne => rfl
    | 7, hv, hne => rfl
    | 8, hv, hne => rfl
    | 9, hv, hne => rfl
    | 10, hv, hne => rfl
    | 11, hv, hne => rfl
    | 12, hv, hne => rfl
    | 13, hv, hne => rfl
    | 14, hv, hne => rfl
    | 15, hv, hne => rfl
    | 16, hv, hne => exact absurd ⟨rfl, hv.2⟩ hne
    | 17, hv, hne => rfl
    | 18, hv, hne => rfl
    | n + 19, hv, hne => exact absurd hv.1 (by omega)
theorem wpM_aI21 {t : Nat} {v : Int32} (hW : WM D ct (lay, d) H) (hat : va_at D classes (lay 17 0, .inl (ct 0, 500, .inl (upd (gI d 21 0) t v))) H1) (hch : rr_ch (lay 17 0) H H1) : WM D ct (lay, sI d 21 0 t v) H1 := by
  refine Wf.put (cell' := cellM ct (lay, sI d 21 0 t v)) hW (k := 17) (i := 0) ⟨by decide, rfl⟩ hat hch ?_ ?_
  · show (_ : va_E) = _
    congr 4; funext z; simp [sI, sL, gI, gL, up3, upd, vp_updL]
  · intro k' i' hv hne
    match k', hv, hne with
    | 0, hv, hne => rfl
    | 1, hv, hne => rfl
    | 2, hv, hne => rfl
    | 3, hv, hne => rfl
    | 4, hv, hne => rfl
    | 5, hv, hne => rfl
    | 6, hv, hne => rfl
    | 7, hv, hne => rfl
    | 8, hv, hne => rfl
    | 9, hv, hne => rfl
    | 10, hv, hne => rfl
    | 11, hv, hne => rfl
    | 12, hv, hne => rfl
    | 13, hv, hne => rfl
    | 14, hv, hne => rfl
    | 15, hv, hne => rfl
    | 16, hv, hne => rfl
    | 17, hv, hne => exact absurd ⟨rfl, hv.2⟩ hne
    | 18, hv, hne => rfl
    | n + 19, hv, hne => exact absurd hv.1 (by omega)
theorem wpM_aI22 {t : Nat} {v : Int32} (hW : WM D ct (lay, d) H) (hat : va_at D classes (lay 18 0, .inl (ct 0, 2000, .inl (upd (gI d 22 0) t v))) H1) (hch : rr_ch (lay 18 0) H H1) : WM D ct (lay, sI d 22 0 t v) H1 := by
  refine Wf.put (cell' := cellM ct (lay, sI d 22 0 t v)) hW (k := 18) (i := 0) ⟨by decide, rfl⟩ hat hch ?_ ?_
  · show (_ : va_E) = _
    congr 4; funext z; simp [sI, sL, gI, gL, up3, upd, vp_updL]
  · intro k' i' hv hne
    match k', hv, hne with
    | 0, hv, hne => rfl
    | 1, hv, hne => rfl
    | 2, hv, hne => rfl
    | 3, hv, hne => rfl
    | 4, hv, hne => rfl
    | 5, hv, hne => rfl
    | 6, hv, hne => rfl
    | 7, hv, hne => rfl
    | 8, hv, hne => rfl
    | 9, hv, hne => rfl
    | 10, hv, hne => rfl
    | 11, hv, hne => rfl
    | 12, hv, hne => rfl
    | 13, hv, hne => rfl
    | 14, hv, hne => rfl
    | 15, hv, hne => rfl
    | 16, hv, hne => rfl
    | 17, hv, hne => rfl
    | 18, hv, hne => exact absurd ⟨rfl, hv.2⟩ hne
    | n + 19, hv, hne => exact absurd hv.1 (by omega)
end STM
