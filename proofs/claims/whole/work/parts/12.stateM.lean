def valM (_ : CS) (k i : Nat) : Prop := k < 19 ∧ i = 0
def fM0 (lay : Nat → Nat → Nat) (d : DC) : List Value := [.int 0, .int (dn d), .int (nI (dna d)), .ref (lay 1 0), .ref (lay 2 0), .ref (lay 3 0), .ref (lay 4 0), .ref (lay 5 0), .int (nI (dnt d)), .ref (lay 6 0), .ref (lay 7 0), .ref (lay 8 0), .ref (lay 9 0), .ref (lay 10 0), .ref (lay 11 0), .ref (lay 12 0), .ref (lay 13 0), .ref (lay 14 0), .ref (lay 15 0), .int (gI d 5 0 0), .ref (lay 16 0), .ref (lay 17 0), .int (gI d 5 1 0), .ref (lay 18 0), .int (gI d 1 0 0)]
def cellM (ct : Nat → ClassId) (u : CS) (k _i : Nat) : va_E := match k with
  | 0 => .inr (4, fM0 u.1 u.2)
  | 1 => .inl (ct 0, 17, .inl (az 0 (fun i => gI u.2 10 i 0)))
  | 2 => .inl (ct 2, 17, .inl (az 0 (fun i => gI u.2 11 i 0)))
  | 3 => .inl (ct 0, 17, .inl (az 0 (fun i => gI u.2 9 i 0)))
  | 4 => .inl (ct 1, 136, .inr (.inl (rz (gL u.2 0))))
  | 5 => .inl (ct 1, 136, .inr (.inl (rz (gL u.2 1))))
  | 6 => .inl (ct 0, 61, .inl (az 0 (fun i => gI u.2 15 i 0)))
  | 7 => .inl (ct 1, 61, .inr (.inl (az 0 (fun i => gL u.2 2 i 0))))
  | 8 => .inl (ct 2, 61, .inl (az 0 (fun i => gI u.2 12 i 0)))
  | 9 => .inl (ct 2, 61, .inl (az 0 (fun i => gI u.2 13 i 0)))
  | 10 => .inl (ct 1, 61, .inr (.inl (az 0 (fun i => gL u.2 3 i 0))))
  | 11 => .inl (ct 1, 61, .inr (.inl (az 0 (fun i => gL u.2 4 i 0))))
  | 12 => .inl (ct 2, 61, .inl (az 0 (fun i => gI u.2 14 i 0)))
  | 13 => .inl (ct 0, 128, .inl (gI u.2 2 0))
  | 14 => .inl (ct 0, 3, .inl (gI u.2 3 0))
  | 15 => .inl (ct 2, 3, .inl (gI u.2 4 0))
  | 16 => .inl (ct 0, 500, .inl (gI u.2 20 0))
  | 17 => .inl (ct 0, 500, .inl (gI u.2 21 0))
  | _ => .inl (ct 0, 2000, .inl (gI u.2 7 1))
abbrev WM (D : va_G) (ct : Nat → ClassId) (u : CS) (H : Heap) : Prop := Wf D classes (valM u) u.1 (cellM ct u) H
section STM
variable {D : va_G} {ct : Nat → ClassId} {lay : Nat → Nat → Nat} {d : DC} {H H1 : Heap}
theorem aM0 (hW : WM D ct (lay, d) H) : va_at D classes (lay 0 0, .inr (4, fM0 lay d)) H := hW.1 0 0 ⟨by decide, rfl⟩
theorem aM1 (hW : WM D ct (lay, d) H) : va_at D classes (lay 1 0, .inl (ct 0, 17, .inl (az 0 (fun i => gI d 10 i 0)))) H := hW.1 1 0 ⟨by decide, rfl⟩
theorem aM2 (hW : WM D ct (lay, d) H) : va_at D classes (lay 2 0, .inl (ct 2, 17, .inl (az 0 (fun i => gI d 11 i 0)))) H := hW.1 2 0 ⟨by decide, rfl⟩
theorem aM3 (hW : WM D ct (lay, d) H) : va_at D classes (lay 3 0, .inl (ct 0, 17, .inl (az 0 (fun i => gI d 9 i 0)))) H := hW.1 3 0 ⟨by decide, rfl⟩
theorem aM4 (hW : WM D ct (lay, d) H) : va_at D classes (lay 4 0, .inl (ct 1, 136, .inr (.inl (rz (gL d 0))))) H := hW.1 4 0 ⟨by decide, rfl⟩
theorem aM5 (hW : WM D ct (lay, d) H) : va_at D classes (lay 5 0, .inl (ct 1, 136, .inr (.inl (rz (gL d 1))))) H := hW.1 5 0 ⟨by decide, rfl⟩
theorem aM6 (hW : WM D ct (lay, d) H) : va_at D classes (lay 6 0, .inl (ct 0, 61, .inl (az 0 (fun i => gI d 15 i 0)))) H := hW.1 6 0 ⟨by decide, rfl⟩
theorem aM7 (hW : WM D ct (lay, d) H) : va_at D classes (lay 7 0, .inl (ct 1, 61, .inr (.inl (az 0 (fun i => gL d 2 i 0))))) H := hW.1 7 0 ⟨by decide, rfl⟩
theorem aM8 (hW : WM D ct (lay, d) H) : va_at D classes (lay 8 0, .inl (ct 2, 61, .inl (az 0 (fun i => gI d 12 i 0)))) H := hW.1 8 0 ⟨by decide, rfl⟩
theorem aM9 (hW : WM D ct (lay, d) H) : va_at D classes (lay 9 0, .inl (ct 2, 61, .inl (az 0 (fun i => gI d 13 i 0)))) H := hW.1 9 0 ⟨by decide, rfl⟩
theorem aM10 (hW : WM D ct (lay, d) H) : va_at D classes (lay 10 0, .inl (ct 1, 61, .inr (.inl (az 0 (fun i => gL d 3 i 0))))) H := hW.1 10 0 ⟨by decide, rfl⟩
theorem aM11 (hW : WM D ct (lay, d) H) : va_at D classes (lay 11 0, .inl (ct 1, 61, .inr (.inl (az 0 (fun i => gL d 4 i 0))))) H := hW.1 11 0 ⟨by decide, rfl⟩
theorem aM12 (hW : WM D ct (lay, d) H) : va_at D classes (lay 12 0, .inl (ct 2, 61, .inl (az 0 (fun i => gI d 14 i 0)))) H := hW.1 12 0 ⟨by decide, rfl⟩
theorem aM13 (hW : WM D ct (lay, d) H) : va_at D classes (lay 13 0, .inl (ct 0, 128, .inl (gI d 2 0))) H := hW.1 13 0 ⟨by decide, rfl⟩
theorem aM14 (hW : WM D ct (lay, d) H) : va_at D classes (lay 14 0, .inl (ct 0, 3, .inl (gI d 3 0))) H := hW.1 14 0 ⟨by decide, rfl⟩
theorem aM15 (hW : WM D ct (lay, d) H) : va_at D classes (lay 15 0, .inl (ct 2, 3, .inl (gI d 4 0))) H := hW.1 15 0 ⟨by decide, rfl⟩
theorem aM16 (hW : WM D ct (lay, d) H) : va_at D classes (lay 16 0, .inl (ct 0, 500, .inl (gI d 20 0))) H := hW.1 16 0 ⟨by decide, rfl⟩
theorem aM17 (hW : WM D ct (lay, d) H) : va_at D classes (lay 17 0, .inl (ct 0, 500, .inl (gI d 21 0))) H := hW.1 17 0 ⟨by decide, rfl⟩
theorem aM18 (hW : WM D ct (lay, d) H) : va_at D classes (lay 18 0, .inl (ct 0, 2000, .inl (gI d 7 1))) H := hW.1 18 0 ⟨by decide, rfl⟩
theorem wpM_down  (hW : WM D ct (lay, d) H) (hat : va_at D classes (lay 0 0, .inr (4, (fM0 lay d).set 1 (.int 1))) H1) (hch : rr_ch (lay 0 0) H H1) : WM D ct (lay, sI d 0 0 0 0) H1 := by
  refine Wf.put (cell' := cellM ct (lay, sI d 0 0 0 0)) hW (k := 0) (i := 0) ⟨by decide, rfl⟩ hat hch ?_ ?_
  · first | rfl | (simp [cellM, fM0, sI, sL, gI, gL, dna, dnt, dow, up3, dl, dn, sNa, sNt, sOw]; done) | (simp [cellM, fM0, sI, sL, gI, gL, dna, dnt, dow, up3, dl, dn, sNa, sNt, sOw]; rfl)
  · intro k' i' hv hne
    match k', hv, hne with
    | 0, hv, hne => exact absurd ⟨rfl, hv.2⟩ hne
    | 1, hv, hne => rfl
    | 2, hv, hne => rfl
    | 3, hv, hne => rfl
    | 4, hv, hne => rfl
    | 5, hv, hne => rfl
    | 6, hv, hne => rfl
    | 7, hv, hne => rfl
    | 8, hv, hne => rfl
    | 9, hv, hne => rfl
    | 10, hv, hne => rfl
    | 11, hv, hne => rfl
    | 12, hv, hne => rfl
    | 13, hv, hne => rfl
    | 14, hv, hne => rfl
    | 15, hv, hne => rfl
    | 16, hv, hne => rfl
    | 17, hv, hne => rfl
    | 18, hv, hne => rfl
    | n + 19, hv, hne => exact absurd hv.1 (by omega)
theorem wpM_code  (hW : WM D ct (lay, d) H) (hat : va_at D classes (lay 0 0, .inr (4, (fM0 lay d).set 0 (.int 0))) H1) (hch : rr_ch (lay 0 0) H H1) : WM D ct (lay, d) H1 := by
  refine Wf.put (cell' := cellM ct (lay, d)) hW (k := 0) (i := 0) ⟨by decide, rfl⟩ hat hch ?_ ?_
  · first | rfl | (simp [cellM, fM0, sI, sL, gI, gL, dna, dnt, dow, up3, dl, dn, sNa, sNt, sOw]; done) | (simp [cellM, fM0, sI, sL, gI, gL, dna, dnt, dow, up3, dl, dn, sNa, sNt, sOw]; rfl)
  · intro k' i' hv hne
    match k', hv, hne with
    | 0, hv, hne => exact absurd ⟨rfl, hv.2⟩ hne
    | 1, hv, hne => rfl
    | 2, hv, hne => rfl
    | 3, hv, hne => rfl
    | 4, hv, hne => rfl
    | 5, hv, hne => rfl
    | 6, hv, hne => rfl
    | 7, hv, hne => rfl
    | 8, hv, hne => rfl
    | 9, hv, hne => rfl
    | 10, hv, hne => rfl
    | 11, hv, hne => rfl
    | 12, hv, hne => rfl
    | 13, hv, hne => rfl
    | 14, hv, hne => rfl
    | 15, hv, hne => rfl
    | 16, hv, hne => rfl
    | 17, hv, hne => rfl
    | 18, hv, hne => rfl
    | n + 19, hv, hne => exact absurd hv.1 (by omega)
theorem wpM_na {n : Nat} (hW : WM D ct (lay, d) H) (hat : va_at D classes (lay 0 0, .inr (4, (fM0 lay d).set 2 (.int (nI n)))) H1) (hch : rr_ch (lay 0 0) H H1) : WM D ct (lay, sNa d n) H1 := by
  refine Wf.put (cell' := cellM ct (lay, sNa d n)) hW (k := 0) (i := 0) ⟨by decide, rfl⟩ hat hch ?_ ?_
  · first | rfl | (simp [cellM, fM0, sI, sL, gI, gL, dna, dnt, dow, up3, dl, dn, sNa, sNt, sOw]; done) | (simp [cellM, fM0, sI, sL, gI, gL, dna, dnt, dow, up3, dl, dn, sNa, sNt, sOw]; rfl)
  · intro k' i' hv hne
    match k', hv, hne with
    | 0, hv, hne => exact absurd ⟨rfl, hv.2⟩ hne
    | 1, hv, hne => rfl
    | 2, hv, hne => rfl
    | 3, hv, hne => rfl
    | 4, hv, hne => rfl
    | 5, hv, hne => rfl
    | 6, hv, hne => rfl
    | 7, hv, hne => rfl
    | 8, hv, hne => rfl
    | 9, hv, hne => rfl
    | 10, hv, hne => rfl
    | 11, hv, hne => rfl
    | 12, hv, hne => rfl
    | 13, hv, hne => rfl
    | 14, hv, hne => rfl
    | 15, hv, hne => rfl
    | 16, hv, hne => rfl
    | 17, hv, hne => rfl
    | 18, hv, hne => rfl
    | n + 19, hv, hne => exact absurd hv.1 (by omega)
theorem wpM_nt {n : Nat} (hW : WM D ct (lay, d) H) (hat : va_at D classes (lay 0 0, .inr (4, (fM0 lay d).set 8 (.int (nI n)))) H1) (hch : rr_ch (lay 0 0) H H1) : WM D ct (lay, sNt d n) H1 := by
  refine Wf.put (cell' := cellM ct (lay, sNt d n)) hW (k := 0) (i := 0) ⟨by decide, rfl⟩ hat hch ?_ ?_
  · first | rfl | (simp [cellM, fM0, sI, sL, gI, gL, dna, dnt, dow, up3, dl, dn, sNa, sNt, sOw]; done) | (simp [cellM, fM0, sI, sL, gI, gL, dna, dnt, dow, up3, dl, dn, sNa, sNt, sOw]; rfl)
  · intro k' i' hv hne
    match k', hv, hne with
    | 0, hv, hne => exact absurd ⟨rfl, hv.2⟩ hne
    | 1, hv, hne => rfl
    | 2, hv, hne => rfl
    | 3, hv, hne => rfl
    | 4, hv, hne => rfl
    | 5, hv, hne => rfl
    | 6, hv, hne => rfl
    | 7, hv, hne => rfl
    | 8, hv, hne => rfl
    | 9, hv, hne => rfl
    | 10, hv, hne => rfl
    | 11, hv, hne => rfl
    | 12, hv, hne => rfl
    | 13, hv, hne => rfl
    | 14, hv, hne => rfl
    | 15, hv, hne => rfl
    | 16, hv, hne => rfl
    | 17, hv, hne => rfl
    | 18, hv, hne => rfl
    | n + 19, hv, hne => exact absurd hv.1 (by omega)
theorem wpM_cleanings {v : Int32} (hW : WM D ct (lay, d) H) (hat : va_at D classes (lay 0 0, .inr (4, (fM0 lay d).set 19 (.int v))) H1) (hch : rr_ch (lay 0 0) H H1) : WM D ct (lay, sI d 5 0 0 v) H1 := by
  refine Wf.put (cell' := cellM ct (lay, sI d 5 0 0 v)) hW (k := 0) (i := 0) ⟨by decide, rfl⟩ hat hch ?_ ?_
  · first | rfl | (simp [cellM, fM0, sI, sL, gI, gL, dna, dnt, dow, up3, dl, dn, sNa, sNt, sOw]; done) | (simp [cellM, fM0, sI, sL, gI, gL, dna, dnt, dow, up3, dl, dn, sNa, sNt, sOw]; rfl)
  · intro k' i' hv hne
    match k', hv, hne with
    | 0, hv, hne => exact absurd ⟨rfl, hv.2⟩ hne
    | 1, hv, hne => rfl
    | 2, hv, hne => rfl
    | 3, hv, hne => rfl
    | 4, hv, hne => rfl
    | 5, hv, hne => rfl
    | 6, hv, hne => rfl
    | 7, hv, hne => rfl
    | 8, hv, hne => rfl
    | 9, hv, hne => rfl
    | 10, hv, hne => rfl
    | 11, hv, hne => rfl
    | 12, hv, hne => rfl
    | 13, hv, hne => rfl
    | 14, hv, hne => rfl
    | 15, hv, hne => rfl
    | 16, hv, hne => rfl
    | 17, hv, hne => rfl
    | 18, hv, hne => rfl
    | n + 19, hv, hne => exact absurd hv.1 (by omega)
theorem wpM_lines {v : Int32} (hW : WM D ct (lay, d) H) (hat : va_at D classes (lay 0 0, .inr (4, (fM0 lay d).set 22 (.int v))) H1) (hch : rr_ch (lay 0 0) H H1) : WM D ct (lay, sI d 5 1 0 v) H1 := by
  refine Wf.put (cell' := cellM ct (lay, sI d 5 1 0 v)) hW (k := 0) (i := 0) ⟨by decide, rfl⟩ hat hch ?_ ?_
  · first | rfl | (simp [cellM, fM0, sI, sL, gI, gL, dna, dnt, dow, up3, dl, dn, sNa, sNt, sOw]; done) | (simp [cellM, fM0, sI, sL, gI, gL, dna, dnt, dow, up3, dl, dn, sNa, sNt, sOw]; rfl)
  · intro k' i' hv hne
    match k', hv, hne with
    | 0, hv, hne => exact absurd ⟨rfl, hv.2⟩ hne
    | 1, hv, hne => rfl
    | 2, hv, hne => rfl
    | 3, hv, hne => rfl
    | 4, hv, hne => rfl
    | 5, hv, hne => rfl
    | 6, hv, hne => rfl
    | 7, hv, hne => rfl
    | 8, hv, hne => rfl
    | 9, hv, hne => rfl
    | 10, hv, hne => rfl
    | 11, hv, hne => rfl
    | 12, hv, hne => rfl
    | 13, hv, hne => rfl
    | 14, hv, hne => rfl
    | 15, hv, hne => rfl
    | 16, hv, hne => rfl
    | 17, hv, hne => rfl
    | 18, hv, hne => rfl
    | n + 19, hv, hne => exact absurd hv.1 (by omega)
theorem wpM_sick {v : Int32} (hW : WM D ct (lay, d) H) (hat : va_at D classes (lay 0 0, .inr (4, (fM0 lay d).set 24 (.int v))) H1) (hch : rr_ch (lay 0 0) H H1) : WM D ct (lay, sI d 1 0 0 v) H1 := by
  refine Wf.put (cell' := cellM ct (lay, sI d 1 0 0 v)) hW (k := 0) (i := 0) ⟨by decide, rfl⟩ hat hch ?_ ?_
  · first | rfl | (simp [cellM, fM0, sI, sL, gI, gL, dna, dnt, dow, up3, dl, dn, sNa, sNt, sOw]; done) | (simp [cellM, fM0, sI, sL, gI, gL, dna, dnt, dow, up3, dl, dn, sNa, sNt, sOw]; rfl)
  · intro k' i' hv hne
    match k', hv, hne with
    | 0, hv, hne => exact absurd ⟨rfl, hv.2⟩ hne
    | 1, hv, hne => rfl
    | 2, hv, hne => rfl
    | 3, hv, hne => rfl
    | 4, hv, hne => rfl
    | 5, hv, hne => rfl
    | 6, hv, hne => rfl
    | 7, hv, hne => rfl
    | 8, hv, hne => rfl
    | 9, hv, hne => rfl
    | 10, hv, hne => rfl
    | 11, hv, hne => rfl
    | 12, hv, hne => rfl
    | 13, hv, hne => rfl
    | 14, hv, hne => rfl
    | 15, hv, hne => rfl
    | 16, hv, hne => rfl
    | 17, hv, hne => rfl
    | 18, hv, hne => rfl
    | n + 19, hv, hne => exact absurd hv.1 (by omega)
theorem wpM_aI10 {j : Nat} {v : Int32} (hW : WM D ct (lay, d) H) (hat : va_at D classes (lay 1 0, .inl (ct 0, 17, .inl (upd (az 0 (fun i => gI d 10 i 0)) (j + 1) v))) H1) (hch : rr_ch (lay 1 0) H H1) : WM D ct (lay, sI d 10 j 0 v) H1 := by
  refine Wf.put (cell' := cellM ct (lay, sI d 10 j 0 v)) hW (k := 1) (i := 0) ⟨by decide, rfl⟩ hat hch ?_ ?_
  · show (_ : va_E) = _
    congr 4; funext z; cases z <;> simp [sI, sL, gI, gL, up3, upd, vp_updL, az]
  · intro k' i' hv hne
    match k', hv, hne with
    | 0, hv, hne => rfl
    | 1, hv, hne => exact absurd ⟨rfl, hv.2⟩ hne
    | 2, hv, hne => rfl
    | 3, hv, hne => rfl
    | 4, hv, hne => rfl
    | 5, hv, hne => rfl
    | 6, hv, hne => rfl
    | 7, hv, hne => rfl
    | 8, hv, hne => rfl
    | 9, hv, hne => rfl
    | 10, hv, hne => rfl
    | 11, hv, hne => rfl
    | 12, hv, hne => rfl
    | 13, hv, hne => rfl
    | 14, hv, hne => rfl
    | 15, hv, hne => rfl
    | 16, hv, hne => rfl
    | 17, hv, hne => rfl
    | 18, hv, hne => rfl
    | n + 19, hv, hne => exact absurd hv.1 (by omega)
theorem wpM_aI11 {j : Nat} {v : Int32} (hW : WM D ct (lay, d) H) (hat : va_at D classes (lay 2 0, .inl (ct 2, 17, .inl (upd (az 0 (fun i => gI d 11 i 0)) (j + 1) v))) H1) (hch : rr_ch (lay 2 0) H H1) : WM D ct (lay, sI d 11 j 0 v) H1 := by
  refine Wf.put (cell' := cellM ct (lay, sI d 11 j 0 v)) hW (k := 2) (i := 0) ⟨by decide, rfl⟩ hat hch ?_ ?_
  · show (_ : va_E) = _
    congr 4; funext z; cases z <;> simp [sI, sL, gI, gL, up3, upd, vp_updL, az]
  · intro k' i' hv hne
    match k', hv, hne with
    | 0, hv, hne => rfl
    | 1, hv, hne => rfl
    | 2, hv, hne => exact absurd ⟨rfl, hv.2⟩ hne
    | 3, hv, hne => rfl
    | 4, hv, hne => rfl
    | 5, hv, hne => rfl
    | 6, hv, hne => rfl
    | 7, hv, hne => rfl
    | 8, hv, hne => rfl
    | 9, hv, hne => rfl
    | 10, hv, hne => rfl
    | 11, hv, hne => rfl
    | 12, hv, hne => rfl
    | 13, hv, hne => rfl
    | 14, hv, hne => rfl
    | 15, hv, hne => rfl
    | 16, hv, hne => rfl
    | 17, hv, hne => rfl
    | 18, hv, hne => rfl
    | n + 19, hv, hne => exact absurd hv.1 (by omega)
theorem wpM_aI9 {j : Nat} {v : Int32} (hW : WM D ct (lay, d) H) (hat : va_at D classes (lay 3 0, .inl (ct 0, 17, .inl (upd (az 0 (fun i => gI d 9 i 0)) (j + 1) v))) H1) (hch : rr_ch (lay 3 0) H H1) : WM D ct (lay, sI d 9 j 0 v) H1 := by
  refine Wf.put (cell' := cellM ct (lay, sI d 9 j 0 v)) hW (k := 3) (i := 0) ⟨by decide, rfl⟩ hat hch ?_ ?_
  · show (_ : va_E) = _
    congr 4; funext z; cases z <;> simp [sI, sL, gI, gL, up3, upd, vp_updL, az]
  · intro k' i' hv hne
    match k', hv, hne with
    | 0, hv, hne => rfl
    | 1, hv, hne => rfl
    | 2, hv, hne => rfl
    | 3, hv, hne => exact absurd ⟨rfl, hv.2⟩ hne
    | 4, hv, hne => rfl
    | 5, hv, hne => rfl
    | 6, hv, hne => rfl
    | 7, hv, hne => rfl
    | 8, hv, hne => rfl
    | 9, hv, hne => rfl
    | 10, hv, hne => rfl
    | 11, hv, hne => rfl
    | 12, hv, hne => rfl
    | 13, hv, hne => rfl
    | 14, hv, hne => rfl
    | 15, hv, hne => rfl
    | 16, hv, hne => rfl
    | 17, hv, hne => rfl
    | 18, hv, hne => rfl
    | n + 19, hv, hne => exact absurd hv.1 (by omega)
theorem wpM_aL0 {j t : Nat} {v : Int64} (hW : WM D ct (lay, d) H) (ht : t < 8) (hat : va_at D classes (lay 4 0, .inl (ct 1, 136, .inr (.inl (vp_updL (rz (gL d 0)) (8 * (j + 1) + t) v)))) H1) (hch : rr_ch (lay 4 0) H H1) : WM D ct (lay, sL d 0 j t v) H1 := by
  refine Wf.put (cell' := cellM ct (lay, sL d 0 j t v)) hW (k := 4) (i := 0) ⟨by decide, rfl⟩ hat hch ?_ ?_
  · show (_ : va_E) = _
    congr 5; funext z; simp only [sI, sL, gI, gL, up3, upd, vp_updL, rz]
    by_cases h8 : z < 8
    · rw [if_neg (by omega), if_pos h8, if_pos h8]
    · rw [if_neg h8, if_neg h8]
      by_cases hz : z = 8 * (j + 1) + t
      · subst hz; rw [if_pos rfl, if_pos ⟨trivial, by omega, by omega⟩]
      · rw [if_neg hz, if_neg (fun q => hz (by omega))]
  · intro k' i' hv hne
    match k', hv, hne with
    | 0, hv, hne => rfl
    | 1, hv, hne => rfl
    | 2, hv, hne => rfl
    | 3, hv, hne => rfl
    | 4, hv, hne => exact absurd ⟨rfl, hv.2⟩ hne
    | 5, hv, hne => rfl
    | 6, hv, hne => rfl
    | 7, hv, hne => rfl
    | 8, hv, hne => rfl
    | 9, hv, hne => rfl
    | 10, hv, hne => rfl
    | 11, hv, hne => rfl
    | 12, hv, hne => rfl
    | 13, hv, hne => rfl
    | 14, hv, hne => rfl
    | 15, hv, hne => rfl
    | 16, hv, hne => rfl
    | 17, hv, hne => rfl
    | 18, hv, hne => rfl
    | n + 19, hv, hne => exact absurd hv.1 (by omega)
theorem wpM_aL1 {j t : Nat} {v : Int64} (hW : WM D ct (lay, d) H) (ht : t < 8) (hat : va_at D classes (lay 5 0, .inl (ct 1, 136, .inr (.inl (vp_updL (rz (gL d 1)) (8 * (j + 1) + t) v)))) H1) (hch : rr_ch (lay 5 0) H H1) : WM D ct (lay, sL d 1 j t v) H1 := by
  refine Wf.put (cell' := cellM ct (lay, sL d 1 j t v)) hW (k := 5) (i := 0) ⟨by decide, rfl⟩ hat hch ?_ ?_
  · show (_ : va_E) = _
    congr 5; funext z; simp only [sI, sL, gI, gL, up3, upd, vp_updL, rz]
    by_cases h8 : z < 8
    · rw [if_neg (by omega), if_pos h8, if_pos h8]
    · rw [if_neg h8, if_neg h8]
      by_cases hz : z = 8 * (j + 1) + t
      · subst hz; rw [if_pos rfl, if_pos ⟨trivial, by omega, by omega⟩]
      · rw [if_neg hz, if_neg (fun q => hz (by omega))]
  · intro k' i' hv hne
    match k', hv, hne with
    | 0, hv, hne => rfl
    | 1, hv, hne => rfl
    | 2, hv, hne => rfl
    | 3, hv, hne => rfl
    | 4, hv, hne => rfl
    | 5, hv, hne => exact absurd ⟨rfl, hv.2⟩ hne
    | 6, hv, hne => rfl
    | 7, hv, hne => rfl
    | 8, hv, hne => rfl
    | 9, hv, hne => rfl
    | 10, hv, hne => rfl
    | 11, hv, hne => rfl
    | 12, hv, hne => rfl
    | 13, hv, hne => rfl
    | 14, hv, hne => rfl
    | 15, hv, hne => rfl
    | 16, hv, hne => rfl
    | 17, hv, hne => rfl
    | 18, hv, hne => rfl
    | n + 19, hv, hne => exact absurd hv.1 (by omega)
theorem wpM_aI15 {j : Nat} {v : Int32} (hW : WM D ct (lay, d) H) (hat : va_at D classes (lay 6 0, .inl (ct 0, 61, .inl (upd (az 0 (fun i => gI d 15 i 0)) (j + 1) v))) H1) (hch : rr_ch (lay 6 0) H H1) : WM D ct (lay, sI d 15 j 0 v) H1 := by
  refine Wf.put (cell' := cellM ct (lay, sI d 15 j 0 v)) hW (k := 6) (i := 0) ⟨by decide, rfl⟩ hat hch ?_ ?_
  · show (_ : va_E) = _
    congr 4; funext z; cases z <;> simp [sI, sL, gI, gL, up3, upd, vp_updL, az]
  · intro k' i' hv hne
    match k', hv, hne with
    | 0, hv, hne => rfl
    | 1, hv, hne => rfl
    | 2, hv, hne => rfl
    | 3, hv, hne => rfl
    | 4, hv, hne => rfl
    | 5, hv, hne => rfl
    | 6, hv, hne => exact absurd ⟨rfl, hv.2⟩ hne
    | 7, hv, hne => rfl
    | 8, hv, hne => rfl
    | 9, hv, hne => rfl
    | 10, hv, hne => rfl
    | 11, hv, hne => rfl
    | 12, hv, hne => rfl
    | 13, hv, hne => rfl
    | 14, hv, hne => rfl
    | 15, hv, hne => rfl
    | 16, hv, hne => rfl
    | 17, hv, hne => rfl
    | 18, hv, hne => rfl
    | n + 19, hv, hne => exact absurd hv.1 (by omega)
theorem wpM_aL2 {j : Nat} {v : Int64} (hW : WM D ct (lay, d) H) (hat : va_at D classes (lay 7 0, .inl (ct 1, 61, .inr (.inl (vp_updL (az 0 (fun i => gL d 2 i 0)) (j + 1) v)))) H1) (hch : rr_ch (lay 7 0) H H1) : WM D ct (lay, sL d 2 j 0 v) H1 := by
  refine Wf.put (cell' := cellM ct (lay, sL d 2 j 0 v)) hW (k := 7) (i := 0) ⟨by decide, rfl⟩ hat hch ?_ ?_
  · show (_ : va_E) = _
    congr 5; funext z; cases z <;> simp [sI, sL, gI, gL, up3, upd, vp_updL, az]
  · intro k' i' hv hne
    match k', hv, hne with
    | 0, hv, hne => rfl
    | 1, hv, hne => rfl
    | 2, hv, hne => rfl
    | 3, hv, hne => rfl
    | 4, hv, hne => rfl
    | 5, hv, hne => rfl
    | 6, hv, hne => rfl
    | 7, hv, hne => exact absurd ⟨rfl, hv.2⟩ hne
    | 8, hv, hne => rfl
    | 9, hv, hne => rfl
    | 10, hv, hne => rfl
    | 11, hv, hne => rfl
    | 12, hv, hne => rfl
    | 13, hv, hne => rfl
    | 14, hv, hne => rfl
    | 15, hv, hne => rfl
    | 16, hv, hne => rfl
    | 17, hv, hne => rfl
    | 18, hv, hne => rfl
    | n + 19, hv, hne => exact absurd hv.1 (by omega)
theorem wpM_aI12 {j : Nat} {v : Int32} (hW : WM D ct (lay, d) H) (hat : va_at D classes (lay 8 0, .inl (ct 2, 61, .inl (upd (az 0 (fun i => gI d 12 i 0)) (j + 1) v))) H1) (hch : rr_ch (lay 8 0) H H1) : WM D ct (lay, sI d 12 j 0 v) H1 := by
  refine Wf.put (cell' := cellM ct (lay, sI d 12 j 0 v)) hW (k := 8) (i := 0) ⟨by decide, rfl⟩ hat hch ?_ ?_
  · show (_ : va_E) = _
    congr 4; funext z; cases z <;> simp [sI, sL, gI, gL, up3, upd, vp_updL, az]
  · intro k' i' hv hne
    match k', hv, hne with
    | 0, hv, hne => rfl
    | 1, hv, hne => rfl
    | 2, hv, hne => rfl
    | 3, hv, hne => rfl
    | 4, hv, hne => rfl
    | 5, hv, hne => rfl
    | 6, hv, hne => rfl
    | 7, hv, hne => rfl
    | 8, hv, hne => exact absurd ⟨rfl, hv.2⟩ hne
    | 9, hv, hne => rfl
    | 10, hv, hne => rfl
    | 11, hv, hne => rfl
    | 12, hv, hne => rfl
    | 13, hv, hne => rfl
    | 14, hv, hne => rfl
    | 15, hv, hne => rfl
    | 16, hv, hne => rfl
    | 17, hv, hne => rfl
    | 18, hv, hne => rfl
    | n + 19, hv, hne => exact absurd hv.1 (by omega)
theorem wpM_aI13 {j : Nat} {v : Int32} (hW : WM D ct (lay, d) H) (hat : va_at D classes (lay 9 0, .inl (ct 2, 61, .inl (upd (az 0 (fun i => gI d 13 i 0)) (j + 1) v))) H1) (hch : rr_ch (lay 9 0) H H1) : WM D ct (lay, sI d 13 j 0 v) H1 := by
  refine Wf.put (cell' := cellM ct (lay, sI d 13 j 0 v)) hW (k := 9) (i := 0) ⟨by decide, rfl⟩ hat hch ?_ ?_
  · show (_ : va_E) = _
    congr 4; funext z; cases z <;> simp [sI, sL, gI, gL, up3, upd, vp_updL, az]
  · intro k' i' hv hne
    match k', hv, hne with
    | 0, hv, hne => rfl
    | 1, hv, hne => rfl
    | 2, hv, hne => rfl
    | 3, hv, hne => rfl
    | 4, hv, hne => rfl
    | 5, hv, hne => rfl
    | 6, hv, hne => rfl
    | 7, hv, hne => rfl
    | 8, hv, hne => rfl
    | 9, hv, hne => exact absurd ⟨rfl, hv.2⟩ hne
    | 10, hv, hne => rfl
    | 11, hv, hne => rfl
    | 12, hv, hne => rfl
    | 13, hv, hne => rfl
    | 14, hv, hne => rfl
    | 15, hv, hne => rfl
    | 16, hv, hne => rfl
    | 17, hv, hne => rfl
    | 18, hv, hne => rfl
    | n + 19, hv, hne => exact absurd hv.1 (by omega)
theorem wpM_aL3 {j : Nat} {v : Int64} (hW : WM D ct (lay, d) H) (hat : va_at D classes (lay 10 0, .inl (ct 1, 61, .inr (.inl (vp_updL (az 0 (fun i => gL d 3 i 0)) (j + 1) v)))) H1) (hch : rr_ch (lay 10 0) H H1) : WM D ct (lay, sL d 3 j 0 v) H1 := by
  refine Wf.put (cell' := cellM ct (lay, sL d 3 j 0 v)) hW (k := 10) (i := 0) ⟨by decide, rfl⟩ hat hch ?_ ?_
  · show (_ : va_E) = _
    congr 5; funext z; cases z <;> simp [sI, sL, gI, gL, up3, upd, vp_updL, az]
  · intro k' i' hv hne
    match k', hv, hne with
    | 0, hv, hne => rfl
    | 1, hv, hne => rfl
    | 2, hv, hne => rfl
    | 3, hv, hne => rfl
    | 4, hv, hne => rfl
    | 5, hv, hne => rfl
    | 6, hv, hne => rfl
    | 7, hv, hne => rfl
    | 8, hv, hne => rfl
    | 9, hv, hne => rfl
    | 10, hv, hne => exact absurd ⟨rfl, hv.2⟩ hne
    | 11, hv, hne => rfl
    | 12, hv, hne => rfl
    | 13, hv, hne => rfl
    | 14, hv, hne => rfl
    | 15, hv, hne => rfl
    | 16, hv, hne => rfl
    | 17, hv, hne => rfl
    | 18, hv, hne => rfl
    | n + 19, hv, hne => exact absurd hv.1 (by omega)
theorem wpM_aL4 {j : Nat} {v : Int64} (hW : WM D ct (lay, d) H) (hat : va_at D classes (lay 11 0, .inl (ct 1, 61, .inr (.inl (vp_updL (az 0 (fun i => gL d 4 i 0)) (j + 1) v)))) H1) (hch : rr_ch (lay 11 0) H H1) : WM D ct (lay, sL d 4 j 0 v) H1 := by
  refine Wf.put (cell' := cellM ct (lay, sL d 4 j 0 v)) hW (k := 11) (i := 0) ⟨by decide, rfl⟩ hat hch ?_ ?_
  · show (_ : va_E) = _
    congr 5; funext z; cases z <;> simp [sI, sL, gI, gL, up3, upd, vp_updL, az]
  · intro k' i' hv hne
    match k', hv, hne with
    | 0, hv, hne => rfl
    | 1, hv, hne => rfl
    | 2, hv, hne => rfl
    | 3, hv, hne => rfl
    | 4, hv, hne => rfl
    | 5, hv, hne => rfl
    | 6, hv, hne => rfl
    | 7, hv, hne => rfl
    | 8, hv, hne => rfl
    | 9, hv, hne => rfl
    | 10, hv, hne => rfl
    | 11, hv, hne => exact absurd ⟨rfl, hv.2⟩ hne
    | 12, hv, hne => rfl
    | 13, hv, hne => rfl
    | 14, hv, hne => rfl
    | 15, hv, hne => rfl
    | 16, hv, hne => rfl
    | 17, hv, hne => rfl
    | 18, hv, hne => rfl
    | n + 19, hv, hne => exact absurd hv.1 (by omega)
theorem wpM_aI14 {j : Nat} {v : Int32} (hW : WM D ct (lay, d) H) (hat : va_at D classes (lay 12 0, .inl (ct 2, 61, .inl (upd (az 0 (fun i => gI d 14 i 0)) (j + 1) v))) H1) (hch : rr_ch (lay 12 0) H H1) : WM D ct (lay, sI d 14 j 0 v) H1 := by
  refine Wf.put (cell' := cellM ct (lay, sI d 14 j 0 v)) hW (k := 12) (i := 0) ⟨by decide, rfl⟩ hat hch ?_ ?_
  · show (_ : va_E) = _
    congr 4; funext z; cases z <;> simp [sI, sL, gI, gL, up3, upd, vp_updL, az]
  · intro k' i' hv hne
    match k', hv, hne with
    | 0, hv, hne => rfl
    | 1, hv, hne => rfl
    | 2, hv, hne => rfl
    | 3, hv, hne => rfl
    | 4, hv, hne => rfl
    | 5, hv, hne => rfl
    | 6, hv, hne => rfl
    | 7, hv, hne => rfl
    | 8, hv, hne => rfl
    | 9, hv, hne => rfl
    | 10, hv, hne => rfl
    | 11, hv, hne => rfl
    | 12, hv, hne => exact absurd ⟨rfl, hv.2⟩ hne
    | 13, hv, hne => rfl
    | 14, hv, hne => rfl
    | 15, hv, hne => rfl
    | 16, hv, hne => rfl
    | 17, hv, hne => rfl
    | 18, hv, hne => rfl
    | n + 19, hv, hne => exact absurd hv.1 (by omega)
theorem wpM_aI2 {t : Nat} {v : Int32} (hW : WM D ct (lay, d) H) (hat : va_at D classes (lay 13 0, .inl (ct 0, 128, .inl (upd (gI d 2 0) t v))) H1) (hch : rr_ch (lay 13 0) H H1) : WM D ct (lay, sI d 2 0 t v) H1 := by
  refine Wf.put (cell' := cellM ct (lay, sI d 2 0 t v)) hW (k := 13) (i := 0) ⟨by decide, rfl⟩ hat hch ?_ ?_
  · show (_ : va_E) = _
    congr 4; funext z; simp [sI, sL, gI, gL, up3, upd, vp_updL]
  · intro k' i' hv hne
    match k', hv, hne with
    | 0, hv, hne => rfl
    | 1, hv, hne => rfl
    | 2, hv, hne => rfl
    | 3, hv, hne => rfl
    | 4, hv, hne => rfl
    | 5, hv, hne => rfl
    | 6, hv, hne => rfl
    | 7, hv, hne => rfl
    | 8, hv, hne => rfl
    | 9, hv, hne => rfl
    | 10, hv, hne => rfl
    | 11, hv, hne => rfl
    | 12, hv, hne => rfl
    | 13, hv, hne => exact absurd ⟨rfl, hv.2⟩ hne
    | 14, hv, hne => rfl
    | 15, hv, hne => rfl
    | 16, hv, hne => rfl
    | 17, hv, hne => rfl
    | 18, hv, hne => rfl
    | n + 19, hv, hne => exact absurd hv.1 (by omega)
theorem wpM_aI3 {t : Nat} {v : Int32} (hW : WM D ct (lay, d) H) (hat : va_at D classes (lay 14 0, .inl (ct 0, 3, .inl (upd (gI d 3 0) t v))) H1) (hch : rr_ch (lay 14 0) H H1) : WM D ct (lay, sI d 3 0 t v) H1 := by
  refine Wf.put (cell' := cellM ct (lay, sI d 3 0 t v)) hW (k := 14) (i := 0) ⟨by decide, rfl⟩ hat hch ?_ ?_
  · show (_ : va_E) = _
    congr 4; funext z; simp [sI, sL, gI, gL, up3, upd, vp_updL]
  · intro k' i' hv hne
    match k', hv, hne with
    | 0, hv, hne => rfl
    | 1, hv, hne => rfl
    | 2, hv, hne => rfl
    | 3, hv, hne => rfl
    | 4, hv, hne => rfl
    | 5, hv, hne => rfl
    | 6, hv, hne => rfl
    | 7, hv, hne => rfl
    | 8, hv, hne => rfl
    | 9, hv, hne => rfl
    | 10, hv, hne => rfl
    | 11, hv, hne => rfl
    | 12, hv, hne => rfl
    | 13, hv, hne => rfl
    | 14, hv, hne => exact absurd ⟨rfl, hv.2⟩ hne
    | 15, hv, hne => rfl
    | 16, hv, hne => rfl
    | 17, hv, hne => rfl
    | 18, hv, hne => rfl
    | n + 19, hv, hne => exact absurd hv.1 (by omega)
theorem wpM_aI4 {t : Nat} {v : Int32} (hW : WM D ct (lay, d) H) (hat : va_at D classes (lay 15 0, .inl (ct 2, 3, .inl (upd (gI d 4 0) t v))) H1) (hch : rr_ch (lay 15 0) H H1) : WM D ct (lay, sI d 4 0 t v) H1 := by
  refine Wf.put (cell' := cellM ct (lay, sI d 4 0 t v)) hW (k := 15) (i := 0) ⟨by decide, rfl⟩ hat hch ?_ ?_
  · show (_ : va_E) = _
    congr 4; funext z; simp [sI, sL, gI, gL, up3, upd, vp_updL]
  · intro k' i' hv hne
    match k', hv, hne with
    | 0, hv, hne => rfl
    | 1, hv, hne => rfl
    | 2, hv, hne => rfl
    | 3, hv, hne => rfl
    | 4, hv, hne => rfl
    | 5, hv, hne => rfl
    | 6, hv, hne => rfl
    | 7, hv, hne => rfl
    | 8, hv, hne => rfl
    | 9, hv, hne => rfl
    | 10, hv, hne => rfl
    | 11, hv, hne => rfl
    | 12, hv, hne => rfl
    | 13, hv, hne => rfl
    | 14, hv, hne => rfl
    | 15, hv, hne => exact absurd ⟨rfl, hv.2⟩ hne
    | 16, hv, hne => rfl
    | 17, hv, hne => rfl
    | 18, hv, hne => rfl
    | n + 19, hv, hne => exact absurd hv.1 (by omega)
theorem wpM_aI20 {t : Nat} {v : Int32} (hW : WM D ct (lay, d) H) (hat : va_at D classes (lay 16 0, .inl (ct 0, 500, .inl (upd (gI d 20 0) t v))) H1) (hch : rr_ch (lay 16 0) H H1) : WM D ct (lay, sI d 20 0 t v) H1 := by
  refine Wf.put (cell' := cellM ct (lay, sI d 20 0 t v)) hW (k := 16) (i := 0) ⟨by decide, rfl⟩ hat hch ?_ ?_
  · show (_ : va_E) = _
    congr 4; funext z; simp [sI, sL, gI, gL, up3, upd, vp_updL]
  · intro k' i' hv hne
    match k', hv, hne with
    | 0, hv, hne => rfl
    | 1, hv, hne => rfl
    | 2, hv, hne => rfl
    | 3, hv, hne => rfl
    | 4, hv, hne => rfl
    | 5, hv, hne => rfl
    | 6, hv, hne => rfl
    | 7, hv, hne => rfl
    | 8, hv, hne => rfl
    | 9, hv, hne => rfl
    | 10, hv, hne => rfl
    | 11, hv, hne => rfl
    | 12, hv, hne => rfl
    | 13, hv, hne => rfl
    | 14, hv, hne => rfl
    | 15, hv, hne => rfl
    | 16, hv, hne => exact absurd ⟨rfl, hv.2⟩ hne
    | 17, hv, hne => rfl
    | 18, hv, hne => rfl
    | n + 19, hv, hne => exact absurd hv.1 (by omega)
theorem wpM_aI21 {t : Nat} {v : Int32} (hW : WM D ct (lay, d) H) (hat : va_at D classes (lay 17 0, .inl (ct 0, 500, .inl (upd (gI d 21 0) t v))) H1) (hch : rr_ch (lay 17 0) H H1) : WM D ct (lay, sI d 21 0 t v) H1 := by
  refine Wf.put (cell' := cellM ct (lay, sI d 21 0 t v)) hW (k := 17) (i := 0) ⟨by decide, rfl⟩ hat hch ?_ ?_
  · show (_ : va_E) = _
    congr 4; funext z; simp [sI, sL, gI, gL, up3, upd, vp_updL]
  · intro k' i' hv hne
    match k', hv, hne with
    | 0, hv, hne => rfl
    | 1, hv, hne => rfl
    | 2, hv, hne => rfl
    | 3, hv, hne => rfl
    | 4, hv, hne => rfl
    | 5, hv, hne => rfl
    | 6, hv, hne => rfl
    | 7, hv, hne => rfl
    | 8, hv, hne => rfl
    | 9, hv, hne => rfl
    | 10, hv, hne => rfl
    | 11, hv, hne => rfl
    | 12, hv, hne => rfl
    | 13, hv, hne => rfl
    | 14, hv, hne => rfl
    | 15, hv, hne => rfl
    | 16, hv, hne => rfl
    | 17, hv, hne => exact absurd ⟨rfl, hv.2⟩ hne
    | 18, hv, hne => rfl
    | n + 19, hv, hne => exact absurd hv.1 (by omega)
theorem wpM_aI7 {t : Nat} {v : Int32} (hW : WM D ct (lay, d) H) (hat : va_at D classes (lay 18 0, .inl (ct 0, 2000, .inl (upd (gI d 7 1) t v))) H1) (hch : rr_ch (lay 18 0) H H1) : WM D ct (lay, sI d 7 1 t v) H1 := by
  refine Wf.put (cell' := cellM ct (lay, sI d 7 1 t v)) hW (k := 18) (i := 0) ⟨by decide, rfl⟩ hat hch ?_ ?_
  · show (_ : va_E) = _
    congr 4; funext z; simp [sI, sL, gI, gL, up3, upd, vp_updL]
  · intro k' i' hv hne
    match k', hv, hne with
    | 0, hv, hne => rfl
    | 1, hv, hne => rfl
    | 2, hv, hne => rfl
    | 3, hv, hne => rfl
    | 4, hv, hne => rfl
    | 5, hv, hne => rfl
    | 6, hv, hne => rfl
    | 7, hv, hne => rfl
    | 8, hv, hne => rfl
    | 9, hv, hne => rfl
    | 10, hv, hne => rfl
    | 11, hv, hne => rfl
    | 12, hv, hne => rfl
    | 13, hv, hne => rfl
    | 14, hv, hne => rfl
    | 15, hv, hne => rfl
    | 16, hv, hne => rfl
    | 17, hv, hne => rfl
    | 18, hv, hne => exact absurd ⟨rfl, hv.2⟩ hne
    | n + 19, hv, hne => exact absurd hv.1 (by omega)
end STM
