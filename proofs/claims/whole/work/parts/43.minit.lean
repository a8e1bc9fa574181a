theorem wm_init2 {D : va_G} {ct : Nat → ClassId} {h0 sz : Nat} {H : Heap} (hlt : h0 < sz) (hcs : ∀ q ∈ ([(h0, .inr (4, [.int 0, .int 0, .int 0, .ref sz, .ref (sz + 1), .ref (sz + 2), .ref (sz + 3), .ref (sz + 4), .int 0, .ref (sz + 5), .ref (sz + 6), .ref (sz + 7), .ref (sz + 8), .ref (sz + 9), .ref (sz + 10), .ref (sz + 11), .ref (sz + 12), .ref (sz + 13), .ref (sz + 14), .int 0, .ref (sz + 15), .ref (sz + 16), .int 0, .ref (sz + 17), .int 0])), (sz, .inl (ct 0, 17, .inl (fun _ => 0))), ((sz + 1), .inl (ct 2, 17, .inl (fun _ => 0))), ((sz + 2), .inl (ct 0, 17, .inl (fun _ => 0))), ((sz + 3), .inl (ct 1, 136, .inr (.inl (fun _ => 0)))), ((sz + 4), .inl (ct 1, 136, .inr (.inl (fun _ => 0)))), ((sz + 5), .inl (ct 0, 61, .inl (fun _ => 0))), ((sz + 6), .inl (ct 1, 61, .inr (.inl (fun _ => 0)))), ((sz + 7), .inl (ct 2, 61, .inl (fun _ => 0))), ((sz + 8), .inl (ct 2, 61, .inl (fun _ => 0))), ((sz + 9), .inl (ct 1, 61, .inr (.inl (fun _ => 0)))), ((sz + 10), .inl (ct 1, 61, .inr (.inl (fun _ => 0)))), ((sz + 11), .inl (ct 2, 61, .inl (fun _ => 0))), ((sz + 12), .inl (ct 0, 128, .inl (fun _ => 0))), ((sz + 13), .inl (ct 0, 3, .inl (fun _ => 0))), ((sz + 14), .inl (ct 2, 3, .inl (fun _ => 0))), ((sz + 15), .inl (ct 0, 500, .inl (fun _ => 0))), ((sz + 16), .inl (ct 0, 500, .inl (fun _ => 0))), ((sz + 17), .inl (ct 0, 2000, .inl (fun _ => 0)))] : List (Nat × va_E)), va_at D classes q H) : WM D ct (layM0 h0 sz, d00) H := by
  refine wm_init hlt (fun k hk => ?_)
  match k, hk with
  | 0, _ => exact hcs _ (List.mem_of_getElem? (i := 0) rfl)
  | 1, _ =>
    show va_at D classes (sz + 0, .inl (ct 0, 17, .inl (az 0 (fun i => gI d00 10 i 0)))) H
    rw [az_00 10 (by decide)]
    exact hcs _ (List.mem_of_getElem? (i := 1) rfl)
  | 2, _ =>
    show va_at D classes (sz + 1, .inl (ct 2, 17, .inl (az 0 (fun i => gI d00 11 i 0)))) H
    rw [az_00 11 (by decide)]
    exact hcs _ (List.mem_of_getElem? (i := 2) rfl)
  | 3, _ =>
    show va_at D classes (sz + 2, .inl (ct 0, 17, .inl (az 0 (fun i => gI d00 9 i 0)))) H
    rw [az_00 9 (by decide)]
    exact hcs _ (List.mem_of_getElem? (i := 3) rfl)
  | 4, _ =>
    show va_at D classes (sz + 3, .inl (ct 1, 136, .inr (.inl (rz (gL d00 0))))) H
    rw [rz_0 0]
    exact hcs _ (List.mem_of_getElem? (i := 4) rfl)
  | 5, _ =>
    show va_at D classes (sz + 4, .inl (ct 1, 136, .inr (.inl (rz (gL d00 1))))) H
    rw [rz_0 1]
    exact hcs _ (List.mem_of_getElem? (i := 5) rfl)
  | 6, _ =>
    show va_at D classes (sz + 5, .inl (ct 0, 61, .inl (az 0 (fun i => gI d00 15 i 0)))) H
    rw [az_00 15 (by decide)]
    exact hcs _ (List.mem_of_getElem? (i := 6) rfl)
  | 7, _ =>
    show va_at D classes (sz + 6, .inl (ct 1, 61, .inr (.inl (az 0 (fun i => gL d00 2 i 0))))) H
    rw [az_0L 2]
    exact hcs _ (List.mem_of_getElem? (i := 7) rfl)
  | 8, _ =>
    show va_at D classes (sz + 7, .inl (ct 2, 61, .inl (az 0 (fun i => gI d00 12 i 0)))) H
    rw [az_00 12 (by decide)]
    exact hcs _ (List.mem_of_getElem? (i := 8) rfl)
  | 9, _ =>
    show va_at D classes (sz + 8, .inl (ct 2, 61, .inl (az 0 (fun i => gI d00 13 i 0)))) H
    rw [az_00 13 (by decide)]
    exact hcs _ (List.mem_of_getElem? (i := 9) rfl)
  | 10, _ =>
    show va_at D classes (sz + 9, .inl (ct 1, 61, .inr (.inl (az 0 (fun i => gL d00 3 i 0))))) H
    rw [az_0L 3]
    exact hcs _ (List.mem_of_getElem? (i := 10) rfl)
  | 11, _ =>
    show va_at D classes (sz + 10, .inl (ct 1, 61, .inr (.inl (az 0 (fun i => gL d00 4 i 0))))) H
    rw [az_0L 4]
    exact hcs _ (List.mem_of_getElem? (i := 11) rfl)
  | 12, _ =>
    show va_at D classes (sz + 11, .inl (ct 2, 61, .inl (az 0 (fun i => gI d00 14 i 0)))) H
    rw [az_00 14 (by decide)]
    exact hcs _ (List.mem_of_getElem? (i := 12) rfl)
  | 13, _ =>
    show va_at D classes (sz + 12, .inl (ct 0, 128, .inl (gI d00 2 0))) H
    exact hcs _ (List.mem_of_getElem? (i := 13) rfl)
  | 14, _ =>
    show va_at D classes (sz + 13, .inl (ct 0, 3, .inl (gI d00 3 0))) H
    exact hcs _ (List.mem_of_getElem? (i := 14) rfl)
  | 15, _ =>
    show va_at D classes (sz + 14, .inl (ct 2, 3, .inl (gI d00 4 0))) H
    exact hcs _ (List.mem_of_getElem? (i := 15) rfl)
  | 16, _ =>
    show va_at D classes (sz + 15, .inl (ct 0, 500, .inl (gI d00 20 0))) H
    exact hcs _ (List.mem_of_getElem? (i := 16) rfl)
  | 17, _ =>
    show va_at D classes (sz + 16, .inl (ct 0, 500, .inl (gI d00 21 0))) H
    exact hcs _ (List.mem_of_getElem? (i := 17) rfl)
  | 18, _ =>
    show va_at D classes (sz + 17, .inl (ct 0, 2000, .inl (gI d00 7 1))) H
    exact hcs _ (List.mem_of_getElem? (i := 18) rfl)
  | k + 19, hk => exact absurd hk (by omega)
