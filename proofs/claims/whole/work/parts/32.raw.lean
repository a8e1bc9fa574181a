/-! Constructors: from one blank cell to listed cells. -/
abbrev CoR (l : Launch) (D : va_G) (ct : Nat → ClassId) (y : MethodName) (b : ByteArray) (n : Nat) (rm : Room) (h0 : Nat) (E0 : va_E) (K : State → Prop) (sz : Nat) (av : List Value) (cs : List (Nat × va_E)) (nc : Nat) : Prop :=
  Met l y (Cond.code y b n none :: wA) rm (va_Pc (.ref h0 :: av) (fun U => U.heap.size = sz ∧ va_at D classes (h0, E0) U.heap ∧ va_K D classes (tysA ct) U ∧ K U)) (va_Qv (fun _ : Unit => True) (fun _ t => t.heap.size = sz + nc ∧ (∀ q ∈ cs, va_at D classes q t.heap) ∧ va_K D classes (tysA ct) t) (fun q => q = h0 ∨ sz ≤ q)) rm.cells rm.slots (fun q => q = h0 ∨ sz ≤ q)
theorem cr_of {l : Launch} {D : va_G} {ct : Nat → ClassId} {y : MethodName} {b : ByteArray} {n : Nat} {rm : Room} {h0 : Nat} {E0 : va_E} {K : State → Prop} {sz : Nat} {av : List Value} {Qc : Array Value → State → Outcome → State → Prop} {mc ms : Nat} {free : Addr → Prop} (hy : plainName y.cls = true) (hle : (lg_sl (.ref h0 :: av)).length ≤ n)
    (body : ∀ (p : Program) (e : Env) (s : State) (m : MethodId) (below : List Frame) (meth : Method) (c : Code), CX p m c b n s (.ref h0 :: av).toArray wA y.cls D classes (tysA ct) → meth.sig.returnType = none → meth.locks = false → meth.name = y.name → s.heap.size = sz → va_at D classes (h0, E0) s.heap → K s → ∀ ls : Array Slot, lv_has ls n (lv_args 0 (.ref h0 :: av)) → W p l e rm s m (.ref h0 :: av).toArray below meth c s.heap [] 0 0 (MQ below Qc (.ref h0 :: av).toArray s mc ms free) (F0 m 0 ls [])) :
    Met l y (Cond.code y b n none :: wA) rm (va_Pc (.ref h0 :: av) (fun U => U.heap.size = sz ∧ va_at D classes (h0, E0) U.heap ∧ va_K D classes (tysA ct) U ∧ K U)) Qc mc ms free := by
  refine Met.ofW (cc := b) (maxL := n) (ret := none) hy rfl ?_
  intro p e s m args below meth c s₁ B hml hv
  obtain ⟨rfl, hsz, hA0, hK, hKK⟩ := hv
  have hts := atoms_spec (ws := Cond.code y b n none :: wA) B.pre
  have hown : s.vm.findClass y.cls = some m.cls := findClass_of_methodNamed B.named
  have hl := lv_entry (.ref h0 :: av) (n := n) hle
  rw [lg_entry_eq]
  exact body p e s m below meth c ⟨⟨B.exec, B.bytes, hml, hown, fun w h => hts w (List.mem_cons_of_mem _ h)⟩, hK⟩ B.returns B.notSynchronized (name_of_methodNamed B.named B.method).1 hsz hA0 hKK _ hl
section CR
variable {p : Program} {l : Launch} {e : Env} {R : Room} {s : State} {m : MethodId} {args : Array Value} {below : List Frame} {meth : Method} {c : Code} {H : Heap} {locs : List Loc} {cells slots : Nat} {Q : State → Prop}
variable {cc bytes : ByteArray} {nL pc maxL mc ms n index : Nat} {ls : Array Slot} {rest As : List Value} {D : va_G} {ct : Nat → ClassId} {A : Nat → Prop} {h0 : Nat} {H0 : Heap} {Ts : List Cond} {own : String} {y : MethodName} {rm : Room} {E0 : va_E} {K : State → Prop} {cs : List (Nat × va_E)} {nc sz : Nat}
theorem leafR (X : CX p m c cc nL s args Ts own D classes (tysA ct)) (hr : meth.sig.returnType = none) (hlocks : meth.locks = false) (hS : va_S A s.heap H locs) (hz : H.size = sz + nc) (hc : ∀ q ∈ cs, va_at D classes q H) (hdg : decode cc pc = .ok (.return_, 1)) :
    W p l e R s m args below meth c H locs cells slots (MQ below (va_Qv (fun _ : Unit => True) (fun _ t => t.heap.size = sz + nc ∧ (∀ q ∈ cs, va_at D classes q t.heap) ∧ va_K D classes (tysA ct) t) A) args s cells slots A) (F0 m pc ls []) :=
  W.vret X.1.1 X.1.2.1 hr (fun t ht hw => ⟨⟨(), rfl, trivial, by rw [ht]; exact hz, by rw [ht]; exact hc, va_K.moved hw.alike X.2⟩, hS.F ht⟩) hS.2.2 hdg hlocks
theorem cr_call (X : CX p m c cc nL s args Ts own D classes (tysA ct)) (hM : CoR l D ct y bytes maxL rm h0 E0 K H.size As cs nc) (cw : CallB R s args own index y bytes maxL none (Cond.code y bytes maxL none :: wA) rm rm.cells rm.slots n ∧ y.name = "<init>" ∧ (Cond.instanceMethod y).before args s = true)
    (hKm : ∀ u U : State, u.vm.Alike U.vm → K u → K U) (hK : K s) (h00 : va_at D classes (h0, E0) H) (hS : va_S A H0 H locs) (hA : ∀ q, (q = h0 ∨ H.size ≤ q) → A q) (hn : As.length = n) (hsize : ls.size = nL) {st : List Value} (hst : st = As.reverse ++ .ref h0 :: rest) (hroom : (rest.map fun v => v.category).sum ≤ 8) (hdg : decode cc pc = .ok (.invokespecial index, 3)) (hf : cells + rm.cells ≤ R.cells ∧ slots + rm.slots ≤ R.slots)
    (kk : ∀ (H1 : Heap) (locs1 : List Loc), H1.size = H.size + nc → (∀ q ∈ cs, va_at D classes q H1) → (∀ q : Nat, q < H.size → q ≠ h0 → H1[q]? = H[q]?) → va_S A H0 H1 locs1 → W p l e R s m args below meth c H1 locs1 (cells + rm.cells) (slots + rm.slots) Q (F0 m (pc + 3) ls rest)) : W p l e R s m args below meth c H locs cells slots Q (F0 m pc ls st) :=
  va_callv (va_runI X.1 hM cw ⟨fun a U g mk q => by
      obtain ⟨q0, q1, q2, q3, q4⟩ := q
      exact ⟨q0, q1, q2, va_K.moved (u := U) (U := U.calling g mk a) (Vm.Alike.refl U.vm) q3, hKm U (U.calling g mk a) (Vm.Alike.refl U.vm) q4⟩,
    fun U hU hw => ⟨rfl, by rw [hU], by rw [hU]; exact h00, va_K.moved hw.alike X.2, hKm s U hw.alike hK⟩⟩ rfl hn hsize hst (lv_room hroom) hdg hf) hS (fun q _ h => hA q h) hA
    (fun _ t H1 locs1 ht _ _ hB _ hk hS1 => kk H1 locs1 (by rw [← ht]; exact hB.1) (by rw [← ht]; exact hB.2.1) (fun q hq hne => hk q hq (fun z => z.elim hne (fun z => absurd hq (Nat.not_lt.mpr z)))) hS1)
theorem rr_objInit (X : CX p m c cc nL s args wA own D classes (tysA ct)) {idx : Nat} (h1 : Cond.methodLink own idx Lib.objectInit ∈ wA) (hsize : ls.size = nL) {a : Nat} (hdg : decode cc pc = .ok (.invokespecial idx, 3)) (hframes : 1 ≤ R.frames) (hlocals : (rest.map fun v => v.category).sum + 12 ≤ R.locals) (h2 : Cond.instanceMethod Lib.objectInit ∈ wA) (h3 : Cond.code Lib.objectInit ⟨#[0xb1]⟩ 1 none ∈ wA)
    (kk : W p l e R s m args below meth c H locs cells slots Q (F0 m (pc + 3) ls rest)) : W p l e R s m args below meth c H locs cells slots Q (F0 m pc ls (.ref a :: rest)) :=
  W.objInit X.1.1 X.1.2.1 X.1.2.2.2.1 (X.1.2.2.2.2 _ h1) (X.1.2.2.2.2 _ h2) (X.1.2.2.2.2 _ h3) rfl (by rw [X.1.2.2.1]; exact hsize) rfl hdg hframes (by simpa using hlocals) kk
end CR
