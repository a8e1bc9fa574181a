/-! Contracts over a world: the start holds the data u, the end holds data u2 with 'post'. -/
abbrev VT : Type := CS → Nat → Nat → Prop
abbrev CT : Type := (Nat → ClassId) → CS → Nat → Nat → va_E
abbrev CoI (val : VT) (cell : CT) (l : Launch) (D : va_G) (ct : Nat → ClassId) (y : MethodName) (b : ByteArray) (n : Nat) (r : Option FieldType) (rm : Room) (u : CS) (sz : Nat) (av : List Value) (post : Int32 → CS → Prop) : Prop :=
  Met l y (Cond.code y b n r :: wA) rm (va_Pc av (Wpre D classes (tysA ct) (val u) u.1 (cell ct u) sz)) (va_Qi post (WB D classes (tysA ct) val (fun u => u.1) (cell ct)) (Wfr (val u) u.1 sz)) rm.cells rm.slots (Wfr (val u) u.1 sz)
abbrev CoV (val : VT) (cell : CT) (l : Launch) (D : va_G) (ct : Nat → ClassId) (y : MethodName) (b : ByteArray) (n : Nat) (rm : Room) (u : CS) (sz : Nat) (av : List Value) (post : CS → Prop) : Prop :=
  Met l y (Cond.code y b n none :: wA) rm (va_Pc av (Wpre D classes (tysA ct) (val u) u.1 (cell ct u) sz)) (va_Qv post (WB D classes (tysA ct) val (fun u => u.1) (cell ct)) (Wfr (val u) u.1 sz)) rm.cells rm.slots (Wfr (val u) u.1 sz)
abbrev CoQ (val : VT) (cell : CT) (l : Launch) (D : va_G) (ct : Nat → ClassId) (y : MethodName) (b : ByteArray) (n : Nat) (r : Option FieldType) (rm : Room) (u : CS) (sz : Nat) (av : List Value) (post : Option Nat → CS → Prop) : Prop :=
  Met l y (Cond.code y b n r :: wA) rm (va_Pc av (Wpre D classes (tysA ct) (val u) u.1 (cell ct u) sz)) (va_Qq post (WB D classes (tysA ct) val (fun u => u.1) (cell ct)) (Wfr (val u) u.1 sz)) rm.cells rm.slots (Wfr (val u) u.1 sz)
theorem co_of {val : VT} {cell : CT} {l : Launch} {D : va_G} {ct : Nat → ClassId} {y : MethodName} {b : ByteArray} {n : Nat} {r : Option FieldType} {rm : Room} {u : CS} {sz : Nat} {av : List Value} {Qc : Array Value → State → Outcome → State → Prop} {mc ms : Nat} {free : Addr → Prop} (hy : plainName y.cls = true) (hle : (lg_sl av).length ≤ n)
    (body : ∀ (p : Program) (e : Env) (s : State) (m : MethodId) (below : List Frame) (meth : Method) (c : Code), CX p m c b n s av.toArray wA y.cls D classes (tysA ct) → meth.sig.returnType = r → meth.locks = false → meth.name = y.name → s.heap.size = sz → Wf D classes (val u) u.1 (cell ct u) s.heap → ∀ ls : Array Slot, lv_has ls n (lv_args 0 av) → W p l e rm s m av.toArray below meth c s.heap [] 0 0 (MQ below Qc av.toArray s mc ms free) (F0 m 0 ls [])) :
    Met l y (Cond.code y b n r :: wA) rm (va_Pc av (Wpre D classes (tysA ct) (val u) u.1 (cell ct u) sz)) Qc mc ms free := by
  refine Met.ofW (cc := b) (maxL := n) (ret := r) hy rfl ?_
  intro p e s m args below meth c s₁ B hml hv
  obtain ⟨rfl, hsz, hW, hK⟩ := hv
  have hts := atoms_spec (ws := Cond.code y b n r :: wA) B.pre
  have hown : s.vm.findClass y.cls = some m.cls := findClass_of_methodNamed B.named
  have hl := lv_entry av (n := n) hle
  rw [lg_entry_eq]
  exact body p e s m below meth c ⟨⟨B.exec, B.bytes, hml, hown, fun w h => hts w (List.mem_cons_of_mem _ h)⟩, hK⟩ B.returns B.notSynchronized (name_of_methodNamed B.named B.method).1 hsz hW _ hl
section LF
variable {p : Program} {l : Launch} {e : Env} {R : Room} {s : State} {m : MethodId} {args : Array Value} {below : List Frame} {meth : Method} {c : Code} {H : Heap} {locs : List Loc} {cells slots : Nat}
variable {cc : ByteArray} {nL pc : Nat} {ls : Array Slot} {D : va_G} {A : Nat → Prop} {ct : Nat → ClassId} {Ts : List Cond} {own : String} {val : VT} {cell : CT} {u2 : CS}
theorem leafI (X : CX p m c cc nL s args Ts own D classes (tysA ct)) (hr : meth.sig.returnType = some .int) (hlocks : meth.locks = false) (hS : va_S A s.heap H locs) (hW : Wf D classes (val u2) u2.1 (cell ct u2) H) {post : Int32 → CS → Prop} {v : Int32} (hp : post v u2) (hdg : decode cc pc = .ok (.ireturn, 1)) :
    W p l e R s m args below meth c H locs cells slots (MQ below (va_Qi post (WB D classes (tysA ct) val (fun u => u.1) (cell ct)) A) args s cells slots A) (F0 m pc ls [.int v]) :=
  W.iret X.1.1 X.1.2.1 hr (fun t ht hw => ⟨⟨v, u2, rfl, hp, by rw [ht]; exact hW, va_K.moved hw.alike X.2⟩, hS.F ht⟩) hS.2.2 hdg hlocks
theorem leafZ (X : CX p m c cc nL s args Ts own D classes (tysA ct)) (hr : meth.sig.returnType = some .boolean) (hlocks : meth.locks = false) (hS : va_S A s.heap H locs) (hW : Wf D classes (val u2) u2.1 (cell ct u2) H) {post : Int32 → CS → Prop} {v : Int32} (hn : narrow .boolean (.int v) = .int v) (hp : post v u2) (hdg : decode cc pc = .ok (.ireturn, 1)) :
    W p l e R s m args below meth c H locs cells slots (MQ below (va_Qi post (WB D classes (tysA ct) val (fun u => u.1) (cell ct)) A) args s cells slots A) (F0 m pc ls [.int v]) :=
  W.zret X.1.1 X.1.2.1 hr hn (fun t ht hw => ⟨⟨v, u2, rfl, hp, by rw [ht]; exact hW, va_K.moved hw.alike X.2⟩, hS.F ht⟩) hS.2.2 hdg hlocks
theorem leafV (X : CX p m c cc nL s args Ts own D classes (tysA ct)) (hr : meth.sig.returnType = none) (hlocks : meth.locks = false) (hS : va_S A s.heap H locs) (hW : Wf D classes (val u2) u2.1 (cell ct u2) H) {post : CS → Prop} (hp : post u2) (hdg : decode cc pc = .ok (.return_, 1)) :
    W p l e R s m args below meth c H locs cells slots (MQ below (va_Qv post (WB D classes (tysA ct) val (fun u => u.1) (cell ct)) A) args s cells slots A) (F0 m pc ls []) :=
  W.vret X.1.1 X.1.2.1 hr (fun t ht hw => ⟨⟨u2, rfl, hp, by rw [ht]; exact hW, va_K.moved hw.alike X.2⟩, hS.F ht⟩) hS.2.2 hdg hlocks
theorem leafQ (X : CX p m c cc nL s args Ts own D classes (tysA ct)) {C : String} (hr : meth.sig.returnType = some (.object C)) (hlocks : meth.locks = false) (hS : va_S A s.heap H locs) (hW : Wf D classes (val u2) u2.1 (cell ct u2) H) {post : Option Nat → CS → Prop} {v : Option Nat} (hp : post v u2) (hdg : decode cc pc = .ok (.areturn, 1)) :
    W p l e R s m args below meth c H locs cells slots (MQ below (va_Qq post (WB D classes (tysA ct) val (fun u => u.1) (cell ct)) A) args s cells slots A) (F0 m pc ls [va_rf v]) :=
  W.aret X.1.1 X.1.2.1 hr (Or.inl ⟨C, rfl⟩) (va_rf_or v) (fun t ht hw => ⟨⟨v, u2, rfl, hp, by rw [ht]; exact hW, va_K.moved hw.alike X.2⟩, hS.F ht⟩) hS.2.2 hdg hlocks
end LF
