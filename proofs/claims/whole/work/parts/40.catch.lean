/-! A CATCH: the class of a handler may be linked only now. Own work. -/
def tx_Finds (e : Env) (s : State) (f : JFrame) (a : Addr) (h : Handler) (vm2 : Vm) : Prop :=
  ∀ (Q : Handler → Pre) (E : CtlPost) (d : Bool) (acts : List Action), wp (findHandler f a) Q E e d acts s ↔ Q h d acts (s.setVm vm2)
section CT
variable {Q : Handler → Pre} {E : CtlPost} {e : Env} {d : Bool} {acts : List Action} {s : State} {f : JFrame} {a : Addr}
/-- a row that covers the place, whose class is linked on the way: it takes the exception, or leaves it to the rows behind -/
theorem tx_row {x : ExceptionTableEntry} {t : List ExceptionTableEntry} {c : ClassId} {cell : Cell} (hx : covers x f.pc = true) (h0 : x.catchType ≠ 0) (hl : s.vm.ClassLinks e.platform f.method.cls x.catchType c) (hcell : s.heap[a]? = some cell) (hobj : ∀ k, cell.vm ≠ .statics k)
    (hk : ∃ k, s.vm.classes[cell.cls]? = some k) (hc : ∃ k, s.vm.classes[c]? = some k) :
    (s.vm.assignable cell.cls c = true → (wp (findHandler.go f a (x :: t)) Q E e d acts s ↔ Q (.found x.handlerPc) d acts (s.setVm (s.vm.noted f.method.cls x.catchType (.cls c))))) ∧
    (s.vm.assignable cell.cls c = false → (wp (findHandler.go f a (x :: t)) Q E e d acts s ↔ wp (findHandler.go f a t) Q E e d acts (s.setVm (s.vm.noted f.method.cls x.catchType (.cls c))))) := by
  simp only [covers] at hx
  obtain ⟨ha, ht⟩ := (resolveClass_links e.toSetting hl).op (op := VmOp.resolveClass f.method.cls x.catchType) rfl
  have hal : s.vm.Alike (s.vm.noted f.method.cls x.catchType (.cls c)) := (Vm.Alike.refl s.vm).noted _ _ _
  obtain ⟨k1, g1⟩ := hk
  obtain ⟨k2, g2⟩ := hc
  obtain ⟨k3, g3, -⟩ := hal.2.2 _ _ g1
  obtain ⟨k4, g4, -⟩ := hal.2.2 _ _ g2
  constructor <;> intro hf
  · rw [← hal.assignable] at hf
    simp [findHandler.go, hx, h0, ha, ht, hcell, hobj, g3, g4, hf, VmOp.dirties, VmOp.acts]
  · rw [← hal.assignable] at hf
    simp [findHandler.go, hx, h0, ha, ht, hcell, hobj, g3, g4, hf, VmOp.dirties, VmOp.acts]
end CT
theorem tx_step {tb : Tables} {e : Env} {s target : State} {g : JFrame} {c : Code} {below : List Frame} {a : Addr} (h : At s g.method c below) {pc : Nat} {vm2 : Vm} (hf : tx_Finds e ((s.setTop g).pushFrame (.throwing a)) g a (.found pc) vm2)
    (hrest : Steps tb e below ((s.setVm vm2).setTop { g with pc := pc, stack := [.ref a] }) target) : Steps tb e below ((s.setTop g).pushFrame (.throwing a)) target := by
  obtain ⟨hgo, hw⟩ := h.throwing a
  refine Steps.head hgo hw ?_
  obtain ⟨g0, hg⟩ := Option.isSome_iff_exists.mp h.top
  obtain ⟨r, hr⟩ := State.topJava?_eq_some.mp hg
  have e1 : (stepThrowing e ((s.setTop g).pushFrame (.throwing a)) a (.java g :: s.frames.tail)).Is ((((s.setTop g).pushFrame (.throwing a)).setVm vm2).setFrames (.java { g with pc := pc, stack := [.ref a] } :: s.frames.tail)) [] := by
    simp only [stepThrowing, searchFrame, vmDo]
    generalize hr9 : Sem.go _ e false [] ((s.setTop g).pushFrame (.throwing a)) = res
    obtain ⟨as, rfl, ha⟩ := Sem.eq_ok_of hr9 (a := Handler.found pc) (s' := ((s.setTop g).pushFrame (.throwing a)).setVm vm2) (acts' := []) (by simp [hf _ _ _ _])
    exact ⟨rfl, ha⟩
  rw [stepThread_throwing (frames_entered h.top _), e1.1]
  have hr2 : (s.setVm vm2).frames = .java g0 :: r := hr
  rw [State.setTop_of_frames _ hr2] at hrest
  have e2 : (((s.setTop g).pushFrame (.throwing a)).setVm vm2).setFrames (.java { g with pc := pc, stack := [.ref a] } :: s.frames.tail) = (s.setVm vm2).setFrames (.java { g with pc := pc, stack := [.ref a] } :: r) := by
    rw [hr, List.tail_cons, State.pushFrame, State.setTop_of_frames _ hr]
    have q : ∀ (F G K : List Frame), (((s.setFrames F).setFrames G).setVm vm2).setFrames K = (s.setVm vm2).setFrames K := fun F G K => by
      rw [State.setFrames_setFrames]
      have q2 : (s.setFrames G).setVm vm2 = (s.setVm vm2).setFrames G := rfl
      rw [q2, State.setFrames_setFrames]
    exact q _ _ _
  rw [e2]
  exact hrest
section CTW
variable {p : Program} {l : Launch} {e : Env} {R : Room} {s : State} {m : MethodId} {args : Array Value} {below : List Frame} {meth : Method} {c : Code} {H : Heap} {locs : List Loc} {cells slots : Nat} {Q : State → Prop}
variable {pc : Nat} {ls : Array Slot} {st : List Value}
/-- caught by the first row -/
theorem tx_catch1 {own name E : String} {ce : Cell} {q : Addr} (hown : s.vm.findClass own = some m.cls) {x : ExceptionTableEntry} {suf : List ExceptionTableEntry} (hs : c.exceptionTable.toList = x :: suf) (hx : covers x pc = true) (h0 : x.catchType ≠ 0)
    (hlink : (Cond.classLink own x.catchType name).before args s = true) (hcast : (Cond.castable E name).before args s = true) (hcell : H[q]? = some ce) (hv : ce.vm = .none) (hcl : s.vm.findClass E = some ce.cls)
    (kk : W p l e R s m args below meth c H locs cells slots Q (F0 m x.handlerPc ls [.ref q])) : TW p l e R s m args below meth c H locs cells slots Q (F0 m pc ls st) q := by
  intro T hT X
  have hpl : e.platform.magicAccessors = ({} : Platform).magicAccessors := by rw [X.admits.platform]
  obtain ⟨c3, c4, hc3, hc4, hasg⟩ := Cond.castable_spec hcast
  cases Option.some.inj (hc3.symm.trans hcl)
  obtain ⟨c5, hc5, hl⟩ := Cond.classLink_spec hown hlink e.platform hpl
  cases Option.some.inj (hc4.symm.trans hc5)
  have hW := X.warmed
  obtain ⟨k9, h9, -⟩ := Vm.findClass_spec hcl
  obtain ⟨k9', h9', -⟩ := hW.alike.2.2 _ _ h9
  obtain ⟨dk, _, _, kt, hd, _, _, _, _, hkt, _, hopn⟩ := hl.here
  obtain ⟨kt', hkt', -⟩ := hW.alike.2.2 _ _ hkt
  have hW2 := hW.noted hd hopn (State.rightAt_cls hl)
  have hf : tx_Finds e ((T.setTop (F0 m pc ls st)).pushFrame (.throwing q)) (F0 m pc ls st) q (.found x.handlerPc) (T.vm.noted m.cls x.catchType (.cls c4)) := by
    intro Q9 E9 d9 acts9
    rw [W.findHandler_eq (meth := meth) (code := c) X.method' X.code, hs]
    exact (tx_row (s := (T.setTop (F0 m pc ls st)).pushFrame (.throwing q)) (f := F0 m pc ls st) hx h0 (hW.classLinks hl) (by show T.heap[q]? = _; rw [hT]; exact hcell) (fun k h => by rw [hv] at h; cases h) ⟨k9', h9'⟩ ⟨kt', hkt'⟩).1 (by show T.vm.assignable _ _ = true; rw [hW.alike.assignable]; exact hasg)
  obtain ⟨t, a1, b1⟩ := kk (T.setVm (T.vm.noted m.cls x.catchType (.cls c4))) hT (X.noted hW2)
  exact ⟨t, tx_step X.here hf a1, b1⟩
/-- passed by the first row, caught by the second -/
theorem tx_catch2 {own nm1 name E : String} {ce : Cell} {q : Addr} (hown : s.vm.findClass own = some m.cls) {x1 x : ExceptionTableEntry} {suf : List ExceptionTableEntry} (hs : c.exceptionTable.toList = x1 :: x :: suf) (hx1 : covers x1 pc = true) (h01 : x1.catchType ≠ 0) (hlink1 : (Cond.classLink own x1.catchType nm1).before args s = true) (hno : va_Nc E nm1 s)
    (hx : covers x pc = true) (h0 : x.catchType ≠ 0) (hlink : (Cond.classLink own x.catchType name).before args s = true) (hcast : (Cond.castable E name).before args s = true) (hcell : H[q]? = some ce) (hv : ce.vm = .none) (hcl : s.vm.findClass E = some ce.cls)
    (kk : W p l e R s m args below meth c H locs cells slots Q (F0 m x.handlerPc ls [.ref q])) : TW p l e R s m args below meth c H locs cells slots Q (F0 m pc ls st) q := by
  intro T hT X
  have hpl : e.platform.magicAccessors = ({} : Platform).magicAccessors := by rw [X.admits.platform]
  obtain ⟨c3, c4, hc3, hc4, hasg⟩ := Cond.castable_spec hcast
  cases Option.some.inj (hc3.symm.trans hcl)
  obtain ⟨c5, hc5, hl⟩ := Cond.classLink_spec hown hlink e.platform hpl
  cases Option.some.inj (hc4.symm.trans hc5)
  obtain ⟨c6, hc6, hl1⟩ := Cond.classLink_spec hown hlink1 e.platform hpl
  obtain ⟨a8, b8, n1, n2, n3⟩ := hno
  rw [Option.some.inj (n1.symm.trans hcl), Option.some.inj (n2.symm.trans hc6)] at n3
  have hW := X.warmed
  obtain ⟨k9, h9, -⟩ := Vm.findClass_spec hcl
  obtain ⟨k9', h9', -⟩ := hW.alike.2.2 _ _ h9
  obtain ⟨dk, _, _, kt, hd, _, _, _, _, hkt, _, hopn⟩ := hl.here
  obtain ⟨dk1, _, _, kt1, hd1, _, _, _, _, hkt1, _, hopn1⟩ := hl1.here
  obtain ⟨kt1', hkt1', -⟩ := hW.alike.2.2 _ _ hkt1
  have hW1 : s.WarmedH (T.vm.noted m.cls x1.catchType (.cls c6)) := hW.noted hd1 hopn1 (State.rightAt_cls hl1)
  obtain ⟨k8', h8', -⟩ := hW1.alike.2.2 _ _ h9
  obtain ⟨kt', hkt', -⟩ := hW1.alike.2.2 _ _ hkt
  have hW2 : s.WarmedH ((T.setVm (T.vm.noted m.cls x1.catchType (.cls c6))).vm.noted m.cls x.catchType (.cls c4)) := State.WarmedH.noted hW1 hd hopn (State.rightAt_cls hl)
  have hf : tx_Finds e ((T.setTop (F0 m pc ls st)).pushFrame (.throwing q)) (F0 m pc ls st) q (.found x.handlerPc) ((T.setVm (T.vm.noted m.cls x1.catchType (.cls c6))).vm.noted m.cls x.catchType (.cls c4)) := by
    intro Q9 E9 d9 acts9
    rw [W.findHandler_eq (meth := meth) (code := c) X.method' X.code, hs]
    rw [(tx_row (s := (T.setTop (F0 m pc ls st)).pushFrame (.throwing q)) (f := F0 m pc ls st) hx1 h01 (hW.classLinks hl1) (by show T.heap[q]? = _; rw [hT]; exact hcell) (fun k h => by rw [hv] at h; cases h) ⟨k9', h9'⟩ ⟨kt1', hkt1'⟩).2 (by show T.vm.assignable _ _ = false; rw [hW.alike.assignable]; exact n3)]
    exact (tx_row (s := ((T.setTop (F0 m pc ls st)).pushFrame (.throwing q)).setVm (T.vm.noted m.cls x1.catchType (.cls c6))) (f := F0 m pc ls st) hx h0 (State.WarmedH.classLinks hW1 hl) (by show T.heap[q]? = _; rw [hT]; exact hcell) (fun k h => by rw [hv] at h; cases h) ⟨k8', h8'⟩ ⟨kt', hkt'⟩).1 (by show (T.vm.noted m.cls x1.catchType (.cls c6)).assignable _ _ = true; rw [hW1.alike.assignable]; exact hasg)
  obtain ⟨t, a1, b1⟩ := kk (T.setVm ((T.setVm (T.vm.noted m.cls x1.catchType (.cls c6))).vm.noted m.cls x.catchType (.cls c4))) hT (X.noted hW2)
  exact ⟨t, tx_step X.here hf a1, b1⟩
end CTW
