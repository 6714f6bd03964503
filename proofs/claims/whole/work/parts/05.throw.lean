def STRS : List (Nat × String) := [(59, "a width or height below 1"), (97, "no such byte"), (110, "no such part"), (112, "no such thing of a part"), (123, "too many bytes to be read"), (174, "no such sample"), (176, "not 0 to 255")]
/-! A CALL THAT RETURNS OR THROWS. When it throws, nothing that was there has changed. Own work over the library's laws (ctorThrowS, leaveThrown, outOf, outOfThrown, catchAt). -/
def tx_Q (Qc : Array Value → State → Outcome → State → Prop) (PX : String → Prop) (mc ms : Nat) (free : Addr → Prop) : Array Value → State → Outcome → State → Prop := fun a st o t =>
  (Qc a st o t ∧ ∃ L, FrameEnd st o t L mc ms ∧ ∀ q ∈ L, free q.base) ∨
  ∃ (q : Addr) (E : String) (ce : Cell), o = .threw q ∧ PX E ∧ t.heap[q]? = some ce ∧ ce.vm = .none ∧ st.vm.findClass E = some ce.cls ∧ st.WarmedH t.vm ∧ st.sameButNew ({ t with vm := st.vm } : State) [] mc ms
def tx_Met (l : Launch) (y : MethodName) (ws : List Cond) (rm : Room) (Pc : Array Value → State → Prop) (Qc : Array Value → State → Outcome → State → Prop) (PX : String → Prop) (mc ms : Nat) (free : Addr → Prop) : Prop :=
  MetFree l y (headSpec ws rm) Pc (fun _ _ _ _ _ => True) (tx_Q Qc PX mc ms free)
def tx_MQ (below : List Frame) (Qc : Array Value → State → Outcome → State → Prop) (PX : String → Prop) (a : Array Value) (s : State) (mc ms : Nat) (free : Addr → Prop) : State → Prop := fun t =>
  ∃ o, t.status = .running ∧ Ended t below o ∧ tx_Q Qc PX mc ms free a s o t
theorem tx_frame {s U : State} {k n : Nat} (h : s.sameButNew U [] k n) : s.heap.size ≤ U.heap.size ∧ ∀ q : Nat, q < s.heap.size → U.heap[q]? = s.heap[q]? := by
  refine ⟨h.2.1, fun q hq => ?_⟩
  obtain ⟨c0, h0⟩ : ∃ c0, s.heap[q]? = some c0 := ⟨_, Array.getElem?_eq_getElem hq⟩
  obtain ⟨c1, h1, h2, h3, h4⟩ := h.2.2.2.2.2 q c0 h0
  have e : c1.slots = c0.slots := Array.ext_getElem? (fun i => h4 i (by simp))
  rw [h1, h0, h2, e]
/-- the machine with an exception over its frame -/
def TW (p : Program) (l : Launch) (e : Env) (R : Room) (s : State) (m : MethodId) (args : Array Value) (below : List Frame) (meth : Method) (c : Code) (H : Heap) (locs : List Loc) (cells slots : Nat) (Q : State → Prop) (g : JFrame) (q : Addr) : Prop :=
  ∀ T : State, T.heap = H → Stand p l e R s m args below meth c T locs cells slots → ∃ t, Steps p.tables e below ((T.setTop g).pushFrame (.throwing q)) t ∧ Q t
section TX
variable {p : Program} {l : Launch} {e : Env} {R : Room} {s : State} {m : MethodId} {args : Array Value} {below : List Frame} {meth : Method} {c : Code} {H : Heap} {locs : List Loc} {cells slots : Nat} {Q : State → Prop}
variable {Qc : Array Value → State → Outcome → State → Prop} {PX : String → Prop} {free : Addr → Prop} {mc ms : Nat}
theorem tx_ret {g : JFrame} (k : W p l e R s m args below meth c H locs cells slots (MQ below Qc args s mc ms free) g) : W p l e R s m args below meth c H locs cells slots (tx_MQ below Qc PX args s mc ms free) g := by
  intro T hT X
  obtain ⟨t, a1, o, b1, b2, b3⟩ := k T hT X
  exact ⟨t, a1, o, b1, b2, Or.inl b3⟩
/-- the exception leaves the method -/
theorem tx_out {pc : Nat} {ls : Array Slot} {st : List Value} {q : Addr} {E : String} {ce : Cell} (hno : c.exceptionTable.toList = []) (hlk : meth.locks = false) (hcell : H[q]? = some ce) (hv : ce.vm = .none) (hcl : s.vm.findClass E = some ce.cls) (hp : PX E) : TW p l e R s m args below meth c H [] cells slots (tx_MQ below Qc PX args s cells slots free) (F0 m pc ls st) q := by
  intro T hT X
  obtain ⟨h0, h1, h2, h3, h4⟩ := X.leaveThrown q (g := F0 m pc ls st) rfl rfl rfl (by rw [hno]; intro x hx; cases hx) hlk
  exact ⟨_, h0, .threw q, h1, h2, Or.inr ⟨q, E, ce, rfl, hp, by show T.heap[q]? = _; rw [hT]; exact hcell, hv, hcl, h3, h4⟩⟩
theorem TW.widen {g : JFrame} {q : Addr} {k n : Nat} (h1 : cells ≤ k) (h2 : slots ≤ n) (kk : TW p l e R s m args below meth c H locs k n Q g q) : TW p l e R s m args below meth c H locs cells slots Q g q := fun T hT X => kk T hT (stand_widen X h1 h2)
/-- what a call comes to -/
def tx_Run (p : Program) (l : Launch) (e : Env) (R : Room) (s : State) (m : MethodId) (args : Array Value) (below : List Frame) (meth : Method) (c : Code) (H : Heap) (locs : List Loc) (cells slots mc ms : Nat) (g : JFrame) (rest : List Value) (Qa : State → Outcome → State → Prop) (PX : String → Prop) (free : Addr → Prop) : Prop :=
  ∀ T : State, T.heap = H → Stand p l e R s m args below meth c T locs cells slots →
    (∃ (v : Option Value) (st₀ t T' : State) (L : List Loc), st₀.heap = H ∧ Stand p l e R s m args below meth c T' (locs ++ L) (cells + mc) (slots + ms) ∧ (∀ q ∈ L, free q.base) ∧ T'.heap = t.heap ∧ T'.vm = t.vm ∧ Qa st₀ (.returned v) t ∧ Goes p e below T g T' { g with pc := g.pc + 3, stack := v.toList ++ rest }) ∨
    (∃ (q : Addr) (E : String) (ce : Cell) (T' : State), PX E ∧ T'.heap[q]? = some ce ∧ ce.vm = .none ∧ s.vm.findClass E = some ce.cls ∧ H.size ≤ T'.heap.size ∧ (∀ x : Nat, x < H.size → T'.heap[x]? = H[x]?) ∧ Stand p l e R s m args below meth c T' locs (cells + mc) (slots + ms) ∧
      ∀ tg, Steps p.tables e below ((T'.setTop { g with stack := rest }).pushFrame (.throwing q)) tg → Steps p.tables e below (T.setTop g) tg)
variable {y : MethodName} {ws : List Cond} {rm : Room} {Pc : Array Value → State → Prop}
/-- into the callee and back -/
theorem tx_into {T : State} (X : Stand p l e R s m args below meth c T locs cells slots) {bytes : ByteArray} {maxL : Nat} {ret : Option FieldType} (hM : tx_Met l y ws rm Pc Qc PX mc ms free) (hbl : FrameBlind Pc) (hrc : rm.cells = mc) (hrs : rm.slots = ms) (hfr : rm.frames + 1 ≤ R.frames) (hlo : 8 + (maxL + 11) + rm.locals ≤ R.locals)
    (hws : ∀ w ∈ ws, w.before (#[] : Array Value) T = true → True) (hall : ∀ (a : Array Value), ∀ w ∈ ws, w.before a T = true) {g : JFrame} (hg : g.method = m) (hsize : g.locals.size = c.maxLocals) (hW : 2 * g.monitorRoom + (g.stack.map fun v => v.category).sum ≤ 8) {ig : Instr} (hdg : decode c.code g.pc = .ok (ig, 3))
    {mk : MethodId} {a : Array Value} (hn : T.methodNamed? y = some mk) (hcode : (Cond.code y bytes maxL ret).before a T = true) (hini : (Cond.initialized y.cls).before a T = true) (hpc : Pc a T) (hf : cells + mc ≤ R.cells ∧ slots + ms ≤ R.slots) :
    (∃ (v : Option Value) (t T' : State) (L : List Loc), Stand p l e R s m args below meth c T' (locs ++ L) (cells + mc) (slots + ms) ∧ (∀ q ∈ L, free q.base) ∧ T'.heap = t.heap ∧ T'.vm = t.vm ∧ Qc a (T.calling g mk a) (.returned v) t ∧ Steps p.tables e below (doInvoke e (T.setTop g) [] mk a).1 (T'.setTop { g with pc := g.pc + 3, stack := v.toList ++ g.stack })) ∨
    (∃ (q : Addr) (E : String) (ce : Cell) (T' : State), PX E ∧ T'.heap[q]? = some ce ∧ ce.vm = .none ∧ T.vm.findClass E = some ce.cls ∧ T.heap.size ≤ T'.heap.size ∧ (∀ x : Nat, x < T.heap.size → T'.heap[x]? = T.heap[x]?) ∧ Stand p l e R s m args below meth c T' locs (cells + mc) (slots + ms) ∧
      Steps p.tables e below (doInvoke e (T.setTop g) [] mk a).1 ((T'.setTop g).pushFrame (.throwing q))) := by
  obtain ⟨methY, cY, hmY, hcY, -, hlY, -, -, -, -⟩ := Cond.code_spec hn hcode
  obtain ⟨kY, hkY, -⟩ := className_of_methodNamed hn
  have hinitY : kY.init = .initialized := Cond.initialized_spec (findClass_of_methodNamed hn) hkY hini
  have h : At T g.method c below := by rw [hg]; exact X.here
  have happ : (headSpec ws rm).appliesLoose y e.platform (T.calling g mk a) = true :=
    Spec.appliesLoose_calling (g := g) h hdg hn hkY hinitY
      (X.room_calling (g := g) (R' := rm) hsize hmY hcY hfr (by rw [hlY]; omega) (by rw [hrc]; exact hf.1) (by rw [hrs]; exact hf.2)) (atoms_intro fun w hw => hall a w hw)
  obtain ⟨mid, hmid⟩ := h.above
  have hfr2 : (T.setTop g).frames = (.java g :: mid) ++ below := by rw [State.frames_setTop' g h.top, hmid]; rfl
  obtain ⟨o, s₂, hsteps, -, hend, hq⟩ := Steps.callFree hM p X.admits X.cas X.clock (acts := []) hfr2 happ (hbl _ _ g mk hpc) trivial
  rw [State.frames_setTop' g h.top, X.tail] at hend
  rcases hq with ⟨hq, L, ⟨⟨v, rfl⟩, hW2, hsame⟩, hL⟩ | ⟨q, E, ce, rfl, hpx, hcell, hv, hcl, hW2, hsame⟩
  · left
    obtain ⟨T', X', hw', hsm, e1⟩ := X.outOf hg hdg hend hW2 hsame
    refine ⟨v, s₂, T', L, X', hL, by rw [e1]; rfl, by rw [e1]; rfl, hq, by rw [← e1]; exact hsteps⟩
  · right
    obtain ⟨T', X', hw', hsm, e1⟩ := X.outOfThrown hg hend hW2 hsame
    have hfm := tx_frame hsm
    rw [List.append_nil] at X'
    refine ⟨q, E, ce, T', hpx, by rw [e1] at hcell; exact hcell, hv, hcl, hfm.1, hfm.2, X', by rw [← e1]; exact hsteps⟩
end TX
section TXC
variable {p : Program} {l : Launch} {e : Env} {R : Room} {s : State} {m : MethodId} {args : Array Value} {below : List Frame} {meth : Method} {c : Code} {H : Heap} {locs : List Loc} {cells slots : Nat} {Q : State → Prop}
variable {D : va_G} {cI cZ cL : ClassId} {own : String} {cc : ByteArray} {nL : Nat} {ret : Option FieldType} {A : Nat → Prop} {pc : Nat} {ls : Array Slot} {st rest : List Value}
variable {z : MethodName} {cz : ByteArray} {nz : Nat} {rz : Option FieldType} {rmz : Room} {As : List Value} {b : Nat} {wc : va_W} {Qc : Array Value → State → Outcome → State → Prop} {PX : String → Prop} {mc ms idx n : Nat} {free : Addr → Prop} {Pc : Array Value → State → Prop}
theorem tx_xV {C : String} {ci : Nat} {fs : List Value} {T : u_T} {N : Nat} (cx : CX p s m args meth c D cI cZ cL own cc nL ret) (hM : tx_Met l z (Cond.code z cz nz rz :: AW) rmz Pc Qc PX mc ms free) (hbl : FrameBlind Pc) (hpc : ∀ U : State, U.heap = H → s.WarmedH U.vm → Pc (Value.ref b :: As).toArray U) (hk : VW own idx C z cz nz rz) (hd : MD z n) (hR : rmz.cells = mc ∧ rmz.slots = ms ∧ rmz.frames + 1 ≤ R.frames ∧ 8 + (nz + 11) + rmz.locals ≤ R.locals)
    (hP : va_P D CL wc H) (q0 : Nat) (he : wc[q0]? = some (b, .inr (ci, fs))) (hc : CL[ci]? = some (C, T, N)) (hn : As.length = n) (hsz : ls.size = nL) (hrest : (rest.map fun v => v.category).sum ≤ 8) (hdg : decode cc pc = .ok (.invokevirtual idx, 3)) (hf : cells + mc ≤ R.cells ∧ slots + ms ≤ R.slots) (hst : st = As.reverse ++ .ref b :: rest) :
    tx_Run p l e R s m args below meth c H locs cells slots mc ms (F0 m pc ls st) rest (Qc (Value.ref b :: As).toArray) PX free := by
  obtain ⟨hx, hb, hml, hrt, hown, hta, hlk, hK, hN⟩ := cx
  obtain ⟨k1, k2, k3, k4, k5⟩ := hk
  obtain ⟨cellB, hcB, hoB, hclB⟩ := va_recv hK hP hc he
  obtain ⟨mk, methM, hnamed, hmethM, hstM, habM⟩ := Cond.instanceMethod_spec (hta _ k2)
  obtain ⟨methM', cM, hmethM', -, -, -, -, -, -, hsigM⟩ := Cond.code_spec hnamed (hta _ k5)
  cases hmethM.symm.trans hmethM'
  obtain ⟨c2, r2, m2, q1, q2, q3, q4, kP, hkP, hkPi⟩ := Cond.selects_spec (hta _ k3)
  cases hclB.symm.trans q1
  cases (State.methodFound?_of_named hnamed ⟨hd.1, hd.2.1⟩).symm.trans q2
  cases hnamed.symm.trans q3
  intro T0 hT X
  have hselP : selectMethod e.platform s.vm cellB.cls mk = .method mk := by rw [Launch.admits_selectMethod X.admits]; exact q4
  have hlen : As.length = methM.sig.parameters.length := by
    have h2 := hd.2.2
    rw [hsigM] at h2
    exact hn.trans (Option.some.inj h2).symm
  obtain ⟨vm₁, X₁, hstep₁⟩ := X.invokevirtual hx hown (hta _ k1) hnamed hmethM hstM hkP hkPi ⟨hd.1, hd.2.1⟩ (a := b) (cell := cellB) (by rw [hT]; exact hcB)
    (fun z h => by rw [h] at hoB; cases hoB) hselP hmethM habM hkP hkPi (g := F0 m pc ls st) rfl (argsL := As) (rest := rest) hlen hst (by rw [hb]; exact hdg)
  have hpay := pay_in hta (aw_in k5)
  rcases tx_into (T := T0.setVm vm₁) X₁ (bytes := cz) (maxL := nz) (ret := rz) hM hbl hR.1 hR.2.1 hR.2.2.1 hR.2.2.2 (fun _ _ _ => trivial) (fun a w hw => hpay w hw a (T0.setVm vm₁) X₁.warmed) (g := F0 m pc ls rest) rfl (hsz.trans hml.symm) (lv_room hrest) (by rw [hb]; exact hdg) (X₁.named hnamed) (hpay _ List.mem_cons_self _ _ X₁.warmed) (hpay _ (List.mem_cons_of_mem _ k4) _ _ X₁.warmed) (hpc (T0.setVm vm₁) hT X₁.warmed) hf with ⟨v, t, T', L, X', hL, e1, e2, hq, hsteps⟩ | ⟨q, E, ce, T', hpx, hcell, hv, hcl, hz, hkp, X', hsteps⟩
  · left
    exact ⟨v, (T0.setVm vm₁).calling (F0 m pc ls rest) mk (Value.ref b :: As).toArray, t, T', L, hT, X', hL, e1, e2, hq, fun tg h => hstep₁ _ fun acts => by rw [doInvoke_state]; exact hsteps.trans h⟩
  · right
    refine ⟨q, E, ce, T', hpx, hcell, hv, ?_, by rw [← hT]; exact hz, by rw [← hT]; exact hkp, X', fun tg h => hstep₁ _ fun acts => by rw [doInvoke_state]; exact hsteps.trans h⟩
    have h9 : (T0.setVm vm₁).vm.findClass E = some ce.cls := hcl
    rw [X₁.warmed.alike.findClass] at h9
    exact h9
theorem tx_xS (cx : CX p s m args meth c D cI cZ cL own cc nL ret) (hM : tx_Met l z (Cond.code z cz nz rz :: AW) rmz Pc Qc PX mc ms free) (hbl : FrameBlind Pc) (hpc : ∀ U : State, U.heap = H → s.WarmedH U.vm → Pc As.toArray U) (hk : SW own idx z cz nz rz) (hd : MD z n) (hR : rmz.cells = mc ∧ rmz.slots = ms ∧ rmz.frames + 1 ≤ R.frames ∧ 8 + (nz + 11) + rmz.locals ≤ R.locals)
    (hn : As.length = n) (hsz : ls.size = nL) (hrest : (rest.map fun v => v.category).sum ≤ 8) (hdg : decode cc pc = .ok (.invokestatic idx, 3)) (hf : cells + mc ≤ R.cells ∧ slots + ms ≤ R.slots) (hst : st = As.reverse ++ rest) :
    tx_Run p l e R s m args below meth c H locs cells slots mc ms (F0 m pc ls st) rest (Qc As.toArray) PX free := by
  obtain ⟨hx, hb, hml, hrt, hown, hta, hlk, hK, hN⟩ := cx
  obtain ⟨k1, k2, k3, k4⟩ := hk
  obtain ⟨mk, hnamed⟩ := Cond.code_named (hta _ k4)
  obtain ⟨methM, cM, hmethM, -, -, -, -, -, -, hsigM⟩ := Cond.code_spec hnamed (hta _ k4)
  have hstatic : methM.isStatic = true := Cond.static_spec hnamed hmethM (hta _ k2)
  obtain ⟨kP, hkP, -⟩ := className_of_methodNamed hnamed
  have hinitP : kP.init = .initialized := Cond.initialized_spec (findClass_of_methodNamed hnamed) hkP (hta _ k3)
  intro T0 hT X
  have hlen : As.length = methM.sig.parameters.length := by
    have h2 := hd.2.2
    rw [hsigM] at h2
    exact hn.trans (Option.some.inj h2).symm
  obtain ⟨vm₁, X₁, hstep₁⟩ := X.invokestatic hx hown (hta _ k1) hnamed hmethM hstatic hkP hinitP ⟨hd.1, hd.2.1⟩ (g := F0 m pc ls st) rfl (argsL := As) (rest := rest) hlen hst (by rw [hb]; exact hdg)
  have hpay := pay_in hta (aw_in k4)
  rcases tx_into (T := T0.setVm vm₁) X₁ (bytes := cz) (maxL := nz) (ret := rz) hM hbl hR.1 hR.2.1 hR.2.2.1 hR.2.2.2 (fun _ _ _ => trivial) (fun a w hw => hpay w hw a (T0.setVm vm₁) X₁.warmed) (g := F0 m pc ls rest) rfl (hsz.trans hml.symm) (lv_room hrest) (by rw [hb]; exact hdg) (X₁.named hnamed) (hpay _ List.mem_cons_self _ _ X₁.warmed) (hpay _ (List.mem_cons_of_mem _ k3) _ _ X₁.warmed) (hpc (T0.setVm vm₁) hT X₁.warmed) hf with ⟨v, t, T', L, X', hL, e1, e2, hq, hsteps⟩ | ⟨q, E, ce, T', hpx, hcell, hv, hcl, hz, hkp, X', hsteps⟩
  · left
    exact ⟨v, (T0.setVm vm₁).calling (F0 m pc ls rest) mk As.toArray, t, T', L, hT, X', hL, e1, e2, hq, fun tg h => hstep₁ _ fun acts => by rw [doInvoke_state]; exact hsteps.trans h⟩
  · right
    refine ⟨q, E, ce, T', hpx, hcell, hv, ?_, by rw [← hT]; exact hz, by rw [← hT]; exact hkp, X', fun tg h => hstep₁ _ fun acts => by rw [doInvoke_state]; exact hsteps.trans h⟩
    have h9 : (T0.setVm vm₁).vm.findClass E = some ce.cls := hcl
    rw [X₁.warmed.alike.findClass] at h9
    exact h9
/-- behind such a call that returns nothing and only reads -/
theorem tx_goR {post : Prop} {a : Array Value} (hr : tx_Run p l e R s m args below meth c H locs cells slots mc ms (F0 m pc ls st) rest (va_Sv (fun _ => post) a) PX (fun _ => False))
    (kk : post → W p l e R s m args below meth c H locs (cells + mc) (slots + ms) Q (F0 m (pc + 3) ls rest))
    (kx : ∀ (q : Addr) (E : String) (ce : Cell) (H1 : Heap), PX E → H1[q]? = some ce → ce.vm = .none → s.vm.findClass E = some ce.cls → H.size ≤ H1.size → (∀ x : Nat, x < H.size → H1[x]? = H[x]?) → TW p l e R s m args below meth c H1 locs (cells + mc) (slots + ms) Q (F0 m pc ls rest) q) : W p l e R s m args below meth c H locs cells slots Q (F0 m pc ls st) := by
  intro T hT X
  rcases hr T hT X with ⟨v, st₀, t, T', L, h0, X', hL, e1, e2, ⟨hv, hp, hh⟩, sg⟩ | ⟨q, E, ce, T', hpx, hcell, hv, hcl, hz, hkp, X', sg⟩
  · cases hv
    obtain ⟨t2, a1, b1⟩ := kk hp T' (by rw [e1, hh, h0]) (Stand.forget X' (fun q h => (hL q h).elim))
    exact ⟨t2, sg t2 a1, b1⟩
  · obtain ⟨t2, a1, b1⟩ := kx q E ce T'.heap hpx hcell hv hcl hz hkp T' rfl X'
    exact ⟨t2, sg t2 a1, b1⟩
end TXC
/-! A THROW OF ITS OWN: new E(text); the words that it needs. Own work. -/
abbrev E_ix : String := "java/lang/IndexOutOfBoundsException"
abbrev E_ia : String := "java/lang/IllegalArgumentException"
abbrev E_un : String := "java/lang/UnsupportedOperationException"
abbrev E_up : List String := ["java/lang/RuntimeException", "java/lang/Exception"]
/-- the words that a throw needs and that AW hasn't -/
def XW : List Cond := [.laysStatic Bundle.tN "UNASSIGNED_STACK" Bundle.steD, .laysStatic Bundle.tN "SUPPRESSED_SENTINEL" Bundle.listD, .isRef (.static Bundle.tN "UNASSIGNED_STACK" Bundle.steD), .isRef (.static Bundle.tN "SUPPRESSED_SENTINEL" Bundle.listD),
  .castable E_ix E_ix, .castable E_ia E_ia, .castable E_un E_un, .declares (Bundle.initS "java/lang/RuntimeException"), .declares (Bundle.initS "java/lang/Exception"), .declares (Bundle.initS Bundle.tN)]
/-- they hold, and go on holding where the cells outside of A stay; and the texts are there -/
def AM (A : Nat → Prop) (U : State) (H : Heap) : Prop := (∀ V : State, U.WarmedH V.vm → (∀ q : Nat, q < H.size → ¬ A q → V.heap[q]? = H[q]?) → ∀ w ∈ XW, ∀ a : Array Value, w.before a V = true) ∧ ∀ q ∈ STRS, ∃ a, vk_R R_DF q.1 q.2 a U
theorem AM.sub {A B : Nat → Prop} {s U : State} {H : Heap} {locs : List Loc} (h : AM A s s.heap) (hS : va_S A s.heap H locs) (hB : ∀ q, B q → A q) (hU : U.heap = H) (hW : s.WarmedH U.vm) : AM B U U.heap := by
  refine ⟨fun V hV hk w hw a => h.1 V (State.WarmedH.trans hW hV) (fun q h1 h2 => ?_) w hw a, fun q hq => ?_⟩
  · rw [hk q (by rw [hU]; exact Nat.lt_of_lt_of_le h1 hS.1) (fun z => h2 (hB q z)), hU]
    exact hS.2.1 q h1 h2
  · obtain ⟨a, ha⟩ := h.2 q hq
    exact ⟨a, vk_R.warm hW ha⟩
def STX (D : va_G) (cI cZ cL : ClassId) (ws : va_W) (sz : Nat) (U : State) : Prop := ST D cI cZ cL ws sz U ∧ AM (va_A ws sz) U U.heap
theorem STX.blind {D : va_G} {cI cZ cL : ClassId} {ws : va_W} {sz : Nat} {av : List Value} : FrameBlind (va_Pc av (STX D cI cZ cL ws sz)) := by
  intro a U g mk q
  obtain ⟨q0, q1, q2, q3⟩ := q
  refine ⟨q0, (ST.blind (av := av) a U g mk ⟨q0, q1⟩).2, fun V hV hk => q2 V hV hk, fun z hz => ?_⟩
  obtain ⟨b, hb⟩ := q3 z hz
  exact ⟨b, vk_R.same (u := U) rfl hb⟩
theorem STX.pre {D : va_G} {cI cZ cL : ClassId} {wc : va_W} {H : Heap} {s : State} {A B : Nat → Prop} {av : List Value} {locs : List Loc} (hP : va_P D CL wc H) (hK : va_K D CL (TY cI cZ cL) s) (hD : va_D B wc) (hN : NW s) (hM : AM A s s.heap) (hS : va_S A s.heap H locs) (hF : ∀ q, va_A wc H.size q → A q) : ∀ U : State, U.heap = H → s.WarmedH U.vm → va_Pc av (STX D cI cZ cL wc H.size) av.toArray U := by
  intro U hU hW
  exact ⟨rfl, (ST.pre (av := av) hP hK hD hN U hU hW).2, hM.sub hS hF hU hW⟩
theorem tx_ofM {l : Launch} {y : MethodName} {own : String} {cc : ByteArray} {nL : Nat} {ret : Option FieldType} {rm : Room} {D : va_G} {cI cZ cL : ClassId} {ws : va_W} {sz : Nat} {av : List Value} {mc ms : Nat} {PX : String → Prop} (Qc : (Nat → Prop) → Array Value → State → Outcome → State → Prop)
    (hy : plainName y.cls = true) (ho : y.cls = own) (hlen : (lg_sl av).length ≤ nL)
    (body : ∀ (p : Program) (e : Env) (s : State) (m : MethodId) (args : Array Value) (below : List Frame) (meth : Method) (c : Code) (A : Nat → Prop) (ls : Array Slot) (Q : State → Prop), CX p s m args meth c D cI cZ cL own cc nL ret → c.exceptionTable.toList = [] → Q = tx_MQ below (Qc A) PX args s mc ms A → AM A s s.heap → (∀ q, s.heap.size ≤ q → A q) → lv_has ls nL (lv_args 0 av) → va_P D CL ws s.heap → va_D A ws → va_S A s.heap s.heap [] →
      W p l e rm s m args below meth c s.heap [] 0 0 Q (F0 m 0 ls [])) :
    tx_Met l y (Cond.code y cc nL ret :: AW) rm (va_Pc av (STX D cI cZ cL ws sz)) (Qc (va_A ws sz)) PX mc ms (va_A ws sz) := by
  refine MetFree.of_bodyS (code := cc) (maxLocals := nL) (ret := ret) hy ?_ ?_
  · intro args s m h hn
    obtain ⟨meth, c, h1, h2, h3, h4, h5, h6, -, -⟩ := Cond.code_spec hn (atoms_spec (ws := Cond.code y cc nL ret :: AW) h _ List.mem_cons_self)
    exact ⟨meth, c, h1, h2, h3, h4, h5, h6⟩
  · intro p e s m args below meth c s₁ B hml hv _
    obtain ⟨rfl, ⟨hsz, hP, hK, hD0, hN⟩, hM⟩ := hv
    have hts := atoms_spec (ws := Cond.code y cc nL ret :: AW) B.pre
    have hown : s.vm.findClass own = some m.cls := by rw [← ho]; exact findClass_of_methodNamed B.named
    have hno : c.exceptionTable.toList = [] := by
      have h9 := B.noHandlers (hts _ List.mem_cons_self)
      simpa using h9
    subst hsz
    have hl := lv_entry av (n := nL) hlen
    have hh0 : s₁.heap = s.heap := by rw [B.state]; rfl
    have k := body p e s m _ below meth c (va_A ws s.heap.size) _ _ ⟨B.exec, B.bytes, hml, B.returns, hown, fun w h => hts w (List.mem_cons_of_mem _ h), B.notSynchronized, hK, hN⟩ hno rfl hM (fun q h => Or.inr h) hl hP (hD0.self) va_S.rf
    rw [← lg_entry_eq] at k
    obtain ⟨t, a1, o, b1, b2, b3⟩ := k s₁ hh0 (Stand.of_body B)
    exact ⟨t, o, a1, b1, b2, b3⟩
theorem tx_ofR {l : Launch} {y : MethodName} {own : String} {cc : ByteArray} {nL : Nat} {ret : Option FieldType} {rm : Room} {D : va_G} {cI cZ cL : ClassId} {ws : va_W} {sz : Nat} {av : List Value} {mc ms : Nat} {PX : String → Prop} (Qc : Array Value → State → Outcome → State → Prop)
    (hy : plainName y.cls = true) (ho : y.cls = own) (hlen : (lg_sl av).length ≤ nL)
    (body : ∀ (p : Program) (e : Env) (s : State) (m : MethodId) (args : Array Value) (below : List Frame) (meth : Method) (c : Code) (A : Nat → Prop) (ls : Array Slot) (Q : State → Prop), CX p s m args meth c D cI cZ cL own cc nL ret → c.exceptionTable.toList = [] → Q = tx_MQ below Qc PX args s mc ms (fun _ => False) → AM A s s.heap → lv_has ls nL (lv_args 0 av) → va_P D CL ws s.heap → va_D A ws →
      W p l e rm s m args below meth c s.heap [] 0 0 Q (F0 m 0 ls [])) :
    tx_Met l y (Cond.code y cc nL ret :: AW) rm (va_Pc av (STX D cI cZ cL ws sz)) Qc PX mc ms (fun _ => False) := by
  refine MetFree.of_bodyS (code := cc) (maxLocals := nL) (ret := ret) hy ?_ ?_
  · intro args s m h hn
    obtain ⟨meth, c, h1, h2, h3, h4, h5, h6, -, -⟩ := Cond.code_spec hn (atoms_spec (ws := Cond.code y cc nL ret :: AW) h _ List.mem_cons_self)
    exact ⟨meth, c, h1, h2, h3, h4, h5, h6⟩
  · intro p e s m args below meth c s₁ B hml hv _
    obtain ⟨rfl, ⟨hsz, hP, hK, hD0, hN⟩, hM⟩ := hv
    have hts := atoms_spec (ws := Cond.code y cc nL ret :: AW) B.pre
    have hown : s.vm.findClass own = some m.cls := by rw [← ho]; exact findClass_of_methodNamed B.named
    have hno : c.exceptionTable.toList = [] := by
      have h9 := B.noHandlers (hts _ List.mem_cons_self)
      simpa using h9
    subst hsz
    have hl := lv_entry av (n := nL) hlen
    have hh0 : s₁.heap = s.heap := by rw [B.state]; rfl
    have k := body p e s m _ below meth c (va_A ws s.heap.size) _ _ ⟨B.exec, B.bytes, hml, B.returns, hown, fun w h => hts w (List.mem_cons_of_mem _ h), B.notSynchronized, hK, hN⟩ hno rfl hM hl hP (hD0.self)
    rw [← lg_entry_eq] at k
    obtain ⟨t, a1, o, b1, b2, b3⟩ := k s₁ hh0 (Stand.of_body B)
    exact ⟨t, o, a1, b1, b2, b3⟩
section TXE
variable {p : Program} {l : Launch} {e : Env} {R : Room} {s : State} {m : MethodId} {args : Array Value} {below : List Frame} {meth : Method} {c : Code} {H : Heap} {locs : List Loc} {cells slots : Nat} {Q : State → Prop}
variable {D : va_G} {cI cZ cL : ClassId} {own : String} {cc : ByteArray} {nL : Nat} {ret : Option FieldType} {A : Nat → Prop} {pc : Nat} {ls : Array Slot} {PX : String → Prop} {mc ms : Nat}
theorem retIx {S : Type} {post : Int32 → S → Prop} {Wf : S → va_W} (cx : CX p s m args meth c D cI cZ cL own cc nL (some .int)) (hQ : Q = tx_MQ below (va_Qi post (fun u t => EN D (Wf u) A t) A) PX args s cells slots A) (hdg : decode cc pc = .ok (.ireturn, 1)) {r : Int32} (u : S) (hw : post r u) (hP : va_P D CL (Wf u) H) (hD : va_D A (Wf u)) (hS : va_S A s.heap H locs) : W p l e R s m args below meth c H locs cells slots Q (F0 m pc ls [.int r]) := by
  subst hQ
  exact tx_ret (retI cx rfl hdg u hw hP hD hS)
theorem retZx {S : Type} {post : Int32 → S → Prop} {Wf : S → va_W} (cx : CX p s m args meth c D cI cZ cL own cc nL (some .boolean)) (hQ : Q = tx_MQ below (va_Qi post (fun u t => EN D (Wf u) A t) A) PX args s cells slots A) (hdg : decode cc pc = .ok (.ireturn, 1)) {r : Int32} (u : S) (hw : narrow .boolean (.int r) = .int r ∧ post r u) (hP : va_P D CL (Wf u) H) (hD : va_D A (Wf u)) (hS : va_S A s.heap H locs) : W p l e R s m args below meth c H locs cells slots Q (F0 m pc ls [.int r]) := by
  subst hQ
  exact tx_ret (retZ cx rfl hdg u hw hP hD hS)
theorem retVx {post : Prop} (cx : CX p s m args meth c D cI cZ cL own cc nL none) (hQ : Q = tx_MQ below (va_Sv (fun _ => post)) PX args s mc ms (fun _ => False)) (hdg : decode cc pc = .ok (.return_, 1)) (h1 : cells ≤ mc) (h2 : slots ≤ ms) (hw : post) : W p l e R s m args below meth c s.heap [] cells slots Q (F0 m pc ls []) := by
  subst hQ
  obtain ⟨hx, hb, hml, hrt, hown, hta, hlk, hK, hN⟩ := cx
  refine W.widen h1 h2 (tx_ret ?_)
  exact W.vret hx hb hrt (fun t ht hW => ⟨rfl, hw, ht⟩) (fun q h => by cases h) hdg hlk
/-- the words of a throw: the class, the text, and the constructor's -/
abbrev XWS (own : String) (ik is ic : Nat) (E tx : String) : Prop := Cond.classLink own ik E ∈ AW ∧ Cond.initialized E ∈ AW ∧ Cond.instantiable E 6 ∈ AW ∧ (is, tx) ∈ STRS ∧ own = R_DF ∧ Bundle.fit E = true ∧ ∀ w ∈ Bundle.ownAtoms own ic E E_up, w ∈ AW ∨ w ∈ XW
theorem tx_throw {Qc : Array Value → State → Outcome → State → Prop} {free : Addr → Prop} {ik is ic : Nat} {E tx : String} {rest : List Value} (cx : CX p s m args meth c D cI cZ cL own cc nL ret) (htr : l.stackTraces = false) (hno : c.exceptionTable.toList = []) (hQ : Q = tx_MQ below Qc PX args s mc ms free) (hM : AM A s s.heap) (hk : XWS own ik is ic E tx) (hsz : ls.size = nL)
    (d0 : decode cc pc = .ok (.new ik, 3)) (d3 : decode cc (pc + 3) = .ok (.dup, 1)) (d4 : decode cc (pc + 4) = .ok (.ldc is, 2)) (d6 : decode cc (pc + 6) = .ok (.invokespecial ic, 3)) (d9 : decode cc (pc + 9) = .ok (.athrow, 1))
    (r1 : 5 < R.frames) (r2 : (rest.map fun v => v.category).sum + 100 ≤ R.locals) (r3 : cells + 1 ≤ R.cells) (r4 : slots + 6 ≤ R.slots) (h1 : cells + 1 ≤ mc) (h2 : slots + 6 ≤ ms) (hw : PX E) : W p l e R s m args below meth c s.heap [] cells slots Q (F0 m pc ls rest) := by
  subst hQ
  obtain ⟨hx, hb, hml, hrt, hown, hta, hlk, hK, hN⟩ := cx
  obtain ⟨k1, k2, k3, k4, k5, k6, k7⟩ := hk
  obtain ⟨sa, hstr⟩ := hM.2 _ k4
  rw [← k5] at hstr
  have hat : ∀ w ∈ Bundle.ownAtoms own ic E E_up, w.before args s = true := fun w hw9 => (k7 w hw9).elim (fun h => hta w h) (fun h => hM.1 s (State.WarmedH.refl s) (fun _ _ _ => rfl) w h args)
  obtain ⟨cE, kX, hcE, hkX, -⟩ := Cond.instantiable_spec (hta _ k3)
  refine W.newcK hx hb hown (hta _ k1) (hta _ k3) (hta _ k2) (g := F0 m pc ls rest) rfl d0 r3 r4 hcE rfl (fun H1 kC hkC e1 z1 o1 => ?_)
  refine W.eq (g2 := F0 m (pc + 3) ls (.ref s.heap.size :: rest)) rfl ?_
  refine lv_dup hx hb d3 rfl ?_
  refine va_ldcS hx hb hown hstr d4 ?_
  intro T hT X
  have htr2 : e.platform.stackTraces = false := (show e.platform.stackTraces = l.stackTraces by rw [X.admits.platform]).trans htr
  obtain ⟨U, st1, u1, u2, u3, u4, ce, u5, OC⟩ := X.ctorThrowS hx htr2 (own := own) (cls := E) (names := E_up) (ic := ic) hown k6 (by decide) hat (fun x hx9 => by cases hx9) hcE hkC (a := s.heap.size) (by rw [hT]; exact e1) (Nat.le_refl _) (msg := .ref sa) rfl (g := F0 m (pc + 3 + 1 + 2) ls (.ref sa :: .ref s.heap.size :: .ref s.heap.size :: rest)) rfl (hsz.trans hml.symm) rfl rfl (rest := rest) rfl (by rw [hb]; exact d6) (by rw [hb]; exact d9) (by rw [hno]; intro x hx9; cases hx9) (by show 2 + 3 < R.frames; omega) (by show 2 * 0 + _ + (13 * (2 + 1) + 42) ≤ R.locals; rw [List.map_cons, List.sum_cons]; have h9 : (Value.ref s.heap.size).category = 1 := rfl; rw [h9]; omega) hlk
  exact ⟨U, st1, .threw _, u1, u2, Or.inr ⟨_, E, ce, rfl, hw, u5, OC.vm, OC.cls, u3, u4.mono h1 h2⟩⟩
end TXE
def oa_ok (w : Cond) (i : Option Nat) : Bool := match i with
  | some k => decide (lw_tbl[k]? = some w) && aw_ok w
  | none => decide (w ∈ XW)
theorem oa_all : ∀ {L : List Cond} {ps : List (Option Nat)}, L.length = ps.length → (L.zip ps).all (fun q => oa_ok q.1 q.2) = true → ∀ w ∈ L, w ∈ AW ∨ w ∈ XW
  | [], _, _, _, w, hw => by cases hw
  | x :: L, [], hl, _, w, hw => by simp at hl
  | x :: L, i :: ps, hl, h, w, hw => by
    simp only [List.zip_cons_cons, List.all_cons, Bool.and_eq_true] at h
    rcases List.mem_cons.mp hw with rfl | hw
    · cases i with
      | none => exact Or.inr (of_decide_eq_true h.1)
      | some k =>
        have h9 := h.1
        simp only [oa_ok, Bool.and_eq_true, decide_eq_true_eq] at h9
        exact Or.inl (aw_mem (List.mem_of_getElem? h9.1) h9.2)
    · exact oa_all (by simpa using hl) h.2 w hw
