/-! THE LAW'S HELPERS: methods with handlers; calls of methods that change cells or throw. Own work. -/
def NC (U : State) : Prop := va_Nc E_ia E_ix U ∧ va_Nc E_un E_ia U
theorem NC.moved {u U : State} (h : u.vm.Alike U.vm) (n : NC u) : NC U := ⟨va_Nc.moved h n.1, va_Nc.moved h n.2⟩
def STL (D : va_G) (cI cZ cL : ClassId) (ws : va_W) (sz : Nat) (U : State) : Prop := STX D cI cZ cL ws sz U ∧ NC U
theorem STL.blind {D : va_G} {cI cZ cL : ClassId} {ws : va_W} {sz : Nat} {av : List Value} : FrameBlind (va_Pc av (STL D cI cZ cL ws sz)) := by
  intro a U g mk q
  exact ⟨q.1, (STX.blind (av := av) a U g mk ⟨q.1, q.2.1⟩).2, NC.moved (u := U) (Vm.Alike.refl U.vm) q.2.2⟩
theorem STL.pre {D : va_G} {cI cZ cL : ClassId} {wc : va_W} {H : Heap} {s : State} {A B : Nat → Prop} {av : List Value} {locs : List Loc} (hP : va_P D CL wc H) (hK : va_K D CL (TY cI cZ cL) s) (hD : va_D B wc) (hN : NW s) (hM : AM A s s.heap) (hS : va_S A s.heap H locs) (hF : ∀ q, va_A wc H.size q → A q) (hC : NC s) : ∀ U : State, U.heap = H → s.WarmedH U.vm → va_Pc av (STL D cI cZ cL wc H.size) av.toArray U := by
  intro U hU hW
  exact ⟨rfl, (STX.pre (av := av) hP hK hD hN hM hS hF U hU hW).2, hC.moved hW.alike⟩
/-- a method with handlers -/
theorem ofH {l : Launch} {y : MethodName} {own : String} {cc : ByteArray} {nL : Nat} {ret : Option FieldType} {hh : List (Nat × Nat × Nat × Nat)} {rm : Room} {D : va_G} {cI cZ cL : ClassId} {ws : va_W} {sz : Nat} {av : List Value} {mc ms : Nat} (Qc : (Nat → Prop) → Array Value → State → Outcome → State → Prop)
    (hy : plainName y.cls = true) (ho : y.cls = own) (hlen : (lg_sl av).length ≤ nL)
    (body : ∀ (p : Program) (e : Env) (s : State) (m : MethodId) (args : Array Value) (below : List Frame) (meth : Method) (c : Code) (A : Nat → Prop) (ls : Array Slot) (Q : State → Prop), CX p s m args meth c D cI cZ cL own cc nL ret → c.exceptionTable.toList = hh.map (fun q => ⟨q.1, q.2.1, q.2.2.1, q.2.2.2⟩) → Q = MQ below (Qc A) args s mc ms A → AM A s s.heap → NC s → (∀ q, s.heap.size ≤ q → A q) → lv_has ls nL (lv_args 0 av) → va_P D CL ws s.heap → va_D A ws → va_S A s.heap s.heap [] →
      W p l e rm s m args below meth c s.heap [] 0 0 Q (F0 m 0 ls [])) :
    Met l y (Cond.codeWith y cc nL ret hh :: AW) rm (va_Pc av (STL D cI cZ cL ws sz)) (Qc (va_A ws sz)) mc ms (va_A ws sz) := by
  refine va_MetW (cc := cc) (maxL := nL) (ret := ret) (hh := hh) hy rfl ?_
  intro p e s m args below meth c s₁ B hml hv
  obtain ⟨rfl, ⟨⟨hsz, hP, hK, hD0, hN⟩, hM⟩, hC⟩ := hv
  have hts := atoms_spec (ws := Cond.codeWith y cc nL ret hh :: AW) B.pre
  have hown : s.vm.findClass own = some m.cls := by rw [← ho]; exact findClass_of_methodNamed B.named
  have hno : c.exceptionTable.toList = hh.map (fun q => ⟨q.1, q.2.1, q.2.2.1, q.2.2.2⟩) := by
    obtain ⟨m9, meth9, c9, h1, h2, h3, -, -, h6, -⟩ := Cond.codeWith_spec (hts _ List.mem_cons_self)
    cases B.named.symm.trans h1
    cases B.method.symm.trans h2
    cases (Stand.of_body B).code.symm.trans h3
    rw [← h6, List.map_map]
    exact (List.map_id' _).symm
  subst hsz
  have hl := lv_entry av (n := nL) hlen
  rw [lg_entry_eq]
  exact body p e s m _ below meth c (va_A ws s.heap.size) _ _ ⟨B.exec, B.bytes, hml, B.returns, hown, fun w h => hts w (List.mem_cons_of_mem _ h), B.notSynchronized, hK, hN⟩ hno rfl hM hC (fun q h => Or.inr h) hl hP (hD0.self) va_S.rf
section HC
variable {p : Program} {l : Launch} {e : Env} {R : Room} {s : State} {m : MethodId} {args : Array Value} {below : List Frame} {meth : Method} {c : Code} {H : Heap} {locs : List Loc} {cells slots : Nat} {Q : State → Prop}
variable {D : va_G} {cI cZ cL : ClassId} {own : String} {cc : ByteArray} {nL : Nat} {ret : Option FieldType} {A : Nat → Prop} {pc : Nat} {ls : Array Slot} {st rest : List Value}
variable {z : MethodName} {cz : ByteArray} {nz : Nat} {rz : Option FieldType} {rmz : Room} {As : List Value} {wc : va_W} {Qc : Array Value → State → Outcome → State → Prop} {PX : String → Prop} {mc ms idx n : Nat} {free : Addr → Prop} {Pc : Array Value → State → Prop}
/-- the words of a call of a method with handlers -/
abbrev HW (own : String) (idx : Nat) (z : MethodName) (cz : ByteArray) (nz : Nat) (rz : Option FieldType) (hh : List (Nat × Nat × Nat × Nat)) : Prop := Cond.methodLink own idx z ∈ AW ∧ Cond.static z ∈ AW ∧ Cond.initialized z.cls ∈ AW ∧ Cond.codeWith z cz nz rz hh ∈ AW
theorem xH {hh : List (Nat × Nat × Nat × Nat)} (cx : CX p s m args meth c D cI cZ cL own cc nL ret) (hM : Met l z (Cond.codeWith z cz nz rz hh :: AW) rmz Pc Qc mc ms free) (hbl : FrameBlind Pc) (hpc : ∀ U : State, U.heap = H → s.WarmedH U.vm → Pc As.toArray U) (hk : HW own idx z cz nz rz hh) (hd : MD z n) (hR : rmz.cells = mc ∧ rmz.slots = ms ∧ rmz.frames + 1 ≤ R.frames ∧ 8 + (nz + 11) + rmz.locals ≤ R.locals)
    (hn : As.length = n) (hsz : ls.size = nL) (hrest : (rest.map fun v => v.category).sum ≤ 8) (hdg : decode cc pc = .ok (.invokestatic idx, 3)) (hf : cells + mc ≤ R.cells ∧ slots + ms ≤ R.slots) (hst : st = As.reverse ++ rest) :
    va_Run p l e R s m args below meth c H locs cells slots mc ms (F0 m pc ls st) rest (Qc As.toArray) free := by
  obtain ⟨hx, hb, hml, hrt, hown, hta, hlk, hK, hN⟩ := cx
  obtain ⟨k1, k2, k3, k4⟩ := hk
  have hpay := pay_in hta (aw_in k4)
  have hBk : Back l R p e below s args z 3 8 (PreOf R mc ms Pc) (PostOf Qc mc ms free) := va_backW (hh := hh) (bytes := cz) (maxL := nz) (ret := rz) hM hbl hR.1 hR.2.1 hR.2.2.1 hR.2.2.2 hpay List.mem_cons_self (fun a' U hW => hpay _ (List.mem_cons_of_mem _ k3) a' U hW)
  obtain ⟨mk, methM, cM, hnamed, hmethM, -, -, -, -, -, -, hsigM⟩ := Cond.codeWith_spec (hta _ k4)
  have hstatic : methM.isStatic = true := Cond.static_spec hnamed hmethM (hta _ k2)
  obtain ⟨kP, hkP, -⟩ := className_of_methodNamed hnamed
  have hinitP : kP.init = .initialized := Cond.initialized_spec (findClass_of_methodNamed hnamed) hkP (hta _ k3)
  have hlen : As.length = methM.sig.parameters.length := by
    have h2 := hd.2.2
    rw [hsigM] at h2
    exact hn.trans (Option.some.inj h2).symm
  intro T hT X
  obtain ⟨vm₁, X₁, hstep₁⟩ := X.invokestatic hx hown (hta _ k1) hnamed hmethM hstatic hkP hinitP ⟨hd.1, hd.2.1⟩ (g := F0 m pc ls st) rfl (argsL := As) (rest := rest) hlen hst (by rw [hb]; exact hdg)
  obtain ⟨v, ⟨U', l2, c2, s2⟩, X', ⟨g', mk9, t, L, e1, e2, hq, q1, hL, q2, q3⟩, hsteps⟩ := hBk m meth c ⟨T.setVm vm₁, locs, cells, slots⟩ (F0 m pc ls rest) (.invokestatic idx) mk As.toArray X₁ rfl (hsz.trans hml.symm) (by rw [hb]; exact hdg) (lv_room hrest) (X₁.named hnamed) ⟨hf.1, hf.2, hpc (T.setVm vm₁) hT X₁.warmed⟩
  dsimp only [Pt.U, Pt.locs, Pt.cells, Pt.slots] at X' e1 e2 q1 q2 q3 hsteps
  subst q1; subst q2; subst q3
  exact ⟨v, (T.setVm vm₁).calling g' mk9 As.toArray, t, U', L, hT, X', hL, e1, e2, hq, fun tg h => hstep₁ _ fun acts => by rw [doInvoke_state]; exact hsteps.trans h⟩
/-- behind a call that changed its cells, or threw and changed nothing -/
theorem tx_goI {S : Type} {post : Int32 → S → Prop} {Wf : S → va_W} {ws wr : va_W} {H0 : Heap} {a : Array Value} (hr : tx_Run p l e R s m args below meth c H locs cells slots mc ms (F0 m pc ls st) rest (va_Qi post (fun u t => EN D (Wf u) (va_A wc H.size) t) (va_A wc H.size) a) PX (va_A wc H.size))
    (hP : va_P D CL ws H) (hD : va_D A ws) (hS : va_S A H0 H locs) (hA : ∀ q, H0.size ≤ q → A q) (isC isR : List Nat) (hC : isC.map (fun i => ws[i]?) = wc.map some) (hR : isR.map (fun i => ws[i]?) = wr.map some) (hn : va_nd isR = true) (hdis : ∀ i ∈ isR, i ∉ isC)
    (kk : ∀ (r : Int32) (u : S) (H1 : Heap) (locs1 : List Loc), post r u → va_P D CL (wr ++ Wf u) H1 → va_D A (wr ++ Wf u) → va_S A H0 H1 locs1 → W p l e R s m args below meth c H1 locs1 (cells + mc) (slots + ms) Q (F0 m (pc + 3) ls (.int r :: rest)))
    (kx : ∀ (q : Addr) (E : String) (ce : Cell) (H1 : Heap), PX E → H1[q]? = some ce → ce.vm = .none → s.vm.findClass E = some ce.cls → va_P D CL ws H1 → va_S A H0 H1 locs → TW p l e R s m args below meth c H1 locs (cells + mc) (slots + ms) Q (F0 m pc ls rest) q) : W p l e R s m args below meth c H locs cells slots Q (F0 m pc ls st) := by
  have hF := va_free (wc := wc) hD hS hA isC hC
  intro T hT X
  rcases hr T hT X with ⟨v, st₀, t, T', L, h0, X', hL, e1, e2, ⟨⟨r, u, hv, hp, hP1, hD1⟩, hz, hk⟩, sg⟩ | ⟨q, E, ce, T', hpx, hcell, hv, hcl, hz, hkp, X', sg⟩
  · cases hv
    rw [h0] at hz hk
    have hk2 : ∀ q : Nat, q < H.size → ¬ va_A wc H.size q → T'.heap[q]? = H[q]? := fun q a1 a2 => by rw [e1]; exact hk q a1 a2
    obtain ⟨hP2, hD2⟩ := va_join hP hD isC isR hC hR hn hdis hk2 hF (by rw [e1]; exact hP1) hD1
    have hS2 : va_S A H0 T'.heap (locs ++ L) := ⟨Nat.le_trans hS.1 (by rw [e1]; exact hz), fun q a1 a2 => by rw [hk2 q (Nat.lt_of_lt_of_le a1 hS.1) (fun z => a2 (hF q z))]; exact hS.2.1 q a1 a2, fun q hq => by
      rcases List.mem_append.mp hq with h | h
      · exact hS.2.2 q h
      · exact hF _ (hL q h)⟩
    obtain ⟨t2, a1, b1⟩ := kk r u T'.heap (locs ++ L) hp hP2 hD2 hS2 T' rfl X'
    exact ⟨t2, sg t2 a1, b1⟩
  · have hP2 : va_P D CL ws T'.heap := hP.kept (fun k x hx => hkp x.1 ((hP k x hx).lt))
    have hS2 : va_S A H0 T'.heap locs := ⟨Nat.le_trans hS.1 hz, fun q a1 a2 => by rw [hkp q (Nat.lt_of_lt_of_le a1 hS.1)]; exact hS.2.1 q a1 a2, hS.2.2⟩
    obtain ⟨t2, a1, b1⟩ := kx q E ce T'.heap hpx hcell hv hcl hP2 hS2 T' rfl X'
    exact ⟨t2, sg t2 a1, b1⟩
end HC
