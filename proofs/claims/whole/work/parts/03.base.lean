/-! BASE: one list of words for all methods, one shape of a contract, rows for calls and ends. Own work over the kit's rows. -/
/-- words that a callee may ask of its caller -/
def aw_ok (w : Cond) : Bool := (w.onTables && w.keeps) || (match w with | .arrayClass _ => true | _ => false)
def AW : List Cond := lw_tbl.filter aw_ok
theorem aw_mem {w : Cond} (h : w ∈ lw_tbl) (g : aw_ok w = true) : w ∈ AW := List.mem_filter.mpr ⟨h, g⟩
theorem aw_sub {args : Array Value} {s : State} (h : ∀ w ∈ lw_tbl, w.before args s = true) : ∀ w ∈ AW, w.before args s = true := fun w hw => h w (List.mem_filter.mp hw).1
theorem aw_good {w : Cond} (h : w ∈ AW) : (w.onTables && w.keeps) = true ∨ ∃ ty, w = .arrayClass ty := by
  have g : aw_ok w = true := (List.mem_filter.mp h).2
  unfold aw_ok at g
  rcases (Bool.or_eq_true _ _).mp g with g | g
  · exact Or.inl g
  · right
    cases w <;> first | exact ⟨_, rfl⟩ | (exfalso; simp at g)
theorem aw_in {w0 : Cond} (h : w0 ∈ AW) : GoodIn AW (w0 :: AW) := by
  intro w hw
  rcases List.mem_cons.mp hw with rfl | hw
  · exact ⟨h, aw_good h⟩
  · exact ⟨hw, aw_good hw⟩
/-- links among nest mates -/
def nw_is (w : Cond) : Bool := match w with
  | .fieldLinkNest _ _ _ _ _ _ => true
  | .methodLinkNest _ _ _ _ => true
  | _ => false
def NW (U : State) : Prop := ∀ w ∈ lw_tbl, nw_is w = true → va_Nw w U
theorem NW.warm {s U : State} (hW : s.WarmedH U.vm) (h : NW s) : NW U := by
  intro w hw hn
  have hz := h w hw hn
  cases w <;> first | exact va_Nw.warmF hW hz | exact va_Nw.warmM hW hz | (exfalso; simp [nw_is] at hn)
theorem NW.same {s U : State} (hv : s.vm = U.vm) (h : NW s) : NW U := by
  intro w hw hn
  have hz := h w hw hn
  cases w <;> first | exact va_Nw.same rfl hv hz | (exfalso; simp [nw_is] at hn)
theorem NW.of {args : Array Value} {s : State} (h : ∀ w ∈ lw_tbl, w.before args s = true) : NW s := by
  intro w hw hn
  have hz := h w hw
  cases w <;> first | exact va_Nw.of rfl hz | (exfalso; simp [nw_is] at hn)
abbrev TY (cI cZ cL : ClassId) : List (ClassId × FieldType) := [(cI, .int), (cZ, .boolean), (cL, .long)]
/-- a method's start: its cells, the tables, the links -/
def ST (D : va_G) (cI cZ cL : ClassId) (ws : va_W) (sz : Nat) (U : State) : Prop := U.heap.size = sz ∧ va_P D CL ws U.heap ∧ va_K D CL (TY cI cZ cL) U ∧ va_D (fun _ => True) ws ∧ NW U
/-- and its end -/
def EN (D : va_G) (ws : va_W) (A : Nat → Prop) (t : State) : Prop := va_P D CL ws t.heap ∧ va_D A ws
theorem ST.blind {D : va_G} {cI cZ cL : ClassId} {ws : va_W} {sz : Nat} {av : List Value} : FrameBlind (va_Pc av (ST D cI cZ cL ws sz)) := by
  intro a U g mk q
  obtain ⟨q0, q1, qP, qK, qD, qN⟩ := q
  exact ⟨q0, q1, qP, va_K.moved (u := U) (U := U.calling g mk a) (Vm.Alike.refl U.vm) qK, qD, NW.same (s := U) rfl qN⟩
theorem ST.pre {D : va_G} {cI cZ cL : ClassId} {wc : va_W} {H : Heap} {s : State} {A : Nat → Prop} {av : List Value} (hP : va_P D CL wc H) (hK : va_K D CL (TY cI cZ cL) s) (hD : va_D A wc) (hN : NW s) : ∀ U : State, U.heap = H → s.WarmedH U.vm → va_Pc av (ST D cI cZ cL wc H.size) av.toArray U := by
  intro U hU hW
  refine ⟨rfl, by rw [hU], by rw [hU]; exact hP, va_K.moved hW.alike hK, hD.weaken (fun _ _ _ _ => trivial), NW.warm hW hN⟩
theorem bs_fm {α β : Type} {f : α → Option β} : ∀ {l : List α} {r : List β}, l.map f = r.map some → l.filterMap f = r
  | [], [], _ => rfl
  | [], _ :: _, h => by simp at h
  | _ :: _, [], h => by simp at h
  | a :: l, b :: r, h => by
    simp only [List.map_cons, List.cons.injEq] at h
    rw [List.filterMap_cons, h.1, bs_fm h.2]
/-- what a method's rows stand on -/
def CX (p : Program) (s : State) (m : MethodId) (args : Array Value) (meth : Method) (c : Code) (D : va_G) (cI cZ cL : ClassId) (own : String) (cc : ByteArray) (nL : Nat) (ret : Option FieldType) : Prop :=
  p.tables.exec = Jvm.exec ∧ c.code = cc ∧ c.maxLocals = nL ∧ meth.sig.returnType = ret ∧ s.vm.findClass own = some m.cls ∧ (∀ w ∈ AW, w.before args s = true) ∧ meth.locks = false ∧ va_K D CL (TY cI cZ cL) s ∧ NW s
/-- a method that changes cells or makes some -/
theorem ofM {l : Launch} {y : MethodName} {own : String} {cc : ByteArray} {nL : Nat} {ret : Option FieldType} {rm : Room} {D : va_G} {cI cZ cL : ClassId} {ws : va_W} {sz : Nat} {av : List Value} {mc ms : Nat} (Qc : (Nat → Prop) → Array Value → State → Outcome → State → Prop)
    (hy : plainName y.cls = true) (ho : y.cls = own) (hlen : (lg_sl av).length ≤ nL)
    (body : ∀ (p : Program) (e : Env) (s : State) (m : MethodId) (args : Array Value) (below : List Frame) (meth : Method) (c : Code) (A : Nat → Prop) (ls : Array Slot) (Q : State → Prop), CX p s m args meth c D cI cZ cL own cc nL ret → Q = MQ below (Qc A) args s mc ms A → (∀ q, s.heap.size ≤ q → A q) → lv_has ls nL (lv_args 0 av) → va_P D CL ws s.heap → va_D A ws → va_S A s.heap s.heap [] → (y.name = "<init>" → meth.name = "<init>") →
      W p l e rm s m args below meth c s.heap [] 0 0 Q (F0 m 0 ls [])) :
    Met l y (Cond.code y cc nL ret :: AW) rm (va_Pc av (ST D cI cZ cL ws sz)) (Qc (va_A ws sz)) mc ms (va_A ws sz) := by
  refine Met.ofW (cc := cc) (maxL := nL) (ret := ret) hy rfl ?_
  intro p e s m args below meth c s₁ B hml hv
  obtain ⟨rfl, hsz, hP, hK, hD0, hN⟩ := hv
  have hts := atoms_spec (ws := Cond.code y cc nL ret :: AW) B.pre
  have hown : s.vm.findClass own = some m.cls := by rw [← ho]; exact findClass_of_methodNamed B.named
  subst hsz
  have hl := lv_entry av (n := nL) hlen
  rw [lg_entry_eq]
  exact body p e s m _ below meth c (va_A ws s.heap.size) _ _ ⟨B.exec, B.bytes, hml, B.returns, hown, fun w h => hts w (List.mem_cons_of_mem _ h), B.notSynchronized, hK, hN⟩ rfl (fun q h => Or.inr h) hl hP (hD0.self) va_S.rf (fun h => (name_of_methodNamed B.named B.method).1.trans h)
/-- a method that only reads -/
theorem ofR {l : Launch} {y : MethodName} {own : String} {cc : ByteArray} {nL : Nat} {ret : Option FieldType} {rm : Room} {D : va_G} {cI cZ cL : ClassId} {ws : va_W} {sz : Nat} {av : List Value} (Qc : Array Value → State → Outcome → State → Prop)
    (hy : plainName y.cls = true) (ho : y.cls = own) (hlen : (lg_sl av).length ≤ nL)
    (body : ∀ (p : Program) (e : Env) (s : State) (m : MethodId) (args : Array Value) (below : List Frame) (meth : Method) (c : Code) (A : Nat → Prop) (ls : Array Slot) (Q : State → Prop), CX p s m args meth c D cI cZ cL own cc nL ret → Q = MQ below Qc args s 0 0 (fun _ => False) → lv_has ls nL (lv_args 0 av) → va_P D CL ws s.heap → va_D A ws →
      W p l e rm s m args below meth c s.heap [] 0 0 Q (F0 m 0 ls [])) :
    Met l y (Cond.code y cc nL ret :: AW) rm (va_Pc av (ST D cI cZ cL ws sz)) Qc 0 0 (fun _ => False) := by
  refine Met.ofW (cc := cc) (maxL := nL) (ret := ret) hy rfl ?_
  intro p e s m args below meth c s₁ B hml hv
  obtain ⟨rfl, hsz, hP, hK, hD0, hN⟩ := hv
  have hts := atoms_spec (ws := Cond.code y cc nL ret :: AW) B.pre
  have hown : s.vm.findClass own = some m.cls := by rw [← ho]; exact findClass_of_methodNamed B.named
  have hl := lv_entry av (n := nL) hlen
  rw [lg_entry_eq]
  exact body p e s m _ below meth c (fun _ => True) _ _ ⟨B.exec, B.bytes, hml, B.returns, hown, fun w h => hts w (List.mem_cons_of_mem _ h), B.notSynchronized, hK, hN⟩ rfl hl hP hD0
section BE
variable {p : Program} {l : Launch} {e : Env} {R : Room} {s : State} {m : MethodId} {args : Array Value} {below : List Frame} {meth : Method} {c : Code} {H : Heap} {locs : List Loc} {cells slots : Nat} {Q : State → Prop}
variable {D : va_G} {cI cZ cL : ClassId} {own : String} {cc : ByteArray} {nL : Nat} {ret : Option FieldType} {A : Nat → Prop} {pc : Nat} {ls : Array Slot}
/-- ends of a method that changes cells -/
theorem retI {S : Type} {post : Int32 → S → Prop} {Wf : S → va_W} (cx : CX p s m args meth c D cI cZ cL own cc nL (some .int)) (hQ : Q = MQ below (va_Qi post (fun u t => EN D (Wf u) A t) A) args s cells slots A) (hdg : decode cc pc = .ok (.ireturn, 1)) {r : Int32} (u : S) (hw : post r u) (hP : va_P D CL (Wf u) H) (hD : va_D A (Wf u)) (hS : va_S A s.heap H locs) : W p l e R s m args below meth c H locs cells slots Q (F0 m pc ls [.int r]) := by
  subst hQ
  obtain ⟨hx, hb, hml, hrt, hown, hta, hlk, hK, hN⟩ := cx
  exact W.iret (v := r) hx hb hrt (fun t ht hW => ⟨⟨r, u, rfl, hw, by rw [ht]; exact hP, hD⟩, hS.F ht⟩) hS.2.2 hdg hlk
theorem retZ {S : Type} {post : Int32 → S → Prop} {Wf : S → va_W} (cx : CX p s m args meth c D cI cZ cL own cc nL (some .boolean)) (hQ : Q = MQ below (va_Qi post (fun u t => EN D (Wf u) A t) A) args s cells slots A) (hdg : decode cc pc = .ok (.ireturn, 1)) {r : Int32} (u : S) (hw : narrow .boolean (.int r) = .int r ∧ post r u) (hP : va_P D CL (Wf u) H) (hD : va_D A (Wf u)) (hS : va_S A s.heap H locs) : W p l e R s m args below meth c H locs cells slots Q (F0 m pc ls [.int r]) := by
  subst hQ
  obtain ⟨hx, hb, hml, hrt, hown, hta, hlk, hK, hN⟩ := cx
  exact W.zret (v := r) hx hb hrt hw.1 (fun t ht hW => ⟨⟨r, u, rfl, hw.2, by rw [ht]; exact hP, hD⟩, hS.F ht⟩) hS.2.2 hdg hlk
theorem retV {S : Type} {post : S → Prop} {Wf : S → va_W} (cx : CX p s m args meth c D cI cZ cL own cc nL none) (hQ : Q = MQ below (va_Qv post (fun u t => EN D (Wf u) A t) A) args s cells slots A) (hdg : decode cc pc = .ok (.return_, 1)) (u : S) (hw : post u) (hP : va_P D CL (Wf u) H) (hD : va_D A (Wf u)) (hS : va_S A s.heap H locs) : W p l e R s m args below meth c H locs cells slots Q (F0 m pc ls []) := by
  subst hQ
  obtain ⟨hx, hb, hml, hrt, hown, hta, hlk, hK, hN⟩ := cx
  exact W.vret hx hb hrt (fun t ht hW => ⟨⟨u, rfl, hw, by rw [ht]; exact hP, hD⟩, hS.F ht⟩) hS.2.2 hdg hlk
/-- ends of a method that only reads -/
theorem retIr {post : Int32 → Prop} (cx : CX p s m args meth c D cI cZ cL own cc nL (some .int)) (hQ : Q = MQ below (vp_Si post) args s 0 0 (fun _ => False)) (hdg : decode cc pc = .ok (.ireturn, 1)) {r : Int32} (hw : post r) : W p l e R s m args below meth c s.heap [] 0 0 Q (F0 m pc ls [.int r]) := by
  subst hQ
  obtain ⟨hx, hb, hml, hrt, hown, hta, hlk, hK, hN⟩ := cx
  exact W.iret (v := r) hx hb hrt (fun t ht hW => ⟨r, rfl, hw, ht⟩) (fun q h => by cases h) hdg hlk
theorem retZr {post : Int32 → Prop} (cx : CX p s m args meth c D cI cZ cL own cc nL (some .boolean)) (hQ : Q = MQ below (vp_Si post) args s 0 0 (fun _ => False)) (hdg : decode cc pc = .ok (.ireturn, 1)) {r : Int32} (hw : narrow .boolean (.int r) = .int r ∧ post r) : W p l e R s m args below meth c s.heap [] 0 0 Q (F0 m pc ls [.int r]) := by
  subst hQ
  obtain ⟨hx, hb, hml, hrt, hown, hta, hlk, hK, hN⟩ := cx
  exact W.zret (v := r) hx hb hrt hw.1 (fun t ht hW => ⟨r, rfl, hw.2, ht⟩) (fun q h => by cases h) hdg hlk
end BE
/-- the words of a call -/
abbrev VW (own : String) (idx : Nat) (C : String) (z : MethodName) (cz : ByteArray) (nz : Nat) (rz : Option FieldType) : Prop := Cond.methodLink own idx z ∈ AW ∧ Cond.instanceMethod z ∈ AW ∧ Cond.selects C z z ∈ AW ∧ Cond.initialized z.cls ∈ AW ∧ Cond.code z cz nz rz ∈ AW
abbrev SW (own : String) (idx : Nat) (z : MethodName) (cz : ByteArray) (nz : Nat) (rz : Option FieldType) : Prop := Cond.methodLink own idx z ∈ AW ∧ Cond.static z ∈ AW ∧ Cond.initialized z.cls ∈ AW ∧ Cond.code z cz nz rz ∈ AW
abbrev SNW (own : String) (idx : Nat) (host : String) (z : MethodName) (cz : ByteArray) (nz : Nat) (rz : Option FieldType) : Prop := Cond.methodLinkNest own idx z host ∈ lw_tbl ∧ Cond.static z ∈ AW ∧ Cond.initialized z.cls ∈ AW ∧ Cond.code z cz nz rz ∈ AW
abbrev IW (own : String) (idx : Nat) (z : MethodName) (cz : ByteArray) (nz : Nat) : Prop := Cond.methodLink own idx z ∈ AW ∧ Cond.instanceMethod z ∈ AW ∧ Cond.initialized z.cls ∈ AW ∧ Cond.code z cz nz none ∈ AW ∧ z.name = "<init>"
abbrev MD (z : MethodName) (n : Nat) : Prop := z.cls ≠ "java/lang/invoke/MethodHandle" ∧ z.cls ≠ "java/lang/invoke/VarHandle" ∧ (parseMethodDescriptor z.desc).map (fun d => d.parameters.length) = some n
section BC
variable {p : Program} {l : Launch} {e : Env} {R : Room} {s : State} {m : MethodId} {args : Array Value} {below : List Frame} {meth : Method} {c : Code} {H : Heap} {locs : List Loc} {cells slots : Nat} {Q : State → Prop}
variable {D : va_G} {cI cZ cL : ClassId} {own : String} {cc : ByteArray} {nL : Nat} {ret : Option FieldType} {A : Nat → Prop} {pc : Nat} {ls : Array Slot} {st rest : List Value}
variable {z : MethodName} {cz : ByteArray} {nz : Nat} {rz : Option FieldType} {rmz : Room} {As : List Value} {b : Nat} {wc : va_W} {Qc : Array Value → State → Outcome → State → Prop} {mc ms idx n : Nat} {free : Addr → Prop}
theorem xV {C : String} {ci : Nat} {fs : List Value} {T : u_T} {N : Nat} (cx : CX p s m args meth c D cI cZ cL own cc nL ret) (hM : Met l z (Cond.code z cz nz rz :: AW) rmz (va_Pc (.ref b :: As) (ST D cI cZ cL wc H.size)) Qc mc ms free) (hk : VW own idx C z cz nz rz) (hd : MD z n) (hR : rmz.cells = mc ∧ rmz.slots = ms ∧ rmz.frames + 1 ≤ R.frames ∧ 8 + (nz + 11) + rmz.locals ≤ R.locals)
    (hP : va_P D CL wc H) (hD : va_D A wc) (q0 : Nat) (he : wc[q0]? = some (b, .inr (ci, fs))) (hc : CL[ci]? = some (C, T, N)) (hn : As.length = n) (hsz : ls.size = nL) (hrest : (rest.map fun v => v.category).sum ≤ 8) (hdg : decode cc pc = .ok (.invokevirtual idx, 3)) (hf : cells + mc ≤ R.cells ∧ slots + ms ≤ R.slots) (hst : st = As.reverse ++ .ref b :: rest) :
    va_Run p l e R s m args below meth c H locs cells slots mc ms (F0 m pc ls st) rest (Qc (Value.ref b :: As).toArray) free := by
  obtain ⟨hx, hb, hml, hrt, hown, hta, hlk, hK, hN⟩ := cx
  exact va_runV (C := C) ⟨hx, hb, hml, hown, hta⟩ hM ⟨callB_of n hta (aw_in hk.2.2.2.2) rfl hR.1 hR.2.1 (hta _ hk.2.2.2.1) (hta _ hk.1) hd ⟨hR.2.2.1, hR.2.2.2⟩, hta _ hk.2.1, hta _ hk.2.2.1⟩ ⟨ST.blind, va_recv hK hP hc he, ST.pre hP hK hD hN⟩ rfl hn hsz hst (lv_room hrest) hdg hf
theorem xS (cx : CX p s m args meth c D cI cZ cL own cc nL ret) (hM : Met l z (Cond.code z cz nz rz :: AW) rmz (va_Pc As (ST D cI cZ cL wc H.size)) Qc mc ms free) (hk : SW own idx z cz nz rz) (hd : MD z n) (hR : rmz.cells = mc ∧ rmz.slots = ms ∧ rmz.frames + 1 ≤ R.frames ∧ 8 + (nz + 11) + rmz.locals ≤ R.locals)
    (hP : va_P D CL wc H) (hD : va_D A wc) (hn : As.length = n) (hsz : ls.size = nL) (hrest : (rest.map fun v => v.category).sum ≤ 8) (hdg : decode cc pc = .ok (.invokestatic idx, 3)) (hf : cells + mc ≤ R.cells ∧ slots + ms ≤ R.slots) (hst : st = As.reverse ++ rest) :
    va_Run p l e R s m args below meth c H locs cells slots mc ms (F0 m pc ls st) rest (Qc As.toArray) free := by
  obtain ⟨hx, hb, hml, hrt, hown, hta, hlk, hK, hN⟩ := cx
  exact va_runS ⟨hx, hb, hml, hown, hta⟩ hM ⟨callB_of n hta (aw_in hk.2.2.2) rfl hR.1 hR.2.1 (hta _ hk.2.2.1) (hta _ hk.1) hd ⟨hR.2.2.1, hR.2.2.2⟩, hta _ hk.2.1⟩ ⟨ST.blind, ST.pre hP hK hD hN⟩ rfl hn hsz hst (lv_room hrest) hdg hf
theorem xSN {host : String} (cx : CX p s m args meth c D cI cZ cL own cc nL ret) (hM : Met l z (Cond.code z cz nz rz :: AW) rmz (va_Pc As (ST D cI cZ cL wc H.size)) Qc mc ms free) (hk : SNW own idx host z cz nz rz) (hd : MD z n) (hR : rmz.cells = mc ∧ rmz.slots = ms ∧ rmz.frames + 1 ≤ R.frames ∧ 8 + (nz + 11) + rmz.locals ≤ R.locals)
    (hP : va_P D CL wc H) (hD : va_D A wc) (hn : As.length = n) (hsz : ls.size = nL) (hrest : (rest.map fun v => v.category).sum ≤ 8) (hdg : decode cc pc = .ok (.invokestatic idx, 3)) (hf : cells + mc ≤ R.cells ∧ slots + ms ≤ R.slots) (hst : st = As.reverse ++ rest) :
    va_Run p l e R s m args below meth c H locs cells slots mc ms (F0 m pc ls st) rest (Qc As.toArray) free := by
  obtain ⟨hx, hb, hml, hrt, hown, hta, hlk, hK, hN⟩ := cx
  exact va_runSN (host := host) ⟨hx, hb, hml, hown, hta⟩ hM ⟨va_cnB n hta (aw_in hk.2.2.2) rfl hR.1 hR.2.1 (hN _ hk.1 rfl) (hta _ hk.2.2.1) hd ⟨hR.2.2.1, hR.2.2.2⟩, hta _ hk.2.1, trivial⟩ ⟨ST.blind, ST.pre hP hK hD hN⟩ rfl hn hsz hst (lv_room hrest) hdg hf
theorem xI (cx : CX p s m args meth c D cI cZ cL own cc nL ret) (hM : Met l z (Cond.code z cz nz none :: AW) rmz (va_Pc (.ref b :: As) (ST D cI cZ cL wc H.size)) Qc mc ms free) (hk : IW own idx z cz nz) (hd : MD z n) (hR : rmz.cells = mc ∧ rmz.slots = ms ∧ rmz.frames + 1 ≤ R.frames ∧ 8 + (nz + 11) + rmz.locals ≤ R.locals)
    (hP : va_P D CL wc H) (hD : va_D A wc) (hn : As.length = n) (hsz : ls.size = nL) (hrest : (rest.map fun v => v.category).sum ≤ 8) (hdg : decode cc pc = .ok (.invokespecial idx, 3)) (hf : cells + mc ≤ R.cells ∧ slots + ms ≤ R.slots) (hst : st = As.reverse ++ .ref b :: rest) :
    va_Run p l e R s m args below meth c H locs cells slots mc ms (F0 m pc ls st) rest (Qc (Value.ref b :: As).toArray) free := by
  obtain ⟨hx, hb, hml, hrt, hown, hta, hlk, hK, hN⟩ := cx
  exact va_runI ⟨hx, hb, hml, hown, hta⟩ hM ⟨callB_of n hta (aw_in hk.2.2.2.1) rfl hR.1 hR.2.1 (hta _ hk.2.2.1) (hta _ hk.1) hd ⟨hR.2.2.1, hR.2.2.2⟩, hk.2.2.2.2, hta _ hk.2.1⟩ ⟨ST.blind, ST.pre hP hK hD hN⟩ rfl hn hsz hst (lv_room hrest) hdg hf
/-- behind a call that only read -/
theorem goR {post : Int32 → Prop} {a : Array Value} (hr : va_Run p l e R s m args below meth c H locs cells slots 0 0 (F0 m pc ls st) rest (vp_Si post a) (fun _ => False))
    (kk : ∀ r : Int32, post r → W p l e R s m args below meth c H locs cells slots Q (F0 m (pc + 3) ls (.int r :: rest))) : W p l e R s m args below meth c H locs cells slots Q (F0 m pc ls st) := by
  intro T hT X
  obtain ⟨v, st₀, t, T', L, h0, X', hL, e1, e2, ⟨r, hv, hp, hh⟩, sg⟩ := hr T hT X
  cases hv
  obtain ⟨t2, a1, b1⟩ := kk r hp T' (by rw [e1, hh, h0]) (Stand.forget X' (fun q h => (hL q h).elim))
  exact ⟨t2, sg t2 a1, b1⟩
/-- behind a call that changed its cells -/
theorem goI {S : Type} {post : Int32 → S → Prop} {Wf : S → va_W} {ws wr : va_W} {H0 : Heap} {a : Array Value} (hr : va_Run p l e R s m args below meth c H locs cells slots mc ms (F0 m pc ls st) rest (va_Qi post (fun u t => EN D (Wf u) (va_A wc H.size) t) (va_A wc H.size) a) (va_A wc H.size))
    (hP : va_P D CL ws H) (hD : va_D A ws) (hS : va_S A H0 H locs) (hA : ∀ q, H0.size ≤ q → A q) (isC isR : List Nat) (hC : isC.map (fun i => ws[i]?) = wc.map some) (hR : isR.map (fun i => ws[i]?) = wr.map some) (hn : va_nd isR = true) (hdis : ∀ i ∈ isR, i ∉ isC)
    (kk : ∀ (r : Int32) (u : S) (H1 : Heap) (locs1 : List Loc), post r u → va_P D CL (wr ++ Wf u) H1 → va_D A (wr ++ Wf u) → va_S A H0 H1 locs1 → W p l e R s m args below meth c H1 locs1 (cells + mc) (slots + ms) Q (F0 m (pc + 3) ls (.int r :: rest))) : W p l e R s m args below meth c H locs cells slots Q (F0 m pc ls st) := by
  have hF := va_free (wc := wc) hD hS hA isC hC
  refine va_calli hr hS (fun q _ h => hF q h) hF (fun r u t H1 locs1 ht hvm hw hB hz hk hS => ?_)
  obtain ⟨hP1, hD1⟩ := hB
  rw [ht] at hP1
  obtain ⟨hP2, hD2⟩ := va_join hP hD isC isR hC hR hn hdis hk hF hP1 hD1
  exact kk r u H1 locs1 hw hP2 hD2 hS
theorem goV {S : Type} {post : S → Prop} {Wf : S → va_W} {ws wr : va_W} {H0 : Heap} {a : Array Value} (hr : va_Run p l e R s m args below meth c H locs cells slots mc ms (F0 m pc ls st) rest (va_Qv post (fun u t => EN D (Wf u) (va_A wc H.size) t) (va_A wc H.size) a) (va_A wc H.size))
    (hP : va_P D CL ws H) (hD : va_D A ws) (hS : va_S A H0 H locs) (hA : ∀ q, H0.size ≤ q → A q) (isC isR : List Nat) (hC : isC.map (fun i => ws[i]?) = wc.map some) (hR : isR.map (fun i => ws[i]?) = wr.map some) (hn : va_nd isR = true) (hdis : ∀ i ∈ isR, i ∉ isC)
    (kk : ∀ (u : S) (H1 : Heap) (locs1 : List Loc), post u → va_P D CL (wr ++ Wf u) H1 → va_D A (wr ++ Wf u) → va_S A H0 H1 locs1 → W p l e R s m args below meth c H1 locs1 (cells + mc) (slots + ms) Q (F0 m (pc + 3) ls rest)) : W p l e R s m args below meth c H locs cells slots Q (F0 m pc ls st) := by
  have hF := va_free (wc := wc) hD hS hA isC hC
  refine va_callv hr hS (fun q _ h => hF q h) hF (fun u t H1 locs1 ht hvm hw hB hz hk hS => ?_)
  obtain ⟨hP1, hD1⟩ := hB
  rw [ht] at hP1
  obtain ⟨hP2, hD2⟩ := va_join hP hD isC isR hC hR hn hdis hk hF hP1 hD1
  exact kk u H1 locs1 hw hP2 hD2 hS
end BC
theorem newA_cI {D : va_G} {cI cZ cL cA : ClassId} {s : State} (h : va_K D CL (TY cI cZ cL ++ [(cA, .int)]) s) : cA = cI := Option.some.inj ((h.2 3 (cA, .int) rfl).2.symm.trans (h.2 0 (cI, .int) rfl).2)
theorem newA_cZ {D : va_G} {cI cZ cL cA : ClassId} {s : State} (h : va_K D CL (TY cI cZ cL ++ [(cA, .boolean)]) s) : cA = cZ := Option.some.inj ((h.2 3 (cA, .boolean) rfl).2.symm.trans (h.2 1 (cZ, .boolean) rfl).2)
theorem newA_cL {D : va_G} {cI cZ cL cA : ClassId} {s : State} (h : va_K D CL (TY cI cZ cL ++ [(cA, .long)]) s) : cA = cL := Option.some.inj ((h.2 3 (cA, .long) rfl).2.symm.trans (h.2 2 (cL, .long) rfl).2)
