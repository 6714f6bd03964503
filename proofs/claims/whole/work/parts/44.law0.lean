/-! THE LAW'S START: tables into worlds; the script's cells. Own work. -/
theorem lw_arr {args : Array Value} {s : State} {ty : FieldType} (h : (Cond.arrayClass ty).before args s = true) : ∃ cA : ClassId, ArrOfT s cA ty ∧ s.vm.findClass ("[" ++ ty.toString) = some cA := by
  obtain ⟨c, k, comp, h1, h2, h3⟩ := Cond.arrayClass_spec h
  exact ⟨c, fun n z => ⟨fun k9 h9 => (by cases h9), k, h2, comp, h3⟩, h1⟩
/-- the words of a throw at the law's start: they stay where the old cells stay -/
theorem lw_stay {args : Array Value} {s V : State} (hW : s.WarmedH V.vm) (hk : ∀ q : Nat, q < s.heap.size → V.heap[q]? = s.heap[q]?) (h : ∀ w ∈ XW, w.before args s = true) : ∀ w ∈ XW, ∀ a : Array Value, w.before a V = true := by
  intro w hw a
  have face : ∀ w : Cond, w.keepsFace = true → w.onTables = true → w.before args s = true → w.before a V = true := fun w h1 h2 h3 => by
    have h4 := Cond.before_shiftedFace (State.Shifted.of_warmed hW) w h1 h3
    exact va_tabs (u := s.setVm V.vm) h2 rfl h4
  have stat : ∀ C n d : String, (Cond.laysStatic C n d).before args s = true → (Cond.laysStatic C n d).before a V = true := fun C n d h3 => by
    have h4 : (Cond.laysStatic C n d).before args (s.setVm V.vm) = true := Cond.before_shiftedFace (State.Shifted.of_warmed hW) _ rfl h3
    obtain ⟨c, k, i, f, a9, cell, hc, hi, hst, ha, hcell, hs, hcls, hlt, hty⟩ := Cond.laysStatic_spec h4
    have hcell2 : V.heap[a9]? = some cell := by
      rw [hk a9 (Array.getElem?_eq_some_iff.mp hcell).1]; exact hcell
    have hc2 : V.vm.findClass C = some c := hc
    have hi2 : V.fieldFound? C n d = some (c, k, i, f) := hi
    simp only [Cond.before, Cond.holds, Cond.value, hc2, hi2, ha, Option.bind_some, hcell2, Option.map_some, hst, hs, hcls, hty]
    simp [hlt]
  have rf : ∀ C n d : String, (Cond.laysStatic C n d).before args s = true → (Cond.isRef (.static C n d)).before args s = true → (Cond.isRef (.static C n d)).before a V = true := fun C n d h3 h5 => by
    have h4 : (Cond.isRef (.static C n d)).before args (s.setVm V.vm) = true := Cond.before_shiftedFace (State.Shifted.of_warmed hW) _ rfl h5
    cases hv : (Term.static C n d).eval args (s.setVm V.vm) none [] (s.setVm V.vm) with
    | none => simp [Cond.before, Cond.holds, Cond.value, hv] at h4
    | some w9 =>
      have h6 : (Cond.laysStatic C n d).before args (s.setVm V.vm) = true := Cond.before_shiftedFace (State.Shifted.of_warmed hW) _ rfl h3
      obtain ⟨c, k, i, f, a9, cell, hc, hi, hst, ha, hcell, hs, hcls, hlt, hty⟩ := Cond.laysStatic_spec h6
      obtain ⟨hst2, a8, cell2, ha8, hcell8, hkn, hslot⟩ := Term.static_spec hi hv
      cases ha.symm.trans ha8
      cases hcell.symm.trans hcell8
      have hcell3 : V.heap[a9]? = some cell := by
        rw [hk a9 (Array.getElem?_eq_some_iff.mp hcell).1]; exact hcell
      have hi2 : V.fieldFound? C n d = some (c, k, i, f) := hi
      have hv2 : (Term.static C n d).eval a V none [] V = (Term.static C n d).eval args (s.setVm V.vm) none [] (s.setVm V.vm) := by
        have hi3 : (s.setVm V.vm).fieldFound? C n d = some (c, k, i, f) := hi
        have hcell4 : (s.setVm V.vm).heap[a9]? = some cell := hcell
        simp only [Term.eval, State.fieldNamed?, hi2, hi3, Option.bind_eq_bind, Option.bind_some, hst2, beq_self_eq_true, if_true, Option.pure_def, ha, hcell3, hcell4]
      rw [hv] at hv2
      simp only [Cond.before, Cond.holds, Cond.value, hv] at h4
      simp only [Cond.before, Cond.holds, Cond.value, hv2]
      exact h4
  have g := h w hw
  have m1 : Cond.laysStatic Bundle.tN "UNASSIGNED_STACK" Bundle.steD ∈ XW := by decide +kernel
  have m2 : Cond.laysStatic Bundle.tN "SUPPRESSED_SENTINEL" Bundle.listD ∈ XW := by decide +kernel
  simp only [XW, List.mem_cons, List.not_mem_nil, or_false] at hw
  rcases hw with rfl | rfl | rfl | rfl | rfl | rfl | rfl | rfl | rfl | rfl
  · exact stat _ _ _ g
  · exact stat _ _ _ g
  · exact rf _ _ _ (h _ m1) g
  · exact rf _ _ _ (h _ m2) g
  · exact face _ rfl rfl g
  · exact face _ rfl rfl g
  · exact face _ rfl rfl g
  · exact face _ rfl rfl g
  · exact face _ rfl rfl g
  · exact face _ rfl rfl g
/-- a cell of the script -/
def w_LW_cell (L : Nat) (xs : Nat → Int32) (k : Int32) (post : Int32 → Prop) : Prop := (nI L ≤ k → post 0) ∧ (¬ nI L ≤ k → vp_in k L ∧ post (xs k.toNatClampNeg))
def rm_LW_cell : Room := { frames := 0, cells := 0, slots := 0, locals := 0 }
def ST0 (b L : Nat) (xs : Nat → Int32) (U : State) : Prop := va_X b L xs U U.heap ∧ b < U.heap.size
set_option maxHeartbeats 4000000 in
set_option maxRecDepth 100000 in
theorem c_LW_cell (l : Launch) (b L : Nat) (xs : Nat → Int32) (k : Int32) {post : Int32 → Prop} (hw : w_LW_cell L xs k post) : Met l y_LW_cell (Cond.code y_LW_cell b_LW_cell 2 (some .int) :: AW) rm_LW_cell (va_Pc [.ref b, .int k] (ST0 b L xs)) (vp_Si post) 0 0 (fun _ => False) := by
  refine Met.ofW (cc := b_LW_cell) (maxL := 2) (ret := some .int) (by decide) rfl ?_
  intro p e s m args below meth c s₁ B hml hv
  obtain ⟨rfl, hX, hbl⟩ := hv
  have hx := B.exec
  have hb := B.bytes
  have hr := B.returns
  have hlk := B.notSynchronized
  have hbA : ¬ (fun q : Nat => s.heap.size ≤ q) b := Nat.not_le.mpr hbl
  have hS : va_S (fun q : Nat => s.heap.size ≤ q) s.heap s.heap [] := va_S.rf
  have hl := lv_entry ([.ref b, .int k]) (n := 2) (Nat.le_of_ble_eq_true rfl)
  rw [lg_entry_eq]
  generalize (lg_sl ([.ref b, .int k]) ++ List.replicate (2 - (lg_sl ([.ref b, .int k])).length) Slot.unset).toArray = ls at hl ⊢
  have hl : lv_has ls 2 [(0, .ref b), (1, .int k)] := hl
  refine lv_iload_n hx hb d_LW_cell_0 rfl (lv_at hl 1 rfl) ?_
  refine lv_aload_n hx hb d_LW_cell_1 rfl (lv_at hl 0 rfl) ?_
  refine va_slen hx hb hX hbl hbA hS d_LW_cell_2 ?_
  refine lv_icmp_ge (tgt := 12) hx hb d_LW_cell_3 (by decide) (fun hc => ?_) (fun hc => ?_)
  · have hw := hw.1 hc
    refine lv_iconst (v := 0) hx hb d_LW_cell_12 (by decide) ?_
    exact W.iret (v := 0) hx hb hr (fun t ht hW => ⟨0, rfl, hw, ht⟩) (fun q h => by cases h) d_LW_cell_13 hlk
  · have hw := hw.2 hc
    refine lv_aload_n hx hb d_LW_cell_6 rfl (lv_at hl 0 rfl) ?_
    refine lv_iload_n hx hb d_LW_cell_7 rfl (lv_at hl 1 rfl) ?_
    refine va_sld hx hb hX hbl hbA hS hw.1 d_LW_cell_8 ?_
    refine lv_goto (tgt := 13) hx hb d_LW_cell_9 (by decide) ?_
    exact W.iret (v := xs k.toNatClampNeg) hx hb hr (fun t ht hW => ⟨_, rfl, hw.2, ht⟩) (fun q h => by cases h) d_LW_cell_13 hlk
section L0
variable {p : Program} {l : Launch} {e : Env} {R : Room} {s : State} {m : MethodId} {args : Array Value} {below : List Frame} {meth : Method} {c : Code} {H : Heap} {locs : List Loc} {cells slots : Nat} {Q : State → Prop}
variable {D : va_G} {cI cZ cL : ClassId} {own : String} {cc : ByteArray} {nL : Nat} {ret : Option FieldType} {A : Nat → Prop} {pc : Nat} {ls : Array Slot} {rest : List Value}
theorem xcell {b L idx : Nat} {xs : Nat → Int32} {k : Int32} {post : Int32 → Prop} (cx : CX p s m args meth c D cI cZ cL own cc nL ret) (hX : va_X b L xs s s.heap) (hbl : b < s.heap.size) (hbA : ¬ A b) (hS : va_S A s.heap H locs) (hw : w_LW_cell L xs k post) (hk : SW own idx y_LW_cell b_LW_cell 2 (some .int)) (hR : 1 ≤ R.frames ∧ 21 ≤ R.locals) (hsz : ls.size = nL) (hrest : (rest.map fun v => v.category).sum ≤ 8) (hdg : decode cc pc = .ok (.invokestatic idx, 3)) (hf : cells ≤ R.cells ∧ slots ≤ R.slots)
    (kk : ∀ r : Int32, post r → W p l e R s m args below meth c H locs cells slots Q (F0 m (pc + 3) ls (.int r :: rest))) : W p l e R s m args below meth c H locs cells slots Q (F0 m pc ls (.int k :: .ref b :: rest)) := by
  obtain ⟨hx, hb, hml, hrt, hown, hta, hlk, hK, hN⟩ := cx
  refine goR (va_runS (As := [.ref b, .int k]) (rest := rest) ⟨hx, hb, hml, hown, hta⟩ (c_LW_cell l b L xs k hw) ⟨callB_of 2 hta (aw_in hk.2.2.2) rfl rfl rfl (hta _ hk.2.2.1) (hta _ hk.1) (by decide +kernel) ⟨hR.1, hR.2⟩, hta _ hk.2.1⟩ ⟨?_, ?_⟩ rfl rfl hsz rfl (lv_room hrest) hdg hf) kk
  · intro a U g mk q
    exact ⟨q.1, va_X.moved (u := U) (U := U.calling g mk a) (Vm.Alike.refl U.vm) q.2.1, q.2.2⟩
  · intro U hU hW
    refine ⟨rfl, ?_, by rw [hU]; exact Nat.lt_of_lt_of_le hbl hS.1⟩
    rw [hU]
    exact va_X.moved hW.alike (va_X.kept hX (hS.2.1 b hbl hbA))
end L0
