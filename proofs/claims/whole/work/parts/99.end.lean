theorem lw_str {args : Array Value} {s : State} {k : Nat} {tx : String} (h1 : (Cond.stringRef R_DF k tx).before args s = true) (h2 : (Cond.exactly (.string R_DF k) "java/lang/String").before args s = true) : ∃ a, vk_R R_DF k tx a s := by
  obtain ⟨a, c, cA, kA, q1, -⟩ := Cond.exactly_spec (args := args) (first := s) (o := none) (s := s) (idx := []) (t := .string R_DF k) (cls := "java/lang/String") h2
  exact ⟨a, vk_R.of h1 q1⟩
set_option maxHeartbeats 4000000 in
set_option maxRecDepth 100000 in
theorem whole_start {p : Program} {e : Env} {s : State} {m : MethodId} {below : List Frame} {meth : Method} {c : Code} (l : Launch) (htr : l.stackTraces = false) {b L : Nat} {xs : Nat → Int32} (hL : L ≤ 3074) (C0 : lw_At p s m meth c b L xs) : W p l e room_1 s m #[Value.ref b] below meth c s.heap [] 0 0 (lw_Z below #[Value.ref b] s) (entryFrame m ([Value.ref b] : List Value).toArray 7) := by
  obtain ⟨hx, hb, hr, hml, hown, hts, hX, hbl, hlocks, hgv⟩ := id C0
  have hta := aw_sub hts
  have hs := flat_of_before _ hgv
  obtain ⟨c0, iS0, hKn0⟩ := u_known (C := R_PI) (T := F_PI) (N := 3) (n := 3) hta lay_PI (hts (.instantiable R_PI 3) (List.mem_of_getElem? (i := 61) (by decide +kernel)))
  obtain ⟨c1, iS1, hKn1⟩ := u_known (C := R_BR) (T := F_BR) (N := 2) (n := 2) hta lay_BR (hts (.instantiable R_BR 2) (List.mem_of_getElem? (i := 126) (by decide +kernel)))
  obtain ⟨c2, iS2, hKn2⟩ := u_known (C := R_PL) (T := F_PL) (N := 3) (n := 3) hta lay_PL (hts (.instantiable R_PL 3) (List.mem_of_getElem? (i := 92) (by decide +kernel)))
  obtain ⟨c3, iS3, hKn3⟩ := u_known (C := R_TE) (T := F_TE) (N := 4) (n := 4) hta lay_TE (hts (.instantiable R_TE 4) (List.mem_of_getElem? (i := 86) (by decide +kernel)))
  obtain ⟨c4, iS4, hKn4⟩ := u_known (C := R_DF) (T := F_DF) (N := 6) (n := 6) hta lay_DF (hts (.instantiable R_DF 6) (List.mem_of_getElem? (i := 44) (by decide +kernel)))
  obtain ⟨c5, iS5, hKn5⟩ := u_known (C := R_MO) (T := F_MO) (N := 18) (n := 18) hta lay_MO (hts (.instantiable R_MO 18) (List.mem_of_getElem? (i := 561) (by decide +kernel)))
  obtain ⟨D, hKc⟩ : ∃ D : va_G, ∀ (k : Nat) (q : vw_C), CL[k]? = some q → u_Kn s q.1 q.2.1 q.2.2 (D.1 k) (D.2 k) := by
    refine ⟨(fun k => if k = 0 then c0 else if k = 1 then c1 else if k = 2 then c2 else if k = 3 then c3 else if k = 4 then c4 else c5, fun k => if k = 0 then iS0 else if k = 1 then iS1 else if k = 2 then iS2 else if k = 3 then iS3 else if k = 4 then iS4 else iS5), ?_⟩
    intro k q hq
    match k, hq with
    | 0, hq => cases hq; exact hKn0
    | 1, hq => cases hq; exact hKn1
    | 2, hq => cases hq; exact hKn2
    | 3, hq => cases hq; exact hKn3
    | 4, hq => cases hq; exact hKn4
    | 5, hq => cases hq; exact hKn5
    | k + 6, hq => simp [CL] at hq
  obtain ⟨cI, hcI1, hcI2⟩ := lw_arr (hts (.arrayClass .int) (List.mem_of_getElem? (i := 84) (by decide +kernel)))
  obtain ⟨cZ, hcZ1, hcZ2⟩ := lw_arr (hts (.arrayClass .boolean) (List.mem_of_getElem? (i := 109) (by decide +kernel)))
  obtain ⟨cL, hcL1, hcL2⟩ := lw_arr (hts (.arrayClass .long) (List.mem_of_getElem? (i := 752) (by decide +kernel)))
  have hK : va_K D CL (TY cI cZ cL) s := by
    refine ⟨hKc, fun k q hq => ?_⟩
    match k, hq with
    | 0, hq => cases hq; exact ⟨hcI1, hcI2⟩
    | 1, hq => cases hq; exact ⟨hcZ1, hcZ2⟩
    | 2, hq => cases hq; exact ⟨hcL1, hcL2⟩
    | k + 3, hq => simp [TY] at hq
  have hxw : ∀ w ∈ XW, w.before #[Value.ref b] s = true := by
    intro w hw
    simp only [XW, List.mem_cons, List.not_mem_nil, or_false] at hw
    rcases hw with rfl | rfl | rfl | rfl | rfl | rfl | rfl | rfl | rfl | rfl
    · exact hts _ (List.mem_of_getElem? (i := 418) (by decide +kernel))
    · exact hts _ (List.mem_of_getElem? (i := 420) (by decide +kernel))
    · exact hs _ (by decide +kernel)
    · exact hs _ (by decide +kernel)
    · exact hts _ (List.mem_of_getElem? (i := 393) (by decide +kernel))
    · exact hts _ (List.mem_of_getElem? (i := 464) (by decide +kernel))
    · exact hts _ (List.mem_of_getElem? (i := 532) (by decide +kernel))
    · exact hts _ (List.mem_of_getElem? (i := 395) (by decide +kernel))
    · exact hts _ (List.mem_of_getElem? (i := 397) (by decide +kernel))
    · exact hts _ (List.mem_of_getElem? (i := 399) (by decide +kernel))
  obtain ⟨A, hAe⟩ : ∃ A : Nat → Prop, A = fun q => s.heap.size ≤ q := ⟨_, rfl⟩
  have hA : ∀ q, s.heap.size ≤ q → A q := fun q h => by rw [hAe]; exact h
  have hAf : ∀ q, A q → s.heap.size ≤ q := fun q h => by rw [hAe] at h; exact h
  have hbA : ¬ A b := fun h => absurd (hAf b h) (Nat.not_le.mpr hbl)
  have hAM : AM A s s.heap := by
    refine ⟨fun V hV hk => lw_stay hV (fun q hq => hk q hq (fun h => absurd (hAf q h) (Nat.not_le.mpr hq))) hxw, fun q hq => ?_⟩
    simp only [STRS, List.mem_cons, List.not_mem_nil, or_false] at hq
    rcases hq with rfl | rfl | rfl | rfl | rfl | rfl | rfl
    · exact lw_str (hts (.stringRef R_DF 59 "a width or height below 1") (List.mem_of_getElem? (i := 486) (by decide +kernel))) (hs _ (by decide +kernel))
    · exact lw_str (hts (.stringRef R_DF 97 "no such byte") (List.mem_of_getElem? (i := 510) (by decide +kernel))) (hs _ (by decide +kernel))
    · exact lw_str (hts (.stringRef R_DF 110 "no such part") (List.mem_of_getElem? (i := 519) (by decide +kernel))) (hs _ (by decide +kernel))
    · exact lw_str (hts (.stringRef R_DF 112 "no such thing of a part") (List.mem_of_getElem? (i := 520) (by decide +kernel))) (hs _ (by decide +kernel))
    · exact lw_str (hts (.stringRef R_DF 123 "too many bytes to be read") (List.mem_of_getElem? (i := 539) (by decide +kernel))) (hs _ (by decide +kernel))
    · exact lw_str (hts (.stringRef R_DF 174 "no such sample") (List.mem_of_getElem? (i := 432) (by decide +kernel))) (hs _ (by decide +kernel))
    · exact lw_str (hts (.stringRef R_DF 176 "not 0 to 255") (List.mem_of_getElem? (i := 471) (by decide +kernel))) (hs _ (by decide +kernel))
  have hC : NC s := ⟨va_Nc.of (hs (.not (.castable E_ia E_ix)) (by decide +kernel)), va_Nc.of (hs (.not (.castable E_un E_ia)) (by decide +kernel))⟩
  have hl := lv_entry ([.ref b]) (n := 7) (Nat.le_of_ble_eq_true rfl)
  rw [lg_entry_eq]
  exact law_walk l htr D cI cZ cL A ⟨hx, hb, hml, hr, hown, hta, hlocks, hK, NW.of hts⟩ hX hbl hbA hA hAf hAM hC hl (pure_law hL xs)
set_option maxHeartbeats 4000000 in
theorem lw_walk (l : Launch) (htr : l.stackTraces = false) (b : Addr) (xs : List Int32) : MetFree l x (headSpec (Jvm.Cond.code x code maxLocals ret :: tables_1) room_1) (lw_P b xs) (fun _ _ _ _ _ => True) lw_Q := by
  refine MetFree.of_bodyS (code := code) (maxLocals := maxLocals) (ret := ret) (by decide) ?_ ?_
  · intro args s m h hn
    obtain ⟨meth, c, h1, h2, h3, h4, h5, h6, -, -⟩ := Cond.code_spec hn (atoms_spec (ws := Jvm.Cond.code x code maxLocals ret :: tables_1) h _ List.mem_cons_self)
    exact ⟨meth, c, h1, h2, h3, h4, h5, h6⟩
  · intro p e s m args below meth c s₁ B hml0 hP _
    obtain ⟨rfl, hx, hbd, hgv⟩ := hP
    obtain ⟨scr, harrAt, hlist, hof, hsmall⟩ := hx
    obtain ⟨hcb, hkn, -, -⟩ := State.arrayAt?_spec harrAt
    have hown : s.vm.findClass R_law = some m.cls := findClass_of_methodNamed B.named
    have hts0 : ∀ c ∈ (Jvm.Cond.code x code maxLocals ret :: tables_1), c.before #[Value.ref b] s = true := atoms_spec (ws := Jvm.Cond.code x code maxLocals ret :: tables_1) B.pre
    have hts : ∀ w ∈ lw_tbl, w.before #[Value.ref b] s = true := k2_hts_sels lw_privs (fun w hw => hts0 w (List.mem_cons_of_mem _ hw)) lw_privs_ok
    have hml : c.maxLocals = 7 := B.maxLocals_eq (hts0 _ List.mem_cons_self)
    have X₀ : Stand p l e room_1 s m #[Value.ref b] below meth c s₁ [] 0 0 := Stand.of_body B
    have hh0 : s₁.heap = s.heap := by rw [B.state]; rfl
    have hsz : scr.slots.size = xs.length := by rw [← Array.length_toList, hlist, List.length_map]
    have hval : ∀ j : Nat, j < xs.length → scr.slots[j]? = some (.int (xs.getD j 0)) := fun j hj => by
      rw [← Array.getElem?_toList, hlist]
      simp [hj]
    have hbl : b < s.heap.size := (Array.getElem?_eq_some_iff.mp hcb).1
    have hX : va_X b xs.length (fun j => xs.getD j 0) s s.heap := ⟨scr, hcb, hof, hkn, hsz, hval⟩
    have K : W p l e room_1 s m #[Value.ref b] below meth c s₁.heap [] 0 0 (lw_Z below #[Value.ref b] s) (entryFrame m ([Value.ref b] : List Value).toArray 7) := by
      rw [hh0]
      exact whole_start l htr hbd ⟨B.exec, B.bytes, B.returns, hml, hown, hts, hX, hbl, B.notSynchronized, hgv⟩
    obtain ⟨t, a1, o, b1, b2, b3⟩ := K s₁ rfl X₀
    exact ⟨t, o, a1, b1, b2, b3⟩
theorem lw_pre_spec {args : Array Value} {s : State} (h : (Jvm.Cond.and given_1 narrow_1).before args s = true) (hr : rest_1_c.before args s = true) : ∃ (b : Addr) (xs : List Int32), lw_P b xs args s := by
  have hs := flat_of_before _ h
  have hq := flat_of_before _ hr
  have hc : (Cond.count 1).before args s = true := hs _ (by decide +kernel)
  have harr : (Cond.arrayOf (.arg 0) .int).before args s = true := hs _ (by decide +kernel)
  have hle : (Cond.le (.length (.arg 0)) (.int 3074)).before args s = true := hs _ (by decide +kernel)
  have hlen : (Cond.isInt (.length (.arg 0))).before args s = true := hq _ (by decide +kernel)
  have hall : (Cond.all (.arg 0) (.isInt (.elem (.arg 0) (.index 0)))).before args s = true := hq _ (by decide +kernel)
  obtain ⟨b, xs, hb, hx⟩ := State.ints_of_pre rfl harr hlen hall
  have hsm : xs.length < 2 ^ 31 := hx.choose_spec.2.2.2
  have hev : (Term.length (.arg 0)).eval args s none [] s = some (.int xs.length.toInt32) := hx.length_eval hb
  have hv := Cond.le_ints hev (show (Term.int 3074).eval args s none [] s = some (.int 3074) from rfl)
  have hd : xs.length.toInt32 ≤ 3074 := by
    simpa [Cond.before, Cond.holds, hv] using hle
  have hN : xs.length ≤ 3074 := (Int32.ofNat_le_ofNat hsm (by decide)).mp (show Int32.ofNat xs.length ≤ Int32.ofNat 3074 from hd)
  exact ⟨b, xs, Cond.one_arg hc (show args[0]? = some (.ref b) from hb), hx, hN, h⟩
theorem lw_comes (l : Launch) (htr : l.stackTraces = false) : Comes l x (Jvm.Cond.code x code maxLocals ret :: tables_1) room_1 (fun tb e args s => Calls_1 tb e args s ∧ rest_1 tb e args s ∧ Pre_1 tb e args s)
    (fun _ _ args s o t => lw_Q args s o t) := by
  intro p e ha hc hk s m args below hf hfit hheap happ hpre
  obtain ⟨b, xs, hP⟩ := lw_pre_spec hpre.2.2 hpre.2.1
  obtain ⟨k, o, h1, h2, h3, hQ⟩ := lw_walk l htr b xs p e ha hc hk s m args below hf ((Spec.applies_iff_loose hf).mp happ).1 hP trivial
  exact ⟨k, o, h1, h2, h3, hQ⟩
theorem lw_frame {s t : State} {o : Outcome} {args : Array Value} (h : Framed s o t [] 601024 7293000) :
    Framed s o t (fieldLocs frame_1_writes args s ++ arrayLocs frame_1_arrays args s ++ staticLocs frame_1_statics s) 601024 7293000 := h
theorem lw_limb (L : Cond) (hL : ∀ (args : Array Value) (s t : State), L.after args s (.returned (some (.int 1))) t = true) :
    ArmFor flags0 classFile x code maxLocals ret World_1 tables_1 room_1 Calls_1 rest_1 Pre_1
      (fun tb e a s o t => postC L tb e a s o t ∧ Framed s o t (fieldLocs frame_1_writes a s ++ arrayLocs frame_1_arrays a s ++ staticLocs frame_1_statics s) 601024 7293000) := by
  intro l hfl _ _ p e ha hc hk s m args below hf hfit hheap happ hpre
  obtain ⟨k, o, h1, h2, h3, rfl, hF⟩ := lw_comes l (by unfold Launch.stackTraces; rw [hfl]; decide) p e ha hc hk s m args below hf hfit hheap happ hpre
  exact ⟨k, _, h1, h2, h3, hL args s _, lw_frame hF⟩
theorem i_vc : Claimed_1_1 ∧ Claimed_1_2 := ⟨lw_limb limb_1_1 (fun args s t => by simp [limb_1_1, Cond.after, Cond.holds, Cond.value]), lw_limb limb_1_2 (fun args s t => Cond.after_iff.mpr (by
  first | (rw [show limb_1_2 = Cond.eq .result (.int 1) from rfl, Cond.eq_ints (x := 1) (y := 1) rfl rfl]; simp; done) | (simp [limb_1_2, Cond.value, Term.eval]; done)))⟩
