/-! PURE ROWS: the law's cases. Own work. -/
def IV (W H : Nat) (pl : Int32) (o : Nat → Int32) (P T : Nat) (tb : Nat → Int32) (F : Nat) (rb pf sf df mr : Nat → Int32) : Prop :=
  (1 ≤ W ∧ W ≤ 24 ∧ 1 ≤ H ∧ H ≤ 24) ∧ (pl = 0 ∨ pl = 1) ∧ ZB (W * H) o ∧ P ≤ W * H ∧ T ≤ H * (2 * W + 2) + 1 ∧ BY tb ∧ F ≤ 4000 ∧ BY rb ∧ ZB (W * H) pf ∧ BY pf ∧ ZB (W * H) sf ∧ BY sf ∧ ZB (W * H) df ∧ BY df ∧ ZB (W * H) mr
def GO (W H : Nat) (again : Int32 → Int32 → Nat → (Nat → Int32) → Nat → (Nat → Int32) → Int32 → Int32 → Nat → (Nat → Int32) → Int32 → Nat → (Nat → Int32) → Int32 → Nat → (Nat → Int32) → Int32 → Int32 → Nat → (Nat → Int32) → Int32 → Int32 → Nat → (Nat → Int32) → Int32 → Int32 → Nat → (Nat → Int32) → Int32 → Int32 → Int32 → Int32 → Int32 → Int32 → Int32 → Int32 → Int32 → Int32 → Int32 → Nat → (Nat → Int32) → Nat → (Nat → Int32) → Nat → (Nat → Int32) → Nat → (Nat → Int32) → Nat → (Nat → Int32) → Nat → (Nat → Int32) → Nat → (Nat → Int32) → (Nat → Int64) → Prop) (i : Int32) : Prop :=
  ∀ (pl : Int32) (o cn : Nat → Int32) (P : Nat) (bl : Int32) (fl : Nat → Int32) (T : Nat) (tb : Nat → Int32) (F : Nat) (rb pf sf df : Nat → Int32) (fa be b1 b2 pc : Int32) (mr : Nat → Int32) (w : Nat → Int64), IV W H pl o P T tb F rb pf sf df mr → again i pl (W * H) o 256 cn (nI P) bl (W * H * 6) fl (nI T) (H * (2 * W + 2) + 1) tb (nI F) 4000 rb (nI W) (nI H) (W * H) pf (nI W) (nI H) (W * H) sf (nI W) (nI H) (W * H) df (nI W) (nI H) fa (nI T) (nI F) (nI P) pl be b1 b2 pc 576 pf 576 sf 576 o 576 mr 4000 tb 4000 rb 3600 fl w
theorem fin_x {k : Int32} {A B : Prop} (hk : ¬ k = 0) (h : A) : (k = k → (¬ k = 0 → A) ∧ (k = 0 → B)) ∧ (¬ k = k → False) := ⟨fun _ => ⟨fun _ => h, fun c => absurd c hk⟩, fun c => c rfl⟩
theorem fin_0 {A Z : Prop} {a b : Int64} (he : a = b) (h : A) : ((0 : Int32) = 0 → (¬ (0 : Int32) = 0 → Z) ∧ ((0 : Int32) = 0 → vp_in 0 ((1 : Int32).toNatClampNeg) ∧ ((lg_cmp a b = 0 → A) ∧ (¬ lg_cmp a b = 0 → False)))) ∧ (¬ (0 : Int32) = 0 → False) :=
  ⟨fun _ => ⟨fun c => absurd rfl c, fun _ => ⟨in01, fun _ => h, fun c => c (lg0.mpr he)⟩⟩, fun c => c rfl⟩
theorem fin_e {a : Int32} {A : Prop} (h : A) : (a = a → A) ∧ (¬ a = a → False) := ⟨fun _ => h, fun c => c rfl⟩
theorem k_1 : ¬ (1 : Int32) = 0 := by decide
theorem k_2 : ¬ (2 : Int32) = 0 := by decide
theorem upd_zb {N k : Nat} {f : Nat → Int32} {v : Int32} (h : ZB N f) (hk : k < N) : ZB N (upd f k v) := by
  intro j hj
  rw [pk_un (by omega)]; exact h j hj
theorem nb_pl {pl : Int32} (h : pl = 0 ∨ pl = 1) : narrow .boolean (.int pl) = .int pl := by
  rcases h with e | e
  · rw [e]; exact nb0
  · rw [e]; exact nb1
theorem case_0 {L I : Nat} (hL : L ≤ 3074) (hI : I + 6 ≤ L) {xs : Nat → Int32} {again : Int32 → Int32 → Nat → (Nat → Int32) → Nat → (Nat → Int32) → Int32 → Int32 → Nat → (Nat → Int32) → Int32 → Nat → (Nat → Int32) → Int32 → Nat → (Nat → Int32) → Int32 → Int32 → Nat → (Nat → Int32) → Int32 → Int32 → Nat → (Nat → Int32) → Int32 → Int32 → Nat → (Nat → Int32) → Int32 → Int32 → Int32 → Int32 → Int32 → Int32 → Int32 → Int32 → Int32 → Int32 → Int32 → Nat → (Nat → Int32) → Nat → (Nat → Int32) → Nat → (Nat → Int32) → Nat → (Nat → Int32) → Nat → (Nat → Int32) → Nat → (Nat → Int32) → Nat → (Nat → Int32) → (Nat → Int64) → Prop} {W H : Nat} {pl : Int32} {o cn : Nat → Int32} {P : Nat} {bl : Int32} {fl : Nat → Int32} {T : Nat} {tb : Nat → Int32} {F : Nat} {rb pf sf df : Nat → Int32} {fa be b1 b2 pc : Int32} {mr : Nat → Int32} {w : Nat → Int64} (hV : IV W H pl o P T tb F rb pf sf df mr) (hA : GO W H again (nI I + 6)) : w_LW_case_0 L xs again (nI I) pl (W * H) o 256 cn (nI P) bl (W * H * 6) fl (nI T) (H * (2 * W + 2) + 1) tb (nI F) 4000 rb (nI W) (nI H) (W * H) pf (nI W) (nI H) (W * H) sf (nI W) (nI H) (W * H) df (nI W) (nI H) fa (nI T) (nI F) (nI P) pl be b1 b2 pc 576 pf 576 sf 576 o 576 mr 4000 tb 4000 rb 3600 fl w := by
  obtain ⟨⟨h1W, hW, h1H, hH⟩, hpl, hoz, hP, hT, htb, hF, hrb, hpz, hpb, hsz, hsb, hdz, hdb, hmz⟩ := hV
  have hD : 1 ≤ W ∧ W ≤ 24 ∧ 1 ≤ H ∧ H ≤ 24 := ⟨h1W, hW, h1H, hH⟩
  have hs := pl_le hW hH
  have hiv : IV W H pl o P T tb F rb pf sf df mr := ⟨hD, hpl, hoz, hP, hT, htb, hF, hrb, hpz, hpb, hsz, hsb, hdz, hdb, hmz⟩
  unfold w_LW_case_0
  refine ⟨(sc_ix (k := 1) hL hI (by omega)).1, (sc_ix (k := 2) hL hI (by omega)).1, (sc_ix (k := 3) hL hI (by omega)).1, ?_⟩
  generalize xs (nI I + 1).toNatClampNeg = a1
  generalize xs (nI I + 2).toNatClampNeg = a2
  generalize xs (nI I + 3).toNatClampNeg = a3
  refine s_LW_put hW hH (fun x y hx hy e1 e2 hb => ?_) (fun hi => ?_) (fun hi hb => ?_)
  · subst e1 e2
    have hz := ix_lt hW hH hx hy
    refine ⟨(sc_ix (k := 1) hL hI (by omega)).1, (sc_ix (k := 2) hL hI (by omega)).1, (sc_ix (k := 3) hL hI (by omega)).1, ?_⟩
    refine s_MO_put h1W hW h1H hH (fun x' y' hx' hy' e1 e2 _ => ?_) (fun hi => absurd (in_inb hx hy hW hH) hi) (fun _ c => absurd hb c)
    rw [n_eq (by omega) (by omega)] at e1 e2
    subst e1 e2
    unfold w_MO_thrown
    refine ⟨fun _ => ⟨fun c => absurd rfl c, fun _ => ⟨in01, ?_⟩⟩, fun c => c rfl⟩
    by_cases e : pf (y * W + x) = a3
    · simp only [if_pos e]
      refine ⟨fun _ => ⟨fun _ => hA _ _ _ _ _ _ _ _ _ _ _ _ _ _ _ _ _ _ _ _ ⟨hD, hpl, hoz, hP, hT, htb, hF, hrb, upd_zb hpz hz.1, upd_by hpb hb, hsz, hsb, hdz, hdb, hmz⟩, fun c => c (lg0.mpr pk_uLs)⟩, fun c => absurd trivial c⟩
    · simp only [if_neg e]
      refine ⟨fun c => absurd c (by decide), fun _ => ⟨fun _ => hA _ _ _ _ _ _ _ _ _ _ _ _ _ _ _ _ _ _ _ _ ⟨hD, hpl, hoz, hP, hT, htb, hF, hrb, upd_zb hpz hz.1, upd_by hpb hb, hsz, hsb, hdz, hdb, hmz⟩, fun c => c (lg0.mpr pk_uLs)⟩⟩
  · refine ⟨(sc_ix (k := 1) hL hI (by omega)).1, (sc_ix (k := 2) hL hI (by omega)).1, (sc_ix (k := 3) hL hI (by omega)).1, ?_⟩
    refine s_MO_put h1W hW h1H hH (fun x' y' hx' hy' e1 e2 _ => ?_) (fun _ => ?_) (fun c _ => absurd c hi)
    · exfalso; subst e1 e2; exact hi (in_inb hx' hy' hW hH)
    · unfold w_MO_thrown
      exact fin_x k_1 (hA _ _ _ _ _ _ _ _ _ _ _ _ _ _ _ _ _ _ _ _ hiv)
  · refine ⟨(sc_ix (k := 1) hL hI (by omega)).1, (sc_ix (k := 2) hL hI (by omega)).1, (sc_ix (k := 3) hL hI (by omega)).1, ?_⟩
    refine s_MO_put h1W hW h1H hH (fun x' y' hx' hy' e1 e2 c => absurd c hb) (fun c => absurd hi c) (fun _ _ => ?_)
    unfold w_MO_thrown
    exact fin_x k_2 (hA _ _ _ _ _ _ _ _ _ _ _ _ _ _ _ _ _ _ _ _ hiv)
theorem case_1 {L I : Nat} (hL : L ≤ 3074) (hI : I + 6 ≤ L) {xs : Nat → Int32} {again : Int32 → Int32 → Nat → (Nat → Int32) → Nat → (Nat → Int32) → Int32 → Int32 → Nat → (Nat → Int32) → Int32 → Nat → (Nat → Int32) → Int32 → Nat → (Nat → Int32) → Int32 → Int32 → Nat → (Nat → Int32) → Int32 → Int32 → Nat → (Nat → Int32) → Int32 → Int32 → Nat → (Nat → Int32) → Int32 → Int32 → Int32 → Int32 → Int32 → Int32 → Int32 → Int32 → Int32 → Int32 → Int32 → Nat → (Nat → Int32) → Nat → (Nat → Int32) → Nat → (Nat → Int32) → Nat → (Nat → Int32) → Nat → (Nat → Int32) → Nat → (Nat → Int32) → Nat → (Nat → Int32) → (Nat → Int64) → Prop} {W H : Nat} {pl : Int32} {o cn : Nat → Int32} {P : Nat} {bl : Int32} {fl : Nat → Int32} {T : Nat} {tb : Nat → Int32} {F : Nat} {rb pf sf df : Nat → Int32} {fa be b1 b2 pc : Int32} {mr : Nat → Int32} {w : Nat → Int64} (hV : IV W H pl o P T tb F rb pf sf df mr) (hA : GO W H again (nI I + 6)) : w_LW_case_1 L xs again (nI I) pl (W * H) o 256 cn (nI P) bl (W * H * 6) fl (nI T) (H * (2 * W + 2) + 1) tb (nI F) 4000 rb (nI W) (nI H) (W * H) pf (nI W) (nI H) (W * H) sf (nI W) (nI H) (W * H) df (nI W) (nI H) fa (nI T) (nI F) (nI P) pl be b1 b2 pc 576 pf 576 sf 576 o 576 mr 4000 tb 4000 rb 3600 fl w := by
  obtain ⟨⟨h1W, hW, h1H, hH⟩, hpl, hoz, hP, hT, htb, hF, hrb, hpz, hpb, hsz, hsb, hdz, hdb, hmz⟩ := hV
  have hD : 1 ≤ W ∧ W ≤ 24 ∧ 1 ≤ H ∧ H ≤ 24 := ⟨h1W, hW, h1H, hH⟩
  have hs := pl_le hW hH
  have hiv : IV W H pl o P T tb F rb pf sf df mr := ⟨hD, hpl, hoz, hP, hT, htb, hF, hrb, hpz, hpb, hsz, hsb, hdz, hdb, hmz⟩
  unfold w_LW_case_1
  refine ⟨(sc_ix (k := 1) hL hI (by omega)).1, (sc_ix (k := 2) hL hI (by omega)).1, (sc_ix (k := 3) hL hI (by omega)).1, (sc_ix (k := 4) hL hI (by omega)).1, (sc_ix (k := 5) hL hI (by omega)).1, ?_⟩
  generalize xs (nI I + 1).toNatClampNeg = a1
  generalize xs (nI I + 2).toNatClampNeg = a2
  generalize xs (nI I + 3).toNatClampNeg = a3
  generalize xs (nI I + 4).toNatClampNeg = a4
  generalize xs (nI I + 5).toNatClampNeg = a5
  refine s_LW_box hW hH (fun x y w' h' hx hy e1 e2 w0 w1 w2 g0 g1 g2 c3 c4 hb => ?_) (fun hi => ?_) (fun hi hn => ?_)
  · subst e1 e2
    refine ⟨(sc_ix (k := 1) hL hI (by omega)).1, (sc_ix (k := 2) hL hI (by omega)).1, (sc_ix (k := 3) hL hI (by omega)).1, (sc_ix (k := 4) hL hI (by omega)).1, (sc_ix (k := 5) hL hI (by omega)).1, ?_⟩
    refine s_MO_box_in h1W hW h1H hH hx hy w0 w1 w2 g0 g1 g2 c3 c4 hb ?_
    unfold w_MO_thrown
    exact fin_0 pk_uLs (hA _ _ _ _ _ _ _ _ _ _ _ _ _ _ _ _ _ _ _ _ ⟨hD, hpl, hoz, hP, hT, htb, hF, hrb, rcF_zb hpz w0 g0, rcF_by hpb hb, hsz, hsb, hdz, hdb, hmz⟩)
  · refine ⟨(sc_ix (k := 1) hL hI (by omega)).1, (sc_ix (k := 2) hL hI (by omega)).1, (sc_ix (k := 3) hL hI (by omega)).1, (sc_ix (k := 4) hL hI (by omega)).1, (sc_ix (k := 5) hL hI (by omega)).1, ?_⟩
    refine s_MO_box_ix h1W hW h1H hH hi ?_
    unfold w_MO_thrown
    exact fin_x k_1 (hA _ _ _ _ _ _ _ _ _ _ _ _ _ _ _ _ _ _ _ _ hiv)
  · refine ⟨(sc_ix (k := 1) hL hI (by omega)).1, (sc_ix (k := 2) hL hI (by omega)).1, (sc_ix (k := 3) hL hI (by omega)).1, (sc_ix (k := 4) hL hI (by omega)).1, (sc_ix (k := 5) hL hI (by omega)).1, ?_⟩
    refine s_MO_box_ia h1W hW h1H hH hi hn ?_
    unfold w_MO_thrown
    exact fin_x k_2 (hA _ _ _ _ _ _ _ _ _ _ _ _ _ _ _ _ _ _ _ _ hiv)
theorem case_2 {L I : Nat} (hL : L ≤ 3074) (hI : I + 6 ≤ L) {xs : Nat → Int32} {again : Int32 → Int32 → Nat → (Nat → Int32) → Nat → (Nat → Int32) → Int32 → Int32 → Nat → (Nat → Int32) → Int32 → Nat → (Nat → Int32) → Int32 → Nat → (Nat → Int32) → Int32 → Int32 → Nat → (Nat → Int32) → Int32 → Int32 → Nat → (Nat → Int32) → Int32 → Int32 → Nat → (Nat → Int32) → Int32 → Int32 → Int32 → Int32 → Int32 → Int32 → Int32 → Int32 → Int32 → Int32 → Int32 → Nat → (Nat → Int32) → Nat → (Nat → Int32) → Nat → (Nat → Int32) → Nat → (Nat → Int32) → Nat → (Nat → Int32) → Nat → (Nat → Int32) → Nat → (Nat → Int32) → (Nat → Int64) → Prop} {W H : Nat} {pl : Int32} {o cn : Nat → Int32} {P : Nat} {bl : Int32} {fl : Nat → Int32} {T : Nat} {tb : Nat → Int32} {F : Nat} {rb pf sf df : Nat → Int32} {fa be b1 b2 pc : Int32} {mr : Nat → Int32} {w : Nat → Int64} (hV : IV W H pl o P T tb F rb pf sf df mr) (hA : GO W H again (nI I + 6)) : w_LW_case_2 L xs again (nI I) pl (W * H) o 256 cn (nI P) bl (W * H * 6) fl (nI T) (H * (2 * W + 2) + 1) tb (nI F) 4000 rb (nI W) (nI H) (W * H) pf (nI W) (nI H) (W * H) sf (nI W) (nI H) (W * H) df (nI W) (nI H) fa (nI T) (nI F) (nI P) pl be b1 b2 pc 576 pf 576 sf 576 o 576 mr 4000 tb 4000 rb 3600 fl w := by
  obtain ⟨⟨h1W, hW, h1H, hH⟩, hpl, hoz, hP, hT, htb, hF, hrb, hpz, hpb, hsz, hsb, hdz, hdb, hmz⟩ := hV
  have hD : 1 ≤ W ∧ W ≤ 24 ∧ 1 ≤ H ∧ H ≤ 24 := ⟨h1W, hW, h1H, hH⟩
  have hs := pl_le hW hH
  have hiv : IV W H pl o P T tb F rb pf sf df mr := ⟨hD, hpl, hoz, hP, hT, htb, hF, hrb, hpz, hpb, hsz, hsb, hdz, hdb, hmz⟩
  unfold w_LW_case_2
  refine ⟨(sc_ix (k := 1) hL hI (by omega)).1, (sc_ix (k := 2) hL hI (by omega)).1, ?_⟩
  generalize xs (nI I + 1).toNatClampNeg = a1
  generalize xs (nI I + 2).toNatClampNeg = a2
  refine s_LW_at hW hH (fun x y hx hy e1 e2 => ?_) (fun hi => ?_)
  · subst e1 e2
    refine ⟨(sc_ix (k := 1) hL hI (by omega)).1, (sc_ix (k := 2) hL hI (by omega)).1, ?_⟩
    refine s_MO_at h1W hW h1H hH (fun c => absurd (in_inb hx hy hW hH) c) (fun x' y' hx' hy' e1 e2 => ?_)
    rw [n_eq (by omega) (by omega)] at e1 e2
    subst e1 e2
    unfold w_MO_thrown
    exact fin_0 pk_uLs (hA _ _ _ _ _ _ _ _ _ _ _ _ _ _ _ _ _ _ _ _ hiv)
  · refine ⟨(sc_ix (k := 1) hL hI (by omega)).1, (sc_ix (k := 2) hL hI (by omega)).1, ?_⟩
    refine s_MO_at h1W hW h1H hH (fun _ => ?_) (fun x' y' hx' hy' e1 e2 => ?_)
    · unfold w_MO_thrown
      exact fin_x k_1 (hA _ _ _ _ _ _ _ _ _ _ _ _ _ _ _ _ _ _ _ _ hiv)
    · exfalso; subst e1 e2; exact hi (in_inb hx' hy' hW hH)
theorem case_3 {L I : Nat} (hL : L ≤ 3074) (hI : I + 6 ≤ L) {xs : Nat → Int32} {again : Int32 → Int32 → Nat → (Nat → Int32) → Nat → (Nat → Int32) → Int32 → Int32 → Nat → (Nat → Int32) → Int32 → Nat → (Nat → Int32) → Int32 → Nat → (Nat → Int32) → Int32 → Int32 → Nat → (Nat → Int32) → Int32 → Int32 → Nat → (Nat → Int32) → Int32 → Int32 → Nat → (Nat → Int32) → Int32 → Int32 → Int32 → Int32 → Int32 → Int32 → Int32 → Int32 → Int32 → Int32 → Int32 → Nat → (Nat → Int32) → Nat → (Nat → Int32) → Nat → (Nat → Int32) → Nat → (Nat → Int32) → Nat → (Nat → Int32) → Nat → (Nat → Int32) → Nat → (Nat → Int32) → (Nat → Int64) → Prop} {W H : Nat} {pl : Int32} {o cn : Nat → Int32} {P : Nat} {bl : Int32} {fl : Nat → Int32} {T : Nat} {tb : Nat → Int32} {F : Nat} {rb pf sf df : Nat → Int32} {fa be b1 b2 pc : Int32} {mr : Nat → Int32} {w : Nat → Int64} (hV : IV W H pl o P T tb F rb pf sf df mr) (hA : GO W H again (nI I + 6)) : w_LW_case_3 L xs again (nI I) pl (W * H) o 256 cn (nI P) bl (W * H * 6) fl (nI T) (H * (2 * W + 2) + 1) tb (nI F) 4000 rb (nI W) (nI H) (W * H) pf (nI W) (nI H) (W * H) sf (nI W) (nI H) (W * H) df (nI W) (nI H) fa (nI T) (nI F) (nI P) pl be b1 b2 pc 576 pf 576 sf 576 o 576 mr 4000 tb 4000 rb 3600 fl w := by
  obtain ⟨⟨h1W, hW, h1H, hH⟩, hpl, hoz, hP, hT, htb, hF, hrb, hpz, hpb, hsz, hsb, hdz, hdb, hmz⟩ := hV
  have hD : 1 ≤ W ∧ W ≤ 24 ∧ 1 ≤ H ∧ H ≤ 24 := ⟨h1W, hW, h1H, hH⟩
  have hs := pl_le hW hH
  have hiv : IV W H pl o P T tb F rb pf sf df mr := ⟨hD, hpl, hoz, hP, hT, htb, hF, hrb, hpz, hpb, hsz, hsb, hdz, hdb, hmz⟩
  unfold w_LW_case_3
  refine ⟨(sc_ix (k := 1) hL hI (by omega)).1, (sc_ix (k := 2) hL hI (by omega)).1, (sc_ix (k := 3) hL hI (by omega)).1, ?_⟩
  generalize xs (nI I + 1).toNatClampNeg = a1
  generalize xs (nI I + 2).toNatClampNeg = a2
  generalize xs (nI I + 3).toNatClampNeg = a3
  refine s_LW_second hW hH (fun x y hx hy e1 e2 hb => ?_) (fun hi => ?_) (fun hi hb => ?_)
  · subst e1 e2
    have hz := ix_lt hW hH hx hy
    refine ⟨(sc_ix (k := 1) hL hI (by omega)).1, (sc_ix (k := 2) hL hI (by omega)).1, (sc_ix (k := 3) hL hI (by omega)).1, ?_⟩
    refine s_MO_second h1W hW h1H hH (fun x' y' hx' hy' e1 e2 _ => ?_) (fun hi => absurd (in_inb hx hy hW hH) hi) (fun _ c => absurd hb c)
    rw [n_eq (by omega) (by omega)] at e1 e2
    subst e1 e2
    unfold w_MO_thrown
    refine ⟨fun _ => ⟨fun c => absurd rfl c, fun _ => ⟨in01, ?_⟩⟩, fun c => c rfl⟩
    by_cases e : sf (y * W + x) = a3
    · simp only [if_pos e]
      refine ⟨fun _ => ⟨fun _ => hA _ _ _ _ _ _ _ _ _ _ _ _ _ _ _ _ _ _ _ _ ⟨hD, hpl, hoz, hP, hT, htb, hF, hrb, hpz, hpb, upd_zb hsz hz.1, upd_by hsb hb, hdz, hdb, hmz⟩, fun c => c (lg0.mpr pk_uLs)⟩, fun c => absurd trivial c⟩
    · simp only [if_neg e]
      refine ⟨fun c => absurd c (by decide), fun _ => ⟨fun _ => hA _ _ _ _ _ _ _ _ _ _ _ _ _ _ _ _ _ _ _ _ ⟨hD, hpl, hoz, hP, hT, htb, hF, hrb, hpz, hpb, upd_zb hsz hz.1, upd_by hsb hb, hdz, hdb, hmz⟩, fun c => c (lg0.mpr pk_uLs)⟩⟩
  · refine ⟨(sc_ix (k := 1) hL hI (by omega)).1, (sc_ix (k := 2) hL hI (by omega)).1, (sc_ix (k := 3) hL hI (by omega)).1, ?_⟩
    refine s_MO_second h1W hW h1H hH (fun x' y' hx' hy' e1 e2 _ => ?_) (fun _ => ?_) (fun c _ => absurd c hi)
    · exfalso; subst e1 e2; exact hi (in_inb hx' hy' hW hH)
    · unfold w_MO_thrown
      exact fin_x k_1 (hA _ _ _ _ _ _ _ _ _ _ _ _ _ _ _ _ _ _ _ _ hiv)
  · refine ⟨(sc_ix (k := 1) hL hI (by omega)).1, (sc_ix (k := 2) hL hI (by omega)).1, (sc_ix (k := 3) hL hI (by omega)).1, ?_⟩
    refine s_MO_second h1W hW h1H hH (fun x' y' hx' hy' e1 e2 c => absurd c hb) (fun c => absurd hi c) (fun _ _ => ?_)
    unfold w_MO_thrown
    exact fin_x k_2 (hA _ _ _ _ _ _ _ _ _ _ _ _ _ _ _ _ _ _ _ _ hiv)
theorem case_4 {L I : Nat} (hL : L ≤ 3074) (hI : I + 6 ≤ L) {xs : Nat → Int32} {again : Int32 → Int32 → Nat → (Nat → Int32) → Nat → (Nat → Int32) → Int32 → Int32 → Nat → (Nat → Int32) → Int32 → Nat → (Nat → Int32) → Int32 → Nat → (Nat → Int32) → Int32 → Int32 → Nat → (Nat → Int32) → Int32 → Int32 → Nat → (Nat → Int32) → Int32 → Int32 → Nat → (Nat → Int32) → Int32 → Int32 → Int32 → Int32 → Int32 → Int32 → Int32 → Int32 → Int32 → Int32 → Int32 → Nat → (Nat → Int32) → Nat → (Nat → Int32) → Nat → (Nat → Int32) → Nat → (Nat → Int32) → Nat → (Nat → Int32) → Nat → (Nat → Int32) → Nat → (Nat → Int32) → (Nat → Int64) → Prop} {W H : Nat} {pl : Int32} {o cn : Nat → Int32} {P : Nat} {bl : Int32} {fl : Nat → Int32} {T : Nat} {tb : Nat → Int32} {F : Nat} {rb pf sf df : Nat → Int32} {fa be b1 b2 pc : Int32} {mr : Nat → Int32} {w : Nat → Int64} (hV : IV W H pl o P T tb F rb pf sf df mr) (hA : GO W H again (nI I + 6)) : w_LW_case_4 L xs again (nI I) pl (W * H) o 256 cn (nI P) bl (W * H * 6) fl (nI T) (H * (2 * W + 2) + 1) tb (nI F) 4000 rb (nI W) (nI H) (W * H) pf (nI W) (nI H) (W * H) sf (nI W) (nI H) (W * H) df (nI W) (nI H) fa (nI T) (nI F) (nI P) pl be b1 b2 pc 576 pf 576 sf 576 o 576 mr 4000 tb 4000 rb 3600 fl w := by
  obtain ⟨⟨h1W, hW, h1H, hH⟩, hpl, hoz, hP, hT, htb, hF, hrb, hpz, hpb, hsz, hsb, hdz, hdb, hmz⟩ := hV
  have hD : 1 ≤ W ∧ W ≤ 24 ∧ 1 ≤ H ∧ H ≤ 24 := ⟨h1W, hW, h1H, hH⟩
  have hs := pl_le hW hH
  have hiv : IV W H pl o P T tb F rb pf sf df mr := ⟨hD, hpl, hoz, hP, hT, htb, hF, hrb, hpz, hpb, hsz, hsb, hdz, hdb, hmz⟩
  unfold w_LW_case_4
  unfold w_DF_swap
  refine s_PI_differences hs ?_
  refine s_MO_swap hW hH ?_
  rw [cp_zg hpz hsz, cp_zg hsz hpz]
  exact fin_e (hA _ _ _ _ _ _ _ _ _ _ _ _ _ _ _ _ _ _ _ _ ⟨hD, hpl, hoz, hP, hT, htb, hF, hrb, hsz, hsb, hpz, hpb, hdz, hdb, hmz⟩)
theorem case_5 {L I : Nat} (hL : L ≤ 3074) (hI : I + 6 ≤ L) {xs : Nat → Int32} {again : Int32 → Int32 → Nat → (Nat → Int32) → Nat → (Nat → Int32) → Int32 → Int32 → Nat → (Nat → Int32) → Int32 → Nat → (Nat → Int32) → Int32 → Nat → (Nat → Int32) → Int32 → Int32 → Nat → (Nat → Int32) → Int32 → Int32 → Nat → (Nat → Int32) → Int32 → Int32 → Nat → (Nat → Int32) → Int32 → Int32 → Int32 → Int32 → Int32 → Int32 → Int32 → Int32 → Int32 → Int32 → Int32 → Nat → (Nat → Int32) → Nat → (Nat → Int32) → Nat → (Nat → Int32) → Nat → (Nat → Int32) → Nat → (Nat → Int32) → Nat → (Nat → Int32) → Nat → (Nat → Int32) → (Nat → Int64) → Prop} {W H : Nat} {pl : Int32} {o cn : Nat → Int32} {P : Nat} {bl : Int32} {fl : Nat → Int32} {T : Nat} {tb : Nat → Int32} {F : Nat} {rb pf sf df : Nat → Int32} {fa be b1 b2 pc : Int32} {mr : Nat → Int32} {w : Nat → Int64} (hV : IV W H pl o P T tb F rb pf sf df mr) (hA : GO W H again (nI I + 6)) : w_LW_case_5 L xs again (nI I) pl (W * H) o 256 cn (nI P) bl (W * H * 6) fl (nI T) (H * (2 * W + 2) + 1) tb (nI F) 4000 rb (nI W) (nI H) (W * H) pf (nI W) (nI H) (W * H) sf (nI W) (nI H) (W * H) df (nI W) (nI H) fa (nI T) (nI F) (nI P) pl be b1 b2 pc 576 pf 576 sf 576 o 576 mr 4000 tb 4000 rb 3600 fl w := by
  obtain ⟨⟨h1W, hW, h1H, hH⟩, hpl, hoz, hP, hT, htb, hF, hrb, hpz, hpb, hsz, hsb, hdz, hdb, hmz⟩ := hV
  have hD : 1 ≤ W ∧ W ≤ 24 ∧ 1 ≤ H ∧ H ≤ 24 := ⟨h1W, hW, h1H, hH⟩
  have hs := pl_le hW hH
  have hiv : IV W H pl o P T tb F rb pf sf df mr := ⟨hD, hpl, hoz, hP, hT, htb, hF, hrb, hpz, hpb, hsz, hsb, hdz, hdb, hmz⟩
  unfold w_LW_case_5
  obtain ⟨pl', o', P', fl', T', q', ⟨k1, k2, k3, k4, k5⟩, hC, hR⟩ := enc_ex (o0_plain := pl) (o0_found_count := nI P) (o0_found_byteLength := bl) (o2_count := nI T) (o0_counts := cn) (o0_fault := fa) (o0_toldSize := nI T) (o0_fedSize := nI F) (o0_parts := nI P) (o0_pln := pl) (o0_best := be) (o0_bestOne := b1) (o0_bestTwo := b2) (o0_place := pc) (o0_other := sf) (o0_read := mr) (o0_fed := rb) h1W hW h1H hH (f := pf) (o := o) (fl := fl) (q := tb) hpb hoz htb
  unfold w_DF_encode
  refine hC _ (fun c b => ?_)
  refine hR _ (fun a b c => ?_)
  exact fin_e (hA _ _ _ _ _ _ _ _ _ _ _ _ _ _ _ _ _ _ _ _ ⟨hD, k1, k2, k3, k4, k5, hF, hrb, hpz, hpb, hsz, hsb, hdz, hdb, hmz⟩)
theorem case_6 {L I : Nat} (hL : L ≤ 3074) (hI : I + 6 ≤ L) {xs : Nat → Int32} {again : Int32 → Int32 → Nat → (Nat → Int32) → Nat → (Nat → Int32) → Int32 → Int32 → Nat → (Nat → Int32) → Int32 → Nat → (Nat → Int32) → Int32 → Nat → (Nat → Int32) → Int32 → Int32 → Nat → (Nat → Int32) → Int32 → Int32 → Nat → (Nat → Int32) → Int32 → Int32 → Nat → (Nat → Int32) → Int32 → Int32 → Int32 → Int32 → Int32 → Int32 → Int32 → Int32 → Int32 → Int32 → Int32 → Nat → (Nat → Int32) → Nat → (Nat → Int32) → Nat → (Nat → Int32) → Nat → (Nat → Int32) → Nat → (Nat → Int32) → Nat → (Nat → Int32) → Nat → (Nat → Int32) → (Nat → Int64) → Prop} {W H : Nat} {pl : Int32} {o cn : Nat → Int32} {P : Nat} {bl : Int32} {fl : Nat → Int32} {T : Nat} {tb : Nat → Int32} {F : Nat} {rb pf sf df : Nat → Int32} {fa be b1 b2 pc : Int32} {mr : Nat → Int32} {w : Nat → Int64} (hV : IV W H pl o P T tb F rb pf sf df mr) (hA : GO W H again (nI I + 6)) : w_LW_case_6 L xs again (nI I) pl (W * H) o 256 cn (nI P) bl (W * H * 6) fl (nI T) (H * (2 * W + 2) + 1) tb (nI F) 4000 rb (nI W) (nI H) (W * H) pf (nI W) (nI H) (W * H) sf (nI W) (nI H) (W * H) df (nI W) (nI H) fa (nI T) (nI F) (nI P) pl be b1 b2 pc 576 pf 576 sf 576 o 576 mr 4000 tb 4000 rb 3600 fl w := by
  obtain ⟨⟨h1W, hW, h1H, hH⟩, hpl, hoz, hP, hT, htb, hF, hrb, hpz, hpb, hsz, hsb, hdz, hdb, hmz⟩ := hV
  have hD : 1 ≤ W ∧ W ≤ 24 ∧ 1 ≤ H ∧ H ≤ 24 := ⟨h1W, hW, h1H, hH⟩
  have hs := pl_le hW hH
  have hiv : IV W H pl o P T tb F rb pf sf df mr := ⟨hD, hpl, hoz, hP, hT, htb, hF, hrb, hpz, hpb, hsz, hsb, hdz, hdb, hmz⟩
  unfold w_LW_case_6
  refine ⟨(sc_ix (k := 1) hL hI (by omega)).1, ?_⟩
  generalize xs (nI I + 1).toNatClampNeg = a1
  refine s_LW_byteAt hH hW hT (fun i hi e => ?_) (fun hi => ?_)
  · subst e
    refine ⟨(sc_ix (k := 1) hL hI (by omega)).1, ?_⟩
    have hC2 : H * (2 * W + 2) ≤ 24 * 50 := Nat.mul_le_mul hH (by omega)
    refine s_MO_byteAt hH hW hT (fun i' hi' e => ?_) (fun c => ?_)
    · rw [n_eq (by omega) (by omega)] at e
      subst e
      unfold w_MO_thrown
      exact fin_0 pk_uLs (hA _ _ _ _ _ _ _ _ _ _ _ _ _ _ _ _ _ _ _ _ hiv)
    · exfalso; apply c; rw [ni_t (by omega)]; omega
  · refine ⟨(sc_ix (k := 1) hL hI (by omega)).1, ?_⟩
    refine s_MO_byteAt hH hW hT (fun i' hi' e => ?_) (fun c => ?_)
    · exfalso
      have hC2 : H * (2 * W + 2) ≤ 24 * 50 := Nat.mul_le_mul hH (by omega)
      subst e; apply hi; rw [ni_t (by omega)]; omega
    · unfold w_MO_thrown
      exact fin_x k_1 (hA _ _ _ _ _ _ _ _ _ _ _ _ _ _ _ _ _ _ _ _ hiv)
theorem case_7 {L I : Nat} (hL : L ≤ 3074) (hI : I + 6 ≤ L) {xs : Nat → Int32} {again : Int32 → Int32 → Nat → (Nat → Int32) → Nat → (Nat → Int32) → Int32 → Int32 → Nat → (Nat → Int32) → Int32 → Nat → (Nat → Int32) → Int32 → Nat → (Nat → Int32) → Int32 → Int32 → Nat → (Nat → Int32) → Int32 → Int32 → Nat → (Nat → Int32) → Int32 → Int32 → Nat → (Nat → Int32) → Int32 → Int32 → Int32 → Int32 → Int32 → Int32 → Int32 → Int32 → Int32 → Int32 → Int32 → Nat → (Nat → Int32) → Nat → (Nat → Int32) → Nat → (Nat → Int32) → Nat → (Nat → Int32) → Nat → (Nat → Int32) → Nat → (Nat → Int32) → Nat → (Nat → Int32) → (Nat → Int64) → Prop} {W H : Nat} {pl : Int32} {o cn : Nat → Int32} {P : Nat} {bl : Int32} {fl : Nat → Int32} {T : Nat} {tb : Nat → Int32} {F : Nat} {rb pf sf df : Nat → Int32} {fa be b1 b2 pc : Int32} {mr : Nat → Int32} {w : Nat → Int64} (hV : IV W H pl o P T tb F rb pf sf df mr) (hA : GO W H again (nI I + 6)) : w_LW_case_7 L xs again (nI I) pl (W * H) o 256 cn (nI P) bl (W * H * 6) fl (nI T) (H * (2 * W + 2) + 1) tb (nI F) 4000 rb (nI W) (nI H) (W * H) pf (nI W) (nI H) (W * H) sf (nI W) (nI H) (W * H) df (nI W) (nI H) fa (nI T) (nI F) (nI P) pl be b1 b2 pc 576 pf 576 sf 576 o 576 mr 4000 tb 4000 rb 3600 fl w := by
  obtain ⟨⟨h1W, hW, h1H, hH⟩, hpl, hoz, hP, hT, htb, hF, hrb, hpz, hpb, hsz, hsb, hdz, hdb, hmz⟩ := hV
  have hD : 1 ≤ W ∧ W ≤ 24 ∧ 1 ≤ H ∧ H ≤ 24 := ⟨h1W, hW, h1H, hH⟩
  have hs := pl_le hW hH
  have hiv : IV W H pl o P T tb F rb pf sf df mr := ⟨hD, hpl, hoz, hP, hT, htb, hF, hrb, hpz, hpb, hsz, hsb, hdz, hdb, hmz⟩
  unfold w_LW_case_7
  unfold w_DF_parts w_MO_parts
  exact fin_e (hA _ _ _ _ _ _ _ _ _ _ _ _ _ _ _ _ _ _ _ _ hiv)
theorem case_8 {L I : Nat} (hL : L ≤ 3074) (hI : I + 6 ≤ L) {xs : Nat → Int32} {again : Int32 → Int32 → Nat → (Nat → Int32) → Nat → (Nat → Int32) → Int32 → Int32 → Nat → (Nat → Int32) → Int32 → Nat → (Nat → Int32) → Int32 → Nat → (Nat → Int32) → Int32 → Int32 → Nat → (Nat → Int32) → Int32 → Int32 → Nat → (Nat → Int32) → Int32 → Int32 → Nat → (Nat → Int32) → Int32 → Int32 → Int32 → Int32 → Int32 → Int32 → Int32 → Int32 → Int32 → Int32 → Int32 → Nat → (Nat → Int32) → Nat → (Nat → Int32) → Nat → (Nat → Int32) → Nat → (Nat → Int32) → Nat → (Nat → Int32) → Nat → (Nat → Int32) → Nat → (Nat → Int32) → (Nat → Int64) → Prop} {W H : Nat} {pl : Int32} {o cn : Nat → Int32} {P : Nat} {bl : Int32} {fl : Nat → Int32} {T : Nat} {tb : Nat → Int32} {F : Nat} {rb pf sf df : Nat → Int32} {fa be b1 b2 pc : Int32} {mr : Nat → Int32} {w : Nat → Int64} (hV : IV W H pl o P T tb F rb pf sf df mr) (hA : GO W H again (nI I + 6)) : w_LW_case_8 L xs again (nI I) pl (W * H) o 256 cn (nI P) bl (W * H * 6) fl (nI T) (H * (2 * W + 2) + 1) tb (nI F) 4000 rb (nI W) (nI H) (W * H) pf (nI W) (nI H) (W * H) sf (nI W) (nI H) (W * H) df (nI W) (nI H) fa (nI T) (nI F) (nI P) pl be b1 b2 pc 576 pf 576 sf 576 o 576 mr 4000 tb 4000 rb 3600 fl w := by
  obtain ⟨⟨h1W, hW, h1H, hH⟩, hpl, hoz, hP, hT, htb, hF, hrb, hpz, hpb, hsz, hsb, hdz, hdb, hmz⟩ := hV
  have hD : 1 ≤ W ∧ W ≤ 24 ∧ 1 ≤ H ∧ H ≤ 24 := ⟨h1W, hW, h1H, hH⟩
  have hs := pl_le hW hH
  have hiv : IV W H pl o P T tb F rb pf sf df mr := ⟨hD, hpl, hoz, hP, hT, htb, hF, hrb, hpz, hpb, hsz, hsb, hdz, hdb, hmz⟩
  unfold w_LW_case_8
  refine ⟨(sc_ix (k := 1) hL hI (by omega)).1, (sc_ix (k := 2) hL hI (by omega)).1, ?_⟩
  generalize xs (nI I + 1).toNatClampNeg = a1
  generalize xs (nI I + 2).toNatClampNeg = a2
  refine s_LW_part hW hH hP (fun k i hk hi e1 e2 => ?_) (fun hi => ?_) (fun hi hj => ?_)
  · subst e1 e2
    refine ⟨(sc_ix (k := 1) hL hI (by omega)).1, (sc_ix (k := 2) hL hI (by omega)).1, ?_⟩
    refine s_MO_part hW hH hP (fun k' i' hk' hi' e1 e2 => ?_) (fun c => ?_) (fun _ c => ?_)
    · rw [n_eq (by omega) (by omega)] at e1 e2
      subst e1 e2
      unfold w_MO_thrown
      exact fin_0 pk_uLs (hA _ _ _ _ _ _ _ _ _ _ _ _ _ _ _ _ _ _ _ _ hiv)
    · exfalso; apply c; rw [ni_t (by omega)]; omega
    · exfalso; apply c; rw [ni_t (by omega)]; omega
  · refine ⟨(sc_ix (k := 1) hL hI (by omega)).1, (sc_ix (k := 2) hL hI (by omega)).1, ?_⟩
    refine s_MO_part hW hH hP (fun k' i' hk' hi' e1 e2 => ?_) (fun c => ?_) (fun c _ => absurd c hi)
    · exfalso; subst e1 e2; apply hi; rw [ni_t (by omega)]; omega
    · unfold w_MO_thrown
      exact fin_x k_1 (hA _ _ _ _ _ _ _ _ _ _ _ _ _ _ _ _ _ _ _ _ hiv)
  · refine ⟨(sc_ix (k := 1) hL hI (by omega)).1, (sc_ix (k := 2) hL hI (by omega)).1, ?_⟩
    refine s_MO_part hW hH hP (fun k' i' hk' hi' e1 e2 => ?_) (fun c => absurd hi c) (fun _ _ => ?_)
    · exfalso; subst e1 e2; apply hj; rw [ni_t (by omega)]; omega
    · unfold w_MO_thrown
      exact fin_x k_2 (hA _ _ _ _ _ _ _ _ _ _ _ _ _ _ _ _ _ _ _ _ hiv)
theorem case_9 {L I : Nat} (hL : L ≤ 3074) (hI : I + 6 ≤ L) {xs : Nat → Int32} {again : Int32 → Int32 → Nat → (Nat → Int32) → Nat → (Nat → Int32) → Int32 → Int32 → Nat → (Nat → Int32) → Int32 → Nat → (Nat → Int32) → Int32 → Nat → (Nat → Int32) → Int32 → Int32 → Nat → (Nat → Int32) → Int32 → Int32 → Nat → (Nat → Int32) → Int32 → Int32 → Nat → (Nat → Int32) → Int32 → Int32 → Int32 → Int32 → Int32 → Int32 → Int32 → Int32 → Int32 → Int32 → Int32 → Nat → (Nat → Int32) → Nat → (Nat → Int32) → Nat → (Nat → Int32) → Nat → (Nat → Int32) → Nat → (Nat → Int32) → Nat → (Nat → Int32) → Nat → (Nat → Int32) → (Nat → Int64) → Prop} {W H : Nat} {pl : Int32} {o cn : Nat → Int32} {P : Nat} {bl : Int32} {fl : Nat → Int32} {T : Nat} {tb : Nat → Int32} {F : Nat} {rb pf sf df : Nat → Int32} {fa be b1 b2 pc : Int32} {mr : Nat → Int32} {w : Nat → Int64} (hV : IV W H pl o P T tb F rb pf sf df mr) (hA : GO W H again (nI I + 6)) : w_LW_case_9 L xs again (nI I) pl (W * H) o 256 cn (nI P) bl (W * H * 6) fl (nI T) (H * (2 * W + 2) + 1) tb (nI F) 4000 rb (nI W) (nI H) (W * H) pf (nI W) (nI H) (W * H) sf (nI W) (nI H) (W * H) df (nI W) (nI H) fa (nI T) (nI F) (nI P) pl be b1 b2 pc 576 pf 576 sf 576 o 576 mr 4000 tb 4000 rb 3600 fl w := by
  obtain ⟨⟨h1W, hW, h1H, hH⟩, hpl, hoz, hP, hT, htb, hF, hrb, hpz, hpb, hsz, hsb, hdz, hdb, hmz⟩ := hV
  have hD : 1 ≤ W ∧ W ≤ 24 ∧ 1 ≤ H ∧ H ≤ 24 := ⟨h1W, hW, h1H, hH⟩
  have hs := pl_le hW hH
  have hiv : IV W H pl o P T tb F rb pf sf df mr := ⟨hD, hpl, hoz, hP, hT, htb, hF, hrb, hpz, hpb, hsz, hsb, hdz, hdb, hmz⟩
  unfold w_LW_case_9
  unfold w_DF_isPlain w_MO_isPlain
  exact ⟨nb_pl hpl, nb_pl hpl, fin_e (hA _ _ _ _ _ _ _ _ _ _ _ _ _ _ _ _ _ _ _ _ hiv)⟩
theorem case_10 {L I : Nat} (hL : L ≤ 3074) (hI : I + 6 ≤ L) {xs : Nat → Int32} {again : Int32 → Int32 → Nat → (Nat → Int32) → Nat → (Nat → Int32) → Int32 → Int32 → Nat → (Nat → Int32) → Int32 → Nat → (Nat → Int32) → Int32 → Nat → (Nat → Int32) → Int32 → Int32 → Nat → (Nat → Int32) → Int32 → Int32 → Nat → (Nat → Int32) → Int32 → Int32 → Nat → (Nat → Int32) → Int32 → Int32 → Int32 → Int32 → Int32 → Int32 → Int32 → Int32 → Int32 → Int32 → Int32 → Nat → (Nat → Int32) → Nat → (Nat → Int32) → Nat → (Nat → Int32) → Nat → (Nat → Int32) → Nat → (Nat → Int32) → Nat → (Nat → Int32) → Nat → (Nat → Int32) → (Nat → Int64) → Prop} {W H : Nat} {pl : Int32} {o cn : Nat → Int32} {P : Nat} {bl : Int32} {fl : Nat → Int32} {T : Nat} {tb : Nat → Int32} {F : Nat} {rb pf sf df : Nat → Int32} {fa be b1 b2 pc : Int32} {mr : Nat → Int32} {w : Nat → Int64} (hV : IV W H pl o P T tb F rb pf sf df mr) (hA : GO W H again (nI I + 6)) : w_LW_case_10 L xs again (nI I) pl (W * H) o 256 cn (nI P) bl (W * H * 6) fl (nI T) (H * (2 * W + 2) + 1) tb (nI F) 4000 rb (nI W) (nI H) (W * H) pf (nI W) (nI H) (W * H) sf (nI W) (nI H) (W * H) df (nI W) (nI H) fa (nI T) (nI F) (nI P) pl be b1 b2 pc 576 pf 576 sf 576 o 576 mr 4000 tb 4000 rb 3600 fl w := by
  obtain ⟨⟨h1W, hW, h1H, hH⟩, hpl, hoz, hP, hT, htb, hF, hrb, hpz, hpb, hsz, hsb, hdz, hdb, hmz⟩ := hV
  have hD : 1 ≤ W ∧ W ≤ 24 ∧ 1 ≤ H ∧ H ≤ 24 := ⟨h1W, hW, h1H, hH⟩
  have hs := pl_le hW hH
  have hiv : IV W H pl o P T tb F rb pf sf df mr := ⟨hD, hpl, hoz, hP, hT, htb, hF, hrb, hpz, hpb, hsz, hsb, hdz, hdb, hmz⟩
  unfold w_LW_case_10
  refine ⟨(sc_ix (k := 1) hL hI (by omega)).1, ?_⟩
  generalize xs (nI I + 1).toNatClampNeg = a1
  refine s_LW_feed hF (fun hb hf => ?_) (fun hb => ?_) (fun hb hf => ?_)
  · refine ⟨(sc_ix (k := 1) hL hI (by omega)).1, ?_⟩
    refine s_MO_feed hF (fun _ _ => ?_) (fun c => absurd hb c) (fun _ c => absurd c (by omega))
    unfold w_MO_thrown
    exact fin_0 pk_uLs (hA _ _ _ _ _ _ _ _ _ _ _ _ _ _ _ _ _ _ _ _ ⟨hD, hpl, hoz, hP, hT, htb, by omega, upd_by hrb hb, hpz, hpb, hsz, hsb, hdz, hdb, hmz⟩)
  · refine ⟨(sc_ix (k := 1) hL hI (by omega)).1, ?_⟩
    refine s_MO_feed hF (fun c _ => absurd c hb) (fun _ => ?_) (fun c _ => absurd c hb)
    unfold w_MO_thrown
    exact fin_x k_1 (hA _ _ _ _ _ _ _ _ _ _ _ _ _ _ _ _ _ _ _ _ hiv)
  · refine ⟨(sc_ix (k := 1) hL hI (by omega)).1, ?_⟩
    refine s_MO_feed hF (fun _ c => absurd c (by omega)) (fun c => absurd hb c) (fun _ _ => ?_)
    unfold w_MO_thrown
    exact fin_x k_2 (hA _ _ _ _ _ _ _ _ _ _ _ _ _ _ _ _ _ _ _ _ hiv)
theorem case_11 {L I : Nat} (hL : L ≤ 3074) (hI : I + 6 ≤ L) {xs : Nat → Int32} {again : Int32 → Int32 → Nat → (Nat → Int32) → Nat → (Nat → Int32) → Int32 → Int32 → Nat → (Nat → Int32) → Int32 → Nat → (Nat → Int32) → Int32 → Nat → (Nat → Int32) → Int32 → Int32 → Nat → (Nat → Int32) → Int32 → Int32 → Nat → (Nat → Int32) → Int32 → Int32 → Nat → (Nat → Int32) → Int32 → Int32 → Int32 → Int32 → Int32 → Int32 → Int32 → Int32 → Int32 → Int32 → Int32 → Nat → (Nat → Int32) → Nat → (Nat → Int32) → Nat → (Nat → Int32) → Nat → (Nat → Int32) → Nat → (Nat → Int32) → Nat → (Nat → Int32) → Nat → (Nat → Int32) → (Nat → Int64) → Prop} {W H : Nat} {pl : Int32} {o cn : Nat → Int32} {P : Nat} {bl : Int32} {fl : Nat → Int32} {T : Nat} {tb : Nat → Int32} {F : Nat} {rb pf sf df : Nat → Int32} {fa be b1 b2 pc : Int32} {mr : Nat → Int32} {w : Nat → Int64} (hV : IV W H pl o P T tb F rb pf sf df mr) (hA : GO W H again (nI I + 6)) : w_LW_case_11 L xs again (nI I) pl (W * H) o 256 cn (nI P) bl (W * H * 6) fl (nI T) (H * (2 * W + 2) + 1) tb (nI F) 4000 rb (nI W) (nI H) (W * H) pf (nI W) (nI H) (W * H) sf (nI W) (nI H) (W * H) df (nI W) (nI H) fa (nI T) (nI F) (nI P) pl be b1 b2 pc 576 pf 576 sf 576 o 576 mr 4000 tb 4000 rb 3600 fl w := by
  obtain ⟨⟨h1W, hW, h1H, hH⟩, hpl, hoz, hP, hT, htb, hF, hrb, hpz, hpb, hsz, hsb, hdz, hdb, hmz⟩ := hV
  have hD : 1 ≤ W ∧ W ≤ 24 ∧ 1 ≤ H ∧ H ≤ 24 := ⟨h1W, hW, h1H, hH⟩
  have hs := pl_le hW hH
  have hiv : IV W H pl o P T tb F rb pf sf df mr := ⟨hD, hpl, hoz, hP, hT, htb, hF, hrb, hpz, hpb, hsz, hsb, hdz, hdb, hmz⟩
  unfold w_LW_case_11
  have hC2 : H * (2 * W + 2) ≤ 24 * 50 := Nat.mul_le_mul hH (by omega)
  refine s_LW_pass hH hW hT hF (fun hf => ?_) (fun hf => ?_)
  · refine s_MO_pass (by omega) (fun _ => ?_) (fun c => absurd c (by omega)) hF
    unfold w_MO_thrown
    exact fin_0 pk_uLs (hA _ _ _ _ _ _ _ _ _ _ _ _ _ _ _ _ _ _ _ _ ⟨hD, hpl, hoz, hP, hT, htb, hf, ap_by htb _ _ _ _ hrb, hpz, hpb, hsz, hsb, hdz, hdb, hmz⟩)
  · refine s_MO_pass (by omega) (fun c => absurd c (by omega)) (fun _ => ?_) hF
    unfold w_MO_thrown
    exact fin_x k_1 (hA _ _ _ _ _ _ _ _ _ _ _ _ _ _ _ _ _ _ _ _ hiv)
theorem case_12 {L I : Nat} (hL : L ≤ 3074) (hI : I + 6 ≤ L) {xs : Nat → Int32} {again : Int32 → Int32 → Nat → (Nat → Int32) → Nat → (Nat → Int32) → Int32 → Int32 → Nat → (Nat → Int32) → Int32 → Nat → (Nat → Int32) → Int32 → Nat → (Nat → Int32) → Int32 → Int32 → Nat → (Nat → Int32) → Int32 → Int32 → Nat → (Nat → Int32) → Int32 → Int32 → Nat → (Nat → Int32) → Int32 → Int32 → Int32 → Int32 → Int32 → Int32 → Int32 → Int32 → Int32 → Int32 → Int32 → Nat → (Nat → Int32) → Nat → (Nat → Int32) → Nat → (Nat → Int32) → Nat → (Nat → Int32) → Nat → (Nat → Int32) → Nat → (Nat → Int32) → Nat → (Nat → Int32) → (Nat → Int64) → Prop} {W H : Nat} {pl : Int32} {o cn : Nat → Int32} {P : Nat} {bl : Int32} {fl : Nat → Int32} {T : Nat} {tb : Nat → Int32} {F : Nat} {rb pf sf df : Nat → Int32} {fa be b1 b2 pc : Int32} {mr : Nat → Int32} {w : Nat → Int64} (hV : IV W H pl o P T tb F rb pf sf df mr) (hA : GO W H again (nI I + 6)) : w_LW_case_12 L xs again (nI I) pl (W * H) o 256 cn (nI P) bl (W * H * 6) fl (nI T) (H * (2 * W + 2) + 1) tb (nI F) 4000 rb (nI W) (nI H) (W * H) pf (nI W) (nI H) (W * H) sf (nI W) (nI H) (W * H) df (nI W) (nI H) fa (nI T) (nI F) (nI P) pl be b1 b2 pc 576 pf 576 sf 576 o 576 mr 4000 tb 4000 rb 3600 fl w := by
  obtain ⟨⟨h1W, hW, h1H, hH⟩, hpl, hoz, hP, hT, htb, hF, hrb, hpz, hpb, hsz, hsb, hdz, hdb, hmz⟩ := hV
  have hD : 1 ≤ W ∧ W ≤ 24 ∧ 1 ≤ H ∧ H ≤ 24 := ⟨h1W, hW, h1H, hH⟩
  have hs := pl_le hW hH
  have hiv : IV W H pl o P T tb F rb pf sf df mr := ⟨hD, hpl, hoz, hP, hT, htb, hF, hrb, hpz, hpb, hsz, hsb, hdz, hdb, hmz⟩
  unfold w_LW_case_12
  obtain ⟨r, d', m', ⟨k1, k2, k3⟩, hC, hR⟩ := dec_ex (o0_toldSize := nI T) (o0_parts := nI P) (o0_plain := pl) (o0_best := be) (o0_bestOne := b1) (o0_bestTwo := b2) (o0_fault := fa) (o0_place := pc) (o0_other := sf) (o0_open := o) (o0_toldBytes := tb) (o0_part := fl) h1W hW h1H hH (q := rb) (f := pf) (df := df) (mr := mr) hrb hF hpz hdz hdb hmz
  unfold w_DF_decode
  refine hC _ ?_
  unfold w_DF_takeDraft w_BR_drop
  refine ⟨fun c => ?_, fun c => ?_⟩
  · refine hR _ (fun _ b p => ?_) (fun c' => absurd c c')
    exact fin_e (hA _ _ _ _ _ _ _ _ 0 _ _ _ _ _ _ _ _ _ _ _ ⟨hD, hpl, hoz, hP, hT, htb, Nat.zero_le _, hrb, hpz, hpb, hsz, hsb, k1, k2, k3⟩)
  · refine hR _ (fun c' => absurd c' c) (fun _ b p => ?_)
    exact fin_e (hA _ _ _ _ _ _ _ _ 0 _ _ _ _ _ _ _ _ _ _ _ ⟨hD, hpl, hoz, hP, hT, htb, Nat.zero_le _, hrb, k1, k2, hsz, hsb, hpz, hpb, k3⟩)
theorem case_13 {L I : Nat} (hL : L ≤ 3074) (hI : I + 6 ≤ L) {xs : Nat → Int32} {again : Int32 → Int32 → Nat → (Nat → Int32) → Nat → (Nat → Int32) → Int32 → Int32 → Nat → (Nat → Int32) → Int32 → Nat → (Nat → Int32) → Int32 → Nat → (Nat → Int32) → Int32 → Int32 → Nat → (Nat → Int32) → Int32 → Int32 → Nat → (Nat → Int32) → Int32 → Int32 → Nat → (Nat → Int32) → Int32 → Int32 → Int32 → Int32 → Int32 → Int32 → Int32 → Int32 → Int32 → Int32 → Int32 → Nat → (Nat → Int32) → Nat → (Nat → Int32) → Nat → (Nat → Int32) → Nat → (Nat → Int32) → Nat → (Nat → Int32) → Nat → (Nat → Int32) → Nat → (Nat → Int32) → (Nat → Int64) → Prop} {W H : Nat} {pl : Int32} {o cn : Nat → Int32} {P : Nat} {bl : Int32} {fl : Nat → Int32} {T : Nat} {tb : Nat → Int32} {F : Nat} {rb pf sf df : Nat → Int32} {fa be b1 b2 pc : Int32} {mr : Nat → Int32} {w : Nat → Int64} (hV : IV W H pl o P T tb F rb pf sf df mr) (hA : GO W H again (nI I + 6)) : w_LW_case_13 L xs again (nI I) pl (W * H) o 256 cn (nI P) bl (W * H * 6) fl (nI T) (H * (2 * W + 2) + 1) tb (nI F) 4000 rb (nI W) (nI H) (W * H) pf (nI W) (nI H) (W * H) sf (nI W) (nI H) (W * H) df (nI W) (nI H) fa (nI T) (nI F) (nI P) pl be b1 b2 pc 576 pf 576 sf 576 o 576 mr 4000 tb 4000 rb 3600 fl w := by
  obtain ⟨⟨h1W, hW, h1H, hH⟩, hpl, hoz, hP, hT, htb, hF, hrb, hpz, hpb, hsz, hsb, hdz, hdb, hmz⟩ := hV
  have hD : 1 ≤ W ∧ W ≤ 24 ∧ 1 ≤ H ∧ H ≤ 24 := ⟨h1W, hW, h1H, hH⟩
  have hs := pl_le hW hH
  have hiv : IV W H pl o P T tb F rb pf sf df mr := ⟨hD, hpl, hoz, hP, hT, htb, hF, hrb, hpz, hpb, hsz, hsb, hdz, hdb, hmz⟩
  unfold w_LW_case_13
  obtain ⟨T', q', ⟨k1, k2⟩, hC, hR⟩ := ch_ex (o0_toldSize := nI T) (o0_fedSize := nI F) (o0_parts := nI P) (o0_plain := pl) (o0_best := be) (o0_bestOne := b1) (o0_bestTwo := b2) (o0_fault := fa) (o0_place := pc) (o2_count := nI T) (o0_open := o) (o0_read := mr) (o0_fed := rb) (o0_part := fl) hW hH (f := pf) (g := sf) (q := tb) hsb htb
  unfold w_DF_change
  refine hC _ ?_
  refine hR _ ?_
  exact fin_e (hA _ _ _ _ _ _ _ _ _ _ _ _ _ _ _ _ _ _ _ _ ⟨hD, hpl, hoz, hP, k1, k2, hF, hrb, hpz, hpb, hsz, hsb, hdz, hdb, hmz⟩)
theorem case_14 {L I : Nat} (hL : L ≤ 3074) (hI : I + 6 ≤ L) {xs : Nat → Int32} {again : Int32 → Int32 → Nat → (Nat → Int32) → Nat → (Nat → Int32) → Int32 → Int32 → Nat → (Nat → Int32) → Int32 → Nat → (Nat → Int32) → Int32 → Nat → (Nat → Int32) → Int32 → Int32 → Nat → (Nat → Int32) → Int32 → Int32 → Nat → (Nat → Int32) → Int32 → Int32 → Nat → (Nat → Int32) → Int32 → Int32 → Int32 → Int32 → Int32 → Int32 → Int32 → Int32 → Int32 → Int32 → Int32 → Nat → (Nat → Int32) → Nat → (Nat → Int32) → Nat → (Nat → Int32) → Nat → (Nat → Int32) → Nat → (Nat → Int32) → Nat → (Nat → Int32) → Nat → (Nat → Int32) → (Nat → Int64) → Prop} {W H : Nat} {pl : Int32} {o cn : Nat → Int32} {P : Nat} {bl : Int32} {fl : Nat → Int32} {T : Nat} {tb : Nat → Int32} {F : Nat} {rb pf sf df : Nat → Int32} {fa be b1 b2 pc : Int32} {mr : Nat → Int32} {w : Nat → Int64} (hV : IV W H pl o P T tb F rb pf sf df mr) (hA : GO W H again (nI I + 6)) : w_LW_case_14 L xs again (nI I) pl (W * H) o 256 cn (nI P) bl (W * H * 6) fl (nI T) (H * (2 * W + 2) + 1) tb (nI F) 4000 rb (nI W) (nI H) (W * H) pf (nI W) (nI H) (W * H) sf (nI W) (nI H) (W * H) df (nI W) (nI H) fa (nI T) (nI F) (nI P) pl be b1 b2 pc 576 pf 576 sf 576 o 576 mr 4000 tb 4000 rb 3600 fl w := by
  obtain ⟨⟨h1W, hW, h1H, hH⟩, hpl, hoz, hP, hT, htb, hF, hrb, hpz, hpb, hsz, hsb, hdz, hdb, hmz⟩ := hV
  have hD : 1 ≤ W ∧ W ≤ 24 ∧ 1 ≤ H ∧ H ≤ 24 := ⟨h1W, hW, h1H, hH⟩
  have hs := pl_le hW hH
  have hiv : IV W H pl o P T tb F rb pf sf df mr := ⟨hD, hpl, hoz, hP, hT, htb, hF, hrb, hpz, hpb, hsz, hsb, hdz, hdb, hmz⟩
  unfold w_LW_case_14
  obtain ⟨r, d', ⟨k1, k2⟩, hC, hR⟩ := app_ex (o0_toldSize := nI T) (o0_parts := nI P) (o0_plain := pl) (o0_best := be) (o0_bestOne := b1) (o0_bestTwo := b2) (o0_fault := fa) (o0_place := pc) (o0_other := sf) (o0_open := o) (o0_toldBytes := tb) (o0_part := fl) h1W hW h1H hH (q := rb) (f := pf) (mr := mr) hrb hF hpz hpb hmz
  unfold w_DF_apply
  refine s_PI_takeFrom hs ?_
  rw [cp_zg hdz hpz]
  refine hC _ ?_
  unfold w_DF_takeDraft w_BR_drop
  refine ⟨fun c => ?_, fun c => ?_⟩
  · refine hR _ (fun _ b p => ?_) (fun c' => absurd c c')
    exact fin_e (hA _ _ _ _ _ _ _ _ 0 _ _ _ _ _ _ _ _ _ _ _ ⟨hD, hpl, hoz, hP, hT, htb, Nat.zero_le _, hrb, hpz, hpb, hsz, hsb, k1, k2, k1⟩)
  · refine hR _ (fun c' => absurd c' c) (fun _ b p => ?_)
    exact fin_e (hA _ _ _ _ _ _ _ _ 0 _ _ _ _ _ _ _ _ _ _ _ ⟨hD, hpl, hoz, hP, hT, htb, Nat.zero_le _, hrb, k1, k2, hsz, hsb, hpz, hpb, k1⟩)
theorem case_15 {L I : Nat} (hL : L ≤ 3074) (hI : I + 6 ≤ L) {xs : Nat → Int32} {again : Int32 → Int32 → Nat → (Nat → Int32) → Nat → (Nat → Int32) → Int32 → Int32 → Nat → (Nat → Int32) → Int32 → Nat → (Nat → Int32) → Int32 → Nat → (Nat → Int32) → Int32 → Int32 → Nat → (Nat → Int32) → Int32 → Int32 → Nat → (Nat → Int32) → Int32 → Int32 → Nat → (Nat → Int32) → Int32 → Int32 → Int32 → Int32 → Int32 → Int32 → Int32 → Int32 → Int32 → Int32 → Int32 → Nat → (Nat → Int32) → Nat → (Nat → Int32) → Nat → (Nat → Int32) → Nat → (Nat → Int32) → Nat → (Nat → Int32) → Nat → (Nat → Int32) → Nat → (Nat → Int32) → (Nat → Int64) → Prop} {W H : Nat} {pl : Int32} {o cn : Nat → Int32} {P : Nat} {bl : Int32} {fl : Nat → Int32} {T : Nat} {tb : Nat → Int32} {F : Nat} {rb pf sf df : Nat → Int32} {fa be b1 b2 pc : Int32} {mr : Nat → Int32} {w : Nat → Int64} (hV : IV W H pl o P T tb F rb pf sf df mr) (hA : GO W H again (nI I + 6)) : w_LW_case_15 L xs again (nI I) pl (W * H) o 256 cn (nI P) bl (W * H * 6) fl (nI T) (H * (2 * W + 2) + 1) tb (nI F) 4000 rb (nI W) (nI H) (W * H) pf (nI W) (nI H) (W * H) sf (nI W) (nI H) (W * H) df (nI W) (nI H) fa (nI T) (nI F) (nI P) pl be b1 b2 pc 576 pf 576 sf 576 o 576 mr 4000 tb 4000 rb 3600 fl w := by
  obtain ⟨⟨h1W, hW, h1H, hH⟩, hpl, hoz, hP, hT, htb, hF, hrb, hpz, hpb, hsz, hsb, hdz, hdb, hmz⟩ := hV
  have hD : 1 ≤ W ∧ W ≤ 24 ∧ 1 ≤ H ∧ H ≤ 24 := ⟨h1W, hW, h1H, hH⟩
  have hs := pl_le hW hH
  have hiv : IV W H pl o P T tb F rb pf sf df mr := ⟨hD, hpl, hoz, hP, hT, htb, hF, hrb, hpz, hpb, hsz, hsb, hdz, hdb, hmz⟩
  unfold w_LW_case_15
  refine ⟨(sc_ix (k := 1) hL hI (by omega)).1, ?_⟩
  generalize xs (nI I + 1).toNatClampNeg = a1
  unfold w_DF_told w_MO_told
  refine ⟨fun e0 => ?_, fun e0 => ⟨fun e1 => ?_, fun e1 => ⟨fun e2 => ?_, fun e2 => ⟨fun e3 => ?_, fun e3 => ⟨fun e4 => ?_, fun e4 => ?_⟩⟩⟩⟩⟩
  · exact ⟨(sc_ix (k := 1) hL hI (by omega)).1, fun _ => fin_e (hA _ _ _ _ _ _ _ _ _ _ _ _ _ _ _ _ _ _ _ _ hiv), fun c => absurd e0 c⟩
  · exact ⟨(sc_ix (k := 1) hL hI (by omega)).1, fun c => absurd c e0, fun _ => ⟨fun _ => fin_e (hA _ _ _ _ _ _ _ _ _ _ _ _ _ _ _ _ _ _ _ _ hiv), fun c => absurd e1 c⟩⟩
  · exact ⟨(sc_ix (k := 1) hL hI (by omega)).1, fun c => absurd c e0, fun _ => ⟨fun c => absurd c e1, fun _ => ⟨fun _ => fin_e (hA _ _ _ _ _ _ _ _ _ _ _ _ _ _ _ _ _ _ _ _ hiv), fun c => absurd e2 c⟩⟩⟩
  · exact ⟨(sc_ix (k := 1) hL hI (by omega)).1, fun c => absurd c e0, fun _ => ⟨fun c => absurd c e1, fun _ => ⟨fun c => absurd c e2, fun _ => ⟨fun _ => fin_e (hA _ _ _ _ _ _ _ _ _ _ _ _ _ _ _ _ _ _ _ _ hiv), fun c => absurd e3 c⟩⟩⟩⟩
  · refine s_TE_groundOf hW hH hpb ?_
    refine ⟨(sc_ix (k := 1) hL hI (by omega)).1, fun c => absurd c e0, fun _ => ⟨fun c => absurd c e1, fun _ => ⟨fun c => absurd c e2, fun _ => ⟨fun c => absurd c e3, fun _ => ⟨fun _ => ?_, fun c => absurd e4 c⟩⟩⟩⟩⟩
    refine s_MO_ground hW hH ?_
    exact fin_e (hA _ _ _ _ _ _ _ _ _ _ _ _ _ _ _ _ _ _ _ _ hiv)
  · exact ⟨(sc_ix (k := 1) hL hI (by omega)).1, fun c => absurd c e0, fun _ => ⟨fun c => absurd c e1, fun _ => ⟨fun c => absurd c e2, fun _ => ⟨fun c => absurd c e3, fun _ => ⟨fun c => absurd c e4, fun _ => fin_e (hA _ _ _ _ _ _ _ _ _ _ _ _ _ _ _ _ _ _ _ _ hiv)⟩⟩⟩⟩⟩
theorem case_16 {L I : Nat} (hL : L ≤ 3074) (hI : I + 6 ≤ L) {xs : Nat → Int32} {again : Int32 → Int32 → Nat → (Nat → Int32) → Nat → (Nat → Int32) → Int32 → Int32 → Nat → (Nat → Int32) → Int32 → Nat → (Nat → Int32) → Int32 → Nat → (Nat → Int32) → Int32 → Int32 → Nat → (Nat → Int32) → Int32 → Int32 → Nat → (Nat → Int32) → Int32 → Int32 → Nat → (Nat → Int32) → Int32 → Int32 → Int32 → Int32 → Int32 → Int32 → Int32 → Int32 → Int32 → Int32 → Int32 → Nat → (Nat → Int32) → Nat → (Nat → Int32) → Nat → (Nat → Int32) → Nat → (Nat → Int32) → Nat → (Nat → Int32) → Nat → (Nat → Int32) → Nat → (Nat → Int32) → (Nat → Int64) → Prop} {W H : Nat} {pl : Int32} {o cn : Nat → Int32} {P : Nat} {bl : Int32} {fl : Nat → Int32} {T : Nat} {tb : Nat → Int32} {F : Nat} {rb pf sf df : Nat → Int32} {fa be b1 b2 pc : Int32} {mr : Nat → Int32} {w : Nat → Int64} (hV : IV W H pl o P T tb F rb pf sf df mr) (hA : GO W H again (nI I + 6)) : w_LW_case_16 L xs again (nI I) pl (W * H) o 256 cn (nI P) bl (W * H * 6) fl (nI T) (H * (2 * W + 2) + 1) tb (nI F) 4000 rb (nI W) (nI H) (W * H) pf (nI W) (nI H) (W * H) sf (nI W) (nI H) (W * H) df (nI W) (nI H) fa (nI T) (nI F) (nI P) pl be b1 b2 pc 576 pf 576 sf 576 o 576 mr 4000 tb 4000 rb 3600 fl w := by
  obtain ⟨⟨h1W, hW, h1H, hH⟩, hpl, hoz, hP, hT, htb, hF, hrb, hpz, hpb, hsz, hsb, hdz, hdb, hmz⟩ := hV
  have hD : 1 ≤ W ∧ W ≤ 24 ∧ 1 ≤ H ∧ H ≤ 24 := ⟨h1W, hW, h1H, hH⟩
  have hs := pl_le hW hH
  have hiv : IV W H pl o P T tb F rb pf sf df mr := ⟨hD, hpl, hoz, hP, hT, htb, hF, hrb, hpz, hpb, hsz, hsb, hdz, hdb, hmz⟩
  unfold w_LW_case_16
  have zz : ZB (W * H) (fun _ => (0 : Int32)) := fun _ _ => rfl
  have zb : BY (fun _ => (0 : Int32)) := fun _ => by_0
  unfold w_DF_clear
  refine s_PI_paintAll hW hH ?_
  refine s_PI_paintAll hW hH ?_
  unfold w_TE_forget w_PL_drop w_BR_drop
  refine s_MO_clear ?_
  rw [cp_zg hpz zz, cp_zg hsz zz, cp_all (n := 576) (f := pf) (fun j hj => hpz j (by omega)), cp_all (n := 576) (f := sf) (fun j hj => hsz j (by omega))]
  exact hA 0 _ _ 0 _ _ 0 _ 0 _ _ _ _ _ _ _ _ _ _ _ ⟨hD, Or.inl rfl, hoz, Nat.zero_le _, Nat.zero_le _, htb, Nat.zero_le _, hrb, zz, zb, zz, zb, hdz, hdb, hmz⟩
theorem body_ok {L I : Nat} (hL : L ≤ 3074) (hI : I + 6 ≤ L) {xs : Nat → Int32} {again : Int32 → Int32 → Nat → (Nat → Int32) → Nat → (Nat → Int32) → Int32 → Int32 → Nat → (Nat → Int32) → Int32 → Nat → (Nat → Int32) → Int32 → Nat → (Nat → Int32) → Int32 → Int32 → Nat → (Nat → Int32) → Int32 → Int32 → Nat → (Nat → Int32) → Int32 → Int32 → Nat → (Nat → Int32) → Int32 → Int32 → Int32 → Int32 → Int32 → Int32 → Int32 → Int32 → Int32 → Int32 → Int32 → Nat → (Nat → Int32) → Nat → (Nat → Int32) → Nat → (Nat → Int32) → Nat → (Nat → Int32) → Nat → (Nat → Int32) → Nat → (Nat → Int32) → Nat → (Nat → Int32) → (Nat → Int64) → Prop} {W H : Nat} {pl : Int32} {o cn : Nat → Int32} {P : Nat} {bl : Int32} {fl : Nat → Int32} {T : Nat} {tb : Nat → Int32} {F : Nat} {rb pf sf df : Nat → Int32} {fa be b1 b2 pc : Int32} {mr : Nat → Int32} {w : Nat → Int64} (hV : IV W H pl o P T tb F rb pf sf df mr) (hA : GO W H again (nI I + 6)) : w_LW_body L xs again (nI I) pl (W * H) o 256 cn (nI P) bl (W * H * 6) fl (nI T) (H * (2 * W + 2) + 1) tb (nI F) 4000 rb (nI W) (nI H) (W * H) pf (nI W) (nI H) (W * H) sf (nI W) (nI H) (W * H) df (nI W) (nI H) fa (nI T) (nI F) (nI P) pl be b1 b2 pc 576 pf 576 sf 576 o 576 mr 4000 tb 4000 rb 3600 fl w := by
  unfold w_LW_body
  refine ⟨fun _ => trivial, fun _ => ⟨n_in (by omega) (by omega), ?_⟩⟩
  refine ⟨fun _ => case_0 hL hI hV hA, fun _ => ?_⟩
  refine ⟨fun _ => case_1 hL hI hV hA, fun _ => ?_⟩
  refine ⟨fun _ => case_2 hL hI hV hA, fun _ => ?_⟩
  refine ⟨fun _ => case_3 hL hI hV hA, fun _ => ?_⟩
  refine ⟨fun _ => case_4 hL hI hV hA, fun _ => ?_⟩
  refine ⟨fun _ => case_5 hL hI hV hA, fun _ => ?_⟩
  refine ⟨fun _ => case_6 hL hI hV hA, fun _ => ?_⟩
  refine ⟨fun _ => case_7 hL hI hV hA, fun _ => ?_⟩
  refine ⟨fun _ => case_8 hL hI hV hA, fun _ => ?_⟩
  refine ⟨fun _ => case_9 hL hI hV hA, fun _ => ?_⟩
  refine ⟨fun _ => case_10 hL hI hV hA, fun _ => ?_⟩
  refine ⟨fun _ => case_11 hL hI hV hA, fun _ => ?_⟩
  refine ⟨fun _ => case_12 hL hI hV hA, fun _ => ?_⟩
  refine ⟨fun _ => case_13 hL hI hV hA, fun _ => ?_⟩
  refine ⟨fun _ => case_14 hL hI hV hA, fun _ => ?_⟩
  refine ⟨fun _ => case_15 hL hI hV hA, fun _ => ?_⟩
  refine ⟨fun _ => case_16 hL hI hV hA, fun _ => ?_⟩
  exact hA _ _ _ _ _ _ _ _ _ _ _ _ _ _ _ _ _ _ _ _ hV
theorem body_end {L I : Nat} (hL : L ≤ 3074) (hI : L < I + 6) (hI2 : I ≤ 4000) {xs : Nat → Int32} {again : Int32 → Int32 → Nat → (Nat → Int32) → Nat → (Nat → Int32) → Int32 → Int32 → Nat → (Nat → Int32) → Int32 → Nat → (Nat → Int32) → Int32 → Nat → (Nat → Int32) → Int32 → Int32 → Nat → (Nat → Int32) → Int32 → Int32 → Nat → (Nat → Int32) → Int32 → Int32 → Nat → (Nat → Int32) → Int32 → Int32 → Int32 → Int32 → Int32 → Int32 → Int32 → Int32 → Int32 → Int32 → Int32 → Nat → (Nat → Int32) → Nat → (Nat → Int32) → Nat → (Nat → Int32) → Nat → (Nat → Int32) → Nat → (Nat → Int32) → Nat → (Nat → Int32) → Nat → (Nat → Int32) → (Nat → Int64) → Prop} {W H : Nat} {pl : Int32} {o cn : Nat → Int32} {P : Nat} {bl : Int32} {fl : Nat → Int32} {T : Nat} {tb : Nat → Int32} {F : Nat} {rb pf sf df : Nat → Int32} {fa be b1 b2 pc : Int32} {mr : Nat → Int32} {w : Nat → Int64} : w_LW_body L xs again (nI I) pl (W * H) o 256 cn (nI P) bl (W * H * 6) fl (nI T) (H * (2 * W + 2) + 1) tb (nI F) 4000 rb (nI W) (nI H) (W * H) pf (nI W) (nI H) (W * H) sf (nI W) (nI H) (W * H) df (nI W) (nI H) fa (nI T) (nI F) (nI P) pl be b1 b2 pc 576 pf 576 sf 576 o 576 mr 4000 tb 4000 rb 3600 fl w := by
  unfold w_LW_body
  refine ⟨fun _ => trivial, fun c => ?_⟩
  exfalso
  apply c
  rw [iI_nI, iI_nI, i_6, iI_sub, iI_lt (by omega) (by omega) (by omega) (by omega)]
  omega
theorem law_all {L : Nat} (hL : L ≤ 3074) {xs : Nat → Int32} {W H : Nat} : ∀ n I, L < I + 6 * n + 6 → I ≤ L + 6 → GO W H (w_LW_law_43 L xs (n + 1)) (nI I) := by
  intro n
  induction n with
  | zero =>
    intro I h1 h2
    intro pl o cn P bl fl T tb F rb pf sf df fa be b1 b2 pc mr w hV
    show w_LW_body L xs (w_LW_law_43 L xs 0) (nI I) pl (W * H) o 256 cn (nI P) bl (W * H * 6) fl (nI T) (H * (2 * W + 2) + 1) tb (nI F) 4000 rb (nI W) (nI H) (W * H) pf (nI W) (nI H) (W * H) sf (nI W) (nI H) (W * H) df (nI W) (nI H) fa (nI T) (nI F) (nI P) pl be b1 b2 pc 576 pf 576 sf 576 o 576 mr 4000 tb 4000 rb 3600 fl w
    exact body_end hL (by omega) (by omega)
  | succ n ih =>
    intro I h1 h2
    intro pl o cn P bl fl T tb F rb pf sf df fa be b1 b2 pc mr w hV
    show w_LW_body L xs (w_LW_law_43 L xs (n + 1)) (nI I) pl (W * H) o 256 cn (nI P) bl (W * H * 6) fl (nI T) (H * (2 * W + 2) + 1) tb (nI F) 4000 rb (nI W) (nI H) (W * H) pf (nI W) (nI H) (W * H) sf (nI W) (nI H) (W * H) df (nI W) (nI H) fa (nI T) (nI F) (nI P) pl be b1 b2 pc 576 pf 576 sf 576 o 576 mr 4000 tb 4000 rb 3600 fl w
    by_cases c : I + 6 ≤ L
    · refine body_ok hL c hV ?_
      rw [n_6, nI_add]
      exact ih (I + 6) (by omega) (by omega)
    · exact body_end hL (by omega) (by omega)
theorem side_ok {v : Int32} {post : Int32 → Prop} (h : ∀ W : Nat, 1 ≤ W → W ≤ 24 → (1 ≤ v.toInt → v.toInt ≤ 24 → v.toInt = W) → (v.toInt < 1 → W = 1) → (24 < v.toInt → W = 24) → post (nI W)) : w_DF_nearestSide v post := by
  have t24 : (24 : Int32).toInt = 24 := rfl
  unfold w_DF_nearestSide
  intro m1 e1 m2 e2
  by_cases c1 : v.toInt < 1
  · rw [if_pos (by rw [c_lt, t24]; omega)] at e1
    rw [e1] at e2
    rw [if_neg (by rw [c_lt, t_1]; omega)] at e2
    rw [e2]
    exact h 1 (by omega) (by omega) (by omega) (by omega) (by omega)
  · by_cases c2 : v.toInt < 24
    · rw [if_pos (by rw [c_lt, t24]; omega)] at e1
      rw [e1] at e2
      by_cases c3 : v.toInt = 1
      · rw [if_neg (by rw [c_lt, t_1]; omega)] at e2
        rw [e2]
        exact h 1 (by omega) (by omega) (by omega) (by omega) (by omega)
      · rw [if_pos (by rw [c_lt, t_1]; omega)] at e2
        rw [e2]
        have e : v = nI v.toInt.toNat := by rw [c_eq, ni_t (by omega)]; omega
        have z := h v.toInt.toNat (by omega) (by omega) (by omega) (by omega) (by omega)
        rw [← e] at z
        exact z
    · rw [if_neg (by rw [c_lt, t24]; omega)] at e1
      subst e1
      rw [if_pos (by decide)] at e2
      subst e2
      exact h 24 (by omega) (by omega) (by omega) (by omega) (by omega)
