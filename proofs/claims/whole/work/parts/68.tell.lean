/-! PURE ROWS: encode, whole. Own work. -/
theorem enc_ex {o0_plain o0_found_count o0_found_byteLength o2_count : Int32} {o0_counts : Nat → Int32} {o0_fault o0_toldSize o0_fedSize o0_parts o0_pln o0_best o0_bestOne o0_bestTwo o0_place : Int32} {o0_other o0_read o0_fed : Nat → Int32} {W H : Nat} (h1W : 1 ≤ W) (hW : W ≤ 24) (h1H : 1 ≤ H) (hH : H ≤ 24) {f o fl q : Nat → Int32} (hf : BY f) (ho : ZB (W * H) o) (hq : BY q) :
    ∃ (pl : Int32) (o' : Nat → Int32) (P' : Nat) (fl' : Nat → Int32) (T' : Nat) (q' : Nat → Int32), ((pl = 0 ∨ pl = 1) ∧ ZB (W * H) o' ∧ P' ≤ W * H ∧ T' ≤ H * (2 * W + 2) + 1 ∧ BY q') ∧
    (∀ post : Int32 → (Nat → Int32) → (Nat → Int32) → Int32 → Int32 → (Nat → Int32) → Int32 → (Nat → Int32) → Prop, (∀ c b, post pl o' c (nI P') b fl' (nI T') q') → w_TE_tell o0_plain (W * H) o 256 o0_counts o0_found_count o0_found_byteLength (W * H * 6) fl (nI W) (nI H) (W * H) f o2_count (H * (2 * W + 2) + 1) q post) ∧
    (∀ post : Int32 → Int32 → Int32 → Int32 → Int32 → Int32 → Int32 → Int32 → (Nat → Int32) → (Nat → Int32) → (Nat → Int32) → Prop, (∀ a b c, post (nI T') 0 (nI T') (nI P') pl a b c o' q' fl') → w_MO_encode (nI W) (nI H) o0_fault o0_toldSize o0_fedSize o0_parts o0_pln o0_best o0_bestOne o0_bestTwo o0_place 576 f 576 o0_other 576 o 576 o0_read 4000 q 4000 o0_fed 3600 fl post) := by
  have hs := pl_le hW hH
  have hC2 : H * (2 * W + 2) ≤ 24 * 50 := Nat.mul_le_mul hH (by omega)
  have hC3 : W * H ≤ H * (2 * W + 2) := by rw [Nat.mul_comm W H]; exact Nat.mul_le_mul_left H (by omega)
  have hg := grd_le (f := f) (N := W * H)
  have hE0 : EI W H (cp (W * H) (og f (nI (grd f (W * H)))) o) 0 0 fl := ⟨cp_zb ho (by omega), by have := cntO_self (o := cp (W * H) (og f (nI (grd f (W * H)))) o) (W * H); omega, rfl, fun k hk => absurd hk (by omega)⟩
  obtain ⟨o1, P1, bl1, fl1, a1, b1, c1, hE1, hC1, hR1⟩ := pass1 (o0_plain := o0_plain) (o0_counts := cp 256 (fun v => nI (cnt f (nI v) (W * H))) o0_counts) (o0_toldSize := o0_toldSize) (o0_fedSize := o0_fedSize) (o0_pln := o0_pln) (o0_place := o0_place) (o0_other := o0_other) (o0_read := o0_read) (o0_toldBytes := q) (o0_fed := o0_fed) h1W hW h1H hH hf (W * H) 0 0 (cp (W * H) (og f (nI (grd f (W * H)))) o) 0 0 fl o0_best o0_bestOne o0_bestTwo (by omega) (by omega) (by omega) hE0
  obtain ⟨o2, P2, bl2, fl2, a2, b2, c2, hE2, hD1, hS1⟩ := pass2 (o0_plain := o0_plain) (o0_counts := cp 256 (fun v => nI (cnt f (nI v) (W * H))) o0_counts) (o0_toldSize := o0_toldSize) (o0_fedSize := o0_fedSize) (o0_pln := o0_pln) (o0_place := o0_place) (o0_other := o0_other) (o0_read := o0_read) (o0_toldBytes := q) (o0_fed := o0_fed) h1W hW h1H hH hf (W * H) 0 0 o1 P1 bl1 fl1 a1 b1 c1 (by omega) (by omega) (by omega) hE1
  obtain ⟨hz2, hP2, hbl, hv2⟩ := hE2
  have hb6 := pls_le (fl := fl2) P2
  subst hbl
  -- the class up to the comparison
  have hcls : ∀ post : Int32 → (Nat → Int32) → (Nat → Int32) → Int32 → Int32 → (Nat → Int32) → Int32 → (Nat → Int32) → Prop, ((nI (3 + pls fl2 P2) ≤ nI (1 + W * H) → w_BR_drop o2_count (H * (2 * W + 2) + 1) q (fun (g_14 : Int32) => w_BR_add g_14 (H * (2 * W + 2) + 1) q 1 (fun (g_15 : Int32) (f_16 : Nat → Int32) => w_BR_add g_15 (H * (2 * W + 2) + 1) f_16 (nI (grd f (W * H))) (fun (g_17 : Int32) (f_18 : Nat → Int32) => w_PL_writeTo (nI P2) (nI (pls fl2 P2)) (W * H * 6) fl2 g_17 (H * (2 * W + 2) + 1) f_18 (fun (g_19 : Int32) (f_20 : Nat → Int32) => w_BR_add g_19 (H * (2 * W + 2) + 1) f_20 0 (fun (g_21 : Int32) (f_22 : Nat → Int32) => post 0 o2 (cp 256 (fun v => nI (cnt f (nI v) (W * H))) o0_counts) (nI P2) (nI (pls fl2 P2)) fl2 g_21 f_22)))))) ∧ (¬ nI (3 + pls fl2 P2) ≤ nI (1 + W * H) → w_BR_drop o2_count (H * (2 * W + 2) + 1) q (fun (g_23 : Int32) => w_TE_writePlain (nI W) (nI H) (W * H) f g_23 (H * (2 * W + 2) + 1) q (fun (g_24 : Int32) (f_25 : Nat → Int32) => post 1 o2 (cp 256 (fun v => nI (cnt f (nI v) (W * H))) o0_counts) (nI P2) (nI (pls fl2 P2)) fl2 g_24 f_25)))) → w_TE_tell o0_plain (W * H) o 256 o0_counts o0_found_count o0_found_byteLength (W * H * 6) fl (nI W) (nI H) (W * H) f o2_count (H * (2 * W + 2) + 1) q post := by
    intro post h
    unfold w_TE_tell
    refine s_TE_groundOf hW hH hf ?_
    unfold w_TE_openAllBut
    refine ⟨W * H + 1, s_TE_openAllBut_2 hW hH ?_ (W * H) 0 _ cp_0.symm (by omega)⟩
    unfold w_PL_drop w_TE_findRectangles
    refine ⟨H - 0 + 1, ?_⟩
    rw [w_TE_findRectangles_2]
    refine ⟨fun c => (by exfalso; (first | omega | ((try simp (disch := omega) only [n_0, n_1, n_2, n_3, n_4, n_5, n_6, n_8, n_24, n_255, n_256, n_576, n_4000, nI_add, pk_mul, n_sub, n_cl, n_lt, n_le, n_eq, not_true_eq_false, not_false_eq_true] at c) <;> omega))), fun _ => ?_⟩
    refine ⟨W - 0 + 1, hC1 _ ?_⟩
    unfold w_TE_findCopiesAndRuns
    refine ⟨H - 0 + 1, ?_⟩
    rw [w_TE_findCopiesAndRuns_2]
    refine ⟨fun c => (by exfalso; (first | omega | ((try simp (disch := omega) only [n_0, n_1, n_2, n_3, n_4, n_5, n_6, n_8, n_24, n_255, n_256, n_576, n_4000, nI_add, pk_mul, n_sub, n_cl, n_lt, n_le, n_eq, not_true_eq_false, not_false_eq_true] at c) <;> omega))), fun _ => ?_⟩
    refine ⟨W - 0 + 1, hD1 _ ?_⟩
    have q1 : (3 : Int32) + nI (pls fl2 P2) = nI (3 + pls fl2 P2) := nI_add 3 _
    have q2 : (1 : Int32) + nI (W * H) = nI (1 + W * H) := nI_add 1 _
    simp only [q1, q2]
    exact h
  have href : ∀ post : Int32 → Int32 → Int32 → Int32 → Int32 → Int32 → Int32 → Int32 → (Nat → Int32) → (Nat → Int32) → (Nat → Int32) → Prop, (3 + pls fl2 P2 ≤ 1 + W * H → w_MO_say (nI W) (nI H) 0 0 o0_fedSize (nI P2) 0 a2 b2 c2 o0_place 576 f 576 o0_other 576 o2 576 o0_read 4000 q 4000 o0_fed 3600 fl2 1 (fun (g_72 : Int32) (f_73 : Nat → Int32) => (w_MO_say (nI W) (nI H) 0 g_72 o0_fedSize (nI P2) 0 a2 b2 c2 o0_place 576 f 576 o0_other 576 o2 576 o0_read 4000 f_73 4000 o0_fed 3600 fl2 (nI (grd f (W * H))) (fun (g_114 : Int32) (f_115 : Nat → Int32) => ∃ n_325 : Nat, (w_MO_encode_325_v2 (nI W) (nI H) o0_fedSize o0_place 576 f 576 o0_other 576 576 o0_read 4000 4000 o0_fed 3600 (nI P2) a2 b2 c2 o2 fl2 (fun (v3 : Int32) (g7 : Int32) (f7 : Nat → Int32) => (w_MO_say (nI W) (nI H) 0 g7 o0_fedSize (nI P2) 0 a2 b2 c2 o0_place 576 f 576 o0_other 576 o2 576 o0_read 4000 f7 4000 o0_fed 3600 fl2 0 (fun (g8 : Int32) (f8 : Nat → Int32) => post g8 0 g8 (nI P2) 0 a2 b2 c2 o2 f8 fl2))) n_325 0 g_114 f_115))))) → (1 + W * H < 3 + pls fl2 P2 → w_MO_say (nI W) (nI H) 0 0 o0_fedSize (nI P2) 1 a2 b2 c2 o0_place 576 f 576 o0_other 576 o2 576 o0_read 4000 q 4000 o0_fed 3600 fl2 0 (fun (g_153 : Int32) (f_154 : Nat → Int32) => ∃ n_280 : Nat, (w_MO_encode_280 (nI W) (nI H) o0_fedSize o0_place 576 f 576 o0_other 576 576 o0_read 4000 4000 o0_fed 3600 (nI P2) a2 b2 c2 o2 fl2 (fun (v3 : Int32) (g7 : Int32) (f7 : Nat → Int32) => post g7 0 g7 (nI P2) 1 a2 b2 c2 o2 f7 fl2) n_280 0 g_153 f_154))) → w_MO_encode (nI W) (nI H) o0_fault o0_toldSize o0_fedSize o0_parts o0_pln o0_best o0_bestOne o0_bestTwo o0_place 576 f 576 o0_other 576 o 576 o0_read 4000 q 4000 o0_fed 3600 fl post := by
    intro post h1 h2
    unfold w_MO_encode
    refine s_MO_ground hW hH ?_
    refine ⟨W * H + 1, s_MO_encode_17 hW hH ?_ (W * H) 0 _ cp_0.symm (by omega)⟩
    refine ⟨W * H + 1, ?_⟩
    have hR1' := hR1
    simp only [Nat.zero_mul, Nat.zero_add] at hR1'
    refine hR1' _ ?_
    have hS1' := hS1
    simp only [Nat.zero_mul, Nat.zero_add] at hS1'
    refine ⟨W * H + 1, hS1' _ ?_⟩
    refine ⟨P2 + 1, s_MO_encode_202 (by omega) ?_ P2 0 (by omega)⟩
    refine s_MO_size ?_
    rw [n_1, nI_add]
    by_cases c : 3 + pls fl2 P2 ≤ 1 + W * H
    · refine ⟨fun _ => ?_, fun c' => (by exfalso; rw [n_le (by omega) (by omega)] at c'; omega)⟩
      have z := h1 c
      unfold w_MO_say at z ⊢
      refine ⟨z.1, s_MO_size ?_⟩
      refine ⟨fun c' => (by exfalso; rw [n_0, n_le (by omega) (by omega)] at c'; have := Nat.mul_le_mul h1W h1H; omega), fun _ => ?_⟩
      exact z.2
    · refine ⟨fun c' => (by exfalso; rw [n_le (by omega) (by omega)] at c'; omega), fun _ => ?_⟩
      exact h2 (by omega)
  by_cases c : 3 + pls fl2 P2 ≤ 1 + W * H
  · obtain ⟨q3, hb3, hWc, hWr⟩ := wr_all (o0_byteLength := nI (pls fl2 P2)) (o0_fedSize := o0_fedSize) (o0_place := o0_place) (g14 := a2) (g15 := b2) (g16 := c2) (o0_first := f) (o0_other := o0_other) (o0_read := o0_read) (o0_fed := o0_fed) (fo := o2) (N := H * (2 * W + 2) + 1) hW hH (show P2 ≤ W * H by omega) (by omega) hv2 (by omega) P2 0 (upd (upd q 0 1) 1 (nI (grd f (W * H)))) (by omega) (upd_by (upd_by hq (by_nI (t := 1) (by omega))) (by_nI hg))
    refine ⟨0, o2, P2, fl2, 3 + pls fl2 P2, upd q3 (2 + pls fl2 P2) 0, ⟨Or.inl rfl, hz2, by omega, by omega, upd_by hb3 by_0⟩, ?_, ?_⟩
    · intro post hk
      refine hcls post ⟨fun _ => ?_, fun c' => (by exfalso; rw [n_le (by omega) (by omega)] at c'; omega)⟩
      unfold w_BR_drop
      refine s_BR_add (F := 0) (by omega) (by omega) ?_
      refine s_BR_add (F := 1) (by omega) (by omega) ?_
      unfold w_PL_writeTo
      refine ⟨P2 + 1, hWc _ ?_⟩
      refine s_BR_add (by omega) (by omega) ?_
      rw [show 2 + pls fl2 P2 + 1 = 3 + pls fl2 P2 by omega]
      exact hk _ _
    · intro post hk
      refine href post (fun _ => ?_) (fun c' => absurd c' (by omega))
      refine s_MO_say (T := 0) (by omega) ?_
      refine s_MO_say (T := 1) (by omega) ?_
      refine ⟨P2 + 1, hWr _ ?_⟩
      refine s_MO_say (by omega) ?_
      rw [show 2 + pls fl2 P2 + 1 = 3 + pls fl2 P2 by omega]
      exact hk _ _ _
  · refine ⟨1, o2, P2, fl2, 1 + W * H, ap f (W * H) 0 1 (upd q 0 0), ⟨Or.inr rfl, hz2, by omega, by omega, ap_by hf _ _ _ _ (upd_by hq by_0)⟩, ?_, ?_⟩
    · intro post hk
      refine hcls post ⟨fun c' => (by exfalso; rw [n_le (by omega) (by omega)] at c'; omega), fun _ => ?_⟩
      unfold w_BR_drop w_TE_writePlain
      refine s_BR_add (F := 0) (by omega) (by omega) ?_
      refine ⟨W * H + 1, s_TE_writePlain_7 hW hH (by omega) (W * H) 0 1 _ (by omega) (by omega) ?_⟩
      exact hk _ _
    · intro post hk
      refine href post (fun c' => absurd c' (by omega)) (fun _ => ?_)
      refine s_MO_say (T := 0) (by omega) ?_
      refine ⟨W * H + 1, s_MO_encode_280 hW hH (W * H) 0 1 _ (by omega) (by omega) ?_⟩
      exact hk _ _ _
