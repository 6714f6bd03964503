/-! PURE ROWS: the largest rectangle. Own work. -/
theorem min_if {a b : Nat} (ha : a ≤ 1000) (hb : b ≤ 1000) : (if nI a < nI b then nI a else nI b) = nI (min b a) := by
  by_cases c : a < b
  · rw [if_pos (by rw [n_lt (by omega) (by omega)]; exact c), Nat.min_eq_right (by omega)]
  · rw [if_neg (by rw [n_lt (by omega) (by omega)]; exact c), Nat.min_eq_left (by omega)]
theorem run_pos {P : Nat → Bool} {m : Nat} (hm : 1 ≤ m) (h : P 0 = true) : 1 ≤ run P m 0 := by
  obtain ⟨t, rfl⟩ : ∃ t, m = t + 1 := ⟨m - 1, by omega⟩
  simp only [run, h, if_true]
  exact run_ge t 1
theorem run_zero {P : Nat → Bool} {m : Nat} (hm : 1 ≤ m) (h : run P m 0 = 0) : P 0 = false := by
  by_cases c : P 0 = true
  · have := run_pos hm c; omega
  · simpa using c
theorem rect_loop {o0_plain o0_found_count o0_found_byteLength : Int32} {o0_counts o0_found_fields : Nat → Int32} {o0_fault o0_toldSize o0_fedSize o0_parts o0_pln o0_place : Int32} {o0_other o0_read o0_toldBytes o0_fed o0_part : Nat → Int32} {W H x y : Nat} (h1W : 1 ≤ W) (hW : W ≤ 24) (h1H : 1 ≤ H) (hH : H ≤ 24) (hx : x < W) (hy : y < H) {f o : Nat → Int32} : ∀ d h lw bw bh, y + h + d = H + 1 → 1 ≤ h → 1 ≤ lw → lw ≤ bw → 1 ≤ bh → x + bw ≤ W → y + bh ≤ H → ∃ bw' bh' : Nat, (1 ≤ bw' ∧ 1 ≤ bh' ∧ x + bw' ≤ W ∧ y + bh' ≤ H) ∧
    (∀ k_89 : Int32 → Int32 → Int32 → Int32 → Prop, (∀ a b, k_89 a b (nI bh') (nI bw')) → w_TE_takeRectangle_25 (nI x) (nI y) o0_plain (W * H) o 256 o0_counts o0_found_count o0_found_byteLength (W * H * 6) o0_found_fields (nI W) (nI H) (W * H) f (f (y * W + x)) k_89 (d + 2) (nI h) (nI lw) (nI bh) (nI bw)) ∧
    (∀ k_141 : Int32 → Int32 → Int32 → Int32 → Int32 → Prop, (∀ a b, k_141 a b (nI (bw' * bh')) (nI bw') (nI bh')) → w_MO_findRectangle_28 (nI x) (nI y) (nI W) (nI H) o0_fault o0_toldSize o0_fedSize o0_parts o0_pln o0_place 576 f 576 o0_other 576 o 576 o0_read 4000 o0_toldBytes 4000 o0_fed 3600 o0_part k_141 (d + 1) (nI h) (nI lw) (nI (bw * bh)) (nI bw) (nI bh)) := by
  have hz := ix_lt hW hH hx hy
  intro d
  induction d with
  | zero =>
    intro h lw bw bh hd h1 h2 h3 h4 h5 h6
    refine ⟨bw, bh, ⟨by omega, h4, h5, h6⟩, ?_, ?_⟩
    · intro k_89 hk
      rw [w_TE_takeRectangle_25, n_sub (by omega)]
      refine ⟨fun _ => ?_, fun c => (by exfalso; (first | omega | ((try simp (disch := omega) only [n_0, n_1, n_2, n_3, n_4, n_5, n_6, n_8, n_24, n_255, n_256, n_576, n_4000, nI_add, pk_mul, n_sub, n_cl, n_lt, n_le, n_eq, not_true_eq_false, not_false_eq_true] at c) <;> omega)))⟩
      exact hk _ _
    · intro k_141 hk
      rw [w_MO_findRectangle_28, nI_add, n_1, n_sub (by omega)]
      refine s_isOf_out h1W hW h1H hH (by omega) (by omega) (by omega) ?_
      exact ⟨fun _ => hk _ _, fun c => absurd rfl c⟩
  | succ d ih =>
    intro h lw bw bh hd h1 h2 h3 h4 h5 h6
    have rl := run_le (P := oV f o ((y + h - 1) * W + x) (f (y * W + x))) (W - x) 0
    have eo : oV f o ((y + h - 1) * W + x) (f (y * W + x)) 0 = (decide (¬ o ((y + h - 1) * W + x) = 0) && decide (f ((y + h - 1) * W + x) = f (y * W + x))) := rfl
    have pb : bw * bh ≤ 24 * 24 := Nat.mul_le_mul (by omega) (by omega)
    by_cases r0 : run (oV f o ((y + h - 1) * W + x) (f (y * W + x))) (W - x) 0 = 0
    · have ef := run_zero (by omega) r0
      refine ⟨bw, bh, ⟨by omega, h4, h5, h6⟩, ?_, ?_⟩
      · intro k_89 hk
        rw [w_TE_takeRectangle_25, n_sub (by omega)]
        refine ⟨fun c => (by exfalso; (first | omega | ((try simp (disch := omega) only [n_0, n_1, n_2, n_3, n_4, n_5, n_6, n_8, n_24, n_255, n_256, n_576, n_4000, nI_add, pk_mul, n_sub, n_cl, n_lt, n_le, n_eq, not_true_eq_false, not_false_eq_true] at c) <;> omega))), fun _ => ?_⟩
        refine ⟨fun c => (by exfalso; (first | omega | ((try simp (disch := omega) only [n_0, n_1, n_2, n_3, n_4, n_5, n_6, n_8, n_24, n_255, n_256, n_576, n_4000, nI_add, pk_mul, n_sub, n_cl, n_lt, n_le, n_eq, not_true_eq_false, not_false_eq_true] at c) <;> omega))), fun _ => ?_⟩
        rw [nI_add, n_1, n_sub (by omega)]
        refine s_TE_openOfValue hW hH (by omega) (by omega) ?_
        rw [r0]
        intro m hm
        rw [min_if (by omega) (by omega), Nat.min_eq_right (by omega)] at hm
        subst hm
        rw [pk_mul, pk_mul, Nat.zero_mul]
        refine ⟨fun _ => ?_, fun c => (by exfalso; (first | omega | ((try simp (disch := omega) only [n_0, n_1, n_2, n_3, n_4, n_5, n_6, n_8, n_24, n_255, n_256, n_576, n_4000, nI_add, pk_mul, n_sub, n_cl, n_lt, n_le, n_eq, not_true_eq_false, not_false_eq_true] at c) <;> omega)))⟩
        rw [w_TE_takeRectangle_25]
        exact ⟨fun _ => hk _ _, fun _ => ⟨fun _ => hk _ _, fun c => absurd (by decide) c⟩⟩
      · intro k_141 hk
        rw [w_MO_findRectangle_28, nI_add, n_1, n_sub (by omega), ix_nI2, n_cl (by omega)]
        refine s_isOf_in h1W hW h1H hH hx (show y + h - 1 < H by omega) (fun _ => ?_) (fun c c2 => ?_)
        · exact ⟨fun _ => hk _ _, fun c => absurd rfl c⟩
        · exfalso
          rw [eo] at ef
          simp [c, c2] at ef
    · have et : oV f o ((y + h - 1) * W + x) (f (y * W + x)) 0 = true := by
        by_cases c : oV f o ((y + h - 1) * W + x) (f (y * W + x)) 0 = true
        · exact c
        · exfalso
          apply r0
          obtain ⟨t, ht⟩ : ∃ t, W - x = t + 1 := ⟨W - x - 1, by omega⟩
          rw [ht]
          simp only [run, if_neg c]
      generalize hL : run (oV f o ((y + h - 1) * W + x) (f (y * W + x))) (W - x) 0 = L at r0 rl
      have mb1 : min lw L ≤ lw := Nat.min_le_left _ _
      have mb2 : min lw L ≤ L := Nat.min_le_right _ _
      have mb3 : 1 ≤ min lw L := by omega
      have pm : min lw L * h ≤ 24 * 25 := Nat.mul_le_mul (by omega) (by omega)
      have etw : ¬ o ((y + h - 1) * W + x) = 0 ∧ f ((y + h - 1) * W + x) = f (y * W + x) := by
        rw [eo] at et
        simpa using et
      by_cases cu : min lw L * h ≤ bw * bh
      · obtain ⟨bw', bh', hA, hC, hR⟩ := ih (h + 1) (min lw L) bw bh (by omega) (by omega) mb3 (by omega) h4 h5 h6
        refine ⟨bw', bh', hA, ?_, ?_⟩
        · intro k_89 hk
          have z := hC k_89 hk
          rw [w_TE_takeRectangle_25, n_sub (by omega)]
          refine ⟨fun c => (by exfalso; (first | omega | ((try simp (disch := omega) only [n_0, n_1, n_2, n_3, n_4, n_5, n_6, n_8, n_24, n_255, n_256, n_576, n_4000, nI_add, pk_mul, n_sub, n_cl, n_lt, n_le, n_eq, not_true_eq_false, not_false_eq_true] at c) <;> omega))), fun _ => ?_⟩
          refine ⟨fun c => (by exfalso; (first | omega | ((try simp (disch := omega) only [n_0, n_1, n_2, n_3, n_4, n_5, n_6, n_8, n_24, n_255, n_256, n_576, n_4000, nI_add, pk_mul, n_sub, n_cl, n_lt, n_le, n_eq, not_true_eq_false, not_false_eq_true] at c) <;> omega))), fun _ => ?_⟩
          rw [nI_add, n_1, n_sub (by omega)]
          refine s_TE_openOfValue hW hH (by omega) (by omega) ?_
          rw [hL]
          intro m hm
          rw [min_if (by omega) (by omega)] at hm
          subst hm
          rw [pk_mul, pk_mul, nI_add]
          refine ⟨fun _ => ?_, fun c => (by exfalso; (first | omega | ((try simp (disch := omega) only [n_0, n_1, n_2, n_3, n_4, n_5, n_6, n_8, n_24, n_255, n_256, n_576, n_4000, nI_add, pk_mul, n_sub, n_cl, n_lt, n_le, n_eq, not_true_eq_false, not_false_eq_true] at c) <;> omega)))⟩
          exact z
        · intro k_141 hk
          have z := hR k_141 hk
          rw [w_MO_findRectangle_28, nI_add, n_1, n_sub (by omega), ix_nI2, n_cl (by omega)]
          refine s_isOf_in h1W hW h1H hH hx (show y + h - 1 < H by omega) (fun c => absurd etw c) (fun c c2 => ?_)
          refine ⟨fun c => absurd c (by decide), fun _ => ?_⟩
          refine ⟨W - x + 1, s_MO_findRectangle_46 h1W hW h1H hH hx h1 (by omega) (by omega) (W - x) 0 (by omega) (by omega) ?_⟩
          rw [hL, pk_mul, nI_add]
          refine ⟨fun c => (by exfalso; (first | omega | ((try simp (disch := omega) only [n_0, n_1, n_2, n_3, n_4, n_5, n_6, n_8, n_24, n_255, n_256, n_576, n_4000, nI_add, pk_mul, n_sub, n_cl, n_lt, n_le, n_eq, not_true_eq_false, not_false_eq_true] at c) <;> omega))), fun _ => ?_⟩
          refine ⟨fun _ => z, fun _ => ?_⟩
          refine ⟨fun _ => ?_, fun c => (by exfalso; (first | omega | ((try simp (disch := omega) only [n_0, n_1, n_2, n_3, n_4, n_5, n_6, n_8, n_24, n_255, n_256, n_576, n_4000, nI_add, pk_mul, n_sub, n_cl, n_lt, n_le, n_eq, not_true_eq_false, not_false_eq_true] at c) <;> omega)))⟩
          exact z
      · obtain ⟨bw', bh', hA, hC, hR⟩ := ih (h + 1) (min lw L) (min lw L) h (by omega) (by omega) mb3 (by omega) h1 (by omega) (by omega)
        refine ⟨bw', bh', hA, ?_, ?_⟩
        · intro k_89 hk
          have z := hC k_89 hk
          rw [w_TE_takeRectangle_25, n_sub (by omega)]
          refine ⟨fun c => (by exfalso; (first | omega | ((try simp (disch := omega) only [n_0, n_1, n_2, n_3, n_4, n_5, n_6, n_8, n_24, n_255, n_256, n_576, n_4000, nI_add, pk_mul, n_sub, n_cl, n_lt, n_le, n_eq, not_true_eq_false, not_false_eq_true] at c) <;> omega))), fun _ => ?_⟩
          refine ⟨fun c => (by exfalso; (first | omega | ((try simp (disch := omega) only [n_0, n_1, n_2, n_3, n_4, n_5, n_6, n_8, n_24, n_255, n_256, n_576, n_4000, nI_add, pk_mul, n_sub, n_cl, n_lt, n_le, n_eq, not_true_eq_false, not_false_eq_true] at c) <;> omega))), fun _ => ?_⟩
          rw [nI_add, n_1, n_sub (by omega)]
          refine s_TE_openOfValue hW hH (by omega) (by omega) ?_
          rw [hL]
          intro m hm
          rw [min_if (by omega) (by omega)] at hm
          subst hm
          rw [pk_mul, pk_mul, nI_add]
          refine ⟨fun c => (by exfalso; (first | omega | ((try simp (disch := omega) only [n_0, n_1, n_2, n_3, n_4, n_5, n_6, n_8, n_24, n_255, n_256, n_576, n_4000, nI_add, pk_mul, n_sub, n_cl, n_lt, n_le, n_eq, not_true_eq_false, not_false_eq_true] at c) <;> omega))), fun _ => ?_⟩
          exact z
        · intro k_141 hk
          have z := hR k_141 hk
          rw [w_MO_findRectangle_28, nI_add, n_1, n_sub (by omega), ix_nI2, n_cl (by omega)]
          refine s_isOf_in h1W hW h1H hH hx (show y + h - 1 < H by omega) (fun c => absurd etw c) (fun c c2 => ?_)
          refine ⟨fun c => absurd c (by decide), fun _ => ?_⟩
          refine ⟨W - x + 1, s_MO_findRectangle_46 h1W hW h1H hH hx h1 (by omega) (by omega) (W - x) 0 (by omega) (by omega) ?_⟩
          rw [hL, pk_mul, nI_add]
          refine ⟨fun _ => ?_, fun c => (by exfalso; (first | omega | ((try simp (disch := omega) only [n_0, n_1, n_2, n_3, n_4, n_5, n_6, n_8, n_24, n_255, n_256, n_576, n_4000, nI_add, pk_mul, n_sub, n_cl, n_lt, n_le, n_eq, not_true_eq_false, not_false_eq_true] at c) <;> omega)))⟩
          exact z
theorem rect_ex {o0_plain o0_found_count o0_found_byteLength : Int32} {o0_counts o0_found_fields : Nat → Int32} {o0_fault o0_toldSize o0_fedSize o0_parts o0_pln o0_place o0_best o0_bestOne o0_bestTwo : Int32} {o0_other o0_read o0_toldBytes o0_fed o0_part : Nat → Int32} {W H x y : Nat} (h1W : 1 ≤ W) (hW : W ≤ 24) (h1H : 1 ≤ H) (hH : H ≤ 24) (hx : x < W) (hy : y < H) {f o : Nat → Int32} (ho : ¬ o (y * W + x) = 0) : ∃ bw bh : Nat, (1 ≤ bw ∧ 1 ≤ bh ∧ x + bw ≤ W ∧ y + bh ≤ H) ∧
    (∀ k_89 : Int32 → Int32 → Int32 → Int32 → Prop, (∀ a b, k_89 a b (nI bh) (nI bw)) → ∃ n, w_TE_takeRectangle_25 (nI x) (nI y) o0_plain (W * H) o 256 o0_counts o0_found_count o0_found_byteLength (W * H * 6) o0_found_fields (nI W) (nI H) (W * H) f (f (y * W + x)) k_89 n 1 (nI W - nI x) 0 0) ∧
    (∀ post : Int32 → Int32 → Int32 → Prop, post (nI (bw * bh)) (nI bw) (nI bh) → w_MO_findRectangle (nI W) (nI H) o0_fault o0_toldSize o0_fedSize o0_parts o0_pln o0_best o0_bestOne o0_bestTwo o0_place 576 f 576 o0_other 576 o 576 o0_read 4000 o0_toldBytes 4000 o0_fed 3600 o0_part (nI x) (nI y) post) := by
  have hz := ix_lt hW hH hx hy
  have ey : y + 1 - 1 = y := by omega
  have rl := run_le (P := oV f o (y * W + x) (f (y * W + x))) (W - x) 0
  have rp := run_pos (P := oV f o (y * W + x) (f (y * W + x))) (m := W - x) (by omega) (oV_t (i := 0) ho rfl)
  generalize hL : run (oV f o (y * W + x) (f (y * W + x))) (W - x) 0 = L at rl rp
  obtain ⟨bw', bh', hA, hC, hR⟩ := rect_loop (o0_plain := o0_plain) (o0_found_count := o0_found_count) (o0_found_byteLength := o0_found_byteLength) (o0_counts := o0_counts) (o0_found_fields := o0_found_fields) (o0_fault := o0_fault) (o0_toldSize := o0_toldSize) (o0_fedSize := o0_fedSize) (o0_parts := o0_parts) (o0_pln := o0_pln) (o0_place := o0_place) (o0_other := o0_other) (o0_read := o0_read) (o0_toldBytes := o0_toldBytes) (o0_fed := o0_fed) (o0_part := o0_part) h1W hW h1H hH hx hy (f := f) (o := o) (H - 1 - y) 2 L L 1 (by omega) (by omega) rp (by omega) (by omega) (by omega) (by omega)
  refine ⟨bw', bh', hA, ?_, ?_⟩
  · intro k_89 hk
    refine ⟨H - 1 - y + 2 + 1, ?_⟩
    have z := hC k_89 hk
    rw [w_TE_takeRectangle_25, n_sub (by omega), n_sub (by omega)]
    refine ⟨fun c => (by exfalso; (first | omega | ((try simp (disch := omega) only [n_0, n_1, n_2, n_3, n_4, n_5, n_6, n_8, n_24, n_255, n_256, n_576, n_4000, nI_add, pk_mul, n_sub, n_cl, n_lt, n_le, n_eq, not_true_eq_false, not_false_eq_true] at c) <;> omega))), fun _ => ?_⟩
    refine ⟨fun c => (by exfalso; (first | omega | ((try simp (disch := omega) only [n_0, n_1, n_2, n_3, n_4, n_5, n_6, n_8, n_24, n_255, n_256, n_576, n_4000, nI_add, pk_mul, n_sub, n_cl, n_lt, n_le, n_eq, not_true_eq_false, not_false_eq_true] at c) <;> omega))), fun _ => ?_⟩
    rw [n_1, nI_add, n_sub (by omega), ey]
    refine s_TE_openOfValue hW hH (by omega) hy ?_
    rw [hL]
    intro m hm
    rw [min_if (by omega) (by omega), Nat.min_eq_right (by omega)] at hm
    subst hm
    rw [n_0, pk_mul, pk_mul, nI_add]
    refine ⟨fun c => (by exfalso; (first | omega | ((try simp (disch := omega) only [n_0, n_1, n_2, n_3, n_4, n_5, n_6, n_8, n_24, n_255, n_256, n_576, n_4000, nI_add, pk_mul, n_sub, n_cl, n_lt, n_le, n_eq, not_true_eq_false, not_false_eq_true] at c) <;> omega))), fun _ => ?_⟩
    exact z
  · intro post hk
    unfold w_MO_findRectangle
    rw [ix_nI2]
    refine ⟨n_in (by omega) (by omega), ?_⟩
    refine ⟨H - 1 - y + 1 + 1, ?_⟩
    have z := hR (fun (v5_6_16 : Int32) (v4_7_17 : Int32) (g_o0_q_14_8_18 : Int32) (g_o0_q_15_9_19 : Int32) (g_o0_q_16_10_20 : Int32) => post g_o0_q_14_8_18 g_o0_q_15_9_19 g_o0_q_16_10_20) (fun _ _ => hk)
    rw [w_MO_findRectangle_28, n_1, nI_add, n_sub (by omega), ix_nI2, n_cl (by omega), ey]
    refine s_isOf_in h1W hW h1H hH hx hy (fun c => absurd ⟨ho, rfl⟩ c) (fun c c2 => ?_)
    refine ⟨fun c => absurd c (by decide), fun _ => ?_⟩
    refine ⟨W - x + 1, s_MO_findRectangle_46 (h := 1) h1W hW h1H hH hx (by omega) (by omega) (by omega) (W - x) 0 (by omega) (by omega) ?_⟩
    rw [ey, hL, Nat.min_eq_right (show L ≤ W by omega), n_0, pk_mul, nI_add]
    refine ⟨fun _ => ?_, fun c => (by exfalso; (first | omega | ((try simp (disch := omega) only [n_0, n_1, n_2, n_3, n_4, n_5, n_6, n_8, n_24, n_255, n_256, n_576, n_4000, nI_add, pk_mul, n_sub, n_cl, n_lt, n_le, n_eq, not_true_eq_false, not_false_eq_true] at c) <;> omega)))⟩
    exact z
