/-! PURE ROWS: the two passes of a telling. Own work. -/
theorem kdiv {W x y : Nat} (h1W : 1 ≤ W) (hW : W ≤ 24) (hy : y ≤ 24) (hx : x < W) : nI (y * W + x) / nI W = nI y := by
  have hs := pl_le hy hW
  rw [pk_div (by omega) (by omega) (by omega)]
  congr 1
  rw [Nat.mul_comm, Nat.mul_add_div (by omega), Nat.div_eq_of_lt hx, Nat.add_zero]
theorem kmod {W x y : Nat} (hx : x < W) : nI (y * W + x) - nI y * nI W = nI x := by
  rw [pk_mul, n_sub (by omega)]
  congr 1
  omega
theorem W_ne {W : Nat} (h1W : 1 ≤ W) (hW : W ≤ 24) : ¬ nI W = 0 := by
  rw [n_0, n_eq (by omega) (by omega)]; omega
theorem rect_step {o0_plain : Int32} {o0_counts : Nat → Int32} {o0_toldSize o0_fedSize o0_pln o0_place g14 g15 g16 : Int32} {o0_other o0_read o0_toldBytes o0_fed : Nat → Int32} {W H x y P bl : Nat} (h1W : 1 ≤ W) (hW : W ≤ 24) (h1H : 1 ≤ H) (hH : H ≤ 24) (hx : x < W) (hy : y < H) {f o fl : Nat → Int32} (hf : BY f) (hE : EI W H o P bl fl) : ∃ (o' : Nat → Int32) (P' bl' : Nat) (fl' : Nat → Int32) (a b c : Int32), EI W H o' P' bl' fl' ∧
    (∀ (n : Nat) (K : Int32 → (Nat → Int32) → Int32 → Int32 → (Nat → Int32) → Prop), w_TE_findRectangles_12 o0_plain (W * H) 256 o0_counts (W * H * 6) (nI W) (nI H) (W * H) f (nI y) K n (nI (x + 1)) o' (nI P') (nI bl') fl' → w_TE_findRectangles_12 o0_plain (W * H) 256 o0_counts (W * H * 6) (nI W) (nI H) (W * H) f (nI y) K (n + 1) (nI x) o (nI P) (nI bl) fl) ∧
    (∀ (n : Nat) (K : Int32 → Int32 → Int32 → Int32 → Int32 → (Nat → Int32) → (Nat → Int32) → Prop), w_MO_encode_54 (nI W) (nI H) o0_toldSize o0_fedSize o0_pln o0_place 576 f 576 o0_other 576 576 o0_read 4000 o0_toldBytes 4000 o0_fed 3600 K n (nI (y * W + x + 1)) (nI P') a b c o' fl' → w_MO_encode_54 (nI W) (nI H) o0_toldSize o0_fedSize o0_pln o0_place 576 f 576 o0_other 576 576 o0_read 4000 o0_toldBytes 4000 o0_fed 3600 K (n + 1) (nI (y * W + x)) (nI P) g14 g15 g16 o fl) := by
  have hz := ix_lt hW hH hx hy
  by_cases ho : o (y * W + x) = 0
  · refine ⟨o, P, bl, fl, g14, g15, g16, hE, ?_, ?_⟩
    · intro n K hk
      rw [w_TE_findRectangles_12]
      refine ⟨fun c => (by exfalso; (first | omega | ((try simp (disch := omega) only [n_0, n_1, n_2, n_3, n_4, n_5, n_6, n_8, n_24, n_255, n_256, n_576, n_4000, nI_add, pk_mul, n_sub, n_cl, n_lt, n_le, n_eq, not_true_eq_false, not_false_eq_true] at c) <;> omega))), fun _ => ?_⟩
      refine s_isOpen_in hW hH hx hy (fun _ => ?_) (fun c => absurd ho c)
      refine ⟨fun _ => ?_, fun c => absurd rfl c⟩
      rw [n_1, nI_add]
      exact hk
    · intro n K hk
      rw [w_MO_encode_54]
      refine s_MO_size ?_
      refine ⟨fun c => (by exfalso; (first | omega | ((try simp (disch := omega) only [n_0, n_1, n_2, n_3, n_4, n_5, n_6, n_8, n_24, n_255, n_256, n_576, n_4000, nI_add, pk_mul, n_sub, n_cl, n_lt, n_le, n_eq, not_true_eq_false, not_false_eq_true] at c) <;> omega))), fun _ => ?_⟩
      refine ⟨n_in (by omega) (by omega), ?_⟩
      rw [n_cl (by omega)]
      refine ⟨fun _ => ?_, fun c => absurd ho c⟩
      rw [n_1, nI_add]
      exact hk
  · obtain ⟨bw, bh, ⟨b1, b2, b3, b4⟩, hC, hR⟩ := rect_ex (o0_plain := o0_plain) (o0_found_count := nI P) (o0_found_byteLength := nI bl) (o0_counts := o0_counts) (o0_found_fields := fl) (o0_fault := 0) (o0_toldSize := o0_toldSize) (o0_fedSize := o0_fedSize) (o0_parts := nI P) (o0_pln := o0_pln) (o0_place := o0_place) (o0_other := o0_other) (o0_read := o0_read) (o0_toldBytes := o0_toldBytes) (o0_fed := o0_fed) (o0_part := fl) (o0_best := g14) (o0_bestOne := g15) (o0_bestTwo := g16) h1W hW h1H hH hx hy (f := f) (o := o) ho
    have pb : bw * bh ≤ 24 * 24 := Nat.mul_le_mul (by omega) (by omega)
    by_cases c6 : bw * bh < 6
    · refine ⟨o, P, bl, fl, nI (bw * bh), nI bw, nI bh, hE, ?_, ?_⟩
      · intro n K hk
        rw [w_TE_findRectangles_12]
        refine ⟨fun c => (by exfalso; (first | omega | ((try simp (disch := omega) only [n_0, n_1, n_2, n_3, n_4, n_5, n_6, n_8, n_24, n_255, n_256, n_576, n_4000, nI_add, pk_mul, n_sub, n_cl, n_lt, n_le, n_eq, not_true_eq_false, not_false_eq_true] at c) <;> omega))), fun _ => ?_⟩
        refine s_isOpen_in hW hH hx hy (fun c => absurd c ho) (fun _ => ?_)
        refine ⟨fun c => absurd c (by decide), fun _ => ?_⟩
        unfold w_TE_takeRectangle
        refine s_value_in hW hH hx hy ?_
        refine hC _ (fun _ _ => ?_)
        rw [pk_mul]
        refine ⟨fun _ => ?_, fun c => (by exfalso; (first | omega | ((try simp (disch := omega) only [n_0, n_1, n_2, n_3, n_4, n_5, n_6, n_8, n_24, n_255, n_256, n_576, n_4000, nI_add, pk_mul, n_sub, n_cl, n_lt, n_le, n_eq, not_true_eq_false, not_false_eq_true] at c) <;> omega)))⟩
        rw [n_1, nI_add]
        exact hk
      · intro n K hk
        rw [w_MO_encode_54]
        refine s_MO_size ?_
        refine ⟨fun c => (by exfalso; (first | omega | ((try simp (disch := omega) only [n_0, n_1, n_2, n_3, n_4, n_5, n_6, n_8, n_24, n_255, n_256, n_576, n_4000, nI_add, pk_mul, n_sub, n_cl, n_lt, n_le, n_eq, not_true_eq_false, not_false_eq_true] at c) <;> omega))), fun _ => ?_⟩
        refine ⟨n_in (by omega) (by omega), ?_⟩
        rw [n_cl (by omega), kdiv h1W hW (by omega) hx, kmod hx]
        refine ⟨fun c => absurd c ho, fun _ => ⟨W_ne h1W hW, W_ne h1W hW, ?_⟩⟩
        refine hR _ ?_
        refine ⟨fun _ => ?_, fun c => (by exfalso; (first | omega | ((try simp (disch := omega) only [n_0, n_1, n_2, n_3, n_4, n_5, n_6, n_8, n_24, n_255, n_256, n_576, n_4000, nI_add, pk_mul, n_sub, n_cl, n_lt, n_le, n_eq, not_true_eq_false, not_false_eq_true] at c) <;> omega)))⟩
        rw [n_1, nI_add]
        exact hk
    · have hP := EI_room hE hz.1 ho
      obtain ⟨bw', rfl⟩ : ∃ t, bw = t + 1 := ⟨bw - 1, by omega⟩
      obtain ⟨bh', rfl⟩ : ∃ t, bh = t + 1 := ⟨bh - 1, by omega⟩
      refine ⟨rcF 0 W (bw' + 1) (bh' + 1) (y * W + x) o, P + 1, bl + 6, p6 fl P (nI 1) (nI x) (nI y) (nI (bw' + 1)) (nI (bh' + 1)) (f (y * W + x)), nI ((bw' + 1) * (bh' + 1)), nI (bw' + 1), nI (bh' + 1), ?_, ?_, ?_⟩
      · have z := EI_add (t := 1) (b := nI x) (c := nI y) (d := nI (bw' + 1)) (e := nI (bh' + 1)) (g := f (y * W + x)) hE hz.1 ho (rcF_zb hE.1 b3 b4) (rcF_or _ _ _) (rcF_at _ _ _) (by omega) (by omega) (by_nI (by omega)) (by_nI (by omega)) (by_nI (by omega)) (by rw [if_neg (by omega)]; exact by_nI (by omega)) (Or.inr (hf _))
        rw [if_neg (by omega)] at z
        exact z
      · intro n K hk
        rw [w_TE_findRectangles_12]
        refine ⟨fun c => (by exfalso; (first | omega | ((try simp (disch := omega) only [n_0, n_1, n_2, n_3, n_4, n_5, n_6, n_8, n_24, n_255, n_256, n_576, n_4000, nI_add, pk_mul, n_sub, n_cl, n_lt, n_le, n_eq, not_true_eq_false, not_false_eq_true] at c) <;> omega))), fun _ => ?_⟩
        refine s_isOpen_in hW hH hx hy (fun c => absurd c ho) (fun _ => ?_)
        refine ⟨fun c => absurd c (by decide), fun _ => ?_⟩
        unfold w_TE_takeRectangle
        refine s_value_in hW hH hx hy ?_
        refine hC _ (fun _ _ => ?_)
        rw [pk_mul]
        refine ⟨fun c => (by exfalso; (first | omega | ((try simp (disch := omega) only [n_0, n_1, n_2, n_3, n_4, n_5, n_6, n_8, n_24, n_255, n_256, n_576, n_4000, nI_add, pk_mul, n_sub, n_cl, n_lt, n_le, n_eq, not_true_eq_false, not_false_eq_true] at c) <;> omega))), fun _ => ?_⟩
        refine s_PL_add (t := 1) hW hH hP (by omega) (by omega) ?_
        refine s_TE_close hW hH b3 b4 ?_
        rw [n_1, nI_add, if_neg (by omega)]
        exact hk
      · intro n K hk
        rw [w_MO_encode_54]
        refine s_MO_size ?_
        refine ⟨fun c => (by exfalso; (first | omega | ((try simp (disch := omega) only [n_0, n_1, n_2, n_3, n_4, n_5, n_6, n_8, n_24, n_255, n_256, n_576, n_4000, nI_add, pk_mul, n_sub, n_cl, n_lt, n_le, n_eq, not_true_eq_false, not_false_eq_true] at c) <;> omega))), fun _ => ?_⟩
        refine ⟨n_in (by omega) (by omega), ?_⟩
        rw [n_cl (by omega), kdiv h1W hW (by omega) hx, kmod hx]
        refine ⟨fun c => absurd c ho, fun _ => ⟨W_ne h1W hW, W_ne h1W hW, ?_⟩⟩
        refine hR _ ?_
        refine ⟨fun c => (by exfalso; (first | omega | ((try simp (disch := omega) only [n_0, n_1, n_2, n_3, n_4, n_5, n_6, n_8, n_24, n_255, n_256, n_576, n_4000, nI_add, pk_mul, n_sub, n_cl, n_lt, n_le, n_eq, not_true_eq_false, not_false_eq_true] at c) <;> omega))), fun _ => ?_⟩
        refine ⟨W_ne h1W hW, W_ne h1W hW, ?_⟩
        refine ⟨n_in (by omega) (by omega), ?_⟩
        refine s_MO_addPart (by omega) ?_
        refine ⟨W_ne h1W hW, W_ne h1W hW, ?_⟩
        refine s_MO_cover hW hH b3 b4 ?_
        rw [n_1, nI_add]
        exact hk
theorem s_MO_tellRow_2 {k_36 : Int32 → Prop} {W H x y : Nat} (hW : W ≤ 24) (hH : H ≤ 24) (hy : y < H) {o : Nat → Int32} : ∀ m i, x + i + m = W → k_36 (nI (run (oP o (y * W + x)) m i)) → w_MO_tellRow_2 (nI x) (nI y) (nI W) 576 o k_36 (m + 1) (nI i) := by
  have hs := pl_le hW hH
  intro m
  induction m with
  | zero =>
    intro i h hk
    rw [w_MO_tellRow_2, nI_add]
    refine ⟨fun _ => ?_, fun c => (by exfalso; (first | omega | ((try simp (disch := omega) only [n_0, n_1, n_2, n_3, n_4, n_5, n_6, n_8, n_24, n_255, n_256, n_576, n_4000, nI_add, pk_mul, n_sub, n_cl, n_lt, n_le, n_eq, not_true_eq_false, not_false_eq_true] at c) <;> omega)))⟩
    exact hk
  | succ m ih =>
    intro i h hk
    have z1 := @pl_lt W H (x + i) y (by omega) (by omega)
    rw [w_MO_tellRow_2, nI_add]
    refine ⟨fun c => (by exfalso; (first | omega | ((try simp (disch := omega) only [n_0, n_1, n_2, n_3, n_4, n_5, n_6, n_8, n_24, n_255, n_256, n_576, n_4000, nI_add, pk_mul, n_sub, n_cl, n_lt, n_le, n_eq, not_true_eq_false, not_false_eq_true] at c) <;> omega))), fun _ => ?_⟩
    rw [ix_nI2, nI_add, n_cl (by omega)]
    refine ⟨n_in (by omega) (by omega), ?_⟩
    refine ⟨fun c => ?_, fun c => ?_⟩
    · have e : oP o (y * W + x) i = false := by unfold oP; simp [c]
      simp only [run, e] at hk
      exact hk
    · have e : oP o (y * W + x) i = true := by unfold oP; simp [c]
      simp only [run, e] at hk
      rw [n_1, nI_add]
      exact ih (i + 1) (by omega) hk
theorem s_MO_tellRow_39 {k_83 : Int32 → Prop} {W H x y nn : Nat} (hW : W ≤ 24) (hH : H ≤ 24) (hx : x < W) (hy : y < H) (hn : x + nn ≤ W) {f : Nat → Int32} : ∀ m i, i + m = nn → k_83 (nI (run (eP f (y * W + x) (f (y * W + x))) m i)) → w_MO_tellRow_39 (nI x) (nI y) (nI W) 576 f (nI nn) k_83 (m + 1) (nI i) := by
  have hs := pl_le hW hH
  intro m
  induction m with
  | zero =>
    intro i h hk
    rw [w_MO_tellRow_39]
    refine ⟨fun _ => ?_, fun c => (by exfalso; (first | omega | ((try simp (disch := omega) only [n_0, n_1, n_2, n_3, n_4, n_5, n_6, n_8, n_24, n_255, n_256, n_576, n_4000, nI_add, pk_mul, n_sub, n_cl, n_lt, n_le, n_eq, not_true_eq_false, not_false_eq_true] at c) <;> omega)))⟩
    exact hk
  | succ m ih =>
    intro i h hk
    have z0 := @pl_lt W H x y (by omega) (by omega)
    have z1 := @pl_lt W H (x + i) y (by omega) (by omega)
    rw [w_MO_tellRow_39]
    refine ⟨fun c => (by exfalso; (first | omega | ((try simp (disch := omega) only [n_0, n_1, n_2, n_3, n_4, n_5, n_6, n_8, n_24, n_255, n_256, n_576, n_4000, nI_add, pk_mul, n_sub, n_cl, n_lt, n_le, n_eq, not_true_eq_false, not_false_eq_true] at c) <;> omega))), fun _ => ?_⟩
    rw [ix_nI2, nI_add, n_cl (by omega), n_cl (by omega)]
    refine ⟨n_in (by omega) (by omega), ?_⟩
    refine ⟨n_in (by omega) (by omega), ?_⟩
    refine ⟨fun c => ?_, fun c => ?_⟩
    · have e : eP f (y * W + x) (f (y * W + x)) i = false := by unfold eP; simp [c]
      simp only [run, e] at hk
      exact hk
    · have e : eP f (y * W + x) (f (y * W + x)) i = true := by unfold eP; simp [c]
      simp only [run, e] at hk
      rw [n_1, nI_add]
      exact ih (i + 1) (by omega) hk
theorem row_step {o0_plain : Int32} {o0_counts : Nat → Int32} {o0_toldSize o0_fedSize o0_pln o0_place g14 g15 g16 : Int32} {o0_other o0_read o0_toldBytes o0_fed : Nat → Int32} {W H x y P bl : Nat} (h1W : 1 ≤ W) (hW : W ≤ 24) (h1H : 1 ≤ H) (hH : H ≤ 24) (hx : x < W) (hy : y < H) {f o fl : Nat → Int32} (hf : BY f) (hE : EI W H o P bl fl) : ∃ (o' : Nat → Int32) (P' bl' : Nat) (fl' : Nat → Int32) (a b c : Int32), EI W H o' P' bl' fl' ∧
    (∀ (n : Nat) (K : Int32 → (Nat → Int32) → Int32 → Int32 → (Nat → Int32) → Prop), w_TE_findCopiesAndRuns_12 o0_plain (W * H) 256 o0_counts (W * H * 6) (nI W) (nI H) (W * H) f (nI y) K n (nI (x + 1)) o' (nI P') (nI bl') fl' → w_TE_findCopiesAndRuns_12 o0_plain (W * H) 256 o0_counts (W * H * 6) (nI W) (nI H) (W * H) f (nI y) K (n + 1) (nI x) o (nI P) (nI bl) fl) ∧
    (∀ (n : Nat) (K : Int32 → Int32 → Int32 → Int32 → Int32 → (Nat → Int32) → (Nat → Int32) → Prop), w_MO_encode_159 (nI W) (nI H) o0_toldSize o0_fedSize o0_pln o0_place 576 f 576 o0_other 576 576 o0_read 4000 o0_toldBytes 4000 o0_fed 3600 K n (nI (y * W + x + 1)) (nI P') a b c o' fl' → w_MO_encode_159 (nI W) (nI H) o0_toldSize o0_fedSize o0_pln o0_place 576 f 576 o0_other 576 576 o0_read 4000 o0_toldBytes 4000 o0_fed 3600 K (n + 1) (nI (y * W + x)) (nI P) g14 g15 g16 o fl) := by
  have hz := ix_lt hW hH hx hy
  by_cases ho : o (y * W + x) = 0
  · refine ⟨o, P, bl, fl, g14, g15, g16, hE, ?_, ?_⟩
    · intro n K hk
      rw [w_TE_findCopiesAndRuns_12]
      refine ⟨fun c => (by exfalso; (first | omega | ((try simp (disch := omega) only [n_0, n_1, n_2, n_3, n_4, n_5, n_6, n_8, n_24, n_255, n_256, n_576, n_4000, nI_add, pk_mul, n_sub, n_cl, n_lt, n_le, n_eq, not_true_eq_false, not_false_eq_true] at c) <;> omega))), fun _ => ?_⟩
      refine s_isOpen_in hW hH hx hy (fun _ => ?_) (fun c => absurd ho c)
      refine ⟨fun _ => ?_, fun c => absurd rfl c⟩
      rw [n_1, nI_add]
      exact hk
    · intro n K hk
      rw [w_MO_encode_159]
      refine s_MO_size ?_
      refine ⟨fun c => (by exfalso; (first | omega | ((try simp (disch := omega) only [n_0, n_1, n_2, n_3, n_4, n_5, n_6, n_8, n_24, n_255, n_256, n_576, n_4000, nI_add, pk_mul, n_sub, n_cl, n_lt, n_le, n_eq, not_true_eq_false, not_false_eq_true] at c) <;> omega))), fun _ => ?_⟩
      refine ⟨n_in (by omega) (by omega), ?_⟩
      rw [n_cl (by omega)]
      refine ⟨fun _ => ?_, fun c => absurd ho c⟩
      rw [n_1, nI_add]
      exact hk
  · obtain ⟨l1, u1, v1, w1, z1, ⟨hl1, hCR⟩, hC, hR⟩ := cpy_out (o0_plain := o0_plain) (o0_found_count := nI P) (o0_found_byteLength := nI bl) (o0_counts := o0_counts) (o0_found_fields := fl) (o0_fault := 0) (o0_toldSize := o0_toldSize) (o0_fedSize := o0_fedSize) (o0_parts := nI P) (o0_pln := o0_pln) (o0_place := o0_place) (o0_other := o0_other) (o0_read := o0_read) (o0_toldBytes := o0_toldBytes) (o0_fed := o0_fed) (o0_part := fl) h1W hW h1H hH hx hy (f := f) (o := o) hf 4 1 0 0 0 g15 g16 (by omega) (by omega) (by omega) (Or.inl rfl)
    have rn := run_le (P := oP o (y * W + x)) (W - x) 0
    have rl := run_le (P := oV f o (y * W + x) (f (y * W + x))) (W - x) 0
    have rp := run_pos (P := oV f o (y * W + x) (f (y * W + x))) (m := W - x) (by omega) (oV_t (i := 0) ho rfl)
    have er : run (eP f (y * W + x) (f (y * W + x))) (run (oP o (y * W + x)) (W - x) 0) 0 = run (oV f o (y * W + x) (f (y * W + x))) (W - x) 0 := by
      have := run_and (A := oP o (y * W + x)) (B := eP f (y * W + x) (f (y * W + x))) (W - x) 0
      rw [Nat.sub_zero] at this
      exact this.symm
    generalize hL : run (oV f o (y * W + x) (f (y * W + x))) (W - x) 0 = r at rl rp er
    have hP := EI_room hE hz.1 ho
    by_cases cc : 4 ≤ l1 ∧ r < l1
    · rcases hCR with c0 | ⟨eu, ev, a, b, ha, hb1, hb, ea, eb⟩
      · exact absurd c0 (by omega)
      · subst eu ev
        obtain ⟨m, rfl⟩ : ∃ t, l1 = t + 1 := ⟨l1 - 1, by omega⟩
        refine ⟨rcF 0 W (m + 1) 1 (y * W + x) o, P + 1, bl + 6, p6 fl P (nI 2) (nI x) (nI y) (nI (m + 1)) w1 z1, nI (m + 1), w1, z1, ?_, ?_, ?_⟩
        · have z := EI_add (t := 2) (b := nI x) (c := nI y) (d := nI (m + 1)) (e := w1) (g := z1) hE hz.1 ho (rcF_zb (x := x) (y := y) (w := m + 1) (h := 1) hE.1 (by omega) (by omega)) (rcF_or _ _ _) (rcF_at _ _ _) (by omega) (by omega) (by_nI (by omega)) (by_nI (by omega)) (by_nI (by omega)) (by rw [if_pos rfl, ea, dx_4]; exact by_nI (by omega)) (Or.inr (by rw [eb]; exact by_nI (by omega)))
          rw [if_neg (by omega)] at z
          exact z
        · intro n K hk
          rw [w_TE_findCopiesAndRuns_12]
          refine ⟨fun c => (by exfalso; (first | omega | ((try simp (disch := omega) only [n_0, n_1, n_2, n_3, n_4, n_5, n_6, n_8, n_24, n_255, n_256, n_576, n_4000, nI_add, pk_mul, n_sub, n_cl, n_lt, n_le, n_eq, not_true_eq_false, not_false_eq_true] at c) <;> omega))), fun _ => ?_⟩
          refine s_isOpen_in hW hH hx hy (fun c => absurd c ho) (fun _ => ?_)
          refine ⟨fun c => absurd c (by decide), fun _ => ?_⟩
          unfold w_TE_takeCopyOrRun
          refine ⟨5, hC _ (fun _ => ?_)⟩
          refine s_value_in hW hH hx hy ?_
          refine s_TE_openOfValue hW hH (by omega) hy ?_
          rw [hL]
          refine ⟨fun c => (by exfalso; (first | omega | ((try simp (disch := omega) only [n_0, n_1, n_2, n_3, n_4, n_5, n_6, n_8, n_24, n_255, n_256, n_576, n_4000, nI_add, pk_mul, n_sub, n_cl, n_lt, n_le, n_eq, not_true_eq_false, not_false_eq_true] at c) <;> omega))), fun _ => ?_⟩
          refine ⟨fun c => (by exfalso; (first | omega | ((try simp (disch := omega) only [n_0, n_1, n_2, n_3, n_4, n_5, n_6, n_8, n_24, n_255, n_256, n_576, n_4000, nI_add, pk_mul, n_sub, n_cl, n_lt, n_le, n_eq, not_true_eq_false, not_false_eq_true] at c) <;> omega))), fun _ => ?_⟩
          refine s_PL_add (t := 2) hW hH hP (by omega) (by omega) ?_
          refine s_TE_close (h := 1) hW hH (by omega) (by omega) ?_
          rw [n_1, nI_add, if_neg (by omega)]
          exact hk
        · intro n K hk
          rw [w_MO_encode_159]
          refine s_MO_size ?_
          refine ⟨fun c => (by exfalso; (first | omega | ((try simp (disch := omega) only [n_0, n_1, n_2, n_3, n_4, n_5, n_6, n_8, n_24, n_255, n_256, n_576, n_4000, nI_add, pk_mul, n_sub, n_cl, n_lt, n_le, n_eq, not_true_eq_false, not_false_eq_true] at c) <;> omega))), fun _ => ?_⟩
          refine ⟨n_in (by omega) (by omega), ?_⟩
          rw [n_cl (by omega), kdiv h1W hW (by omega) hx, kmod hx]
          refine ⟨fun c => absurd c ho, fun _ => ⟨W_ne h1W hW, W_ne h1W hW, ?_⟩⟩
          unfold w_MO_tellRow
          refine ⟨_, s_MO_tellRow_2 hW hH hy (W - x) 0 (by omega) ?_⟩
          refine ⟨_, s_MO_tellRow_39 hW hH hx hy (by omega) _ 0 (Nat.zero_add _) ?_⟩
          rw [er]
          unfold w_MO_findCopy
          refine ⟨5, hR _ (fun _ => ?_)⟩
          refine ⟨fun c => (by exfalso; (first | omega | ((try simp (disch := omega) only [n_0, n_1, n_2, n_3, n_4, n_5, n_6, n_8, n_24, n_255, n_256, n_576, n_4000, nI_add, pk_mul, n_sub, n_cl, n_lt, n_le, n_eq, not_true_eq_false, not_false_eq_true] at c) <;> omega))), fun _ => ?_⟩
          refine ⟨fun c => (by exfalso; (first | omega | ((try simp (disch := omega) only [n_0, n_1, n_2, n_3, n_4, n_5, n_6, n_8, n_24, n_255, n_256, n_576, n_4000, nI_add, pk_mul, n_sub, n_cl, n_lt, n_le, n_eq, not_true_eq_false, not_false_eq_true] at c) <;> omega))), fun _ => ?_⟩
          refine s_MO_addPart (by omega) ?_
          refine s_MO_cover (h := 1) hW hH (by omega) (by omega) ?_
          rw [n_1, nI_add]
          exact hk
    · obtain ⟨m, rfl⟩ : ∃ t, r = t + 1 := ⟨r - 1, by omega⟩
      refine ⟨rcF 0 W (m + 1) 1 (y * W + x) o, P + 1, bl + 5, p6 fl P (nI 3) (nI x) (nI y) (nI (m + 1)) (f (y * W + x)) (-1), nI l1, w1, z1, ?_, ?_, ?_⟩
      · have z := EI_add (t := 3) (b := nI x) (c := nI y) (d := nI (m + 1)) (e := f (y * W + x)) (g := -1) hE hz.1 ho (rcF_zb (x := x) (y := y) (w := m + 1) (h := 1) hE.1 (by omega) (by omega)) (rcF_or _ _ _) (rcF_at _ _ _) (by omega) (by omega) (by_nI (by omega)) (by_nI (by omega)) (by_nI (by omega)) (by rw [if_neg (by omega)]; exact hf _) (Or.inl rfl)
        rw [if_pos rfl] at z
        exact z
      · intro n K hk
        rw [w_TE_findCopiesAndRuns_12]
        refine ⟨fun c => (by exfalso; (first | omega | ((try simp (disch := omega) only [n_0, n_1, n_2, n_3, n_4, n_5, n_6, n_8, n_24, n_255, n_256, n_576, n_4000, nI_add, pk_mul, n_sub, n_cl, n_lt, n_le, n_eq, not_true_eq_false, not_false_eq_true] at c) <;> omega))), fun _ => ?_⟩
        refine s_isOpen_in hW hH hx hy (fun c => absurd c ho) (fun _ => ?_)
        refine ⟨fun c => absurd c (by decide), fun _ => ?_⟩
        unfold w_TE_takeCopyOrRun
        refine ⟨5, hC _ (fun _ => ?_)⟩
        refine s_value_in hW hH hx hy ?_
        refine s_TE_openOfValue hW hH (by omega) hy ?_
        rw [hL]
        have fin : w_PL_add (nI P) (nI bl) (W * H * 6) fl 3 (nI x) (nI y) (nI (m + 1)) (f (y * W + x)) (-1) (fun (g_28 : Int32) (g_29 : Int32) (f_30 : Nat → Int32) => w_TE_close o0_plain (W * H) o 256 o0_counts g_28 g_29 (W * H * 6) f_30 (nI W) (nI H) (W * H) f (nI x) (nI y) (nI (m + 1)) 1 (fun (f_31 : Nat → Int32) => (w_TE_findCopiesAndRuns_12 o0_plain (W * H) 256 o0_counts (W * H * 6) (nI W) (nI H) (W * H) f (nI y) K n (nI x + 1) f_31 g_28 g_29 f_30))) := by
          refine s_PL_add (t := 3) hW hH hP (by omega) (by omega) ?_
          refine s_TE_close (h := 1) hW hH (by omega) (by omega) ?_
          rw [n_1, nI_add, if_pos rfl]
          exact hk
        refine ⟨fun _ => fin, fun c1 => ⟨fun _ => fin, fun c2 => ?_⟩⟩
        exfalso
        simp (disch := omega) only [n_0, n_1, n_2, n_3, n_4, n_5, n_6, n_8, n_24, n_255, n_256, n_576, n_4000, nI_add, pk_mul, n_sub, n_cl, n_lt, n_le, n_eq, not_true_eq_false, not_false_eq_true] at c1 c2
        omega
      · intro n K hk
        rw [w_MO_encode_159]
        refine s_MO_size ?_
        refine ⟨fun c => (by exfalso; (first | omega | ((try simp (disch := omega) only [n_0, n_1, n_2, n_3, n_4, n_5, n_6, n_8, n_24, n_255, n_256, n_576, n_4000, nI_add, pk_mul, n_sub, n_cl, n_lt, n_le, n_eq, not_true_eq_false, not_false_eq_true] at c) <;> omega))), fun _ => ?_⟩
        refine ⟨n_in (by omega) (by omega), ?_⟩
        rw [n_cl (by omega), kdiv h1W hW (by omega) hx, kmod hx]
        refine ⟨fun c => absurd c ho, fun _ => ⟨W_ne h1W hW, W_ne h1W hW, ?_⟩⟩
        unfold w_MO_tellRow
        refine ⟨_, s_MO_tellRow_2 hW hH hy (W - x) 0 (by omega) ?_⟩
        refine ⟨_, s_MO_tellRow_39 hW hH hx hy (by omega) _ 0 (Nat.zero_add _) ?_⟩
        rw [er]
        unfold w_MO_findCopy
        refine ⟨5, hR _ (fun _ => ?_)⟩
        rw [ix_nI2, n_cl (by omega)]
        refine ⟨fun _ => ?_, fun c1 => ⟨fun _ => ?_, fun c2 => ?_⟩⟩
        · refine ⟨n_in (by omega) (by omega), ?_⟩
          refine s_MO_addPart (by omega) ?_
          refine s_MO_cover (h := 1) hW hH (by omega) (by omega) ?_
          rw [n_1, nI_add]
          exact hk
        · refine ⟨n_in (by omega) (by omega), ?_⟩
          refine s_MO_addPart (by omega) ?_
          refine s_MO_cover (h := 1) hW hH (by omega) (by omega) ?_
          rw [n_1, nI_add]
          exact hk
        · exfalso
          simp (disch := omega) only [n_0, n_1, n_2, n_3, n_4, n_5, n_6, n_8, n_24, n_255, n_256, n_576, n_4000, nI_add, pk_mul, n_sub, n_cl, n_lt, n_le, n_eq, not_true_eq_false, not_false_eq_true] at c1 c2
          omega
theorem pass1 {o0_plain : Int32} {o0_counts : Nat → Int32} {o0_toldSize o0_fedSize o0_pln o0_place : Int32} {o0_other o0_read o0_toldBytes o0_fed : Nat → Int32} {W H : Nat} (h1W : 1 ≤ W) (hW : W ≤ 24) (h1H : 1 ≤ H) (hH : H ≤ 24) {f : Nat → Int32} (hf : BY f) : ∀ (d x y : Nat) (o : Nat → Int32) (P bl : Nat) (fl : Nat → Int32) (g14 g15 g16 : Int32), x < W → y < H → y * W + x + d = W * H → EI W H o P bl fl → ∃ (o' : Nat → Int32) (P' bl' : Nat) (fl' : Nat → Int32) (a b c : Int32), EI W H o' P' bl' fl' ∧
    (∀ K : Int32 → (Nat → Int32) → Int32 → Int32 → (Nat → Int32) → Prop, K (nI H) o' (nI P') (nI bl') fl' → w_TE_findRectangles_12 o0_plain (W * H) 256 o0_counts (W * H * 6) (nI W) (nI H) (W * H) f (nI y) (fun (a1 : Int32) (a2 : Nat → Int32) (a3 : Int32) (a4 : Int32) (a5 : Nat → Int32) => (w_TE_findRectangles_2 o0_plain (W * H) 256 o0_counts (W * H * 6) (nI W) (nI H) (W * H) f K (H - y) (nI y + 1) a2 a3 a4 a5)) (W - x + 1) (nI x) o (nI P) (nI bl) fl) ∧
    (∀ K : Int32 → Int32 → Int32 → Int32 → Int32 → (Nat → Int32) → (Nat → Int32) → Prop, K (nI (W * H)) (nI P') a b c o' fl' → w_MO_encode_54 (nI W) (nI H) o0_toldSize o0_fedSize o0_pln o0_place 576 f 576 o0_other 576 576 o0_read 4000 o0_toldBytes 4000 o0_fed 3600 K (d + 1) (nI (y * W + x)) (nI P) g14 g15 g16 o fl) := by
  intro d
  induction d with
  | zero =>
    intro x y o P bl fl g14 g15 g16 hx hy hd
    have hz := ix_lt hW hH hx hy
    exact absurd hz.1 (by omega)
  | succ d ih =>
    intro x y o P bl fl g14 g15 g16 hx hy hd hE
    have hs := pl_le hW hH
    obtain ⟨o1, P1, bl1, fl1, a1, b1, c1, hE1, hC1, hR1⟩ := rect_step (o0_plain := o0_plain) (o0_counts := o0_counts) (o0_toldSize := o0_toldSize) (o0_fedSize := o0_fedSize) (o0_pln := o0_pln) (o0_place := o0_place) (g14 := g14) (g15 := g15) (g16 := g16) (o0_other := o0_other) (o0_read := o0_read) (o0_toldBytes := o0_toldBytes) (o0_fed := o0_fed) h1W hW h1H hH hx hy hf hE
    by_cases cx : x + 1 < W
    · obtain ⟨o', P', bl', fl', a, b, c, hE', hC, hR⟩ := ih (x + 1) y o1 P1 bl1 fl1 a1 b1 c1 cx hy (by omega) hE1
      refine ⟨o', P', bl', fl', a, b, c, hE', ?_, ?_⟩
      · intro K hk
        have z := hC1 (W - (x + 1) + 1) _ (hC K hk)
        rw [show W - x + 1 = W - (x + 1) + 1 + 1 by omega]
        exact z
      · intro K hk
        exact hR1 _ K (hR K hk)
    · have ex : x + 1 = W := by omega
      have ek : y * W + x + 1 = (y + 1) * W + 0 := by rw [Nat.add_mul, Nat.one_mul]; omega
      by_cases cy : y + 1 < H
      · obtain ⟨o', P', bl', fl', a, b, c, hE', hC, hR⟩ := ih 0 (y + 1) o1 P1 bl1 fl1 a1 b1 c1 (by omega) cy (by omega) hE1
        refine ⟨o', P', bl', fl', a, b, c, hE', ?_, ?_⟩
        · intro K hk
          rw [show W - x + 1 = 1 + 1 by omega]
          refine hC1 1 _ ?_
          rw [ex, w_TE_findRectangles_12]
          refine ⟨fun _ => ?_, fun c => (by exfalso; (first | omega | ((try simp (disch := omega) only [n_0, n_1, n_2, n_3, n_4, n_5, n_6, n_8, n_24, n_255, n_256, n_576, n_4000, nI_add, pk_mul, n_sub, n_cl, n_lt, n_le, n_eq, not_true_eq_false, not_false_eq_true] at c) <;> omega)))⟩
          rw [show H - y = H - (y + 1) + 1 by omega, w_TE_findRectangles_2, n_1, nI_add]
          refine ⟨fun c => (by exfalso; (first | omega | ((try simp (disch := omega) only [n_0, n_1, n_2, n_3, n_4, n_5, n_6, n_8, n_24, n_255, n_256, n_576, n_4000, nI_add, pk_mul, n_sub, n_cl, n_lt, n_le, n_eq, not_true_eq_false, not_false_eq_true] at c) <;> omega))), fun _ => ?_⟩
          exact ⟨W - 0 + 1, hC K hk⟩
        · intro K hk
          refine hR1 _ K ?_
          rw [ek]
          exact hR K hk
      · have ey : y + 1 = H := by omega
        refine ⟨o1, P1, bl1, fl1, a1, b1, c1, hE1, ?_, ?_⟩
        · intro K hk
          rw [show W - x + 1 = 1 + 1 by omega]
          refine hC1 1 _ ?_
          rw [ex, w_TE_findRectangles_12]
          refine ⟨fun _ => ?_, fun c => (by exfalso; (first | omega | ((try simp (disch := omega) only [n_0, n_1, n_2, n_3, n_4, n_5, n_6, n_8, n_24, n_255, n_256, n_576, n_4000, nI_add, pk_mul, n_sub, n_cl, n_lt, n_le, n_eq, not_true_eq_false, not_false_eq_true] at c) <;> omega)))⟩
          rw [show H - y = 0 + 1 by omega, w_TE_findRectangles_2, n_1, nI_add, ey]
          refine ⟨fun _ => ?_, fun c => (by exfalso; (first | omega | ((try simp (disch := omega) only [n_0, n_1, n_2, n_3, n_4, n_5, n_6, n_8, n_24, n_255, n_256, n_576, n_4000, nI_add, pk_mul, n_sub, n_cl, n_lt, n_le, n_eq, not_true_eq_false, not_false_eq_true] at c) <;> omega)))⟩
          exact hk
        · intro K hk
          refine hR1 _ K ?_
          have e5 : y * W + x + 1 = W * H := by rw [ek, ey, Nat.mul_comm]; omega
          rw [e5, w_MO_encode_54]
          refine s_MO_size ?_
          refine ⟨fun _ => ?_, fun c => (by exfalso; (first | omega | ((try simp (disch := omega) only [n_0, n_1, n_2, n_3, n_4, n_5, n_6, n_8, n_24, n_255, n_256, n_576, n_4000, nI_add, pk_mul, n_sub, n_cl, n_lt, n_le, n_eq, not_true_eq_false, not_false_eq_true] at c) <;> omega)))⟩
          exact hk
theorem pass2 {o0_plain : Int32} {o0_counts : Nat → Int32} {o0_toldSize o0_fedSize o0_pln o0_place : Int32} {o0_other o0_read o0_toldBytes o0_fed : Nat → Int32} {W H : Nat} (h1W : 1 ≤ W) (hW : W ≤ 24) (h1H : 1 ≤ H) (hH : H ≤ 24) {f : Nat → Int32} (hf : BY f) : ∀ (d x y : Nat) (o : Nat → Int32) (P bl : Nat) (fl : Nat → Int32) (g14 g15 g16 : Int32), x < W → y < H → y * W + x + d = W * H → EI W H o P bl fl → ∃ (o' : Nat → Int32) (P' bl' : Nat) (fl' : Nat → Int32) (a b c : Int32), EI W H o' P' bl' fl' ∧
    (∀ K : Int32 → (Nat → Int32) → Int32 → Int32 → (Nat → Int32) → Prop, K (nI H) o' (nI P') (nI bl') fl' → w_TE_findCopiesAndRuns_12 o0_plain (W * H) 256 o0_counts (W * H * 6) (nI W) (nI H) (W * H) f (nI y) (fun (a1 : Int32) (a2 : Nat → Int32) (a3 : Int32) (a4 : Int32) (a5 : Nat → Int32) => (w_TE_findCopiesAndRuns_2 o0_plain (W * H) 256 o0_counts (W * H * 6) (nI W) (nI H) (W * H) f K (H - y) (nI y + 1) a2 a3 a4 a5)) (W - x + 1) (nI x) o (nI P) (nI bl) fl) ∧
    (∀ K : Int32 → Int32 → Int32 → Int32 → Int32 → (Nat → Int32) → (Nat → Int32) → Prop, K (nI (W * H)) (nI P') a b c o' fl' → w_MO_encode_159 (nI W) (nI H) o0_toldSize o0_fedSize o0_pln o0_place 576 f 576 o0_other 576 576 o0_read 4000 o0_toldBytes 4000 o0_fed 3600 K (d + 1) (nI (y * W + x)) (nI P) g14 g15 g16 o fl) := by
  intro d
  induction d with
  | zero =>
    intro x y o P bl fl g14 g15 g16 hx hy hd
    have hz := ix_lt hW hH hx hy
    exact absurd hz.1 (by omega)
  | succ d ih =>
    intro x y o P bl fl g14 g15 g16 hx hy hd hE
    have hs := pl_le hW hH
    obtain ⟨o1, P1, bl1, fl1, a1, b1, c1, hE1, hC1, hR1⟩ := row_step (o0_plain := o0_plain) (o0_counts := o0_counts) (o0_toldSize := o0_toldSize) (o0_fedSize := o0_fedSize) (o0_pln := o0_pln) (o0_place := o0_place) (g14 := g14) (g15 := g15) (g16 := g16) (o0_other := o0_other) (o0_read := o0_read) (o0_toldBytes := o0_toldBytes) (o0_fed := o0_fed) h1W hW h1H hH hx hy hf hE
    by_cases cx : x + 1 < W
    · obtain ⟨o', P', bl', fl', a, b, c, hE', hC, hR⟩ := ih (x + 1) y o1 P1 bl1 fl1 a1 b1 c1 cx hy (by omega) hE1
      refine ⟨o', P', bl', fl', a, b, c, hE', ?_, ?_⟩
      · intro K hk
        have z := hC1 (W - (x + 1) + 1) _ (hC K hk)
        rw [show W - x + 1 = W - (x + 1) + 1 + 1 by omega]
        exact z
      · intro K hk
        exact hR1 _ K (hR K hk)
    · have ex : x + 1 = W := by omega
      have ek : y * W + x + 1 = (y + 1) * W + 0 := by rw [Nat.add_mul, Nat.one_mul]; omega
      by_cases cy : y + 1 < H
      · obtain ⟨o', P', bl', fl', a, b, c, hE', hC, hR⟩ := ih 0 (y + 1) o1 P1 bl1 fl1 a1 b1 c1 (by omega) cy (by omega) hE1
        refine ⟨o', P', bl', fl', a, b, c, hE', ?_, ?_⟩
        · intro K hk
          rw [show W - x + 1 = 1 + 1 by omega]
          refine hC1 1 _ ?_
          rw [ex, w_TE_findCopiesAndRuns_12]
          refine ⟨fun _ => ?_, fun c => (by exfalso; (first | omega | ((try simp (disch := omega) only [n_0, n_1, n_2, n_3, n_4, n_5, n_6, n_8, n_24, n_255, n_256, n_576, n_4000, nI_add, pk_mul, n_sub, n_cl, n_lt, n_le, n_eq, not_true_eq_false, not_false_eq_true] at c) <;> omega)))⟩
          rw [show H - y = H - (y + 1) + 1 by omega, w_TE_findCopiesAndRuns_2, n_1, nI_add]
          refine ⟨fun c => (by exfalso; (first | omega | ((try simp (disch := omega) only [n_0, n_1, n_2, n_3, n_4, n_5, n_6, n_8, n_24, n_255, n_256, n_576, n_4000, nI_add, pk_mul, n_sub, n_cl, n_lt, n_le, n_eq, not_true_eq_false, not_false_eq_true] at c) <;> omega))), fun _ => ?_⟩
          exact ⟨W - 0 + 1, hC K hk⟩
        · intro K hk
          refine hR1 _ K ?_
          rw [ek]
          exact hR K hk
      · have ey : y + 1 = H := by omega
        refine ⟨o1, P1, bl1, fl1, a1, b1, c1, hE1, ?_, ?_⟩
        · intro K hk
          rw [show W - x + 1 = 1 + 1 by omega]
          refine hC1 1 _ ?_
          rw [ex, w_TE_findCopiesAndRuns_12]
          refine ⟨fun _ => ?_, fun c => (by exfalso; (first | omega | ((try simp (disch := omega) only [n_0, n_1, n_2, n_3, n_4, n_5, n_6, n_8, n_24, n_255, n_256, n_576, n_4000, nI_add, pk_mul, n_sub, n_cl, n_lt, n_le, n_eq, not_true_eq_false, not_false_eq_true] at c) <;> omega)))⟩
          rw [show H - y = 0 + 1 by omega, w_TE_findCopiesAndRuns_2, n_1, nI_add, ey]
          refine ⟨fun _ => ?_, fun c => (by exfalso; (first | omega | ((try simp (disch := omega) only [n_0, n_1, n_2, n_3, n_4, n_5, n_6, n_8, n_24, n_255, n_256, n_576, n_4000, nI_add, pk_mul, n_sub, n_cl, n_lt, n_le, n_eq, not_true_eq_false, not_false_eq_true] at c) <;> omega)))⟩
          exact hk
        · intro K hk
          refine hR1 _ K ?_
          have e5 : y * W + x + 1 = W * H := by rw [ek, ey, Nat.mul_comm]; omega
          rw [e5, w_MO_encode_159]
          refine s_MO_size ?_
          refine ⟨fun _ => ?_, fun c => (by exfalso; (first | omega | ((try simp (disch := omega) only [n_0, n_1, n_2, n_3, n_4, n_5, n_6, n_8, n_24, n_255, n_256, n_576, n_4000, nI_add, pk_mul, n_sub, n_cl, n_lt, n_le, n_eq, not_true_eq_false, not_false_eq_true] at c) <;> omega)))⟩
          exact hk
