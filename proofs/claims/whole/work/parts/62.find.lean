/-! PURE ROWS: runs of open samples; rectangles. Own work. -/
theorem nar0 : vp_nar .boolean 0 = 0 := by decide
theorem nar1 : vp_nar .boolean 1 = 1 := by decide
theorem run_and {A B : Nat → Bool} : ∀ m i, run (fun j => A j && B j) m i = run B (run A m i - i) i := by
  intro m
  induction m with
  | zero => intro i; simp only [run, Nat.sub_self]
  | succ m ih =>
    intro i
    by_cases a : A i = true
    · have g := run_ge (P := A) m (i + 1)
      have e : run A (m + 1) i = run A m (i + 1) := by simp only [run, a, if_true]
      rw [e]
      have e2 : run A m (i + 1) - i = (run A m (i + 1) - (i + 1)) + 1 := by omega
      rw [e2]
      by_cases b : B i = true
      · simp only [run, a, b, Bool.and_self, if_true]
        exact ih (i + 1)
      · simp [run, a, b]
    · have e : run A (m + 1) i = i := by simp only [run, if_neg a]
      rw [e, Nat.sub_self]
      simp [run, a]
theorem run_ext {A B : Nat → Bool} (h : ∀ i, A i = B i) : run A = run B := by
  have e : A = B := funext h
  rw [e]
def oP (o : Nat → Int32) (p : Nat) : Nat → Bool := fun i => decide (¬ o (p + i) = 0)
def eP (f : Nat → Int32) (p : Nat) (v : Int32) : Nat → Bool := fun i => decide (f (p + i) = v)
def oV (f o : Nat → Int32) (p : Nat) (v : Int32) : Nat → Bool := fun i => oP o p i && eP f p v i
theorem oV_t {f o : Nat → Int32} {p i : Nat} {v : Int32} (h1 : ¬ o (p + i) = 0) (h2 : f (p + i) = v) : oV f o p v i = true := by
  unfold oV oP eP; simp [h1, h2]
theorem oV_f1 {f o : Nat → Int32} {p i : Nat} {v : Int32} (h1 : o (p + i) = 0) : oV f o p v i = false := by
  unfold oV oP; simp [h1]
theorem oV_f2 {f o : Nat → Int32} {p i : Nat} {v : Int32} (h2 : ¬ f (p + i) = v) : oV f o p v i = false := by
  unfold oV eP; simp [h2]
theorem s_isOpen_in {o0_plain o0_found_count o0_found_byteLength : Int32} {o0_open o0_counts o0_found_fields o1_values : Nat → Int32} {post : Int32 → Prop} {W H x y : Nat} (hW : W ≤ 24) (hH : H ≤ 24) (hx : x < W) (hy : y < H) (h0 : o0_open (y * W + x) = 0 → post 0) (h1 : ¬ o0_open (y * W + x) = 0 → post 1) : w_TE_isOpen o0_plain (W * H) o0_open 256 o0_counts o0_found_count o0_found_byteLength (W * H * 6) o0_found_fields (nI W) (nI H) (W * H) o1_values (nI x) (nI y) post := by
  have hz := ix_lt hW hH hx hy
  unfold w_TE_isOpen
  refine s_has_in hW hH hx hy ⟨fun c => absurd c (by decide), fun _ => ?_⟩
  rw [ix_nI]
  refine ⟨fun c => (by exfalso; (first | omega | ((try simp (disch := omega) only [n_0, n_1, n_2, n_3, n_4, n_5, n_6, n_8, n_24, n_255, n_256, n_576, n_4000, nI_add, pk_mul, n_sub, n_cl, n_lt, n_le, n_eq, not_true_eq_false, not_false_eq_true] at c) <;> omega))), fun _ => ?_⟩
  refine ⟨fun c => (by exfalso; (first | omega | ((try simp (disch := omega) only [n_0, n_1, n_2, n_3, n_4, n_5, n_6, n_8, n_24, n_255, n_256, n_576, n_4000, nI_add, pk_mul, n_sub, n_cl, n_lt, n_le, n_eq, not_true_eq_false, not_false_eq_true] at c) <;> omega))), fun _ => ?_⟩
  refine ⟨n_in (by omega) (by omega), ?_⟩
  rw [n_cl (by omega)]
  exact ⟨fun c => ⟨nb0, h0 c⟩, fun c => ⟨nb1, h1 c⟩⟩
theorem s_isOpen_out {o0_plain o0_found_count o0_found_byteLength : Int32} {o0_open o0_counts o0_found_fields o1_values : Nat → Int32} {post : Int32 → Prop} {W H x y : Nat} (hW : W ≤ 24) (hH : H ≤ 24) (hx : W ≤ x) (hx2 : x ≤ 1000) (h0 : post 0) : w_TE_isOpen o0_plain (W * H) o0_open 256 o0_counts o0_found_count o0_found_byteLength (W * H * 6) o0_found_fields (nI W) (nI H) (W * H) o1_values (nI x) (nI y) post := by
  unfold w_TE_isOpen
  refine s_has_out hW hH ?_ ⟨fun _ => ⟨nb0, h0⟩, fun c => absurd rfl c⟩
  rw [ni_t (by omega)]
  intro c
  have := c.2.1
  omega
theorem s_TE_openOfValue_3 {x4 o0_plain o0_found_count o0_found_byteLength : Int32} {o0_open o0_counts o0_found_fields : Nat → Int32} {k_45 : Int32 → Prop} {W H x y : Nat} (hW : W ≤ 24) (hH : H ≤ 24) (hy : y < H) {f : Nat → Int32} : ∀ m i, x + i + m = W → k_45 (nI (run (oV f o0_open (y * W + x) x4) m i)) → w_TE_openOfValue_3 (nI x) (nI y) x4 o0_plain (W * H) o0_open 256 o0_counts o0_found_count o0_found_byteLength (W * H * 6) o0_found_fields (nI W) (nI H) (W * H) f k_45 (m + 1) (nI i) := by
  intro m
  induction m with
  | zero =>
    intro i h hk
    rw [w_TE_openOfValue_3, nI_add]
    refine ⟨fun _ => hk, fun _ => ?_⟩
    refine s_isOpen_out hW hH (by omega) (by omega) ?_
    exact ⟨fun _ => hk, fun c => absurd rfl c⟩
  | succ m ih =>
    intro i h hk
    have e3 : y * W + (x + i) = y * W + x + i := by omega
    rw [w_TE_openOfValue_3, nI_add]
    refine ⟨fun c => (by exfalso; (first | omega | ((try simp (disch := omega) only [n_0, n_1, n_2, n_3, n_4, n_5, n_6, n_8, n_24, n_255, n_256, n_576, n_4000, nI_add, pk_mul, n_sub, n_cl, n_lt, n_le, n_eq, not_true_eq_false, not_false_eq_true] at c) <;> omega))), fun _ => ?_⟩
    refine s_isOpen_in hW hH (show x + i < W by omega) hy (fun c => ?_) (fun c => ?_)
    · rw [e3] at c
      refine ⟨fun _ => ?_, fun c => absurd rfl c⟩
      simp only [run, oV_f1 c] at hk
      exact hk
    · rw [e3] at c
      refine ⟨fun c => absurd c (by decide), fun _ => ?_⟩
      refine s_value_in hW hH (show x + i < W by omega) hy ?_
      rw [e3]
      refine ⟨fun c2 => ?_, fun c2 => ?_⟩
      · simp only [run, oV_f2 c2] at hk
        exact hk
      · simp only [run, oV_t c c2] at hk
        rw [n_1, nI_add]
        exact ih (i + 1) (by omega) hk
theorem s_TE_openOfValue {o0_plain o0_found_count o0_found_byteLength x4 : Int32} {o0_open o0_counts o0_found_fields : Nat → Int32} {post : Int32 → Prop} {W H x y : Nat} (hW : W ≤ 24) (hH : H ≤ 24) (hx : x ≤ W) (hy : y < H) {f : Nat → Int32} (hp : post (nI (run (oV f o0_open (y * W + x) x4) (W - x) 0))) : w_TE_openOfValue o0_plain (W * H) o0_open 256 o0_counts o0_found_count o0_found_byteLength (W * H * 6) o0_found_fields (nI W) (nI H) (W * H) f (nI x) (nI y) x4 post := by
  unfold w_TE_openOfValue
  exact ⟨W - x + 1, s_TE_openOfValue_3 (k_45 := fun (v5_2_5 : Int32) => post v5_2_5) hW hH hy (W - x) 0 (by omega) hp⟩
theorem s_isOf_in {o0_fault o0_toldSize o0_fedSize o0_parts o0_plain o0_best o0_bestOne o0_bestTwo o0_place x3 : Int32} {o0_first o0_other o0_open o0_read o0_toldBytes o0_fed o0_part : Nat → Int32} {post : Int32 → Prop} {W H x y : Nat} (h1W : 1 ≤ W) (hW : W ≤ 24) (h1H : 1 ≤ H) (hH : H ≤ 24) (hx : x < W) (hy : y < H) (h0 : ¬ (¬ o0_open (y * W + x) = 0 ∧ o0_first (y * W + x) = x3) → post 0) (h1 : ¬ o0_open (y * W + x) = 0 → o0_first (y * W + x) = x3 → post 1) : w_MO_isOf (nI W) (nI H) o0_fault o0_toldSize o0_fedSize o0_parts o0_plain o0_best o0_bestOne o0_bestTwo o0_place 576 o0_first 576 o0_other 576 o0_open 576 o0_read 4000 o0_toldBytes 4000 o0_fed 3600 o0_part (nI x) (nI y) x3 post := by
  have hz := ix_lt hW hH hx hy
  unfold w_MO_isOf
  refine s_MO_isSample h1W hW h1H hH ?_
  rw [ni_t (by omega), ni_t (by omega), if_pos (by omega)]
  refine ⟨fun c => absurd c (by decide), fun _ => ?_⟩
  rw [ix_nI2]
  refine ⟨n_in (by omega) (by omega), ?_⟩
  rw [n_cl (by omega)]
  refine ⟨fun c => ⟨nb0, h0 (fun w => w.1 c)⟩, fun c => ?_⟩
  refine ⟨n_in (by omega) (by omega), ?_⟩
  exact ⟨fun c2 => ⟨nb0, h0 (fun w => c2 w.2)⟩, fun c2 => ⟨nb1, h1 c c2⟩⟩
theorem s_isOf_out {o0_fault o0_toldSize o0_fedSize o0_parts o0_plain o0_best o0_bestOne o0_bestTwo o0_place x3 : Int32} {o0_first o0_other o0_open o0_read o0_toldBytes o0_fed o0_part : Nat → Int32} {post : Int32 → Prop} {W H x y : Nat} (h1W : 1 ≤ W) (hW : W ≤ 24) (h1H : 1 ≤ H) (hH : H ≤ 24) (hxy : W ≤ x ∨ H ≤ y) (hx : x ≤ 1000) (hy : y ≤ 1000) (h0 : post 0) : w_MO_isOf (nI W) (nI H) o0_fault o0_toldSize o0_fedSize o0_parts o0_plain o0_best o0_bestOne o0_bestTwo o0_place 576 o0_first 576 o0_other 576 o0_open 576 o0_read 4000 o0_toldBytes 4000 o0_fed 3600 o0_part (nI x) (nI y) x3 post := by
  unfold w_MO_isOf
  refine s_MO_isSample h1W hW h1H hH ?_
  rw [ni_t (by omega), ni_t (by omega), if_neg (by omega)]
  exact ⟨fun _ => ⟨nb0, h0⟩, fun c => absurd rfl c⟩
/-- the reference's row: at most as long as the rows above -/
theorem s_MO_findRectangle_46 {o0_fault o0_toldSize o0_fedSize o0_parts o0_plain o0_place g_o0_q_14_8 g_o0_q_15_9 g_o0_q_16_10 : Int32} {o0_other o0_read o0_toldBytes o0_fed o0_part : Nat → Int32} {k_77 : Int32 → Prop} {W H x y h ls : Nat} (h1W : 1 ≤ W) (hW : W ≤ 24) (h1H : 1 ≤ H) (hH : H ≤ 24) (hx : x < W) (h1h : 1 ≤ h) (hy : y + h ≤ H) (hls : ls ≤ 24) {f o : Nat → Int32} : ∀ m i, x + i + m = W → i ≤ ls → k_77 (nI (min ls (run (oV f o ((y + h - 1) * W + x) (f (y * W + x))) m i))) → w_MO_findRectangle_46 (nI x) (nI y) (nI W) (nI H) o0_fault o0_toldSize o0_fedSize o0_parts o0_plain o0_place 576 f 576 o0_other 576 o 576 o0_read 4000 o0_toldBytes 4000 o0_fed 3600 o0_part (nI h) (nI ls) g_o0_q_14_8 g_o0_q_15_9 g_o0_q_16_10 k_77 (m + 1) (nI i) := by
  have hz := ix_lt hW hH hx (show y < H by omega)
  intro m
  induction m with
  | zero =>
    intro i h4 hi hk
    rw [w_MO_findRectangle_46]
    simp only [run] at hk
    have e : min ls i = i := by omega
    rw [e] at hk
    refine ⟨fun _ => hk, fun _ => ?_⟩
    rw [nI_add, nI_add, n_1, n_sub (by omega)]
    refine s_isOf_out h1W hW h1H hH (by omega) (by omega) (by omega) ?_
    exact ⟨fun _ => hk, fun c => absurd rfl c⟩
  | succ m ih =>
    intro i h4 hi hk
    have e3 : (y + h - 1) * W + (x + i) = (y + h - 1) * W + x + i := by omega
    have g := run_ge (P := oV f o ((y + h - 1) * W + x) (f (y * W + x))) (m + 1) i
    rw [w_MO_findRectangle_46]
    by_cases c0 : ls ≤ i
    · have e : min ls (run (oV f o ((y + h - 1) * W + x) (f (y * W + x))) (m + 1) i) = i := by omega
      rw [e] at hk
      refine ⟨fun _ => ?_, fun c => (by exfalso; (first | omega | ((try simp (disch := omega) only [n_0, n_1, n_2, n_3, n_4, n_5, n_6, n_8, n_24, n_255, n_256, n_576, n_4000, nI_add, pk_mul, n_sub, n_cl, n_lt, n_le, n_eq, not_true_eq_false, not_false_eq_true] at c) <;> omega)))⟩
      exact hk
    · refine ⟨fun c => (by exfalso; (first | omega | ((try simp (disch := omega) only [n_0, n_1, n_2, n_3, n_4, n_5, n_6, n_8, n_24, n_255, n_256, n_576, n_4000, nI_add, pk_mul, n_sub, n_cl, n_lt, n_le, n_eq, not_true_eq_false, not_false_eq_true] at c) <;> omega))), fun _ => ?_⟩
      rw [nI_add, nI_add, n_1, n_sub (by omega), ix_nI2, n_cl (by omega)]
      refine s_isOf_in h1W hW h1H hH (show x + i < W by omega) (show y + h - 1 < H by omega) (fun c => ?_) (fun c c2 => ?_)
      · rw [e3] at c
        have e4 : oV f o ((y + h - 1) * W + x) (f (y * W + x)) i = false := by
          by_cases c5 : o ((y + h - 1) * W + x + i) = 0
          · exact oV_f1 c5
          · exact oV_f2 (fun c6 => c ⟨c5, c6⟩)
        simp only [run, e4] at hk
        have e : min ls i = i := by omega
        rw [if_neg (by decide), e] at hk
        exact ⟨fun _ => hk, fun c => absurd rfl c⟩
      · rw [e3] at c c2
        refine ⟨fun c => absurd c (by decide), fun _ => ?_⟩
        simp only [run, oV_t c c2] at hk
        rw [nI_add]
        exact ih (i + 1) (by omega) (by omega) hk
