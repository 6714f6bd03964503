/-! PURE ROWS: parts put down and samples closed. Own work. -/
def p6 (q : Nat → Int32) (P : Nat) (a b c d e g : Int32) : Nat → Int32 := upd (upd (upd (upd (upd (upd q (P * 6) a) (P * 6 + 1) b) (P * 6 + 2) c) (P * 6 + 3) d) (P * 6 + 4) e) (P * 6 + 5) g
theorem p6_lt {q : Nat → Int32} {P j : Nat} {a b c d e g : Int32} (h : j < P * 6) : p6 q P a b c d e g j = q j := by
  unfold p6
  rw [pk_un (by omega), pk_un (by omega), pk_un (by omega), pk_un (by omega), pk_un (by omega), pk_un (by omega)]
theorem p6_0 {q : Nat → Int32} {P : Nat} {a b c d e g : Int32} : p6 q P a b c d e g (P * 6) = a := by
  unfold p6
  rw [pk_un (by omega), pk_un (by omega), pk_un (by omega), pk_un (by omega), pk_un (by omega), pk_us]
theorem p6_1 {q : Nat → Int32} {P : Nat} {a b c d e g : Int32} : p6 q P a b c d e g (P * 6 + 1) = b := by
  unfold p6
  rw [pk_un (by omega), pk_un (by omega), pk_un (by omega), pk_un (by omega), pk_us]
theorem p6_2 {q : Nat → Int32} {P : Nat} {a b c d e g : Int32} : p6 q P a b c d e g (P * 6 + 2) = c := by
  unfold p6
  rw [pk_un (by omega), pk_un (by omega), pk_un (by omega), pk_us]
theorem p6_3 {q : Nat → Int32} {P : Nat} {a b c d e g : Int32} : p6 q P a b c d e g (P * 6 + 3) = d := by
  unfold p6
  rw [pk_un (by omega), pk_un (by omega), pk_us]
theorem p6_4 {q : Nat → Int32} {P : Nat} {a b c d e g : Int32} : p6 q P a b c d e g (P * 6 + 4) = e := by
  unfold p6
  rw [pk_un (by omega), pk_us]
theorem p6_5 {q : Nat → Int32} {P : Nat} {a b c d e g : Int32} : p6 q P a b c d e g (P * 6 + 5) = g := by
  unfold p6
  rw [pk_us]
theorem s_bytesOf_t {t : Nat} {post : Int32 → Prop} (h1 : 1 ≤ t) (h3 : t ≤ 3) (h : post (nI (if t = 3 then 5 else 6))) : w_DF_bytesOf (nI t) post := by
  unfold w_DF_bytesOf
  have hc : t = 1 ∨ t = 2 ∨ t = 3 := by omega
  rcases hc with z | z | z
  · subst z
    refine ⟨fun _ => ?_, fun c => (by exfalso; (first | omega | ((try simp (disch := omega) only [n_0, n_1, n_2, n_3, n_4, n_5, n_6, n_8, n_24, n_255, n_256, n_576, n_4000, nI_add, pk_mul, n_sub, n_cl, n_lt, n_le, n_eq, not_true_eq_false, not_false_eq_true] at c) <;> omega)))⟩
    exact h
  · subst z
    refine ⟨fun c => (by exfalso; (first | omega | ((try simp (disch := omega) only [n_0, n_1, n_2, n_3, n_4, n_5, n_6, n_8, n_24, n_255, n_256, n_576, n_4000, nI_add, pk_mul, n_sub, n_cl, n_lt, n_le, n_eq, not_true_eq_false, not_false_eq_true] at c) <;> omega))), fun _ => ?_⟩
    refine ⟨fun _ => ?_, fun c => (by exfalso; (first | omega | ((try simp (disch := omega) only [n_0, n_1, n_2, n_3, n_4, n_5, n_6, n_8, n_24, n_255, n_256, n_576, n_4000, nI_add, pk_mul, n_sub, n_cl, n_lt, n_le, n_eq, not_true_eq_false, not_false_eq_true] at c) <;> omega)))⟩
    exact h
  · subst z
    refine ⟨fun c => (by exfalso; (first | omega | ((try simp (disch := omega) only [n_0, n_1, n_2, n_3, n_4, n_5, n_6, n_8, n_24, n_255, n_256, n_576, n_4000, nI_add, pk_mul, n_sub, n_cl, n_lt, n_le, n_eq, not_true_eq_false, not_false_eq_true] at c) <;> omega))), fun _ => ?_⟩
    refine ⟨fun c => (by exfalso; (first | omega | ((try simp (disch := omega) only [n_0, n_1, n_2, n_3, n_4, n_5, n_6, n_8, n_24, n_255, n_256, n_576, n_4000, nI_add, pk_mul, n_sub, n_cl, n_lt, n_le, n_eq, not_true_eq_false, not_false_eq_true] at c) <;> omega))), fun _ => ?_⟩
    refine ⟨fun _ => ?_, fun c => (by exfalso; (first | omega | ((try simp (disch := omega) only [n_0, n_1, n_2, n_3, n_4, n_5, n_6, n_8, n_24, n_255, n_256, n_576, n_4000, nI_add, pk_mul, n_sub, n_cl, n_lt, n_le, n_eq, not_true_eq_false, not_false_eq_true] at c) <;> omega)))⟩
    exact h
theorem s_PL_add {o0_fields : Nat → Int32} {x2 x3 x4 x5 x6 : Int32} {post : Int32 → Int32 → (Nat → Int32) → Prop} {W H P bl t : Nat} (hW : W ≤ 24) (hH : H ≤ 24) (hP : P < W * H) (h1 : 1 ≤ t) (h3 : t ≤ 3) (hp : post (nI (P + 1)) (nI (bl + if t = 3 then 5 else 6)) (p6 o0_fields P (nI t) x2 x3 x4 x5 x6)) : w_PL_add (nI P) (nI bl) (W * H * 6) o0_fields (nI t) x2 x3 x4 x5 x6 post := by
  have hs := pl_le hW hH
  unfold w_PL_add
  rw [n_6, n_1, n_2, n_3, n_4, n_5, pk_mul, nI_add, nI_add, nI_add, nI_add, nI_add, nI_add, nI_add]
  refine ⟨fun c => (by exfalso; (first | omega | ((try simp (disch := omega) only [n_0, n_1, n_2, n_3, n_4, n_5, n_6, n_8, n_24, n_255, n_256, n_576, n_4000, nI_add, pk_mul, n_sub, n_cl, n_lt, n_le, n_eq, not_true_eq_false, not_false_eq_true] at c) <;> omega))), fun _ => ?_⟩
  refine ⟨fun _ => ?_, fun c => (by exfalso; (first | omega | ((try simp (disch := omega) only [n_0, n_1, n_2, n_3, n_4, n_5, n_6, n_8, n_24, n_255, n_256, n_576, n_4000, nI_add, pk_mul, n_sub, n_cl, n_lt, n_le, n_eq, not_true_eq_false, not_false_eq_true] at c) <;> omega)))⟩
  refine ⟨n_in (by omega) (by omega), ?_⟩
  refine ⟨n_in (by omega) (by omega), ?_⟩
  refine ⟨n_in (by omega) (by omega), ?_⟩
  refine ⟨n_in (by omega) (by omega), ?_⟩
  refine ⟨n_in (by omega) (by omega), ?_⟩
  refine ⟨n_in (by omega) (by omega), ?_⟩
  refine s_bytesOf_t h1 h3 ?_
  rw [n_cl (by omega), n_cl (by omega), n_cl (by omega), n_cl (by omega), n_cl (by omega), n_cl (by omega), nI_add]
  exact hp
theorem s_MO_addPart {o0_wide o0_high o0_fault o0_toldSize o0_fedSize o0_plain o0_best o0_bestOne o0_bestTwo o0_place x1 x2 x3 x4 x5 x6 : Int32} {o0_first_n o0_other_n o0_open_n o0_read_n o0_toldBytes_n o0_fed_n : Nat} {o0_first o0_other o0_open o0_read o0_toldBytes o0_fed o0_part : Nat → Int32} {post : Int32 → (Nat → Int32) → Prop} {P : Nat} (hP : P < 576) (hp : post (nI (P + 1)) (p6 o0_part P x1 x2 x3 x4 x5 x6)) : w_MO_addPart o0_wide o0_high o0_fault o0_toldSize o0_fedSize (nI P) o0_plain o0_best o0_bestOne o0_bestTwo o0_place o0_first_n o0_first o0_other_n o0_other o0_open_n o0_open o0_read_n o0_read o0_toldBytes_n o0_toldBytes o0_fed_n o0_fed 3600 o0_part x1 x2 x3 x4 x5 x6 post := by
  unfold w_MO_addPart
  rw [n_6, n_1, n_2, n_3, n_4, n_5, pk_mul, nI_add, nI_add, nI_add, nI_add, nI_add, nI_add, Nat.mul_comm 6 P]
  refine ⟨n_in (by omega) (by omega), ?_⟩
  refine ⟨n_in (by omega) (by omega), ?_⟩
  refine ⟨n_in (by omega) (by omega), ?_⟩
  refine ⟨n_in (by omega) (by omega), ?_⟩
  refine ⟨n_in (by omega) (by omega), ?_⟩
  refine ⟨n_in (by omega) (by omega), ?_⟩
  rw [n_cl (by omega), n_cl (by omega), n_cl (by omega), n_cl (by omega), n_cl (by omega), n_cl (by omega)]
  exact hp
theorem s_TE_close_15 {o1_values : Nat → Int32} {k_76 : Int32 → (Nat → Int32) → Prop} {W H x0 w y : Nat} (hW : W ≤ 24) (hH : H ≤ 24) (hx : x0 + w ≤ W) (hy : y < H) : ∀ d x f, x + d = x0 + w → x0 ≤ x → k_76 (nI (x0 + w)) (rowF 0 d (y * W + x) f) → w_TE_close_15 (nI x0) (nI w) (W * H) (nI W) (nI H) (W * H) o1_values (nI y) k_76 (d + 1) (nI x) f := by
  intro d
  induction d with
  | zero =>
    intro x f h hx0 hk
    have e : x = x0 + w := by omega
    subst e
    rw [w_TE_close_15]
    refine ⟨fun _ => ?_, fun c => (by exfalso; (first | omega | ((try simp (disch := omega) only [n_0, n_1, n_2, n_3, n_4, n_5, n_6, n_8, n_24, n_255, n_256, n_576, n_4000, nI_add, pk_mul, n_sub, n_cl, n_lt, n_le, n_eq, not_true_eq_false, not_false_eq_true] at c) <;> omega)))⟩
    exact hk
  | succ d ih =>
    intro x f h hx0 hk
    have hz := ix_lt hW hH (show x < W by omega) hy
    rw [w_TE_close_15]
    refine ⟨fun c => (by exfalso; (first | omega | ((try simp (disch := omega) only [n_0, n_1, n_2, n_3, n_4, n_5, n_6, n_8, n_24, n_255, n_256, n_576, n_4000, nI_add, pk_mul, n_sub, n_cl, n_lt, n_le, n_eq, not_true_eq_false, not_false_eq_true] at c) <;> omega))), fun _ => ?_⟩
    refine s_has_in hW hH (by omega) hy ?_
    refine ⟨fun c => absurd c (by decide), fun _ => ?_⟩
    rw [ix_nI]
    refine ⟨fun c => (by exfalso; (first | omega | ((try simp (disch := omega) only [n_0, n_1, n_2, n_3, n_4, n_5, n_6, n_8, n_24, n_255, n_256, n_576, n_4000, nI_add, pk_mul, n_sub, n_cl, n_lt, n_le, n_eq, not_true_eq_false, not_false_eq_true] at c) <;> omega))), fun _ => ?_⟩
    refine ⟨fun c => (by exfalso; (first | omega | ((try simp (disch := omega) only [n_0, n_1, n_2, n_3, n_4, n_5, n_6, n_8, n_24, n_255, n_256, n_576, n_4000, nI_add, pk_mul, n_sub, n_cl, n_lt, n_le, n_eq, not_true_eq_false, not_false_eq_true] at c) <;> omega))), fun _ => ?_⟩
    refine ⟨n_in (by omega) (by omega), ?_⟩
    rw [n_cl (by omega), nar0, n_1, nI_add]
    exact ih (x + 1) _ (by omega) (by omega) hk
theorem s_TE_close_3 {o1_values : Nat → Int32} {k_82 : Int32 → (Nat → Int32) → Prop} {W H x0 w y0 h0 : Nat} (hW : W ≤ 24) (hH : H ≤ 24) (hx : x0 + w ≤ W) (hy : y0 + h0 ≤ H) : ∀ d y f, y + d = y0 + h0 → y0 ≤ y → k_82 (nI (y0 + h0)) (rcF 0 W w d (y * W + x0) f) → w_TE_close_3 (nI x0) (nI y0) (nI w) (nI h0) (W * H) (nI W) (nI H) (W * H) o1_values k_82 (d + 1) (nI y) f := by
  intro d
  induction d with
  | zero =>
    intro y f h hx0 hk
    have e : y = y0 + h0 := by omega
    subst e
    rw [w_TE_close_3]
    refine ⟨fun _ => ?_, fun c => (by exfalso; (first | omega | ((try simp (disch := omega) only [n_0, n_1, n_2, n_3, n_4, n_5, n_6, n_8, n_24, n_255, n_256, n_576, n_4000, nI_add, pk_mul, n_sub, n_cl, n_lt, n_le, n_eq, not_true_eq_false, not_false_eq_true] at c) <;> omega)))⟩
    exact hk
  | succ d ih =>
    intro y f h hx0 hk
    rw [w_TE_close_3]
    refine ⟨fun c => (by exfalso; (first | omega | ((try simp (disch := omega) only [n_0, n_1, n_2, n_3, n_4, n_5, n_6, n_8, n_24, n_255, n_256, n_576, n_4000, nI_add, pk_mul, n_sub, n_cl, n_lt, n_le, n_eq, not_true_eq_false, not_false_eq_true] at c) <;> omega))), fun _ => ?_⟩
    refine ⟨w + 1, s_TE_close_15 hW hH hx (by omega) w x0 f (by omega) (by omega) ?_⟩
    rw [n_1, nI_add]
    refine ih (y + 1) _ (by omega) (by omega) ?_
    rw [show (y + 1) * W + x0 = y * W + x0 + W by rw [Nat.add_mul, Nat.one_mul]; omega]
    exact hk
theorem s_TE_close {o0_plain o0_found_count o0_found_byteLength : Int32} {o0_open o0_counts o0_found_fields o1_values : Nat → Int32} {post : (Nat → Int32) → Prop} {W H x w y h : Nat} (hW : W ≤ 24) (hH : H ≤ 24) (hx : x + w ≤ W) (hy : y + h ≤ H) (hp : post (rcF 0 W w h (y * W + x) o0_open)) : w_TE_close o0_plain (W * H) o0_open 256 o0_counts o0_found_count o0_found_byteLength (W * H * 6) o0_found_fields (nI W) (nI H) (W * H) o1_values (nI x) (nI y) (nI w) (nI h) post := by
  unfold w_TE_close
  exact ⟨h + 1, s_TE_close_3 (k_82 := fun (v6_3_12 : Int32) (f_o0_open_q_4_13 : Nat → Int32) => post f_o0_open_q_4_13) hW hH hx hy h y _ rfl (by omega) hp⟩
theorem s_MO_cover_15 {k_45 : Int32 → (Nat → Int32) → Prop} {W H x0 w y : Nat} (hW : W ≤ 24) (hH : H ≤ 24) (hx : x0 + w ≤ W) (hy : y < H) : ∀ d x f, x + d = x0 + w → x0 ≤ x → k_45 (nI (x0 + w)) (rowF 0 d (y * W + x) f) → w_MO_cover_15 (nI x0) (nI w) (nI W) 576 (nI y) k_45 (d + 1) (nI x) f := by
  intro d
  induction d with
  | zero =>
    intro x f h hx0 hk
    have e : x = x0 + w := by omega
    subst e
    rw [w_MO_cover_15]
    refine ⟨fun _ => ?_, fun c => (by exfalso; (first | omega | ((try simp (disch := omega) only [n_0, n_1, n_2, n_3, n_4, n_5, n_6, n_8, n_24, n_255, n_256, n_576, n_4000, nI_add, pk_mul, n_sub, n_cl, n_lt, n_le, n_eq, not_true_eq_false, not_false_eq_true] at c) <;> omega)))⟩
    exact hk
  | succ d ih =>
    intro x f h hx0 hk
    have hz := ix_lt hW hH (show x < W by omega) hy
    rw [w_MO_cover_15]
    refine ⟨fun c => (by exfalso; (first | omega | ((try simp (disch := omega) only [n_0, n_1, n_2, n_3, n_4, n_5, n_6, n_8, n_24, n_255, n_256, n_576, n_4000, nI_add, pk_mul, n_sub, n_cl, n_lt, n_le, n_eq, not_true_eq_false, not_false_eq_true] at c) <;> omega))), fun _ => ?_⟩
    rw [ix_nI2]
    refine ⟨n_in (by omega) (by omega), ?_⟩
    rw [n_cl (by omega), nar0, n_1, nI_add]
    exact ih (x + 1) _ (by omega) (by omega) hk
theorem s_MO_cover_3 {k_51 : Int32 → (Nat → Int32) → Prop} {W H x0 w y0 h0 : Nat} (hW : W ≤ 24) (hH : H ≤ 24) (hx : x0 + w ≤ W) (hy : y0 + h0 ≤ H) : ∀ d y f, y + d = y0 + h0 → y0 ≤ y → k_51 (nI (y0 + h0)) (rcF 0 W w d (y * W + x0) f) → w_MO_cover_3 (nI x0) (nI y0) (nI w) (nI h0) (nI W) 576 k_51 (d + 1) (nI y) f := by
  intro d
  induction d with
  | zero =>
    intro y f h hx0 hk
    have e : y = y0 + h0 := by omega
    subst e
    rw [w_MO_cover_3]
    refine ⟨fun _ => ?_, fun c => (by exfalso; (first | omega | ((try simp (disch := omega) only [n_0, n_1, n_2, n_3, n_4, n_5, n_6, n_8, n_24, n_255, n_256, n_576, n_4000, nI_add, pk_mul, n_sub, n_cl, n_lt, n_le, n_eq, not_true_eq_false, not_false_eq_true] at c) <;> omega)))⟩
    exact hk
  | succ d ih =>
    intro y f h hx0 hk
    rw [w_MO_cover_3]
    refine ⟨fun c => (by exfalso; (first | omega | ((try simp (disch := omega) only [n_0, n_1, n_2, n_3, n_4, n_5, n_6, n_8, n_24, n_255, n_256, n_576, n_4000, nI_add, pk_mul, n_sub, n_cl, n_lt, n_le, n_eq, not_true_eq_false, not_false_eq_true] at c) <;> omega))), fun _ => ?_⟩
    refine ⟨w + 1, s_MO_cover_15 hW hH hx (by omega) w x0 f (by omega) (by omega) ?_⟩
    rw [n_1, nI_add]
    refine ih (y + 1) _ (by omega) (by omega) ?_
    rw [show (y + 1) * W + x0 = y * W + x0 + W by rw [Nat.add_mul, Nat.one_mul]; omega]
    exact hk
theorem s_MO_cover {o0_fault o0_toldSize o0_fedSize o0_parts o0_plain o0_best o0_bestOne o0_bestTwo o0_place : Int32} {o0_first o0_other o0_open o0_read o0_toldBytes o0_fed o0_part : Nat → Int32} {post : (Nat → Int32) → Prop} {W H x w y h : Nat} (hW : W ≤ 24) (hH : H ≤ 24) (hx : x + w ≤ W) (hy : y + h ≤ H) (hp : post (rcF 0 W w h (y * W + x) o0_open)) : w_MO_cover (nI W) (nI H) o0_fault o0_toldSize o0_fedSize o0_parts o0_plain o0_best o0_bestOne o0_bestTwo o0_place 576 o0_first 576 o0_other 576 o0_open 576 o0_read 4000 o0_toldBytes 4000 o0_fed 3600 o0_part (nI x) (nI y) (nI w) (nI h) post := by
  unfold w_MO_cover
  exact ⟨h + 1, s_MO_cover_3 (k_51 := fun (v5_3_11 : Int32) (f_o0_open_q_4_12 : Nat → Int32) => post f_o0_open_q_4_12) hW hH hx hy h y _ rfl (by omega) hp⟩
/-- how many are open -/
def cntO (o : Nat → Int32) : Nat → Nat
  | 0 => 0
  | k + 1 => if o k = 0 then cntO o k else cntO o k + 1
theorem cntO_self {o : Nat → Int32} : ∀ N, cntO o N ≤ N := by
  intro N
  induction N with
  | zero => exact Nat.le_refl 0
  | succ N ih => simp only [cntO]; split <;> omega
theorem cntO_le {o o' : Nat → Int32} (h : ∀ j, o' j = 0 ∨ o' j = o j) : ∀ N, cntO o' N ≤ cntO o N := by
  intro N
  induction N with
  | zero => exact Nat.le_refl 0
  | succ N ih =>
    simp only [cntO]
    rcases h N with e | e
    · rw [if_pos e]
      split <;> omega
    · rw [e]
      split <;> omega
theorem cntO_lt {o o' : Nat → Int32} {k : Nat} (h : ∀ j, o' j = 0 ∨ o' j = o j) (h1 : ¬ o k = 0) (h2 : o' k = 0) : ∀ N, k < N → cntO o' N + 1 ≤ cntO o N := by
  intro N
  induction N with
  | zero => intro c; exact absurd c (by omega)
  | succ N ih =>
    intro c
    simp only [cntO]
    by_cases e : k = N
    · subst e
      rw [if_pos h2, if_neg h1]
      have := cntO_le h k
      omega
    · have := ih (by omega)
      rcases h N with e | e
      · rw [if_pos e]
        split <;> omega
      · rw [e]
        split <;> omega
def PVk (fl : Nat → Int32) (k : Nat) : Prop := ∃ t : Nat, 1 ≤ t ∧ t ≤ 3 ∧ fl (k * 6) = nI t ∧ ∀ i, 1 ≤ i → i < (if t = 3 then 5 else 6) → by8 (if t = 2 ∧ i = 4 then fl (k * 6 + i) + 4 else fl (k * 6 + i))
def pls (fl : Nat → Int32) : Nat → Nat
  | 0 => 0
  | k + 1 => pls fl k + (if fl (k * 6) = 3 then 5 else 6)
theorem pls_le {fl : Nat → Int32} : ∀ P, pls fl P ≤ 6 * P := by
  intro P
  induction P with
  | zero => exact Nat.le_refl 0
  | succ P ih => simp only [pls]; split <;> omega
theorem pls_ext {fl fl' : Nat → Int32} : ∀ P, (∀ j, j < P * 6 → fl' j = fl j) → pls fl' P = pls fl P := by
  intro P
  induction P with
  | zero => intro _; rfl
  | succ P ih =>
    intro h
    simp only [pls]
    rw [ih (fun j hj => h j (by omega)), h (P * 6) (by omega)]
def EI (W H : Nat) (o : Nat → Int32) (P bl : Nat) (fl : Nat → Int32) : Prop := ZB (W * H) o ∧ P + cntO o (W * H) ≤ W * H ∧ bl = pls fl P ∧ ∀ k, k < P → PVk fl k
theorem EI_room {W H : Nat} {o : Nat → Int32} {P bl k : Nat} {fl : Nat → Int32} (h : EI W H o P bl fl) (hk : k < W * H) (ho : ¬ o k = 0) : P < W * H := by
  have h1 := cntO_lt (o := o) (o' := upd o k 0) (k := k) (fun j => by
    by_cases e : j = k
    · left; rw [e, pk_us]
    · right; rw [pk_un e]) ho pk_us (W * H) hk
  have h2 := h.2.1
  omega
theorem EI_add {W H : Nat} {o o' : Nat → Int32} {P bl k t : Nat} {fl : Nat → Int32} {b c d e g : Int32} (h : EI W H o P bl fl) (hk : k < W * H) (ho : ¬ o k = 0) (hz : ZB (W * H) o') (hor : ∀ j, o' j = 0 ∨ o' j = o j) (hk0 : o' k = 0) (h1 : 1 ≤ t) (h3 : t ≤ 3) (vb : by8 b) (vc : by8 c) (vd : by8 d) (ve : by8 (if t = 2 then e + 4 else e)) (vg : t = 3 ∨ by8 g) : EI W H o' (P + 1) (bl + if t = 3 then 5 else 6) (p6 fl P (nI t) b c d e g) := by
  have h2 := cntO_lt hor ho hk0 (W * H) hk
  obtain ⟨ha, hb, hc, hd⟩ := h
  refine ⟨hz, by omega, ?_, ?_⟩
  · simp only [pls]
    rw [pls_ext P (fun j hj => p6_lt hj), p6_0, hc]
    congr 1
    by_cases z : t = 3
    · rw [if_pos z, if_pos (by rw [z]; rfl)]
    · rw [if_neg z, if_neg (by rw [n_3, n_eq (by omega) (by omega)]; exact z)]
  · intro j hj
    by_cases ej : j = P
    · subst ej
      refine ⟨t, h1, h3, p6_0, ?_⟩
      intro i hi1 hi2
      have hi : i = 1 ∨ i = 2 ∨ i = 3 ∨ i = 4 ∨ (i = 5 ∧ ¬ t = 3) := by
        by_cases z : t = 3
        · rw [if_pos z] at hi2; omega
        · rw [if_neg z] at hi2; omega
      rcases hi with e1 | e1 | e1 | e1 | ⟨e1, e2⟩
      · subst e1; rw [if_neg (by omega), p6_1]; exact vb
      · subst e1; rw [if_neg (by omega), p6_2]; exact vc
      · subst e1; rw [if_neg (by omega), p6_3]; exact vd
      · subst e1
        rw [p6_4]
        by_cases z : t = 2
        · rw [if_pos ⟨z, rfl⟩]; rw [if_pos z] at ve; exact ve
        · rw [if_neg (fun w => z w.1)]; rw [if_neg z] at ve; exact ve
      · subst e1
        rw [if_neg (by omega), p6_5]
        rcases vg with z | z
        · exact absurd z e2
        · exact z
    · obtain ⟨t', q1, q2, q3, q4⟩ := hd j (by omega)
      refine ⟨t', q1, q2, ?_, ?_⟩
      · rw [p6_lt (by omega)]; exact q3
      · intro i hi1 hi2
        have hi6 : i < 6 := by
          by_cases z : t' = 3
          · rw [if_pos z] at hi2; omega
          · rw [if_neg z] at hi2; omega
        rw [p6_lt (by omega)]
        exact q4 i hi1 hi2
