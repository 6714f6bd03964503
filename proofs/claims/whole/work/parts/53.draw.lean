/-! PURE ROWS: rectangles and copies painted. Own work. -/
def BY (f : Nat → Int32) : Prop := ∀ j, by8 (f j)
def ZB (n : Nat) (f : Nat → Int32) : Prop := ∀ j, n ≤ j → f j = 0
def rowF (v : Int32) : Nat → Nat → (Nat → Int32) → (Nat → Int32)
  | 0, _, f => f
  | d + 1, p, f => rowF v d (p + 1) (upd f p v)
def rowN (v : Int32) : Nat → Nat → (Nat → Int32) → Nat → Nat
  | 0, _, _, n => n
  | d + 1, p, f, n => rowN v d (p + 1) (upd f p v) (if f p = v then n else n + 1)
def rcF (v : Int32) (W w : Nat) : Nat → Nat → (Nat → Int32) → (Nat → Int32)
  | 0, _, f => f
  | h + 1, p, f => rcF v W w h (p + W) (rowF v w p f)
def rcN (v : Int32) (W w : Nat) : Nat → Nat → (Nat → Int32) → Nat → Nat
  | 0, _, _, n => n
  | h + 1, p, f, n => rcN v W w h (p + W) (rowF v w p f) (rowN v w p f n)
theorem rowF_or {v : Int32} : ∀ d p (f : Nat → Int32) j, rowF v d p f j = v ∨ rowF v d p f j = f j := by
  intro d
  induction d with
  | zero => intro p f j; exact Or.inr rfl
  | succ d ih =>
    intro p f j
    rcases ih (p + 1) (upd f p v) j with h | h
    · exact Or.inl h
    · by_cases e : j = p
      · left; show rowF v d (p + 1) (upd f p v) j = v; rw [h, e, pk_us]
      · right; show rowF v d (p + 1) (upd f p v) j = f j; rw [h, pk_un e]
theorem rowF_out {v : Int32} : ∀ d p (f : Nat → Int32) j, j < p ∨ p + d ≤ j → rowF v d p f j = f j := by
  intro d
  induction d with
  | zero => intro p f j _; rfl
  | succ d ih =>
    intro p f j h
    show rowF v d (p + 1) (upd f p v) j = f j
    rw [ih (p + 1) _ j (by omega), pk_un (by omega)]
theorem rowF_at {v : Int32} : ∀ d p (f : Nat → Int32), rowF v (d + 1) p f p = v := by
  intro d p f
  show rowF v d (p + 1) (upd f p v) p = v
  rw [rowF_out _ _ _ _ (by omega), pk_us]
theorem rcF_or {v : Int32} {W w : Nat} : ∀ h p (f : Nat → Int32) j, rcF v W w h p f j = v ∨ rcF v W w h p f j = f j := by
  intro h
  induction h with
  | zero => intro p f j; exact Or.inr rfl
  | succ h ih =>
    intro p f j
    show rcF v W w h (p + W) (rowF v w p f) j = v ∨ rcF v W w h (p + W) (rowF v w p f) j = f j
    rcases ih (p + W) (rowF v w p f) j with e | e
    · exact Or.inl e
    · rw [e]; exact rowF_or _ _ _ _
theorem rcF_out {v : Int32} {W w N : Nat} : ∀ h p (f : Nat → Int32) j, w ≤ W → (h = 0 ∨ p + (h - 1) * W + w ≤ N) → N ≤ j → rcF v W w h p f j = f j := by
  intro h
  induction h with
  | zero => intro p f j _ _ _; rfl
  | succ h ih =>
    intro p f j hw hn hj
    show rcF v W w h (p + W) (rowF v w p f) j = f j
    have h1 : p + (h + 1 - 1) * W + w ≤ N := by omega
    have h2 : h + 1 - 1 = h := by omega
    rw [h2] at h1
    rw [ih (p + W) _ j hw ?_ hj, rowF_out]
    · right
      have : 0 ≤ h * W := Nat.zero_le _
      omega
    · by_cases c : h = 0
      · exact Or.inl c
      · right
        obtain ⟨t, rfl⟩ : ∃ t, h = t + 1 := ⟨h - 1, by omega⟩
        have h3 : t + 1 - 1 = t := by omega
        rw [h3]
        rw [Nat.add_mul, Nat.one_mul] at h1
        omega
theorem rcF_at {v : Int32} {W w : Nat} : ∀ h p (f : Nat → Int32), rcF v W (w + 1) (h + 1) p f p = v := by
  intro h p f
  show rcF v W (w + 1) h (p + W) (rowF v (w + 1) p f) p = v
  rcases rcF_or (v := v) (W := W) (w := w + 1) h (p + W) (rowF v (w + 1) p f) p with e | e
  · exact e
  · rw [e]; exact rowF_at _ _ _
theorem rcF_by {v : Int32} {W w h p : Nat} {f : Nat → Int32} (hf : BY f) (hv : by8 v) : BY (rcF v W w h p f) := by
  intro j
  rcases rcF_or (v := v) (W := W) (w := w) h p f j with e | e
  · rw [e]; exact hv
  · rw [e]; exact hf j
theorem rc_in {W H x y w h : Nat} (hx : x + w ≤ W) (hy : y + h ≤ H) : h = 0 ∨ y * W + x + (h - 1) * W + w ≤ W * H := by
  by_cases c : h = 0
  · exact Or.inl c
  · right
    have h1 : (y + h) * W ≤ H * W := Nat.mul_le_mul_right W hy
    obtain ⟨t, rfl⟩ : ∃ t, h = t + 1 := ⟨h - 1, by omega⟩
    rw [Nat.add_mul, Nat.add_mul, Nat.one_mul] at h1
    have h3 : t + 1 - 1 = t := by omega
    rw [h3, Nat.mul_comm W H]
    omega
theorem rcF_zb {v : Int32} {W H x y w h : Nat} {f : Nat → Int32} (hf : ZB (W * H) f) (hx : x + w ≤ W) (hy : y + h ≤ H) : ZB (W * H) (rcF v W w h (y * W + x) f) := by
  intro j hj
  rw [rcF_out h _ f j (by omega) (rc_in hx hy) hj]
  exact hf j hj
/-- the class -/
theorem s_PI_paintRectangle_18 {k_48 : Int32 → Int32 → (Nat → Int32) → Prop} {W H x0 w y : Nat} (hW : W ≤ 24) (hH : H ≤ 24) (hx : x0 + w ≤ W) (hy : y < H) {v : Int32} : ∀ d x n f, x + d = x0 + w → x0 ≤ x → k_48 (nI (x0 + w)) (nI (rowN v d (y * W + x) f n)) (rowF v d (y * W + x) f) → w_PI_paintRectangle_18 (nI x0) (nI w) v (nI W) (nI H) (W * H) (nI y) k_48 (d + 1) (nI x) (nI n) f := by
  intro d
  induction d with
  | zero =>
    intro x n f h hx0 hk
    have e : x = x0 + w := by omega
    subst e
    rw [w_PI_paintRectangle_18]
    refine ⟨fun _ => ?_, fun c => (by exfalso; (first | omega | ((try simp (disch := omega) only [n_0, n_1, n_2, n_3, n_4, n_5, n_6, n_8, n_24, n_255, n_256, n_576, n_4000, nI_add, pk_mul, n_sub, n_cl, n_lt, n_le, n_eq, not_true_eq_false, not_false_eq_true] at c) <;> omega)))⟩
    exact hk
  | succ d ih =>
    intro x n f h hx0 hk
    rw [w_PI_paintRectangle_18]
    refine ⟨fun c => (by exfalso; (first | omega | ((try simp (disch := omega) only [n_0, n_1, n_2, n_3, n_4, n_5, n_6, n_8, n_24, n_255, n_256, n_576, n_4000, nI_add, pk_mul, n_sub, n_cl, n_lt, n_le, n_eq, not_true_eq_false, not_false_eq_true] at c) <;> omega))), fun _ => ?_⟩
    refine s_paint_in hW hH (by omega) hy ?_
    rw [n_1, nI_add, nI_add]
    refine ⟨fun c => ih (x + 1) n _ (by omega) (by omega) ?_, fun c => ih (x + 1) (n + 1) _ (by omega) (by omega) ?_⟩
    · have e : f (y * W + x) = v := by
        by_cases z : f (y * W + x) = v
        · exact z
        · rw [if_neg z] at c; exact absurd c (by decide)
      simp only [rowN, rowF, if_pos e] at hk
      exact hk
    · have e : ¬ f (y * W + x) = v := by
        intro z; rw [if_pos z] at c; exact absurd rfl c
      simp only [rowN, rowF, if_neg e] at hk
      exact hk
theorem s_PI_paintRectangle_6 {k_54 : Int32 → Int32 → (Nat → Int32) → Prop} {W H x0 w y0 h0 : Nat} (hW : W ≤ 24) (hH : H ≤ 24) (hx : x0 + w ≤ W) (hy : y0 + h0 ≤ H) {v : Int32} : ∀ d y n f, y + d = y0 + h0 → y0 ≤ y → k_54 (nI (y0 + h0)) (nI (rcN v W w d (y * W + x0) f n)) (rcF v W w d (y * W + x0) f) → w_PI_paintRectangle_6 (nI x0) (nI y0) (nI w) (nI h0) v (nI W) (nI H) (W * H) k_54 (d + 1) (nI y) (nI n) f := by
  intro d
  induction d with
  | zero =>
    intro y n f h hx0 hk
    have e : y = y0 + h0 := by omega
    subst e
    rw [w_PI_paintRectangle_6]
    refine ⟨fun _ => ?_, fun c => (by exfalso; (first | omega | ((try simp (disch := omega) only [n_0, n_1, n_2, n_3, n_4, n_5, n_6, n_8, n_24, n_255, n_256, n_576, n_4000, nI_add, pk_mul, n_sub, n_cl, n_lt, n_le, n_eq, not_true_eq_false, not_false_eq_true] at c) <;> omega)))⟩
    exact hk
  | succ d ih =>
    intro y n f h hx0 hk
    rw [w_PI_paintRectangle_6]
    refine ⟨fun c => (by exfalso; (first | omega | ((try simp (disch := omega) only [n_0, n_1, n_2, n_3, n_4, n_5, n_6, n_8, n_24, n_255, n_256, n_576, n_4000, nI_add, pk_mul, n_sub, n_cl, n_lt, n_le, n_eq, not_true_eq_false, not_false_eq_true] at c) <;> omega))), fun _ => ?_⟩
    refine ⟨w + 1, s_PI_paintRectangle_18 hW hH hx (by omega) w x0 n f (by omega) (by omega) ?_⟩
    rw [n_1, nI_add]
    refine ih (y + 1) _ _ (by omega) (by omega) ?_
    rw [show (y + 1) * W + x0 = y * W + x0 + W by rw [Nat.add_mul, Nat.one_mul]; omega]
    exact hk
theorem s_PI_paintRectangle {o0_values : Nat → Int32} {post : Int32 → (Nat → Int32) → Prop} {W H x w y h : Nat} (hW : W ≤ 24) (hH : H ≤ 24) (hx : x + w ≤ W) (hy : y + h ≤ H) {v : Int32} (hk : post (nI (rcN v W w h (y * W + x) o0_values 0)) (rcF v W w h (y * W + x) o0_values)) : w_PI_paintRectangle (nI W) (nI H) (W * H) o0_values (nI x) (nI y) (nI w) (nI h) v post := by
  unfold w_PI_paintRectangle
  exact ⟨h + 1, s_PI_paintRectangle_6 (k_54 := fun (v7_4_18 : Int32) (v6_5_19 : Int32) (f_o0_values_q_6_20 : Nat → Int32) => post v6_5_19 f_o0_values_q_6_20) hW hH hx hy h y 0 _ rfl (by omega) hk⟩
/-- the reference -/
theorem s_MO_box_81 {x3 : Int32} {k_152 : Int32 → Int32 → (Nat → Int32) → Prop} {W H x0 w y : Nat} (hW : W ≤ 24) (hH : H ≤ 24) (hx : x0 + w ≤ W) (hy : y < H) (h1 : (w : Int) ≤ x3.toInt) (h2 : x0 + w = W ∨ x3.toInt = w) {v : Int32} : ∀ d x n f, x + d = x0 + w → x0 ≤ x → k_152 (nI (x0 + w)) (nI (rowN v d (y * W + x) f n)) (rowF v d (y * W + x) f) → w_MO_box_81 (nI x0) x3 v (nI W) 576 (nI y) k_152 (d + 1) (nI x) (nI n) f := by
  intro d
  induction d with
  | zero =>
    intro x n f h hx0 hk
    have e : x = x0 + w := by omega
    subst e
    rw [w_MO_box_81]
    rcases h2 with h2 | h2
    · refine ⟨fun _ => ?_, fun c => (by exfalso; (first | omega | ((try simp (disch := omega) only [n_0, n_1, n_2, n_3, n_4, n_5, n_6, n_8, n_24, n_255, n_256, n_576, n_4000, nI_add, pk_mul, n_sub, n_cl, n_lt, n_le, n_eq, not_true_eq_false, not_false_eq_true] at c) <;> omega)))⟩
      exact hk
    · refine ⟨fun _ => hk, fun _ => ⟨fun _ => hk, fun c => ?_⟩⟩
      exfalso
      rw [n_sub (by omega), c_le, ni_t (by omega)] at c
      omega
  | succ d ih =>
    intro x n f h hx0 hk
    have hz := ix_lt hW hH (show x < W by omega) hy
    rw [w_MO_box_81]
    refine ⟨fun c => (by exfalso; (first | omega | ((try simp (disch := omega) only [n_0, n_1, n_2, n_3, n_4, n_5, n_6, n_8, n_24, n_255, n_256, n_576, n_4000, nI_add, pk_mul, n_sub, n_cl, n_lt, n_le, n_eq, not_true_eq_false, not_false_eq_true] at c) <;> omega))), fun _ => ?_⟩
    refine ⟨fun c => ?_, fun _ => ?_⟩
    · exfalso
      rw [n_sub (by omega), c_le, ni_t (by omega)] at c
      omega
    rw [ix_nI2, n_cl (by omega)]
    refine ⟨n_in (by omega) (by omega), ?_⟩
    rw [n_1, nI_add, nI_add]
    refine ⟨fun e => ⟨n_in (by omega) (by omega), ih (x + 1) n _ (by omega) (by omega) ?_⟩, fun e => ⟨n_in (by omega) (by omega), ih (x + 1) (n + 1) _ (by omega) (by omega) ?_⟩⟩
    · simp only [rowN, rowF, if_pos e] at hk
      exact hk
    · simp only [rowN, rowF, if_neg e] at hk
      exact hk
theorem s_MO_box_60 {x3 x4 : Int32} {k_158 : Int32 → Int32 → (Nat → Int32) → Prop} {W H x0 w y0 h0 : Nat} (hW : W ≤ 24) (hH : H ≤ 24) (hx : x0 + w ≤ W) (h1 : (w : Int) ≤ x3.toInt) (h2 : x0 + w = W ∨ x3.toInt = w) (hy : y0 + h0 ≤ H) (g1 : (h0 : Int) ≤ x4.toInt) (g2 : y0 + h0 = H ∨ x4.toInt = h0) {v : Int32} : ∀ d y n f, y + d = y0 + h0 → y0 ≤ y → k_158 (nI (y0 + h0)) (nI (rcN v W w d (y * W + x0) f n)) (rcF v W w d (y * W + x0) f) → w_MO_box_60 (nI x0) (nI y0) x3 x4 v (nI W) (nI H) 576 k_158 (d + 1) (nI y) (nI n) f := by
  intro d
  induction d with
  | zero =>
    intro y n f h hx0 hk
    have e : y = y0 + h0 := by omega
    subst e
    rw [w_MO_box_60]
    rcases g2 with g2 | g2
    · refine ⟨fun _ => ?_, fun c => (by exfalso; (first | omega | ((try simp (disch := omega) only [n_0, n_1, n_2, n_3, n_4, n_5, n_6, n_8, n_24, n_255, n_256, n_576, n_4000, nI_add, pk_mul, n_sub, n_cl, n_lt, n_le, n_eq, not_true_eq_false, not_false_eq_true] at c) <;> omega)))⟩
      exact hk
    · refine ⟨fun _ => hk, fun _ => ⟨fun _ => hk, fun c => ?_⟩⟩
      exfalso
      rw [n_sub (by omega), c_le, ni_t (by omega)] at c
      omega
  | succ d ih =>
    intro y n f h hx0 hk
    rw [w_MO_box_60]
    refine ⟨fun c => (by exfalso; (first | omega | ((try simp (disch := omega) only [n_0, n_1, n_2, n_3, n_4, n_5, n_6, n_8, n_24, n_255, n_256, n_576, n_4000, nI_add, pk_mul, n_sub, n_cl, n_lt, n_le, n_eq, not_true_eq_false, not_false_eq_true] at c) <;> omega))), fun _ => ?_⟩
    refine ⟨fun c => ?_, fun _ => ?_⟩
    · exfalso
      rw [n_sub (by omega), c_le, ni_t (by omega)] at c
      omega
    refine ⟨w + 1, s_MO_box_81 hW hH hx (by omega) h1 h2 w x0 n f (by omega) (by omega) ?_⟩
    rw [n_1, nI_add]
    refine ih (y + 1) _ _ (by omega) (by omega) ?_
    rw [show (y + 1) * W + x0 = y * W + x0 + W by rw [Nat.add_mul, Nat.one_mul]; omega]
    exact hk
