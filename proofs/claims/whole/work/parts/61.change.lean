/-! PURE ROWS: runs; change. Own work. -/
def run (P : Nat → Bool) : Nat → Nat → Nat
  | 0, i => i
  | m + 1, i => if P i = true then run P m (i + 1) else i
theorem run_le {P : Nat → Bool} : ∀ m i, run P m i ≤ i + m := by
  intro m
  induction m with
  | zero => intro i; exact Nat.le_refl _
  | succ m ih =>
    intro i
    simp only [run]
    split
    · have := ih (i + 1); omega
    · omega
theorem run_ge {P : Nat → Bool} : ∀ m i, i ≤ run P m i := by
  intro m
  induction m with
  | zero => intro i; exact Nat.le_refl _
  | succ m ih =>
    intro i
    simp only [run]
    split
    · have := ih (i + 1); omega
    · omega
/-- where the two differ -/
def dP (f g : Nat → Int32) (p : Nat) : Nat → Bool := fun i => decide (¬ f (p + i) = g (p + i))
theorem s_MO_say {o0_wide o0_high o0_fault o0_fedSize o0_parts o0_plain o0_best o0_bestOne o0_bestTwo o0_place x1 : Int32} {o0_first_n o0_other_n o0_open_n o0_read_n o0_fed_n o0_part_n : Nat} {o0_first o0_other o0_open o0_read o0_toldBytes o0_fed o0_part : Nat → Int32} {post : Int32 → (Nat → Int32) → Prop} {T : Nat} (h : T < 4000) (hp : post (nI (T + 1)) (upd o0_toldBytes T x1)) : w_MO_say o0_wide o0_high o0_fault (nI T) o0_fedSize o0_parts o0_plain o0_best o0_bestOne o0_bestTwo o0_place o0_first_n o0_first o0_other_n o0_other o0_open_n o0_open o0_read_n o0_read 4000 o0_toldBytes o0_fed_n o0_fed o0_part_n o0_part x1 post := by
  unfold w_MO_say
  refine ⟨n_in (by omega) (by omega), ?_⟩
  rw [n_cl (by omega), n_1, nI_add]
  exact hp
theorem s_CH_differing_3 {k_41 : Int32 → Prop} {W H x y : Nat} (hW : W ≤ 24) (hH : H ≤ 24) (hy : y < H) {f g : Nat → Int32} : ∀ m i, x + i + m = W → k_41 (nI (run (dP f g (y * W + x)) m i)) → w_CH_differing_3 (nI x) (nI y) (nI W) (nI H) (W * H) f (nI W) (nI H) (W * H) g k_41 (m + 1) (nI i) := by
  intro m
  induction m with
  | zero =>
    intro i h hk
    rw [w_CH_differing_3, nI_add]
    refine ⟨fun _ => ?_, fun c => (by exfalso; (first | omega | ((try simp (disch := omega) only [n_0, n_1, n_2, n_3, n_4, n_5, n_6, n_8, n_24, n_255, n_256, n_576, n_4000, nI_add, pk_mul, n_sub, n_cl, n_lt, n_le, n_eq, not_true_eq_false, not_false_eq_true] at c) <;> omega)))⟩
    exact hk
  | succ m ih =>
    intro i h hk
    rw [w_CH_differing_3, nI_add]
    refine ⟨fun c => (by exfalso; (first | omega | ((try simp (disch := omega) only [n_0, n_1, n_2, n_3, n_4, n_5, n_6, n_8, n_24, n_255, n_256, n_576, n_4000, nI_add, pk_mul, n_sub, n_cl, n_lt, n_le, n_eq, not_true_eq_false, not_false_eq_true] at c) <;> omega))), fun _ => ?_⟩
    refine s_value_in hW hH (show x + i < W by omega) hy ?_
    refine s_value_in hW hH (show x + i < W by omega) hy ?_
    rw [show y * W + (x + i) = y * W + x + i by omega]
    refine ⟨fun c => ?_, fun c => ?_⟩
    · have e : dP f g (y * W + x) i = false := by unfold dP; simp [c]
      simp only [run, e] at hk
      exact hk
    · have e : dP f g (y * W + x) i = true := by unfold dP; simp [c]
      simp only [run, e] at hk
      rw [n_1, nI_add]
      exact ih (i + 1) (by omega) hk
theorem s_MO_change_32 {k_81 : Int32 → Prop} {W H x y : Nat} (hW : W ≤ 24) (hH : H ≤ 24) (hy : y < H) {f g : Nat → Int32} : ∀ m i, x + i + m = W → k_81 (nI (run (dP f g (y * W + x)) m i)) → w_MO_change_32 (nI W) 576 f 576 g (nI y) (nI x) k_81 (m + 1) (nI i) := by
  have hs := pl_le hW hH
  intro m
  induction m with
  | zero =>
    intro i h hk
    rw [w_MO_change_32, nI_add]
    refine ⟨fun _ => ?_, fun c => (by exfalso; (first | omega | ((try simp (disch := omega) only [n_0, n_1, n_2, n_3, n_4, n_5, n_6, n_8, n_24, n_255, n_256, n_576, n_4000, nI_add, pk_mul, n_sub, n_cl, n_lt, n_le, n_eq, not_true_eq_false, not_false_eq_true] at c) <;> omega)))⟩
    exact hk
  | succ m ih =>
    intro i h hk
    have z1 := @pl_lt W H (x + i) y (by omega) (by omega)
    rw [w_MO_change_32, nI_add]
    refine ⟨fun c => (by exfalso; (first | omega | ((try simp (disch := omega) only [n_0, n_1, n_2, n_3, n_4, n_5, n_6, n_8, n_24, n_255, n_256, n_576, n_4000, nI_add, pk_mul, n_sub, n_cl, n_lt, n_le, n_eq, not_true_eq_false, not_false_eq_true] at c) <;> omega))), fun _ => ?_⟩
    rw [ix_nI2, nI_add, n_cl (by omega)]
    refine ⟨n_in (by omega) (by omega), ?_⟩
    refine ⟨n_in (by omega) (by omega), ?_⟩
    refine ⟨fun c => ?_, fun c => ?_⟩
    · have e : dP f g (y * W + x) i = false := by unfold dP; simp [c]
      simp only [run, e] at hk
      exact hk
    · have e : dP f g (y * W + x) i = true := by unfold dP; simp [c]
      simp only [run, e] at hk
      rw [n_1, nI_add]
      exact ih (i + 1) (by omega) hk
theorem s_CH_writeRun_21 {k_47 : Int32 → Int32 → (Nat → Int32) → Prop} {W H x y n N : Nat} (hW : W ≤ 24) (hH : H ≤ 24) (hy : y < H) (hx : x + n ≤ W) (hN : N ≤ 4000) {g : Nat → Int32} : ∀ d i T q, i + d = n → T + d ≤ N → k_47 (nI n) (nI (T + d)) (ap g d (y * W + x + i) T q) → w_CH_writeRun_21 (nI x) (nI y) (nI n) (nI W) (nI H) (W * H) g N k_47 (d + 1) (nI i) (nI T) q := by
  intro d
  induction d with
  | zero =>
    intro i T q h hT hk
    have e : i = n := by omega
    subst e
    rw [w_CH_writeRun_21]
    refine ⟨fun _ => ?_, fun c => (by exfalso; (first | omega | ((try simp (disch := omega) only [n_0, n_1, n_2, n_3, n_4, n_5, n_6, n_8, n_24, n_255, n_256, n_576, n_4000, nI_add, pk_mul, n_sub, n_cl, n_lt, n_le, n_eq, not_true_eq_false, not_false_eq_true] at c) <;> omega)))⟩
    exact hk
  | succ d ih =>
    intro i T q h hT hk
    rw [w_CH_writeRun_21, nI_add]
    refine ⟨fun c => (by exfalso; (first | omega | ((try simp (disch := omega) only [n_0, n_1, n_2, n_3, n_4, n_5, n_6, n_8, n_24, n_255, n_256, n_576, n_4000, nI_add, pk_mul, n_sub, n_cl, n_lt, n_le, n_eq, not_true_eq_false, not_false_eq_true] at c) <;> omega))), fun _ => ?_⟩
    refine s_value_in hW hH (show x + i < W by omega) hy ?_
    refine s_BR_add (by omega) hN ?_
    rw [n_1, nI_add]
    refine ih (i + 1) (T + 1) _ (by omega) (by omega) ?_
    rw [show y * W + (x + i) = y * W + x + i by omega, show T + 1 + d = T + (d + 1) by omega]
    exact hk
theorem s_MO_change_103 {o0_fedSize o0_parts o0_plain o0_best o0_bestOne o0_bestTwo o0_place : Int32} {o0_first o0_open o0_read o0_fed o0_part : Nat → Int32} {k_135 : Int32 → Int32 → (Nat → Int32) → Prop} {W H x y n : Nat} (hW : W ≤ 24) (hH : H ≤ 24) (hy : y < H) (hx : x + n ≤ W) {g : Nat → Int32} : ∀ d i T q, i + d = n → T + d ≤ 4000 → k_135 (nI n) (nI (T + d)) (ap g d (y * W + x + i) T q) → w_MO_change_103 (nI W) (nI H) o0_fedSize o0_parts o0_plain o0_best o0_bestOne o0_bestTwo o0_place 576 o0_first 576 g 576 o0_open 576 o0_read 4000 4000 o0_fed 3600 o0_part (nI y) (nI x) (nI n) k_135 (d + 1) (nI i) (nI T) q := by
  have hs := pl_le hW hH
  intro d
  induction d with
  | zero =>
    intro i T q h hT hk
    have e : i = n := by omega
    subst e
    rw [w_MO_change_103]
    refine ⟨fun _ => ?_, fun c => (by exfalso; (first | omega | ((try simp (disch := omega) only [n_0, n_1, n_2, n_3, n_4, n_5, n_6, n_8, n_24, n_255, n_256, n_576, n_4000, nI_add, pk_mul, n_sub, n_cl, n_lt, n_le, n_eq, not_true_eq_false, not_false_eq_true] at c) <;> omega)))⟩
    exact hk
  | succ d ih =>
    intro i T q h hT hk
    have z1 := @pl_lt W H (x + i) y (by omega) (by omega)
    rw [w_MO_change_103]
    refine ⟨fun c => (by exfalso; (first | omega | ((try simp (disch := omega) only [n_0, n_1, n_2, n_3, n_4, n_5, n_6, n_8, n_24, n_255, n_256, n_576, n_4000, nI_add, pk_mul, n_sub, n_cl, n_lt, n_le, n_eq, not_true_eq_false, not_false_eq_true] at c) <;> omega))), fun _ => ?_⟩
    rw [ix_nI2, nI_add, n_cl (by omega)]
    refine ⟨n_in (by omega) (by omega), ?_⟩
    refine s_MO_say (by omega) ?_
    rw [n_1, nI_add]
    refine ih (i + 1) (T + 1) _ (by omega) (by omega) ?_
    rw [show T + 1 + d = T + (d + 1) by omega]
    exact hk
theorem upd_by {q : Nat → Int32} {k : Nat} {v : Int32} (h : BY q) (hv : by8 v) : BY (upd q k v) := by
  intro j
  by_cases e : j = k
  · rw [e, pk_us]; exact hv
  · rw [pk_un e]; exact h j
theorem ch_row {o0_fedSize o0_parts o0_plain o0_best o0_bestOne o0_bestTwo o0_place : Int32} {o0_open o0_read o0_fed o0_part : Nat → Int32} {W H y : Nat} (hW : W ≤ 24) (hH : H ≤ 24) (hy : y < H) {f g : Nat → Int32} (hg : BY g) : ∀ n x T q, W + 1 - x < n → x ≤ W + 1 → T ≤ y * (2 * W + 2) + 2 * x → BY q → ∃ (x' T' : Nat) (q' : Nat → Int32), (T' ≤ (y + 1) * (2 * W + 2) ∧ BY q') ∧
    (∀ k_64 : Int32 → Int32 → (Nat → Int32) → Prop, k_64 (nI x') (nI T') q' → w_CH_write_17 (nI W) (nI H) (W * H) f (nI W) (nI H) (W * H) g (H * (2 * W + 2) + 1) (nI y) k_64 n (nI x) (nI T) q) ∧
    (∀ k_144 : Int32 → Int32 → (Nat → Int32) → Prop, k_144 (nI x') (nI T') q' → w_MO_change_22 (nI W) (nI H) o0_fedSize o0_parts o0_plain o0_best o0_bestOne o0_bestTwo o0_place 576 f 576 g 576 o0_open 576 o0_read 4000 4000 o0_fed 3600 o0_part (nI y) k_144 n (nI x) (nI T) q) := by
  have hs := pl_le hW hH
  have hC : (y + 1) * (2 * W + 2) ≤ H * (2 * W + 2) := Nat.mul_le_mul_right _ hy
  have hC2 : H * (2 * W + 2) ≤ 24 * 50 := Nat.mul_le_mul hH (by omega)
  rw [Nat.add_mul, Nat.one_mul] at hC ⊢
  intro n
  induction n with
  | zero => intro x T q h; exact absurd h (by omega)
  | succ n ih =>
    intro x T q hn hx hT hb
    by_cases c : W ≤ x
    · refine ⟨x, T, q, ⟨by omega, hb⟩, ?_, ?_⟩
      · intro k_64 hk
        rw [w_CH_write_17]
        refine ⟨fun _ => ?_, fun c => (by exfalso; (first | omega | ((try simp (disch := omega) only [n_0, n_1, n_2, n_3, n_4, n_5, n_6, n_8, n_24, n_255, n_256, n_576, n_4000, nI_add, pk_mul, n_sub, n_cl, n_lt, n_le, n_eq, not_true_eq_false, not_false_eq_true] at c) <;> omega)))⟩
        exact hk
      · intro k_144 hk
        rw [w_MO_change_22]
        refine ⟨fun _ => ?_, fun c => (by exfalso; (first | omega | ((try simp (disch := omega) only [n_0, n_1, n_2, n_3, n_4, n_5, n_6, n_8, n_24, n_255, n_256, n_576, n_4000, nI_add, pk_mul, n_sub, n_cl, n_lt, n_le, n_eq, not_true_eq_false, not_false_eq_true] at c) <;> omega)))⟩
        exact hk
    · have r1 := run_le (P := dP f g (y * W + x)) (W - x) 0
      generalize hr : run (dP f g (y * W + x)) (W - x) 0 = r at r1
      by_cases r0 : r = 0
      · obtain ⟨x', T', q', hA, hc, hm⟩ := ih (x + 1) T q (by omega) (by omega) (by omega) hb
        refine ⟨x', T', q', hA, ?_, ?_⟩
        · intro k_64 hk
          have z := hc k_64 hk
          rw [w_CH_write_17]
          refine ⟨fun c => (by exfalso; (first | omega | ((try simp (disch := omega) only [n_0, n_1, n_2, n_3, n_4, n_5, n_6, n_8, n_24, n_255, n_256, n_576, n_4000, nI_add, pk_mul, n_sub, n_cl, n_lt, n_le, n_eq, not_true_eq_false, not_false_eq_true] at c) <;> omega))), fun _ => ?_⟩
          unfold w_CH_differing
          refine ⟨W - x + 1, s_CH_differing_3 hW hH hy (W - x) 0 (by omega) ?_⟩
          rw [hr, r0]
          refine ⟨fun _ => ?_, fun c => (by exfalso; (first | omega | ((try simp (disch := omega) only [n_0, n_1, n_2, n_3, n_4, n_5, n_6, n_8, n_24, n_255, n_256, n_576, n_4000, nI_add, pk_mul, n_sub, n_cl, n_lt, n_le, n_eq, not_true_eq_false, not_false_eq_true] at c) <;> omega)))⟩
          rw [n_1, nI_add]
          exact z
        · intro k_144 hk
          have z := hm k_144 hk
          rw [w_MO_change_22]
          refine ⟨fun c => (by exfalso; (first | omega | ((try simp (disch := omega) only [n_0, n_1, n_2, n_3, n_4, n_5, n_6, n_8, n_24, n_255, n_256, n_576, n_4000, nI_add, pk_mul, n_sub, n_cl, n_lt, n_le, n_eq, not_true_eq_false, not_false_eq_true] at c) <;> omega))), fun _ => ?_⟩
          refine ⟨W - x + 1, s_MO_change_32 hW hH hy (W - x) 0 (by omega) ?_⟩
          rw [hr, r0]
          refine ⟨fun _ => ?_, fun c => (by exfalso; (first | omega | ((try simp (disch := omega) only [n_0, n_1, n_2, n_3, n_4, n_5, n_6, n_8, n_24, n_255, n_256, n_576, n_4000, nI_add, pk_mul, n_sub, n_cl, n_lt, n_le, n_eq, not_true_eq_false, not_false_eq_true] at c) <;> omega)))⟩
          rw [n_1, nI_add, nI_add]
          exact z
      · obtain ⟨x', T', q', hA, hc, hm⟩ := ih (x + r + 1) (T + 3 + r) (ap g r (y * W + x) (T + 3) (upd (upd (upd q T (nI x)) (T + 1) (nI y)) (T + 2) (nI r))) (by omega) (by omega) (by omega) (ap_by hg _ _ _ _ (upd_by (upd_by (upd_by hb (by_nI (by omega))) (by_nI (by omega))) (by_nI (by omega))))
        refine ⟨x', T', q', hA, ?_, ?_⟩
        · intro k_64 hk
          have z := hc k_64 hk
          rw [w_CH_write_17]
          refine ⟨fun c => (by exfalso; (first | omega | ((try simp (disch := omega) only [n_0, n_1, n_2, n_3, n_4, n_5, n_6, n_8, n_24, n_255, n_256, n_576, n_4000, nI_add, pk_mul, n_sub, n_cl, n_lt, n_le, n_eq, not_true_eq_false, not_false_eq_true] at c) <;> omega))), fun _ => ?_⟩
          unfold w_CH_differing
          refine ⟨W - x + 1, s_CH_differing_3 hW hH hy (W - x) 0 (by omega) ?_⟩
          rw [hr]
          refine ⟨fun c => (by exfalso; (first | omega | ((try simp (disch := omega) only [n_0, n_1, n_2, n_3, n_4, n_5, n_6, n_8, n_24, n_255, n_256, n_576, n_4000, nI_add, pk_mul, n_sub, n_cl, n_lt, n_le, n_eq, not_true_eq_false, not_false_eq_true] at c) <;> omega))), fun _ => ?_⟩
          unfold w_CH_writeRun
          refine s_BR_add (by omega) (by omega) ?_
          refine s_BR_add (by omega) (by omega) ?_
          refine s_BR_add (by omega) (by omega) ?_
          refine ⟨r + 1, s_CH_writeRun_21 hW hH hy (by omega) (by omega) r 0 (T + 3) _ (by omega) (by omega) ?_⟩
          rw [nI_add, n_1, nI_add]
          exact z
        · intro k_144 hk
          have z := hm k_144 hk
          rw [w_MO_change_22]
          refine ⟨fun c => (by exfalso; (first | omega | ((try simp (disch := omega) only [n_0, n_1, n_2, n_3, n_4, n_5, n_6, n_8, n_24, n_255, n_256, n_576, n_4000, nI_add, pk_mul, n_sub, n_cl, n_lt, n_le, n_eq, not_true_eq_false, not_false_eq_true] at c) <;> omega))), fun _ => ?_⟩
          refine ⟨W - x + 1, s_MO_change_32 hW hH hy (W - x) 0 (by omega) ?_⟩
          rw [hr]
          refine ⟨fun c => (by exfalso; (first | omega | ((try simp (disch := omega) only [n_0, n_1, n_2, n_3, n_4, n_5, n_6, n_8, n_24, n_255, n_256, n_576, n_4000, nI_add, pk_mul, n_sub, n_cl, n_lt, n_le, n_eq, not_true_eq_false, not_false_eq_true] at c) <;> omega))), fun _ => ?_⟩
          refine s_MO_say (by omega) ?_
          refine s_MO_say (by omega) ?_
          refine s_MO_say (by omega) ?_
          refine ⟨r + 1, s_MO_change_103 hW hH hy (by omega) r 0 (T + 3) _ (by omega) (by omega) ?_⟩
          rw [n_1, nI_add, nI_add, ← Nat.add_assoc x r 1]
          exact z
theorem ch_all {o0_fedSize o0_parts o0_plain o0_best o0_bestOne o0_bestTwo o0_place : Int32} {o0_open o0_read o0_fed o0_part : Nat → Int32} {W H : Nat} (hW : W ≤ 24) (hH : H ≤ 24) {f g : Nat → Int32} (hg : BY g) : ∀ d y T q, y + d = H → T ≤ y * (2 * W + 2) → BY q → ∃ (T' : Nat) (q' : Nat → Int32), (T' ≤ H * (2 * W + 2) ∧ BY q') ∧
    (∀ k_70 : Int32 → Int32 → (Nat → Int32) → Prop, k_70 (nI H) (nI T') q' → w_CH_write_6 (nI W) (nI H) (W * H) f (nI W) (nI H) (W * H) g (H * (2 * W + 2) + 1) k_70 (d + 1) (nI y) (nI T) q) ∧
    (∀ k_150 : Int32 → Int32 → (Nat → Int32) → Prop, k_150 (nI H) (nI T') q' → w_MO_change_12 (nI W) (nI H) o0_fedSize o0_parts o0_plain o0_best o0_bestOne o0_bestTwo o0_place 576 f 576 g 576 o0_open 576 o0_read 4000 4000 o0_fed 3600 o0_part k_150 (d + 1) (nI y) (nI T) q) := by
  intro d
  induction d with
  | zero =>
    intro y T q h hT hb
    have e : y = H := by omega
    subst e
    refine ⟨T, q, ⟨hT, hb⟩, ?_, ?_⟩
    · intro k_70 hk
      rw [w_CH_write_6]
      refine ⟨fun _ => ?_, fun c => (by exfalso; (first | omega | ((try simp (disch := omega) only [n_0, n_1, n_2, n_3, n_4, n_5, n_6, n_8, n_24, n_255, n_256, n_576, n_4000, nI_add, pk_mul, n_sub, n_cl, n_lt, n_le, n_eq, not_true_eq_false, not_false_eq_true] at c) <;> omega)))⟩
      exact hk
    · intro k_150 hk
      rw [w_MO_change_12]
      refine ⟨fun _ => ?_, fun c => (by exfalso; (first | omega | ((try simp (disch := omega) only [n_0, n_1, n_2, n_3, n_4, n_5, n_6, n_8, n_24, n_255, n_256, n_576, n_4000, nI_add, pk_mul, n_sub, n_cl, n_lt, n_le, n_eq, not_true_eq_false, not_false_eq_true] at c) <;> omega)))⟩
      exact hk
  | succ d ih =>
    intro y T q h hT hb
    obtain ⟨x1, T1, q1, hA1, hc1, hm1⟩ := ch_row (o0_fedSize := o0_fedSize) (o0_parts := o0_parts) (o0_plain := o0_plain) (o0_best := o0_best) (o0_bestOne := o0_bestOne) (o0_bestTwo := o0_bestTwo) (o0_place := o0_place) (o0_open := o0_open) (o0_read := o0_read) (o0_fed := o0_fed) (o0_part := o0_part) hW hH (show y < H by omega) (f := f) hg (W + 2) 0 T q (by omega) (by omega) (by omega) hb
    obtain ⟨T', q', hA, hc, hm⟩ := ih (y + 1) T1 q1 (by omega) hA1.1 hA1.2
    refine ⟨T', q', hA, ?_, ?_⟩
    · intro k_70 hk
      rw [w_CH_write_6]
      refine ⟨fun c => (by exfalso; (first | omega | ((try simp (disch := omega) only [n_0, n_1, n_2, n_3, n_4, n_5, n_6, n_8, n_24, n_255, n_256, n_576, n_4000, nI_add, pk_mul, n_sub, n_cl, n_lt, n_le, n_eq, not_true_eq_false, not_false_eq_true] at c) <;> omega))), fun _ => ?_⟩
      refine ⟨W + 2, hc1 _ ?_⟩
      rw [n_1, nI_add]
      exact hc k_70 hk
    · intro k_150 hk
      rw [w_MO_change_12]
      refine ⟨fun c => (by exfalso; (first | omega | ((try simp (disch := omega) only [n_0, n_1, n_2, n_3, n_4, n_5, n_6, n_8, n_24, n_255, n_256, n_576, n_4000, nI_add, pk_mul, n_sub, n_cl, n_lt, n_le, n_eq, not_true_eq_false, not_false_eq_true] at c) <;> omega))), fun _ => ?_⟩
      refine ⟨W + 2, hm1 _ ?_⟩
      rw [n_1, nI_add]
      exact hm k_150 hk
theorem ch_ex {o0_toldSize o0_fedSize o0_parts o0_plain o0_best o0_bestOne o0_bestTwo o0_fault o0_place o2_count : Int32} {o0_open o0_read o0_fed o0_part : Nat → Int32} {W H : Nat} (hW : W ≤ 24) (hH : H ≤ 24) {f g q : Nat → Int32} (hg : BY g) (hq : BY q) :
    ∃ (T' : Nat) (q' : Nat → Int32), (T' ≤ H * (2 * W + 2) + 1 ∧ BY q') ∧
    (∀ post : Int32 → (Nat → Int32) → Prop, post (nI T') q' → w_CH_write (nI W) (nI H) (W * H) f (nI W) (nI H) (W * H) g o2_count (H * (2 * W + 2) + 1) q post) ∧
    (∀ post : Int32 → Int32 → Int32 → (Nat → Int32) → Prop, post (nI T') 0 (nI T') q' → w_MO_change (nI W) (nI H) o0_fault o0_toldSize o0_fedSize o0_parts o0_plain o0_best o0_bestOne o0_bestTwo o0_place 576 f 576 g 576 o0_open 576 o0_read 4000 q 4000 o0_fed 3600 o0_part post) := by
  have hC2 : H * (2 * W + 2) ≤ 24 * 50 := Nat.mul_le_mul hH (by omega)
  obtain ⟨T, q', ⟨hT, hb⟩, hc, hm⟩ := ch_all (o0_fedSize := o0_fedSize) (o0_parts := o0_parts) (o0_plain := o0_plain) (o0_best := o0_best) (o0_bestOne := o0_bestOne) (o0_bestTwo := o0_bestTwo) (o0_place := o0_place) (o0_open := o0_open) (o0_read := o0_read) (o0_fed := o0_fed) (o0_part := o0_part) hW hH (f := f) hg H 0 0 q (by omega) (by omega) hq
  refine ⟨T + 1, upd q' T 255, ⟨by omega, upd_by hb (by_nI (t := 255) (by omega))⟩, ?_, ?_⟩
  · intro post h
    unfold w_CH_write w_BR_drop
    refine ⟨H + 1, hc _ ?_⟩
    exact s_BR_add (by omega) (by omega) h
  · intro post h
    unfold w_MO_change
    refine ⟨H + 1, hm _ ?_⟩
    exact s_MO_say (by omega) h
