/-! PURE ROWS: rows of bytes; whole copies; differences. Own work. -/
theorem s_BR_get_in {post : Int32 → Prop} {F N : Nat} {q : Nat → Int32} {i : Nat} (hF : F ≤ N) (hN : N ≤ 4000) (hi : i < F) (hp : post (q i)) : w_BR_get (nI F) N q (nI i) post := by
  unfold w_BR_get
  refine ⟨fun c => (by exfalso; (first | omega | ((try simp (disch := omega) only [n_0, n_1, n_2, n_3, n_4, n_5, n_6, n_8, n_24, n_255, n_256, n_576, n_4000, nI_add, pk_mul, n_sub, n_cl, n_lt, n_le, n_eq, not_true_eq_false, not_false_eq_true] at c) <;> omega))), fun _ => ?_⟩
  refine ⟨fun c => (by exfalso; (first | omega | ((try simp (disch := omega) only [n_0, n_1, n_2, n_3, n_4, n_5, n_6, n_8, n_24, n_255, n_256, n_576, n_4000, nI_add, pk_mul, n_sub, n_cl, n_lt, n_le, n_eq, not_true_eq_false, not_false_eq_true] at c) <;> omega))), fun _ => ?_⟩
  refine ⟨fun c => (by exfalso; (first | omega | ((try simp (disch := omega) only [n_0, n_1, n_2, n_3, n_4, n_5, n_6, n_8, n_24, n_255, n_256, n_576, n_4000, nI_add, pk_mul, n_sub, n_cl, n_lt, n_le, n_eq, not_true_eq_false, not_false_eq_true] at c) <;> omega))), fun _ => ?_⟩
  refine ⟨n_in (by omega) (by omega), ?_⟩
  rwa [n_cl (by omega)]
theorem s_BR_get_out {post : Int32 → Prop} {F N : Nat} {q : Nat → Int32} {i : Nat} (hN : N ≤ 4000) (hF : F ≤ N) (hi : F ≤ i) (hi2 : i < 100000) (hp : post (-1)) : w_BR_get (nI F) N q (nI i) post := by
  unfold w_BR_get
  refine ⟨fun c => (by exfalso; (first | omega | ((try simp (disch := omega) only [n_0, n_1, n_2, n_3, n_4, n_5, n_6, n_8, n_24, n_255, n_256, n_576, n_4000, nI_add, pk_mul, n_sub, n_cl, n_lt, n_le, n_eq, not_true_eq_false, not_false_eq_true] at c) <;> omega))), fun _ => ?_⟩
  refine ⟨fun _ => ?_, fun c => (by exfalso; (first | omega | ((try simp (disch := omega) only [n_0, n_1, n_2, n_3, n_4, n_5, n_6, n_8, n_24, n_255, n_256, n_576, n_4000, nI_add, pk_mul, n_sub, n_cl, n_lt, n_le, n_eq, not_true_eq_false, not_false_eq_true] at c) <;> omega)))⟩
  exact hp
theorem s_BR_add {x1 : Int32} {post : Int32 → (Nat → Int32) → Prop} {F N : Nat} {q : Nat → Int32} (hF : F < N) (hN : N ≤ 4000) (hp : post (nI (F + 1)) (upd q F x1)) : w_BR_add (nI F) N q x1 post := by
  unfold w_BR_add
  refine ⟨fun c => (by exfalso; (first | omega | ((try simp (disch := omega) only [n_0, n_1, n_2, n_3, n_4, n_5, n_6, n_8, n_24, n_255, n_256, n_576, n_4000, nI_add, pk_mul, n_sub, n_cl, n_lt, n_le, n_eq, not_true_eq_false, not_false_eq_true] at c) <;> omega))), fun _ => ?_⟩
  refine ⟨fun c => (by exfalso; (first | omega | ((try simp (disch := omega) only [n_0, n_1, n_2, n_3, n_4, n_5, n_6, n_8, n_24, n_255, n_256, n_576, n_4000, nI_add, pk_mul, n_sub, n_cl, n_lt, n_le, n_eq, not_true_eq_false, not_false_eq_true] at c) <;> omega))), fun _ => ?_⟩
  refine ⟨n_in (by omega) (by omega), ?_⟩
  rw [n_cl (by omega), n_1, nI_add]
  exact hp
/-- bytes put behind others -/
def ap (b : Nat → Int32) : Nat → Nat → Nat → (Nat → Int32) → (Nat → Int32)
  | 0, _, _, q => q
  | d + 1, i, F, q => ap b d (i + 1) (F + 1) (upd q F (b i))
theorem ap_by {b : Nat → Int32} (hb : BY b) : ∀ d i F q, BY q → BY (ap b d i F q) := by
  intro d
  induction d with
  | zero => intro i F q h; exact h
  | succ d ih =>
    intro i F q h
    refine ih (i + 1) (F + 1) _ ?_
    intro j
    by_cases e : j = F
    · rw [e, pk_us]; exact hb i
    · rw [pk_un e]; exact h j
theorem s_BR_addAll_2 {k_25 : Int32 → Int32 → (Nat → Int32) → Prop} {N T M : Nat} {b : Nat → Int32} (hT : T ≤ M) (hM : M ≤ 4000) (hN : N ≤ 4000) : ∀ d i F q, i + d = T → F + d ≤ N → k_25 (nI T) (nI (F + d)) (ap b d i F q) → w_BR_addAll_2 N (nI T) M b k_25 (d + 1) (nI i) (nI F) q := by
  intro d
  induction d with
  | zero =>
    intro i F q h hF hk
    have e : i = T := by omega
    subst e
    rw [w_BR_addAll_2]
    refine ⟨fun _ => ?_, fun c => (by exfalso; (first | omega | ((try simp (disch := omega) only [n_0, n_1, n_2, n_3, n_4, n_5, n_6, n_8, n_24, n_255, n_256, n_576, n_4000, nI_add, pk_mul, n_sub, n_cl, n_lt, n_le, n_eq, not_true_eq_false, not_false_eq_true] at c) <;> omega)))⟩
    exact hk
  | succ d ih =>
    intro i F q h hF hk
    rw [w_BR_addAll_2]
    refine ⟨fun c => (by exfalso; (first | omega | ((try simp (disch := omega) only [n_0, n_1, n_2, n_3, n_4, n_5, n_6, n_8, n_24, n_255, n_256, n_576, n_4000, nI_add, pk_mul, n_sub, n_cl, n_lt, n_le, n_eq, not_true_eq_false, not_false_eq_true] at c) <;> omega))), fun _ => ?_⟩
    refine s_BR_get_in hT hM (by omega) ?_
    refine s_BR_add (by omega) hN ?_
    rw [n_1, nI_add]
    refine ih (i + 1) (F + 1) _ (by omega) (by omega) ?_
    rw [show F + 1 + d = F + (d + 1) by omega]
    exact hk
theorem s_BR_addAll {o0_bytes o1_bytes : Nat → Int32} {post : Int32 → (Nat → Int32) → Prop} {N T M F : Nat} (hT : T ≤ M) (hM : M ≤ 4000) (hN : N ≤ 4000) (hF : F + T ≤ N) (hp : post (nI (F + T)) (ap o1_bytes T 0 F o0_bytes)) : w_BR_addAll (nI F) N o0_bytes (nI T) M o1_bytes post := by
  unfold w_BR_addAll
  exact ⟨T + 1, s_BR_addAll_2 (k_25 := fun (v2_4_10 : Int32) (g_o0_q_1_5_11 : Int32) (f_o0_bytes_q_6_12 : Nat → Int32) => post g_o0_q_1_5_11 f_o0_bytes_q_6_12) hT hM hN T 0 F _ (by omega) hF hp⟩
theorem s_MO_pass_35 {k_74 : Int32 → Int32 → (Nat → Int32) → Prop} {T : Nat} {b : Nat → Int32} (hT : T ≤ 4000) : ∀ d i F q, i + d = T → F + d ≤ 4000 → k_74 (nI T) (nI (F + d)) (ap b d i F q) → w_MO_pass_35 (nI T) 4000 b 4000 k_74 (d + 1) (nI i) (nI F) q := by
  intro d
  induction d with
  | zero =>
    intro i F q h hF hk
    have e : i = T := by omega
    subst e
    rw [w_MO_pass_35]
    refine ⟨fun _ => ?_, fun c => (by exfalso; (first | omega | ((try simp (disch := omega) only [n_0, n_1, n_2, n_3, n_4, n_5, n_6, n_8, n_24, n_255, n_256, n_576, n_4000, nI_add, pk_mul, n_sub, n_cl, n_lt, n_le, n_eq, not_true_eq_false, not_false_eq_true] at c) <;> omega)))⟩
    exact hk
  | succ d ih =>
    intro i F q h hF hk
    rw [w_MO_pass_35]
    refine ⟨fun c => (by exfalso; (first | omega | ((try simp (disch := omega) only [n_0, n_1, n_2, n_3, n_4, n_5, n_6, n_8, n_24, n_255, n_256, n_576, n_4000, nI_add, pk_mul, n_sub, n_cl, n_lt, n_le, n_eq, not_true_eq_false, not_false_eq_true] at c) <;> omega))), fun _ => ?_⟩
    refine ⟨n_in (by omega) (by omega), ?_⟩
    refine ⟨n_in (by omega) (by omega), ?_⟩
    rw [n_cl (by omega), n_cl (by omega), n_1, nI_add, nI_add]
    refine ih (i + 1) (F + 1) _ (by omega) (by omega) ?_
    rw [show F + 1 + d = F + (d + 1) by omega]
    exact hk
theorem s_PI_takeFrom_2 {k_38 : Int32 → (Nat → Int32) → Prop} {N : Nat} (hN : N ≤ 576) {g f : Nat → Int32} (hk : k_38 (nI N) (cp N g f)) : ∀ d i, i + d = N → w_PI_takeFrom_2 N N g k_38 (d + 1) (nI i) (cp i g f) := by
  intro d
  induction d with
  | zero =>
    intro i h
    have e : i = N := by omega
    subst e
    rw [w_PI_takeFrom_2]
    refine ⟨fun _ => ?_, fun c => (by exfalso; (first | omega | ((try simp (disch := omega) only [n_0, n_1, n_2, n_3, n_4, n_5, n_6, n_8, n_24, n_255, n_256, n_576, n_4000, nI_add, pk_mul, n_sub, n_cl, n_lt, n_le, n_eq, not_true_eq_false, not_false_eq_true] at c) <;> omega)))⟩
    exact hk
  | succ d ih =>
    intro i h
    rw [w_PI_takeFrom_2]
    refine ⟨fun c => (by exfalso; (first | omega | ((try simp (disch := omega) only [n_0, n_1, n_2, n_3, n_4, n_5, n_6, n_8, n_24, n_255, n_256, n_576, n_4000, nI_add, pk_mul, n_sub, n_cl, n_lt, n_le, n_eq, not_true_eq_false, not_false_eq_true] at c) <;> omega))), fun _ => ?_⟩
    refine ⟨fun c => (by exfalso; (first | omega | ((try simp (disch := omega) only [n_0, n_1, n_2, n_3, n_4, n_5, n_6, n_8, n_24, n_255, n_256, n_576, n_4000, nI_add, pk_mul, n_sub, n_cl, n_lt, n_le, n_eq, not_true_eq_false, not_false_eq_true] at c) <;> omega))), fun _ => ?_⟩
    refine ⟨n_in (by omega) (by omega), ?_⟩
    refine ⟨n_in (by omega) (by omega), ?_⟩
    rw [n_cl (by omega), n_1, nI_add, cp_s]
    exact ih (i + 1) (by omega)
theorem s_PI_takeFrom {o0_width o0_height o1_width o1_height : Int32} {o0_values o1_values : Nat → Int32} {post : (Nat → Int32) → Prop} {N : Nat} (hN : N ≤ 576) (hp : post (cp N o1_values o0_values)) : w_PI_takeFrom o0_width o0_height N o0_values o1_width o1_height N o1_values post := by
  unfold w_PI_takeFrom
  refine ⟨N + 1, ?_⟩
  have z := s_PI_takeFrom_2 (k_38 := fun (v2_3_5 : Int32) (f_o0_values_q_4_6 : Nat → Int32) => post f_o0_values_q_4_6) hN hp N 0 (by omega)
  rwa [cp_0] at z
/-- how many differ -/
def dif (f g : Nat → Int32) : Nat → Nat
  | 0 => 0
  | k + 1 => if f k = g k then dif f g k else dif f g k + 1
theorem s_PI_differences_4 {k_46 : Int32 → Int32 → Prop} {N : Nat} (hN : N ≤ 576) {f g : Nat → Int32} (hk : k_46 (nI N) (nI (dif g f N))) : ∀ d i, i + d = N → w_PI_differences_4 N f N g k_46 (d + 1) (nI i) (nI (dif g f i)) := by
  intro d
  induction d with
  | zero =>
    intro i h
    have e : i = N := by omega
    subst e
    rw [w_PI_differences_4]
    refine ⟨fun _ => ?_, fun c => (by exfalso; (first | omega | ((try simp (disch := omega) only [n_0, n_1, n_2, n_3, n_4, n_5, n_6, n_8, n_24, n_255, n_256, n_576, n_4000, nI_add, pk_mul, n_sub, n_cl, n_lt, n_le, n_eq, not_true_eq_false, not_false_eq_true] at c) <;> omega)))⟩
    exact hk
  | succ d ih =>
    intro i h
    have z := ih (i + 1) (by omega)
    rw [w_PI_differences_4]
    refine ⟨fun c => (by exfalso; (first | omega | ((try simp (disch := omega) only [n_0, n_1, n_2, n_3, n_4, n_5, n_6, n_8, n_24, n_255, n_256, n_576, n_4000, nI_add, pk_mul, n_sub, n_cl, n_lt, n_le, n_eq, not_true_eq_false, not_false_eq_true] at c) <;> omega))), fun _ => ?_⟩
    refine ⟨fun c => (by exfalso; (first | omega | ((try simp (disch := omega) only [n_0, n_1, n_2, n_3, n_4, n_5, n_6, n_8, n_24, n_255, n_256, n_576, n_4000, nI_add, pk_mul, n_sub, n_cl, n_lt, n_le, n_eq, not_true_eq_false, not_false_eq_true] at c) <;> omega))), fun _ => ?_⟩
    refine ⟨n_in (by omega) (by omega), ?_⟩
    refine ⟨n_in (by omega) (by omega), ?_⟩
    rw [n_cl (by omega), n_1, nI_add, nI_add]
    refine ⟨fun e => ?_, fun e => ?_⟩
    · simp only [dif, if_pos e.symm] at z
      exact z
    · simp only [dif, if_neg (fun q : g i = f i => e q.symm)] at z
      exact z
theorem s_PI_differences {o0_width o0_height o1_width o1_height : Int32} {o0_values o1_values : Nat → Int32} {post : Int32 → Prop} {N : Nat} (hN : N ≤ 576) (hp : post (nI (dif o1_values o0_values N))) : w_PI_differences o0_width o0_height N o0_values o1_width o1_height N o1_values post := by
  unfold w_PI_differences
  exact ⟨N + 1, s_PI_differences_4 (k_46 := fun (v3_3_5 : Int32) (v2_4_6 : Int32) => post v2_4_6) hN hp N 0 (by omega)⟩
theorem s_MO_pass {o0_fault o0_parts o0_plain o0_best o0_bestOne o0_bestTwo o0_place : Int32} {o0_first o0_other o0_open o0_read o0_toldBytes o0_fed o0_part : Nat → Int32} {post : Int32 → Int32 → Int32 → (Nat → Int32) → Prop} {W H T F : Nat} (hT : T ≤ 4000) (h1 : F + T ≤ 4000 → post (nI (F + T)) 0 (nI (F + T)) (ap o0_toldBytes T 0 F o0_fed)) (h2 : 4000 < F + T → post 0 1 (nI F) o0_fed) (hF : F ≤ 4000) : w_MO_pass (nI W) (nI H) o0_fault (nI T) (nI F) o0_parts o0_plain o0_best o0_bestOne o0_bestTwo o0_place 576 o0_first 576 o0_other 576 o0_open 576 o0_read 4000 o0_toldBytes 4000 o0_fed 3600 o0_part post := by
  unfold w_MO_pass
  by_cases c : F + T ≤ 4000
  · refine ⟨fun _ => ?_, fun c => (by exfalso; (first | omega | ((try simp (disch := omega) only [n_0, n_1, n_2, n_3, n_4, n_5, n_6, n_8, n_24, n_255, n_256, n_576, n_4000, nI_add, pk_mul, n_sub, n_cl, n_lt, n_le, n_eq, not_true_eq_false, not_false_eq_true] at c) <;> omega)))⟩
    exact ⟨T + 1, s_MO_pass_35 (k_74 := fun (v1_4_7 : Int32) (g_o0_q_9_5_8 : Int32) (f_o0_fed_q_6_9 : Nat → Int32) => post g_o0_q_9_5_8 0 g_o0_q_9_5_8 f_o0_fed_q_6_9) hT T 0 F _ (by omega) c (h1 c)⟩
  · refine ⟨fun c => (by exfalso; (first | omega | ((try simp (disch := omega) only [n_0, n_1, n_2, n_3, n_4, n_5, n_6, n_8, n_24, n_255, n_256, n_576, n_4000, nI_add, pk_mul, n_sub, n_cl, n_lt, n_le, n_eq, not_true_eq_false, not_false_eq_true] at c) <;> omega))), fun _ => ?_⟩
    exact h2 (by omega)
theorem s_MO_swap_9 {o0_toldSize o0_fedSize o0_parts o0_plain o0_best o0_bestOne o0_bestTwo o0_place : Int32} {o0_open o0_read o0_toldBytes o0_fed o0_part : Nat → Int32} {k_67 : Int32 → Int32 → (Nat → Int32) → (Nat → Int32) → Prop} {W H : Nat} (hW : W ≤ 24) (hH : H ≤ 24) {f g : Nat → Int32} (hk : k_67 (nI (W * H)) (nI (dif f g (W * H))) (cp (W * H) g f) (cp (W * H) f g)) : ∀ d i, i + d = W * H → w_MO_swap_9 (nI W) (nI H) o0_toldSize o0_fedSize o0_parts o0_plain o0_best o0_bestOne o0_bestTwo o0_place 576 576 576 o0_open 576 o0_read 4000 o0_toldBytes 4000 o0_fed 3600 o0_part k_67 (d + 1) (nI i) (nI (dif f g i)) (cp i g f) (cp i f g) := by
  have hs := pl_le hW hH
  intro d
  induction d with
  | zero =>
    intro i h
    have e : i = W * H := by omega
    subst e
    rw [w_MO_swap_9]
    refine s_MO_size ?_
    refine ⟨fun _ => ?_, fun c => (by exfalso; (first | omega | ((try simp (disch := omega) only [n_0, n_1, n_2, n_3, n_4, n_5, n_6, n_8, n_24, n_255, n_256, n_576, n_4000, nI_add, pk_mul, n_sub, n_cl, n_lt, n_le, n_eq, not_true_eq_false, not_false_eq_true] at c) <;> omega)))⟩
    exact hk
  | succ d ih =>
    intro i h
    have z := ih (i + 1) (by omega)
    rw [w_MO_swap_9]
    refine s_MO_size ?_
    refine ⟨fun c => (by exfalso; (first | omega | ((try simp (disch := omega) only [n_0, n_1, n_2, n_3, n_4, n_5, n_6, n_8, n_24, n_255, n_256, n_576, n_4000, nI_add, pk_mul, n_sub, n_cl, n_lt, n_le, n_eq, not_true_eq_false, not_false_eq_true] at c) <;> omega))), fun _ => ?_⟩
    refine ⟨n_in (by omega) (by omega), ?_⟩
    refine ⟨n_in (by omega) (by omega), ?_⟩
    rw [n_cl (by omega), n_1, nI_add, nI_add, cp_ge (f := f) (Nat.le_refl i), cp_ge (f := g) (Nat.le_refl i), cp_s, cp_s]
    refine ⟨fun e => ⟨n_in (by omega) (by omega), n_in (by omega) (by omega), n_in (by omega) (by omega), ?_⟩, fun e => ⟨n_in (by omega) (by omega), n_in (by omega) (by omega), n_in (by omega) (by omega), ?_⟩⟩
    · simp only [dif, if_pos e] at z
      exact z
    · simp only [dif, if_neg e] at z
      exact z
theorem s_MO_swap {o0_fault o0_toldSize o0_fedSize o0_parts o0_plain o0_best o0_bestOne o0_bestTwo o0_place : Int32} {o0_first o0_other o0_open o0_read o0_toldBytes o0_fed o0_part : Nat → Int32} {post : Int32 → Int32 → (Nat → Int32) → (Nat → Int32) → Prop} {W H : Nat} (hW : W ≤ 24) (hH : H ≤ 24) (hp : post (nI (dif o0_first o0_other (W * H))) 0 (cp (W * H) o0_other o0_first) (cp (W * H) o0_first o0_other)) : w_MO_swap (nI W) (nI H) o0_fault o0_toldSize o0_fedSize o0_parts o0_plain o0_best o0_bestOne o0_bestTwo o0_place 576 o0_first 576 o0_other 576 o0_open 576 o0_read 4000 o0_toldBytes 4000 o0_fed 3600 o0_part post := by
  unfold w_MO_swap
  refine ⟨W * H + 1, ?_⟩
  have z := s_MO_swap_9 (o0_toldSize := o0_toldSize) (o0_fedSize := o0_fedSize) (o0_parts := o0_parts) (o0_plain := o0_plain) (o0_best := o0_best) (o0_bestOne := o0_bestOne) (o0_bestTwo := o0_bestTwo) (o0_place := o0_place) (o0_open := o0_open) (o0_read := o0_read) (o0_toldBytes := o0_toldBytes) (o0_fed := o0_fed) (o0_part := o0_part) (k_67 := fun (v2_5_10 : Int32) (v1_6_11 : Int32) (f_o0_first_q_7_12 : Nat → Int32) (f_o0_other_q_8_13 : Nat → Int32) => post v1_6_11 0 f_o0_first_q_7_12 f_o0_other_q_8_13) hW hH hp (W * H) 0 (by omega)
  rwa [cp_0, cp_0] at z
theorem s_MO_clear_7 {k_34 : Int32 → (Nat → Int32) → (Nat → Int32) → Prop} {f g : Nat → Int32} (hk : k_34 (nI 576) (cp 576 (fun _ => 0) f) (cp 576 (fun _ => 0) g)) : ∀ d i, i + d = 576 → w_MO_clear_7 576 576 k_34 (d + 1) (nI i) (cp i (fun _ => 0) f) (cp i (fun _ => 0) g) := by
  intro d
  induction d with
  | zero =>
    intro i h
    have e : i = 576 := by omega
    subst e
    rw [w_MO_clear_7]
    refine ⟨fun _ => ?_, fun c => (by exfalso; (first | omega | ((try simp (disch := omega) only [n_0, n_1, n_2, n_3, n_4, n_5, n_6, n_8, n_24, n_255, n_256, n_576, n_4000, nI_add, pk_mul, n_sub, n_cl, n_lt, n_le, n_eq, not_true_eq_false, not_false_eq_true] at c) <;> omega)))⟩
    exact hk
  | succ d ih =>
    intro i h
    have z := ih (i + 1) (by omega)
    rw [w_MO_clear_7]
    refine ⟨fun c => (by exfalso; (first | omega | ((try simp (disch := omega) only [n_0, n_1, n_2, n_3, n_4, n_5, n_6, n_8, n_24, n_255, n_256, n_576, n_4000, nI_add, pk_mul, n_sub, n_cl, n_lt, n_le, n_eq, not_true_eq_false, not_false_eq_true] at c) <;> omega))), fun _ => ?_⟩
    refine ⟨n_in (by omega) (by omega), ?_⟩
    refine ⟨n_in (by omega) (by omega), ?_⟩
    rw [n_cl (by omega), cp_sv (g := fun _ => 0) (f := f) rfl, cp_sv (g := fun _ => 0) (f := g) rfl, n_1, nI_add]
    exact z
theorem s_MO_clear {o0_wide o0_high o0_fault o0_toldSize o0_fedSize o0_parts o0_plain o0_best o0_bestOne o0_bestTwo o0_place : Int32} {o0_first o0_other o0_open o0_read o0_toldBytes o0_fed o0_part : Nat → Int32} {o0_open_n o0_read_n o0_toldBytes_n o0_fed_n o0_part_n : Nat} {post : Int32 → Int32 → Int32 → Int32 → Int32 → (Nat → Int32) → (Nat → Int32) → Prop} (hp : post 0 0 0 0 0 (cp 576 (fun _ => 0) o0_first) (cp 576 (fun _ => 0) o0_other)) : w_MO_clear o0_wide o0_high o0_fault o0_toldSize o0_fedSize o0_parts o0_plain o0_best o0_bestOne o0_bestTwo o0_place 576 o0_first 576 o0_other o0_open_n o0_open o0_read_n o0_read o0_toldBytes_n o0_toldBytes o0_fed_n o0_fed o0_part_n o0_part post := by
  unfold w_MO_clear
  refine ⟨577, ?_⟩
  have z := s_MO_clear_7 (k_34 := fun (v1_4_7 : Int32) (f_o0_first_q_5_8 : Nat → Int32) (f_o0_other_q_6_9 : Nat → Int32) => post 0 0 0 0 0 f_o0_first_q_5_8 f_o0_other_q_6_9) hp 576 0 (by omega)
  rwa [cp_0, cp_0] at z
