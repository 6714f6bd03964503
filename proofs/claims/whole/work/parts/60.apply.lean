/-! PURE ROWS: apply. Own work. -/
theorem ap_zb {b : Nat → Int32} {N : Nat} : ∀ d i F q, ZB N q → F + d ≤ N → ZB N (ap b d i F q) := by
  intro d
  induction d with
  | zero => intro i F q h _; exact h
  | succ d ih =>
    intro i F q h hF
    refine ih (i + 1) (F + 1) _ ?_ (by omega)
    intro j hj
    rw [pk_un (by omega)]; exact h j hj
theorem s_BR_get_any {o0_bytes : Nat → Int32} {post : Int32 → Prop} {F N i : Nat} (hF : F ≤ N) (hN : N ≤ 4000) (hi : i < 100000) (h : ∀ r, post r) : w_BR_get (nI F) N o0_bytes (nI i) post := by
  by_cases c : i < F
  · exact s_BR_get_in hF hN c (h _)
  · exact s_BR_get_out hN hF (by omega) hi (h _)
def RR (W H F : Nat) (q : Nat → Int32) (p : Nat) : Prop := p + 3 ≤ F ∧ ROK W H (bn q p) (bn q (p + 1)) (bn q (p + 2)) 1 ∧ p + 3 + bn q (p + 2) ≤ F
theorem s_CH_readRun_55 {k_89 : Int32 → (Nat → Int32) → Prop} {W H F x y n p : Nat} (hW : W ≤ 24) (hH : H ≤ 24) (hF : F ≤ 4000) (hx : x + n ≤ W) (hy : y < H) (hp : p + 3 + n ≤ F) {q : Nat → Int32} : ∀ d i f, i + d = n → k_89 (nI n) (ap q d (p + 3 + i) (y * W + x + i) f) → w_CH_readRun_55 (nI p) (nI F) 4000 q (nI W) (nI H) (W * H) (nI x) (nI y) (nI n) k_89 (d + 1) (nI i) f := by
  intro d
  induction d with
  | zero =>
    intro i f h hk
    have e : i = n := by omega
    subst e
    rw [w_CH_readRun_55]
    refine ⟨fun _ => ?_, fun c => (by exfalso; (first | omega | ((try simp (disch := omega) only [n_0, n_1, n_2, n_3, n_4, n_5, n_6, n_8, n_24, n_255, n_256, n_576, n_4000, nI_add, pk_mul, n_sub, n_cl, n_lt, n_le, n_eq, not_true_eq_false, not_false_eq_true] at c) <;> omega)))⟩
    exact hk
  | succ d ih =>
    intro i f h hk
    rw [w_CH_readRun_55]
    refine ⟨fun c => (by exfalso; (first | omega | ((try simp (disch := omega) only [n_0, n_1, n_2, n_3, n_4, n_5, n_6, n_8, n_24, n_255, n_256, n_576, n_4000, nI_add, pk_mul, n_sub, n_cl, n_lt, n_le, n_eq, not_true_eq_false, not_false_eq_true] at c) <;> omega))), fun _ => ?_⟩
    rw [n_3, n_1, nI_add, nI_add, nI_add, nI_add]
    refine s_BR_get_in (by omega) (by omega) (show p + 3 + i < F by omega) ?_
    refine s_paint_in hW hH (show x + i < W by omega) hy ?_
    refine ih (i + 1) _ (by omega) ?_
    rw [show y * W + (x + i) = y * W + x + i by omega]
    exact hk
theorem s_CH_readRun {o2_values : Nat → Int32} {post : Int32 → (Nat → Int32) → Prop} {W H F p : Nat} (hW : W ≤ 24) (hH : H ≤ 24) (hF : F ≤ 4000) (hp : p ≤ F) {q : Nat → Int32} (hq : BY q) (h1 : RR W H F q p → post (nI (bn q (p + 2))) (ap q (bn q (p + 2)) (p + 3) (bn q (p + 1) * W + bn q p) o2_values)) (h2 : ¬ RR W H F q p → post 0 o2_values) : w_CH_readRun (nI F) 4000 q (nI W) (nI H) (W * H) o2_values (nI p) post := by
  have l0 := bn_le hq p
  have l1 := bn_le hq (p + 1)
  have l2 := bn_le hq (p + 2)
  have e0 := bn_eq hq p
  have e1 := bn_eq hq (p + 1)
  have e2 := bn_eq hq (p + 2)
  unfold w_CH_readRun
  simp only [n_1, n_2, n_3, nI_add]
  by_cases c : p + 3 ≤ F
  · refine s_BR_get_in (by omega) (by omega) (show p < F by omega) ?_
    refine s_BR_get_in (by omega) (by omega) (show p + 1 < F by omega) ?_
    refine s_BR_get_in (by omega) (by omega) (show p + 2 < F by omega) ?_
    rw [e0, e1, e2]
    refine s_holds hW hH ?_
    rw [ni_t (by omega), ni_t (by omega), ni_t (by omega), ni_t (by omega)]
    by_cases ho : ROK W H (bn q p) (bn q (p + 1)) (bn q (p + 2)) 1
    · have ho' := ho
      unfold ROK at ho'
      rw [if_pos (by omega)]
      refine ⟨fun c => absurd c (by decide), fun _ => ?_⟩
      rw [n_sub hp, n_sub (by omega)]
      by_cases c3 : p + 3 + bn q (p + 2) ≤ F
      · refine ⟨fun _ => ?_, fun c => (by exfalso; (first | omega | ((try simp (disch := omega) only [n_0, n_1, n_2, n_3, n_4, n_5, n_6, n_8, n_24, n_255, n_256, n_576, n_4000, nI_add, pk_mul, n_sub, n_cl, n_lt, n_le, n_eq, not_true_eq_false, not_false_eq_true] at c) <;> omega)))⟩
        refine ⟨bn q (p + 2) + 1, ?_⟩
        exact s_CH_readRun_55 (k_89 := fun (v6_7_12 : Int32) (f_o2_values_q_8_13 : Nat → Int32) => post (nI (bn q (p + 2))) f_o2_values_q_8_13) hW hH hF (by omega) (by omega) c3 _ 0 _ (by omega) (h1 ⟨c, ho, c3⟩)
      · refine ⟨fun c => (by exfalso; (first | omega | ((try simp (disch := omega) only [n_0, n_1, n_2, n_3, n_4, n_5, n_6, n_8, n_24, n_255, n_256, n_576, n_4000, nI_add, pk_mul, n_sub, n_cl, n_lt, n_le, n_eq, not_true_eq_false, not_false_eq_true] at c) <;> omega))), fun _ => ?_⟩
        exact h2 (fun w => c3 w.2.2)
    · have r := h2 (fun w => ho w.2.1)
      unfold ROK at ho
      rw [if_neg (by omega)]
      exact ⟨fun _ => r, fun c => absurd rfl c⟩
  · refine s_BR_get_any (by omega) (by omega) (by omega) ?_
    intro r1
    refine s_BR_get_any (by omega) (by omega) (by omega) ?_
    intro r2
    refine s_BR_get_out (by omega) (by omega) (show F ≤ p + 2 by omega) (by omega) ?_
    refine s_holds hW hH ?_
    rw [if_neg (fun w => absurd w.2.1 (by decide))]
    exact ⟨fun _ => h2 (fun w => c w.1), fun c => absurd rfl c⟩
theorem s_MO_readRun_93 {k_135 : Int32 → (Nat → Int32) → Prop} {W H F x y n p : Nat} (hW : W ≤ 24) (hH : H ≤ 24) (hF : F ≤ 4000) (hx : x + n ≤ W) (hy : y < H) (hp : p + 3 + n ≤ F) {q : Nat → Int32} (e0 : q p = nI x) (e1 : q (p + 1) = nI y) (e2 : q (p + 2) = nI n) : ∀ d i f, i + d = n → k_135 (nI n) (ap q d (p + 3 + i) (y * W + x + i) f) → w_MO_readRun_93 (nI W) (nI p) 576 4000 q k_135 (d + 1) (nI i) f := by
  have hs := pl_le hW hH
  intro d
  induction d with
  | zero =>
    intro i f h hk
    have e : i = n := by omega
    subst e
    rw [w_MO_readRun_93]
    simp (disch := omega) only [n_1, n_2, nI_add, n_cl, e2]
    refine ⟨fun _ => ?_, fun c => (by exfalso; (first | omega | ((try simp (disch := omega) only [n_0, n_1, n_2, n_3, n_4, n_5, n_6, n_8, n_24, n_255, n_256, n_576, n_4000, nI_add, pk_mul, n_sub, n_cl, n_lt, n_le, n_eq, not_true_eq_false, not_false_eq_true] at c) <;> omega)))⟩
    exact hk
  | succ d ih =>
    intro i f h hk
    have z1 := @pl_lt W H (x + i) y (by omega) (by omega)
    rw [w_MO_readRun_93]
    simp (disch := omega) only [n_1, n_2, n_3, nI_add, n_cl, e0, e1, e2]
    refine ⟨fun c => (by exfalso; (first | omega | ((try simp (disch := omega) only [n_0, n_1, n_2, n_3, n_4, n_5, n_6, n_8, n_24, n_255, n_256, n_576, n_4000, nI_add, pk_mul, n_sub, n_cl, n_lt, n_le, n_eq, not_true_eq_false, not_false_eq_true] at c) <;> omega))), fun _ => ?_⟩
    simp (disch := omega) only [pk_mul, nI_add]
    rw [Nat.mul_comm W y]
    refine ⟨n_in (by omega) (by omega), ?_⟩
    refine ⟨n_in (by omega) (by omega), ?_⟩
    rw [n_cl (by omega)]
    exact ih (i + 1) _ (by omega) hk
theorem s_MO_readRun {o0_fault o0_toldSize o0_parts o0_plain o0_bestOne o0_bestTwo : Int32} {o0_first o0_other o0_open o0_read o0_toldBytes o0_part : Nat → Int32} {post : Int32 → Int32 → Int32 → (Nat → Int32) → Prop} {W H F p s : Nat} (h1W : 1 ≤ W) (hW : W ≤ 24) (h1H : 1 ≤ H) (hH : H ≤ 24) (hF : F ≤ 4000) (hp : p ≤ F) {q : Nat → Int32} (hq : BY q) (h1 : RR W H F q p → post 1 (nI (s + bn q (p + 2))) (nI (p + (3 + bn q (p + 2)))) (ap q (bn q (p + 2)) (p + 3) (bn q (p + 1) * W + bn q p) o0_read)) (h2 : ¬ RR W H F q p → post 0 (nI s) (nI p) o0_read) : w_MO_readRun (nI W) (nI H) o0_fault o0_toldSize (nI F) o0_parts o0_plain (nI s) o0_bestOne o0_bestTwo (nI p) 576 o0_first 576 o0_other 576 o0_open 576 o0_read 4000 o0_toldBytes 4000 q 3600 o0_part post := by
  have l0 := bn_le hq p
  have l1 := bn_le hq (p + 1)
  have l2 := bn_le hq (p + 2)
  have e0 := bn_eq hq p
  have e1 := bn_eq hq (p + 1)
  have e2 := bn_eq hq (p + 2)
  unfold w_MO_readRun
  simp (disch := omega) only [n_1, n_2, n_3, nI_add, n_cl]
  by_cases c : p + 3 ≤ F
  · refine ⟨fun _ => ?_, fun c => (by exfalso; (first | omega | ((try simp (disch := omega) only [n_0, n_1, n_2, n_3, n_4, n_5, n_6, n_8, n_24, n_255, n_256, n_576, n_4000, nI_add, pk_mul, n_sub, n_cl, n_lt, n_le, n_eq, not_true_eq_false, not_false_eq_true] at c) <;> omega)))⟩
    refine ⟨n_in (by omega) (by omega), ?_⟩
    refine ⟨n_in (by omega) (by omega), ?_⟩
    refine ⟨n_in (by omega) (by omega), ?_⟩
    simp only [e0, e1, e2]
    refine s_MO_isSample h1W hW h1H hH ?_
    rw [ni_t (by omega), ni_t (by omega)]
    simp only [nI_add]
    by_cases ho : ROK W H (bn q p) (bn q (p + 1)) (bn q (p + 2)) 1 ∧ p + 3 + bn q (p + 2) ≤ F
    · have ho' := ho.1
      have c3 := ho.2
      unfold ROK at ho'
      rw [if_pos (by omega)]
      refine ⟨fun c => absurd c (by decide), fun _ => ?_⟩
      refine ⟨fun c => (by exfalso; (first | omega | ((try simp (disch := omega) only [n_0, n_1, n_2, n_3, n_4, n_5, n_6, n_8, n_24, n_255, n_256, n_576, n_4000, nI_add, pk_mul, n_sub, n_cl, n_lt, n_le, n_eq, not_true_eq_false, not_false_eq_true] at c) <;> omega))), fun _ => ?_⟩
      refine ⟨fun c => (by exfalso; (first | omega | ((try simp (disch := omega) only [n_0, n_1, n_2, n_3, n_4, n_5, n_6, n_8, n_24, n_255, n_256, n_576, n_4000, nI_add, pk_mul, n_sub, n_cl, n_lt, n_le, n_eq, not_true_eq_false, not_false_eq_true] at c) <;> omega))), fun _ => ?_⟩
      refine ⟨fun _ => ?_, fun c => (by exfalso; (first | omega | ((try simp (disch := omega) only [n_0, n_1, n_2, n_3, n_4, n_5, n_6, n_8, n_24, n_255, n_256, n_576, n_4000, nI_add, pk_mul, n_sub, n_cl, n_lt, n_le, n_eq, not_true_eq_false, not_false_eq_true] at c) <;> omega)))⟩
      refine ⟨bn q (p + 2) + 1, ?_⟩
      exact s_MO_readRun_93 (k_135 := _) hW hH hF (by omega) (by omega) c3 e0 e1 e2 _ 0 _ (by omega) ⟨nb1, h1 ⟨c, ho.1, c3⟩⟩
    · have r := h2 (fun w => ho ⟨w.2.1, w.2.2⟩)
      unfold ROK at ho
      by_cases g : bn q p < W ∧ bn q (p + 1) < H
      · rw [if_pos (by omega)]
        refine ⟨fun _ => ⟨nb0, r⟩, fun _ => ?_⟩
        refine ⟨fun _ => ⟨nb0, r⟩, fun c1 => ?_⟩
        refine ⟨fun _ => ⟨nb0, r⟩, fun c2 => ?_⟩
        refine ⟨fun c3 => ?_, fun _ => ⟨nb0, r⟩⟩
        exfalso
        simp (disch := omega) only [n_0, n_1, n_2, n_3, n_4, n_5, n_6, n_8, n_24, n_255, n_256, n_576, n_4000, nI_add, pk_mul, n_sub, n_cl, n_lt, n_le, n_eq, not_true_eq_false, not_false_eq_true] at c1 c2 c3
        omega
      · rw [if_neg (by omega)]
        exact ⟨fun _ => ⟨nb0, r⟩, fun c => absurd rfl c⟩
  · refine ⟨fun c => (by exfalso; (first | omega | ((try simp (disch := omega) only [n_0, n_1, n_2, n_3, n_4, n_5, n_6, n_8, n_24, n_255, n_256, n_576, n_4000, nI_add, pk_mul, n_sub, n_cl, n_lt, n_le, n_eq, not_true_eq_false, not_false_eq_true] at c) <;> omega))), fun _ => ?_⟩
    exact ⟨nb0, h2 (fun w => c w.1)⟩
theorem app_loop {o0_toldSize o0_parts o0_plain o0_bestOne o0_bestTwo o0_fault : Int32} {o0_first o0_other o0_open o0_toldBytes o0_part : Nat → Int32} {W H F : Nat} (h1W : 1 ≤ W) (hW : W ≤ 24) (h1H : 1 ≤ H) (hH : H ≤ 24) {q : Nat → Int32} (hq : BY q) (hF : F ≤ 4000) : ∀ n c s p f, F - p < n → p ≤ F → 4 * c ≤ p → s ≤ p → BY f → ZB (W * H) f → ∃ (t c' s' p' : Nat) (f' : Nat → Int32), (p' ≤ F ∧ s' ≤ p' ∧ BY f' ∧ ZB (W * H) f' ∧ (t = 0 → p' < F) ∧ (t = 1 → p' = F) ∧ (t ≠ 0 → t ≠ 1 → p' < F)) ∧
    (∀ k_83 k_60 k_26 : Int32 → Int32 → Int32 → (Nat → Int32) → Prop, (t = 0 → k_26 (nI c') (nI s') (nI p') f') → (t ≠ 0 → k_60 (nI c') (nI s') (nI p') f') → w_CH_read_7 (nI F) 4000 q (nI W) (nI H) (W * H) k_83 k_60 k_26 n (nI c) (nI s) (nI p) f) ∧
    (∀ k_94 : Int32 → Int32 → Int32 → (Nat → Int32) → Prop, (t = 0 ∨ t = 1 → k_94 (-1) (nI s') (nI p') f') → (t ≠ 0 → t ≠ 1 → k_94 (nI p') (nI s') (nI p') f') → w_MO_apply_45 (nI W) (nI H) o0_toldSize (nI F) o0_parts o0_plain o0_bestOne o0_bestTwo 576 o0_first 576 o0_other 576 o0_open 576 4000 o0_toldBytes 4000 q 3600 o0_part k_94 (n + 1) (-1) (nI s) (nI p) f) := by
  intro n
  induction n with
  | zero => intro c s p f h; exact absurd h (by omega)
  | succ n ih =>
    intro c s p f hn hp hc hsp hb hz
    have hm : ¬ (0 : Int32) ≤ -1 := by decide
    by_cases hpF : p < F
    · have l0 := bn_le hq p
      have e0 := bn_eq hq p
      by_cases z : bn q p = 255
      · refine ⟨0, c, s, p, f, ⟨hp, hsp, hb, hz, fun _ => hpF, fun e => absurd e (by omega), fun e => absurd rfl e⟩, ?_, ?_⟩
        · intro k_83 k_60 k_26 h1 h2
          rw [w_CH_read_7]
          refine ⟨fun c => (by exfalso; (first | omega | ((try simp (disch := omega) only [n_0, n_1, n_2, n_3, n_4, n_5, n_6, n_8, n_24, n_255, n_256, n_576, n_4000, nI_add, pk_mul, n_sub, n_cl, n_lt, n_le, n_eq, not_true_eq_false, not_false_eq_true] at c) <;> omega))), fun _ => ?_⟩
          refine s_BR_get_in (by omega) (by omega) hpF ?_
          rw [e0, z]
          refine ⟨fun c => (by exfalso; (first | omega | ((try simp (disch := omega) only [n_0, n_1, n_2, n_3, n_4, n_5, n_6, n_8, n_24, n_255, n_256, n_576, n_4000, nI_add, pk_mul, n_sub, n_cl, n_lt, n_le, n_eq, not_true_eq_false, not_false_eq_true] at c) <;> omega))), fun _ => ?_⟩
          exact h1 rfl
        · intro k_94 h1 h2
          rw [w_MO_apply_45]
          refine ⟨fun c => absurd c hm, fun _ => ?_⟩
          refine ⟨fun c => (by exfalso; (first | omega | ((try simp (disch := omega) only [n_0, n_1, n_2, n_3, n_4, n_5, n_6, n_8, n_24, n_255, n_256, n_576, n_4000, nI_add, pk_mul, n_sub, n_cl, n_lt, n_le, n_eq, not_true_eq_false, not_false_eq_true] at c) <;> omega))), fun _ => ?_⟩
          refine ⟨n_in (by omega) (by omega), ?_⟩
          rw [n_cl (by omega), e0, z]
          refine ⟨fun _ => ?_, fun c => (by exfalso; (first | omega | ((try simp (disch := omega) only [n_0, n_1, n_2, n_3, n_4, n_5, n_6, n_8, n_24, n_255, n_256, n_576, n_4000, nI_add, pk_mul, n_sub, n_cl, n_lt, n_le, n_eq, not_true_eq_false, not_false_eq_true] at c) <;> omega)))⟩
          exact h1 (Or.inl rfl)
      · by_cases ho : RR W H F q p
        · have ho' := ho
          unfold RR ROK at ho'
          have e1 := @pl_lt W H (bn q p + bn q (p + 2) - 1) (bn q (p + 1)) (by omega) (by omega)
          obtain ⟨t, c', s', p', f', hA, hC, hR⟩ := ih (c + 1) (s + bn q (p + 2)) (p + (3 + bn q (p + 2))) (ap q (bn q (p + 2)) (p + 3) (bn q (p + 1) * W + bn q p) f) (by omega) (by omega) (by omega) (by omega) (ap_by hq _ _ _ _ hb) (ap_zb _ _ _ _ hz (by omega))
          refine ⟨t, c', s', p', f', hA, ?_, ?_⟩
          · intro k_83 k_60 k_26 h1 h2
            have r := hC k_83 k_60 k_26 h1 h2
            rw [w_CH_read_7]
            refine ⟨fun c => (by exfalso; (first | omega | ((try simp (disch := omega) only [n_0, n_1, n_2, n_3, n_4, n_5, n_6, n_8, n_24, n_255, n_256, n_576, n_4000, nI_add, pk_mul, n_sub, n_cl, n_lt, n_le, n_eq, not_true_eq_false, not_false_eq_true] at c) <;> omega))), fun _ => ?_⟩
            refine s_BR_get_in (by omega) (by omega) hpF ?_
            rw [e0]
            refine ⟨fun _ => ?_, fun c => (by exfalso; (first | omega | ((try simp (disch := omega) only [n_0, n_1, n_2, n_3, n_4, n_5, n_6, n_8, n_24, n_255, n_256, n_576, n_4000, nI_add, pk_mul, n_sub, n_cl, n_lt, n_le, n_eq, not_true_eq_false, not_false_eq_true] at c) <;> omega)))⟩
            refine s_CH_readRun hW hH hF hp hq (fun _ => ?_) (fun w => absurd ho w)
            refine ⟨fun _ => ?_, fun c => (by exfalso; (first | omega | ((try simp (disch := omega) only [n_0, n_1, n_2, n_3, n_4, n_5, n_6, n_8, n_24, n_255, n_256, n_576, n_4000, nI_add, pk_mul, n_sub, n_cl, n_lt, n_le, n_eq, not_true_eq_false, not_false_eq_true] at c) <;> omega)))⟩
            rw [n_1, n_3, nI_add, nI_add, nI_add, nI_add]
            exact r
          · intro k_94 h1 h2
            have r := hR k_94 h1 h2
            rw [w_MO_apply_45]
            refine ⟨fun c => absurd c hm, fun _ => ?_⟩
            refine ⟨fun c => (by exfalso; (first | omega | ((try simp (disch := omega) only [n_0, n_1, n_2, n_3, n_4, n_5, n_6, n_8, n_24, n_255, n_256, n_576, n_4000, nI_add, pk_mul, n_sub, n_cl, n_lt, n_le, n_eq, not_true_eq_false, not_false_eq_true] at c) <;> omega))), fun _ => ?_⟩
            refine ⟨n_in (by omega) (by omega), ?_⟩
            rw [n_cl (by omega)]
            rw [e0]
            refine ⟨fun c => (by exfalso; (first | omega | ((try simp (disch := omega) only [n_0, n_1, n_2, n_3, n_4, n_5, n_6, n_8, n_24, n_255, n_256, n_576, n_4000, nI_add, pk_mul, n_sub, n_cl, n_lt, n_le, n_eq, not_true_eq_false, not_false_eq_true] at c) <;> omega))), fun _ => ?_⟩
            refine s_MO_readRun h1W hW h1H hH hF hp hq (fun _ => ?_) (fun w => absurd ho w)
            refine ⟨fun c => absurd c (by decide), fun _ => ?_⟩
            exact r
        · refine ⟨2, c, s, p, f, ⟨hp, hsp, hb, hz, fun e => absurd e (by omega), fun e => absurd e (by omega), fun _ _ => hpF⟩, ?_, ?_⟩
          · intro k_83 k_60 k_26 h1 h2
            have r := h2 (by omega)
            rw [w_CH_read_7]
            refine ⟨fun c => (by exfalso; (first | omega | ((try simp (disch := omega) only [n_0, n_1, n_2, n_3, n_4, n_5, n_6, n_8, n_24, n_255, n_256, n_576, n_4000, nI_add, pk_mul, n_sub, n_cl, n_lt, n_le, n_eq, not_true_eq_false, not_false_eq_true] at c) <;> omega))), fun _ => ?_⟩
            refine s_BR_get_in (by omega) (by omega) hpF ?_
            rw [e0]
            refine ⟨fun _ => ?_, fun c => (by exfalso; (first | omega | ((try simp (disch := omega) only [n_0, n_1, n_2, n_3, n_4, n_5, n_6, n_8, n_24, n_255, n_256, n_576, n_4000, nI_add, pk_mul, n_sub, n_cl, n_lt, n_le, n_eq, not_true_eq_false, not_false_eq_true] at c) <;> omega)))⟩
            refine s_CH_readRun hW hH hF hp hq (fun w => absurd w ho) (fun _ => ?_)
            exact ⟨fun c => absurd rfl c, fun _ => r⟩
          · intro k_94 h1 h2
            have r := h2 (by omega) (by omega)
            rw [w_MO_apply_45]
            refine ⟨fun c => absurd c hm, fun _ => ?_⟩
            refine ⟨fun c => (by exfalso; (first | omega | ((try simp (disch := omega) only [n_0, n_1, n_2, n_3, n_4, n_5, n_6, n_8, n_24, n_255, n_256, n_576, n_4000, nI_add, pk_mul, n_sub, n_cl, n_lt, n_le, n_eq, not_true_eq_false, not_false_eq_true] at c) <;> omega))), fun _ => ?_⟩
            refine ⟨n_in (by omega) (by omega), ?_⟩
            rw [n_cl (by omega)]
            rw [e0]
            refine ⟨fun c => (by exfalso; (first | omega | ((try simp (disch := omega) only [n_0, n_1, n_2, n_3, n_4, n_5, n_6, n_8, n_24, n_255, n_256, n_576, n_4000, nI_add, pk_mul, n_sub, n_cl, n_lt, n_le, n_eq, not_true_eq_false, not_false_eq_true] at c) <;> omega))), fun _ => ?_⟩
            refine s_MO_readRun h1W hW h1H hH hF hp hq (fun w => absurd w ho) (fun _ => ?_)
            refine ⟨fun _ => ?_, fun c => absurd rfl c⟩
            rw [w_MO_apply_45]
            refine ⟨fun _ => ?_, fun c => (by exfalso; (first | omega | ((try simp (disch := omega) only [n_0, n_1, n_2, n_3, n_4, n_5, n_6, n_8, n_24, n_255, n_256, n_576, n_4000, nI_add, pk_mul, n_sub, n_cl, n_lt, n_le, n_eq, not_true_eq_false, not_false_eq_true] at c) <;> omega)))⟩
            exact r
    · have e : p = F := by omega
      subst e
      refine ⟨1, c, s, p, f, ⟨hp, hsp, hb, hz, fun e => absurd e (by omega), fun _ => rfl, fun _ e => absurd rfl e⟩, ?_, ?_⟩
      · intro k_83 k_60 k_26 h1 h2
        have r := h2 (by omega)
        rw [w_CH_read_7]
        refine ⟨fun c => (by exfalso; (first | omega | ((try simp (disch := omega) only [n_0, n_1, n_2, n_3, n_4, n_5, n_6, n_8, n_24, n_255, n_256, n_576, n_4000, nI_add, pk_mul, n_sub, n_cl, n_lt, n_le, n_eq, not_true_eq_false, not_false_eq_true] at c) <;> omega))), fun _ => ?_⟩
        refine s_BR_get_out (by omega) (by omega) (Nat.le_refl p) (by omega) ?_
        refine ⟨fun _ => ?_, fun c => absurd c (by decide)⟩
        refine s_CH_readRun hW hH hF hp hq (fun w => ?_) (fun _ => ?_)
        · exfalso; have := w.1; omega
        · exact ⟨fun c => absurd rfl c, fun _ => r⟩
      · intro k_94 h1 h2
        rw [w_MO_apply_45]
        refine ⟨fun c => absurd c hm, fun _ => ?_⟩
        refine ⟨fun _ => ?_, fun c => (by exfalso; (first | omega | ((try simp (disch := omega) only [n_0, n_1, n_2, n_3, n_4, n_5, n_6, n_8, n_24, n_255, n_256, n_576, n_4000, nI_add, pk_mul, n_sub, n_cl, n_lt, n_le, n_eq, not_true_eq_false, not_false_eq_true] at c) <;> omega)))⟩
        exact h1 (Or.inr rfl)
theorem s_MO_apply_7 {o0_toldSize o0_fedSize o0_parts o0_plain o0_best o0_bestOne o0_bestTwo o0_place : Int32} {o0_first o0_other o0_open o0_toldBytes o0_fed o0_part : Nat → Int32} {k_33 : Int32 → (Nat → Int32) → Prop} {W H : Nat} (hW : W ≤ 24) (hH : H ≤ 24) {f : Nat → Int32} (hk : k_33 (nI (W * H)) (cp (W * H) o0_first f)) : ∀ d i f0, f0 = cp i o0_first f → i + d = W * H → w_MO_apply_7 (nI W) (nI H) o0_toldSize o0_fedSize o0_parts o0_plain o0_best o0_bestOne o0_bestTwo o0_place 576 o0_first 576 o0_other 576 o0_open 576 4000 o0_toldBytes 4000 o0_fed 3600 o0_part k_33 (d + 1) (nI i) f0 := by
  have hs := pl_le hW hH
  intro d
  induction d with
  | zero =>
    intro i f0 he h
    subst he
    have e : i = W * H := by omega
    subst e
    rw [w_MO_apply_7]
    refine s_MO_size ?_
    refine ⟨fun _ => ?_, fun c => (by exfalso; (first | omega | ((try simp (disch := omega) only [n_0, n_1, n_2, n_3, n_4, n_5, n_6, n_8, n_24, n_255, n_256, n_576, n_4000, nI_add, pk_mul, n_sub, n_cl, n_lt, n_le, n_eq, not_true_eq_false, not_false_eq_true] at c) <;> omega)))⟩
    exact hk
  | succ d ih =>
    intro i f0 he h
    subst he
    rw [w_MO_apply_7]
    refine s_MO_size ?_
    refine ⟨fun c => (by exfalso; (first | omega | ((try simp (disch := omega) only [n_0, n_1, n_2, n_3, n_4, n_5, n_6, n_8, n_24, n_255, n_256, n_576, n_4000, nI_add, pk_mul, n_sub, n_cl, n_lt, n_le, n_eq, not_true_eq_false, not_false_eq_true] at c) <;> omega))), fun _ => ?_⟩
    refine ⟨n_in (by omega) (by omega), ?_⟩
    refine ⟨n_in (by omega) (by omega), ?_⟩
    rw [n_cl (by omega), cp_s, n_1, nI_add]
    exact ih (i + 1) _ rfl (by omega)
theorem s_MO_apply_155_v2 {o0_toldSize o0_parts o0_plain o0_bestOne o0_bestTwo g_o0_q_14_13_21 g_o0_q_17_14_22 : Int32} {o0_other o0_open o0_toldBytes o0_fed o0_part : Nat → Int32} {k_181 : Int32 → (Nat → Int32) → Prop} {W H : Nat} (hW : W ≤ 24) (hH : H ≤ 24) {f m : Nat → Int32} (hk : k_181 (nI (W * H)) (cp (W * H) m f)) : ∀ d i f0, f0 = cp i m f → i + d = W * H → w_MO_apply_155_v2 (nI W) (nI H) o0_toldSize o0_parts o0_plain o0_bestOne o0_bestTwo 576 576 o0_other 576 o0_open 576 4000 o0_toldBytes 4000 o0_fed 3600 o0_part g_o0_q_14_13_21 g_o0_q_17_14_22 m k_181 (d + 1) (nI i) f0 := by
  have hs := pl_le hW hH
  intro d
  induction d with
  | zero =>
    intro i f0 he h
    subst he
    have e : i = W * H := by omega
    subst e
    rw [w_MO_apply_155_v2]
    refine s_MO_size ?_
    refine ⟨fun _ => ?_, fun c => (by exfalso; (first | omega | ((try simp (disch := omega) only [n_0, n_1, n_2, n_3, n_4, n_5, n_6, n_8, n_24, n_255, n_256, n_576, n_4000, nI_add, pk_mul, n_sub, n_cl, n_lt, n_le, n_eq, not_true_eq_false, not_false_eq_true] at c) <;> omega)))⟩
    exact hk
  | succ d ih =>
    intro i f0 he h
    subst he
    rw [w_MO_apply_155_v2]
    refine s_MO_size ?_
    refine ⟨fun c => (by exfalso; (first | omega | ((try simp (disch := omega) only [n_0, n_1, n_2, n_3, n_4, n_5, n_6, n_8, n_24, n_255, n_256, n_576, n_4000, nI_add, pk_mul, n_sub, n_cl, n_lt, n_le, n_eq, not_true_eq_false, not_false_eq_true] at c) <;> omega))), fun _ => ?_⟩
    refine ⟨n_in (by omega) (by omega), ?_⟩
    refine ⟨n_in (by omega) (by omega), ?_⟩
    rw [n_cl (by omega), cp_s, n_1, nI_add]
    exact ih (i + 1) _ rfl (by omega)
theorem app_ex {o0_toldSize o0_parts o0_plain o0_best o0_bestOne o0_bestTwo o0_fault o0_place : Int32} {o0_other o0_open o0_toldBytes o0_part : Nat → Int32} {W H F : Nat} (h1W : 1 ≤ W) (hW : W ≤ 24) (h1H : 1 ≤ H) (hH : H ≤ 24) {q f mr : Nat → Int32} (hq : BY q) (hF : F ≤ 4000) (hf : ZB (W * H) f) (hfb : BY f) (hm : ZB (W * H) mr) :
    ∃ (r : Int32) (d' : Nat → Int32), (ZB (W * H) d' ∧ BY d') ∧
    (∀ post : Int32 → (Nat → Int32) → Prop, post r d' → w_CH_read (nI F) 4000 q (nI W) (nI H) (W * H) f post) ∧
    (∀ post : Int32 → Int32 → Int32 → Int32 → Int32 → (Nat → Int32) → (Nat → Int32) → Prop, (r < 0 → ∀ b p, post r 0 0 b p f d') → (¬ r < 0 → ∀ b p, post r 0 0 b p d' d') → w_MO_apply (nI W) (nI H) o0_fault o0_toldSize (nI F) o0_parts o0_plain o0_best o0_bestOne o0_bestTwo o0_place 576 f 576 o0_other 576 o0_open 576 mr 4000 o0_toldBytes 4000 q 3600 o0_part post) := by
  have hs := pl_le hW hH
  obtain ⟨t, c', s', p', f', ⟨g1, g2, g3, g4, g5, g6, g7⟩, hC, hR⟩ := app_loop (o0_fault := 0) (o0_toldSize := o0_toldSize) (o0_parts := o0_parts) (o0_plain := o0_plain) (o0_bestOne := o0_bestOne) (o0_bestTwo := o0_bestTwo) (o0_first := f) (o0_other := o0_other) (o0_open := o0_open) (o0_toldBytes := o0_toldBytes) (o0_part := o0_part) h1W hW h1H hH hq hF (F + 1) 0 0 0 f (by omega) (by omega) (by omega) (by omega) hfb hf
  have hm1 : ¬ (0 : Int32) ≤ -1 := by decide
  have hcls : ∀ (r : Int32) (post : Int32 → (Nat → Int32) → Prop), (t = 0 → (p' + 1 = F → r = nI s') ∧ (p' + 1 ≠ F → r = (-1) - nI (p' + 1))) → (t ≠ 0 → r = (-1) - nI p') → post r f' → w_CH_read (nI F) 4000 q (nI W) (nI H) (W * H) f post := by
    intro r post r0 r1 h
    unfold w_CH_read
    refine ⟨F + 1, hC _ _ _ ?_ ?_⟩
    · intro ht
      have hp5 := g5 ht
      rw [n_1, nI_add]
      refine ⟨fun c => ?_, fun c => ?_⟩
      · have hne : p' + 1 ≠ F := by
          intro e; rw [e] at c; exact c rfl
        refine s_DF_refusedAt ?_
        rw [← (r0 ht).2 hne]
        exact h
      · rw [n_eq (by omega) (by omega)] at c
        rw [← (r0 ht).1 c]
        exact h
    · intro ht
      refine s_DF_refusedAt ?_
      rw [← r1 ht]
      exact h
  by_cases t0 : t = 0
  · have hp5 := g5 t0
    by_cases hne : p' + 1 = F
    · refine ⟨nI s', f', ⟨g4, g3⟩, ?_, ?_⟩
      · intro post h
        exact hcls _ post (fun _ => ⟨fun _ => rfl, fun c => absurd hne c⟩) (fun c => absurd t0 c) h
      · intro post h1 h2
        unfold w_MO_apply
        refine ⟨W * H + 1, s_MO_apply_7 hW hH ?_ (W * H) 0 _ cp_0.symm (by omega)⟩
        rw [cp_zg hm hf]
        refine ⟨F + 1 + 1, hR _ ?_ (fun c => absurd t0 c)⟩
        intro _
        refine ⟨fun c => absurd c hm1, fun _ => ?_⟩
        refine ⟨fun _ => ?_, fun c => (by exfalso; (first | omega | ((try simp (disch := omega) only [n_0, n_1, n_2, n_3, n_4, n_5, n_6, n_8, n_24, n_255, n_256, n_576, n_4000, nI_add, pk_mul, n_sub, n_cl, n_lt, n_le, n_eq, not_true_eq_false, not_false_eq_true] at c) <;> omega)))⟩
        rw [n_1, nI_add]
        refine ⟨fun _ => ?_, fun c => (by exfalso; (first | omega | ((try simp (disch := omega) only [n_0, n_1, n_2, n_3, n_4, n_5, n_6, n_8, n_24, n_255, n_256, n_576, n_4000, nI_add, pk_mul, n_sub, n_cl, n_lt, n_le, n_eq, not_true_eq_false, not_false_eq_true] at c) <;> omega)))⟩
        refine ⟨W * H + 1, s_MO_apply_155_v2 hW hH ?_ (W * H) 0 _ cp_0.symm (by omega)⟩
        rw [cp_zg hf g4]
        exact h2 (nI_ge0 (by omega)) _ _
    · refine ⟨(-1) - nI (p' + 1), f', ⟨g4, g3⟩, ?_, ?_⟩
      · intro post h
        exact hcls _ post (fun _ => ⟨fun c => absurd c hne, fun _ => rfl⟩) (fun c => absurd t0 c) h
      · intro post h1 h2
        unfold w_MO_apply
        refine ⟨W * H + 1, s_MO_apply_7 hW hH ?_ (W * H) 0 _ cp_0.symm (by omega)⟩
        rw [cp_zg hm hf]
        refine ⟨F + 1 + 1, hR _ ?_ (fun c => absurd t0 c)⟩
        intro _
        refine ⟨fun c => absurd c hm1, fun _ => ?_⟩
        refine ⟨fun _ => ?_, fun c => (by exfalso; (first | omega | ((try simp (disch := omega) only [n_0, n_1, n_2, n_3, n_4, n_5, n_6, n_8, n_24, n_255, n_256, n_576, n_4000, nI_add, pk_mul, n_sub, n_cl, n_lt, n_le, n_eq, not_true_eq_false, not_false_eq_true] at c) <;> omega)))⟩
        rw [n_1, nI_add]
        refine ⟨fun c => (by exfalso; (first | omega | ((try simp (disch := omega) only [n_0, n_1, n_2, n_3, n_4, n_5, n_6, n_8, n_24, n_255, n_256, n_576, n_4000, nI_add, pk_mul, n_sub, n_cl, n_lt, n_le, n_eq, not_true_eq_false, not_false_eq_true] at c) <;> omega))), fun _ => ?_⟩
        refine ⟨fun c => absurd c (nI_ge0 (by omega)), fun _ => ?_⟩
        exact h1 (neg_lt (by omega)) _ _
  · refine ⟨(-1) - nI p', f', ⟨g4, g3⟩, ?_, ?_⟩
    · intro post h
      exact hcls _ post (fun c => absurd c t0) (fun _ => rfl) h
    · intro post h1 h2
      unfold w_MO_apply
      refine ⟨W * H + 1, s_MO_apply_7 hW hH ?_ (W * H) 0 _ cp_0.symm (by omega)⟩
      rw [cp_zg hm hf]
      refine ⟨F + 1 + 1, hR _ ?_ ?_⟩
      · intro ht
        have hp6 := g6 (by omega)
        refine ⟨fun c => absurd c hm1, fun _ => ?_⟩
        rw [hp6] at h1 ⊢
        refine ⟨fun c => (by exfalso; (first | omega | ((try simp (disch := omega) only [n_0, n_1, n_2, n_3, n_4, n_5, n_6, n_8, n_24, n_255, n_256, n_576, n_4000, nI_add, pk_mul, n_sub, n_cl, n_lt, n_le, n_eq, not_true_eq_false, not_false_eq_true] at c) <;> omega))), fun _ => ?_⟩
        refine ⟨fun c => absurd c (nI_ge0 (by omega)), fun _ => ?_⟩
        exact h1 (neg_lt (by omega)) _ _
      · intro _ t1
        refine ⟨fun _ => ?_, fun c => (by exfalso; (first | omega | ((try simp (disch := omega) only [n_0, n_1, n_2, n_3, n_4, n_5, n_6, n_8, n_24, n_255, n_256, n_576, n_4000, nI_add, pk_mul, n_sub, n_cl, n_lt, n_le, n_eq, not_true_eq_false, not_false_eq_true] at c) <;> omega)))⟩
        refine ⟨fun c => absurd c (nI_ge0 (by omega)), fun _ => ?_⟩
        exact h1 (neg_lt (by omega)) _ _
