/-! PURE ROWS: decode. Own work. -/
theorem by_ne_m1 {v : Int32} (h : by8 v) : ¬ v = -1 := by
  intro e
  rw [e] at h
  exact absurd h.1 (by decide)
theorem s_DF_refusedAt {x0 : Int32} {post : Int32 → Prop} (h : post ((-1) - x0)) : w_DF_refusedAt x0 post := by
  unfold w_DF_refusedAt
  exact h
theorem s_PI_paintAll {o0_values : Nat → Int32} {x1 : Int32} {post : (Nat → Int32) → Prop} {W H : Nat} (hW : W ≤ 24) (hH : H ≤ 24) (h : post (cp (W * H) (fun _ => x1) o0_values)) : w_PI_paintAll (nI W) (nI H) (W * H) o0_values x1 post := by
  have hs := pl_le hW hH
  unfold w_PI_paintAll
  exact s_AR_fill (by omega) h
theorem s_DR_readPlain_30 {k_58 : Int32 → (Nat → Int32) → Prop} {N F : Nat} (hN : N ≤ 576) {q : Nat → Int32} (hF : F = 1 + N) {f : Nat → Int32} (hk : k_58 (nI N) (cp N (fun i => q (i + 1)) f)) : ∀ d i, i + d = N → w_DR_readPlain_30 (nI F) 4000 q N k_58 (d + 1) (nI i) (cp i (fun i => q (i + 1)) f) := by
  intro d
  induction d with
  | zero =>
    intro i h
    have e : i = N := by omega
    subst e
    rw [w_DR_readPlain_30]
    refine ⟨fun _ => ?_, fun c => (by exfalso; (first | omega | ((try simp (disch := omega) only [n_0, n_1, n_2, n_3, n_4, n_5, n_6, n_8, n_24, n_255, n_256, n_576, n_4000, nI_add, pk_mul, n_sub, n_cl, n_lt, n_le, n_eq, not_true_eq_false, not_false_eq_true] at c) <;> omega)))⟩
    exact hk
  | succ d ih =>
    intro i h
    rw [w_DR_readPlain_30]
    refine ⟨fun c => (by exfalso; (first | omega | ((try simp (disch := omega) only [n_0, n_1, n_2, n_3, n_4, n_5, n_6, n_8, n_24, n_255, n_256, n_576, n_4000, nI_add, pk_mul, n_sub, n_cl, n_lt, n_le, n_eq, not_true_eq_false, not_false_eq_true] at c) <;> omega))), fun _ => ?_⟩
    rw [n_1, nI_add]
    refine s_BR_get_in (by omega) (by omega) (show i + 1 < F by omega) ?_
    refine ⟨n_in (by omega) (by omega), ?_⟩
    rw [n_cl (by omega), cp_sv (g := fun i => q (i + 1)) rfl]
    exact ih (i + 1) (by omega)
theorem s_MO_readPlain_2 {o0_fault o0_toldSize o0_parts o0_plain o0_best o0_bestOne o0_bestTwo o0_place : Int32} {o0_first o0_other o0_open o0_toldBytes o0_part : Nat → Int32} {k_45 k_20 : Int32 → (Nat → Int32) → Prop} {W H F : Nat} (hW : W ≤ 24) (hH : H ≤ 24) {q f : Nat → Int32} (hF : F ≤ 4000) (hF1 : 1 ≤ F) (h1 : W * H + 1 ≤ F → k_45 (nI (W * H)) (cp (W * H) (fun i => q (i + 1)) f)) (h2 : F < W * H + 1 → k_20 (nI (F - 1)) (cp (F - 1) (fun i => q (i + 1)) f)) : ∀ d i f0, f0 = cp i (fun i => q (i + 1)) f → i + d = W * H → i < F → w_MO_readPlain_2 (nI W) (nI H) o0_fault o0_toldSize (nI F) o0_parts o0_plain o0_best o0_bestOne o0_bestTwo o0_place 576 o0_first 576 o0_other 576 o0_open 576 4000 o0_toldBytes 4000 q 3600 o0_part k_45 k_20 (d + 1) (nI i) f0 := by
  have hs := pl_le hW hH
  intro d
  induction d with
  | zero =>
    intro i f0 he h hi
    subst he
    have e : i = W * H := by omega
    subst e
    rw [w_MO_readPlain_2]
    refine s_MO_size ?_
    refine ⟨fun _ => ?_, fun c => (by exfalso; (first | omega | ((try simp (disch := omega) only [n_0, n_1, n_2, n_3, n_4, n_5, n_6, n_8, n_24, n_255, n_256, n_576, n_4000, nI_add, pk_mul, n_sub, n_cl, n_lt, n_le, n_eq, not_true_eq_false, not_false_eq_true] at c) <;> omega)))⟩
    exact h1 (by omega)
  | succ d ih =>
    intro i f0 he h hi
    subst he
    rw [w_MO_readPlain_2]
    refine s_MO_size ?_
    refine ⟨fun c => (by exfalso; (first | omega | ((try simp (disch := omega) only [n_0, n_1, n_2, n_3, n_4, n_5, n_6, n_8, n_24, n_255, n_256, n_576, n_4000, nI_add, pk_mul, n_sub, n_cl, n_lt, n_le, n_eq, not_true_eq_false, not_false_eq_true] at c) <;> omega))), fun _ => ?_⟩
    rw [n_1, nI_add, Nat.add_comm 1 i]
    by_cases c : i + 1 < F
    · refine ⟨fun _ => ?_, fun c => (by exfalso; (first | omega | ((try simp (disch := omega) only [n_0, n_1, n_2, n_3, n_4, n_5, n_6, n_8, n_24, n_255, n_256, n_576, n_4000, nI_add, pk_mul, n_sub, n_cl, n_lt, n_le, n_eq, not_true_eq_false, not_false_eq_true] at c) <;> omega)))⟩
      refine ⟨n_in (by omega) (by omega), ?_⟩
      refine ⟨n_in (by omega) (by omega), ?_⟩
      rw [n_cl (by omega), n_cl (by omega), cp_sv (g := fun i => q (i + 1)) rfl, nI_add]
      exact ih (i + 1) _ rfl (by omega) (by omega)
    · refine ⟨fun c => (by exfalso; (first | omega | ((try simp (disch := omega) only [n_0, n_1, n_2, n_3, n_4, n_5, n_6, n_8, n_24, n_255, n_256, n_576, n_4000, nI_add, pk_mul, n_sub, n_cl, n_lt, n_le, n_eq, not_true_eq_false, not_false_eq_true] at c) <;> omega))), fun _ => ?_⟩
      have e : i = F - 1 := by omega
      rw [e]
      exact h2 (by omega)
theorem s_MO_readParts_12 {o0_fault o0_toldSize o0_fedSize o0_parts o0_plain o0_best o0_bestOne o0_bestTwo o0_place : Int32} {o0_first o0_other o0_open o0_toldBytes o0_part : Nat → Int32} {k_38 : Int32 → (Nat → Int32) → Prop} {W H : Nat} (hW : W ≤ 24) (hH : H ≤ 24) {q f : Nat → Int32} (hk : k_38 (nI (W * H)) (cp (W * H) (fun _ => q 1) f)) : ∀ d i f0, f0 = cp i (fun _ => q 1) f → i + d = W * H → w_MO_readParts_12 (nI W) (nI H) o0_fault o0_toldSize o0_fedSize o0_parts o0_plain o0_best o0_bestOne o0_bestTwo o0_place 576 o0_first 576 o0_other 576 o0_open 576 4000 o0_toldBytes 4000 q 3600 o0_part k_38 (d + 1) (nI i) f0 := by
  have hs := pl_le hW hH
  intro d
  induction d with
  | zero =>
    intro i f0 he h
    subst he
    have e : i = W * H := by omega
    subst e
    rw [w_MO_readParts_12]
    refine s_MO_size ?_
    refine ⟨fun _ => ?_, fun c => (by exfalso; (first | omega | ((try simp (disch := omega) only [n_0, n_1, n_2, n_3, n_4, n_5, n_6, n_8, n_24, n_255, n_256, n_576, n_4000, nI_add, pk_mul, n_sub, n_cl, n_lt, n_le, n_eq, not_true_eq_false, not_false_eq_true] at c) <;> omega)))⟩
    exact hk
  | succ d ih =>
    intro i f0 he h
    subst he
    rw [w_MO_readParts_12]
    refine s_MO_size ?_
    refine ⟨fun c => (by exfalso; (first | omega | ((try simp (disch := omega) only [n_0, n_1, n_2, n_3, n_4, n_5, n_6, n_8, n_24, n_255, n_256, n_576, n_4000, nI_add, pk_mul, n_sub, n_cl, n_lt, n_le, n_eq, not_true_eq_false, not_false_eq_true] at c) <;> omega))), fun _ => ?_⟩
    rw [n_1]
    refine ⟨n_in (by omega) (by omega), ?_⟩
    refine ⟨n_in (by omega) (by omega), ?_⟩
    rw [n_cl (by omega), n_cl (by omega), cp_sv (g := fun _ => q 1) rfl, nI_add]
    exact ih (i + 1) _ rfl (by omega)
theorem s_MO_decode_67 {o0_toldSize o0_parts o0_plain o0_bestOne o0_bestTwo g_2 g_3 : Int32} {o0_other o0_open o0_toldBytes o0_fed o0_part f_4 : Nat → Int32} {k_93 : Int32 → (Nat → Int32) → Prop} {W H : Nat} (hW : W ≤ 24) (hH : H ≤ 24) {f : Nat → Int32} (hk : k_93 (nI (W * H)) (cp (W * H) f_4 f)) : ∀ d i f0, f0 = cp i f_4 f → i + d = W * H → w_MO_decode_67 (nI W) (nI H) o0_toldSize o0_parts o0_plain o0_bestOne o0_bestTwo 576 576 o0_other 576 o0_open 576 4000 o0_toldBytes 4000 o0_fed 3600 o0_part g_2 g_3 f_4 k_93 (d + 1) (nI i) f0 := by
  have hs := pl_le hW hH
  intro d
  induction d with
  | zero =>
    intro i f0 he h
    subst he
    have e : i = W * H := by omega
    subst e
    rw [w_MO_decode_67]
    refine s_MO_size ?_
    refine ⟨fun _ => ?_, fun c => (by exfalso; (first | omega | ((try simp (disch := omega) only [n_0, n_1, n_2, n_3, n_4, n_5, n_6, n_8, n_24, n_255, n_256, n_576, n_4000, nI_add, pk_mul, n_sub, n_cl, n_lt, n_le, n_eq, not_true_eq_false, not_false_eq_true] at c) <;> omega)))⟩
    exact hk
  | succ d ih =>
    intro i f0 he h
    subst he
    rw [w_MO_decode_67]
    refine s_MO_size ?_
    refine ⟨fun c => (by exfalso; (first | omega | ((try simp (disch := omega) only [n_0, n_1, n_2, n_3, n_4, n_5, n_6, n_8, n_24, n_255, n_256, n_576, n_4000, nI_add, pk_mul, n_sub, n_cl, n_lt, n_le, n_eq, not_true_eq_false, not_false_eq_true] at c) <;> omega))), fun _ => ?_⟩
    refine ⟨n_in (by omega) (by omega), ?_⟩
    refine ⟨n_in (by omega) (by omega), ?_⟩
    rw [n_cl (by omega), cp_s, n_1, nI_add]
    exact ih (i + 1) _ rfl (by omega)
theorem s_MO_decode_67_v2 {o0_toldSize o0_parts o0_plain o0_bestOne o0_bestTwo o0_place : Int32} {o0_other o0_open o0_toldBytes o0_fed o0_part f_13 : Nat → Int32} {k_93 : Int32 → (Nat → Int32) → Prop} {W H : Nat} (hW : W ≤ 24) (hH : H ≤ 24) {f : Nat → Int32} (hk : k_93 (nI (W * H)) (cp (W * H) f_13 f)) : ∀ d i f0, f0 = cp i f_13 f → i + d = W * H → w_MO_decode_67_v2 (nI W) (nI H) o0_toldSize o0_parts o0_plain o0_bestOne o0_bestTwo o0_place 576 576 o0_other 576 o0_open 576 4000 o0_toldBytes 4000 o0_fed 3600 o0_part f_13 k_93 (d + 1) (nI i) f0 := by
  have hs := pl_le hW hH
  intro d
  induction d with
  | zero =>
    intro i f0 he h
    subst he
    have e : i = W * H := by omega
    subst e
    rw [w_MO_decode_67_v2]
    refine s_MO_size ?_
    refine ⟨fun _ => ?_, fun c => (by exfalso; (first | omega | ((try simp (disch := omega) only [n_0, n_1, n_2, n_3, n_4, n_5, n_6, n_8, n_24, n_255, n_256, n_576, n_4000, nI_add, pk_mul, n_sub, n_cl, n_lt, n_le, n_eq, not_true_eq_false, not_false_eq_true] at c) <;> omega)))⟩
    exact hk
  | succ d ih =>
    intro i f0 he h
    subst he
    rw [w_MO_decode_67_v2]
    refine s_MO_size ?_
    refine ⟨fun c => (by exfalso; (first | omega | ((try simp (disch := omega) only [n_0, n_1, n_2, n_3, n_4, n_5, n_6, n_8, n_24, n_255, n_256, n_576, n_4000, nI_add, pk_mul, n_sub, n_cl, n_lt, n_le, n_eq, not_true_eq_false, not_false_eq_true] at c) <;> omega))), fun _ => ?_⟩
    refine ⟨n_in (by omega) (by omega), ?_⟩
    refine ⟨n_in (by omega) (by omega), ?_⟩
    rw [n_cl (by omega), cp_s, n_1, nI_add]
    exact ih (i + 1) _ rfl (by omega)
theorem cp_zb {N : Nat} {g f : Nat → Int32} {i : Nat} (h : ZB N f) (hi : i ≤ N) : ZB N (cp i g f) := by
  intro j hj
  rw [cp_ge (by omega)]; exact h j hj
theorem cp_by {g f : Nat → Int32} {i : Nat} (h : BY f) (hg : BY g) : BY (cp i g f) := by
  intro j
  by_cases c : j < i
  · rw [cp_lt c]; exact hg j
  · rw [cp_ge (by omega)]; exact h j
theorem cp_zz {N : Nat} {g f f' : Nat → Int32} (h : ZB N f) (h' : ZB N f') : cp N g f = cp N g f' := by
  funext j
  by_cases c : j < N
  · rw [cp_lt c, cp_lt c]
  · rw [cp_ge (by omega), cp_ge (by omega), h j (by omega), h' j (by omega)]
theorem cp_zg {N : Nat} {g f : Nat → Int32} (h : ZB N f) (h' : ZB N g) : cp N g f = g := by
  refine cp_all ?_
  intro j hj
  rw [h j hj, h' j hj]
theorem neg_lt {p : Nat} (h : p ≤ 100000) : (-1 : Int32) - nI p < 0 := by
  rw [i_m1, iI_nI, iI_sub, i_0, iI_lt (by omega) (by omega) (by omega) (by omega)]
  omega
theorem nI_ge0 {p : Nat} (h : p ≤ 100000) : ¬ nI p < 0 := by
  rw [n_0, n_lt (by omega) (by omega)]; omega
/-- both, side by side: r the answer, d' the draft -/
theorem dec_ex {o0_toldSize o0_parts o0_plain o0_best o0_bestOne o0_bestTwo o0_fault o0_place : Int32} {o0_other o0_open o0_toldBytes o0_part : Nat → Int32} {W H F : Nat} (h1W : 1 ≤ W) (hW : W ≤ 24) (h1H : 1 ≤ H) (hH : H ≤ 24) {q f df mr : Nat → Int32} (hq : BY q) (hF : F ≤ 4000) (hf : ZB (W * H) f) (hd : ZB (W * H) df) (hdb : BY df) (hm : ZB (W * H) mr) :
    ∃ (r : Int32) (d' m' : Nat → Int32), (ZB (W * H) d' ∧ BY d' ∧ ZB (W * H) m') ∧
    (∀ post : Int32 → (Nat → Int32) → Prop, post r d' → w_DR_readDrawing (nI F) 4000 q (nI W) (nI H) (W * H) df post) ∧
    (∀ post : Int32 → Int32 → Int32 → Int32 → Int32 → (Nat → Int32) → (Nat → Int32) → Prop, (r < 0 → ∀ b p, post r 0 0 b p f m') → (¬ r < 0 → ∀ b p, post r 0 0 b p d' m') → w_MO_decode (nI W) (nI H) o0_fault o0_toldSize (nI F) o0_parts o0_plain o0_best o0_bestOne o0_bestTwo o0_place 576 f 576 o0_other 576 o0_open 576 mr 4000 o0_toldBytes 4000 q 3600 o0_part post) := by
  have hs := pl_le hW hH
  have l0 := bn_le hq 0
  have e0 := bn_eq hq 0
  have hr0 : ((-1 : Int32) - 0) < 0 := by decide
  by_cases hF0 : F = 0
  · subst hF0
    refine ⟨(-1) - 0, df, mr, ⟨hd, hdb, hm⟩, ?_, ?_⟩
    · intro post h
      unfold w_DR_readDrawing
      rw [n_0]
      refine s_BR_get_out (by omega) (by omega) (Nat.le_refl 0) (by omega) ?_
      refine ⟨fun _ => ⟨fun c => absurd c (by decide), fun _ => s_DF_refusedAt h⟩, fun c => absurd c (by decide)⟩
    · intro post h1 h2
      unfold w_MO_decode
      refine ⟨fun _ => ?_, fun c => (by exfalso; (first | omega | ((try simp (disch := omega) only [n_0, n_1, n_2, n_3, n_4, n_5, n_6, n_8, n_24, n_255, n_256, n_576, n_4000, nI_add, pk_mul, n_sub, n_cl, n_lt, n_le, n_eq, not_true_eq_false, not_false_eq_true] at c) <;> omega)))⟩
      exact h1 hr0 _ _
  · by_cases hk0 : bn q 0 = 0
    · -- plain
      by_cases c1 : F = 1 + W * H
      · refine ⟨0, cp (W * H) (fun i => q (i + 1)) df, cp (W * H) (fun i => q (i + 1)) mr, ⟨cp_zb hd (by omega), cp_by hdb (fun j => hq _), cp_zb hm (by omega)⟩, ?_, ?_⟩
        · intro post h
          unfold w_DR_readDrawing
          rw [n_0]
          refine s_BR_get_in (by omega) (by omega) (show 0 < F by omega) ?_
          rw [e0, hk0]
          refine ⟨fun c => (by exfalso; (first | omega | ((try simp (disch := omega) only [n_0, n_1, n_2, n_3, n_4, n_5, n_6, n_8, n_24, n_255, n_256, n_576, n_4000, nI_add, pk_mul, n_sub, n_cl, n_lt, n_le, n_eq, not_true_eq_false, not_false_eq_true] at c) <;> omega))), fun _ => ?_⟩
          unfold w_DR_readPlain
          rw [n_1, nI_add]
          refine ⟨fun _ => ?_, fun c => (by exfalso; (first | omega | ((try simp (disch := omega) only [n_0, n_1, n_2, n_3, n_4, n_5, n_6, n_8, n_24, n_255, n_256, n_576, n_4000, nI_add, pk_mul, n_sub, n_cl, n_lt, n_le, n_eq, not_true_eq_false, not_false_eq_true] at c) <;> omega)))⟩
          refine ⟨W * H + 1, ?_⟩
          have z := s_DR_readPlain_30 (q := q) (f := df) (k_58 := fun (v3_3_6 : Int32) (f_o1_values_q_4_7 : Nat → Int32) => post 0 f_o1_values_q_4_7) hs c1 h (W * H) 0 (by omega)
          rwa [cp_0] at z
        · intro post h1 h2
          unfold w_MO_decode
          refine ⟨fun c => (by exfalso; (first | omega | ((try simp (disch := omega) only [n_0, n_1, n_2, n_3, n_4, n_5, n_6, n_8, n_24, n_255, n_256, n_576, n_4000, nI_add, pk_mul, n_sub, n_cl, n_lt, n_le, n_eq, not_true_eq_false, not_false_eq_true] at c) <;> omega))), fun _ => ?_⟩
          rw [n_0]
          refine ⟨n_in (by omega) (by omega), ?_⟩
          rw [n_cl (by omega), e0, hk0]
          refine ⟨fun _ => ?_, fun c => (by exfalso; (first | omega | ((try simp (disch := omega) only [n_0, n_1, n_2, n_3, n_4, n_5, n_6, n_8, n_24, n_255, n_256, n_576, n_4000, nI_add, pk_mul, n_sub, n_cl, n_lt, n_le, n_eq, not_true_eq_false, not_false_eq_true] at c) <;> omega)))⟩
          refine ⟨n_in (by omega) (by omega), ?_⟩
          refine ⟨fun c => (by exfalso; (first | omega | ((try simp (disch := omega) only [n_0, n_1, n_2, n_3, n_4, n_5, n_6, n_8, n_24, n_255, n_256, n_576, n_4000, nI_add, pk_mul, n_sub, n_cl, n_lt, n_le, n_eq, not_true_eq_false, not_false_eq_true] at c) <;> omega))), fun _ => ?_⟩
          unfold w_MO_readPlain
          refine ⟨W * H + 1, ?_⟩
          refine s_MO_readPlain_2 hW hH hF (by omega) ?_ ?_ (W * H) 0 _ cp_0.symm (by omega) (by omega)
          · intro _
            refine s_MO_size ?_
            rw [n_1, nI_add]
            refine ⟨fun _ => ?_, fun c => (by exfalso; (first | omega | ((try simp (disch := omega) only [n_0, n_1, n_2, n_3, n_4, n_5, n_6, n_8, n_24, n_255, n_256, n_576, n_4000, nI_add, pk_mul, n_sub, n_cl, n_lt, n_le, n_eq, not_true_eq_false, not_false_eq_true] at c) <;> omega)))⟩
            refine ⟨fun _ => ⟨W * H + 1, ?_⟩, fun c => absurd (by decide) c⟩
            refine s_MO_decode_67_v2 hW hH ?_ (W * H) 0 _ cp_0.symm (by omega)
            · rw [cp_zg hf (cp_zb hm (by omega)), cp_zz hm hd]
              rw [cp_zz hm hd] at h2
              exact h2 (by decide) _ _
          · intro c; omega
      · by_cases c2 : F < 1 + W * H
        · refine ⟨(-1) - nI F, df, cp (F - 1) (fun i => q (i + 1)) mr, ⟨hd, hdb, cp_zb hm (by omega)⟩, ?_, ?_⟩
          · intro post h
            unfold w_DR_readDrawing
            rw [n_0]
            refine s_BR_get_in (by omega) (by omega) (show 0 < F by omega) ?_
            rw [e0, hk0]
            refine ⟨fun c => (by exfalso; (first | omega | ((try simp (disch := omega) only [n_0, n_1, n_2, n_3, n_4, n_5, n_6, n_8, n_24, n_255, n_256, n_576, n_4000, nI_add, pk_mul, n_sub, n_cl, n_lt, n_le, n_eq, not_true_eq_false, not_false_eq_true] at c) <;> omega))), fun _ => ?_⟩
            unfold w_DR_readPlain
            rw [n_1, nI_add]
            refine ⟨fun c => (by exfalso; (first | omega | ((try simp (disch := omega) only [n_0, n_1, n_2, n_3, n_4, n_5, n_6, n_8, n_24, n_255, n_256, n_576, n_4000, nI_add, pk_mul, n_sub, n_cl, n_lt, n_le, n_eq, not_true_eq_false, not_false_eq_true] at c) <;> omega))), fun _ => ?_⟩
            intro m hm8
            rw [if_neg (by rw [n_lt (by omega) (by omega)]; omega)] at hm8
            subst hm8
            exact s_DF_refusedAt h
          · intro post h1 h2
            unfold w_MO_decode
            refine ⟨fun c => (by exfalso; (first | omega | ((try simp (disch := omega) only [n_0, n_1, n_2, n_3, n_4, n_5, n_6, n_8, n_24, n_255, n_256, n_576, n_4000, nI_add, pk_mul, n_sub, n_cl, n_lt, n_le, n_eq, not_true_eq_false, not_false_eq_true] at c) <;> omega))), fun _ => ?_⟩
            rw [n_0]
            refine ⟨n_in (by omega) (by omega), ?_⟩
            rw [n_cl (by omega), e0, hk0]
            refine ⟨fun _ => ?_, fun c => (by exfalso; (first | omega | ((try simp (disch := omega) only [n_0, n_1, n_2, n_3, n_4, n_5, n_6, n_8, n_24, n_255, n_256, n_576, n_4000, nI_add, pk_mul, n_sub, n_cl, n_lt, n_le, n_eq, not_true_eq_false, not_false_eq_true] at c) <;> omega)))⟩
            refine ⟨n_in (by omega) (by omega), ?_⟩
            refine ⟨fun c => (by exfalso; (first | omega | ((try simp (disch := omega) only [n_0, n_1, n_2, n_3, n_4, n_5, n_6, n_8, n_24, n_255, n_256, n_576, n_4000, nI_add, pk_mul, n_sub, n_cl, n_lt, n_le, n_eq, not_true_eq_false, not_false_eq_true] at c) <;> omega))), fun _ => ?_⟩
            unfold w_MO_readPlain
            refine ⟨W * H + 1, ?_⟩
            refine s_MO_readPlain_2 hW hH hF (by omega) ?_ ?_ (W * H) 0 _ cp_0.symm (by omega) (by omega)
            · intro c; omega
            · intro _
              refine ⟨fun c => absurd c (nI_ge0 (by omega)), fun _ => ?_⟩
              exact h1 (neg_lt (by omega)) _ _
        · refine ⟨(-1) - nI (1 + W * H), df, cp (W * H) (fun i => q (i + 1)) mr, ⟨hd, hdb, cp_zb hm (by omega)⟩, ?_, ?_⟩
          · intro post h
            unfold w_DR_readDrawing
            rw [n_0]
            refine s_BR_get_in (by omega) (by omega) (show 0 < F by omega) ?_
            rw [e0, hk0]
            refine ⟨fun c => (by exfalso; (first | omega | ((try simp (disch := omega) only [n_0, n_1, n_2, n_3, n_4, n_5, n_6, n_8, n_24, n_255, n_256, n_576, n_4000, nI_add, pk_mul, n_sub, n_cl, n_lt, n_le, n_eq, not_true_eq_false, not_false_eq_true] at c) <;> omega))), fun _ => ?_⟩
            unfold w_DR_readPlain
            rw [n_1, nI_add]
            refine ⟨fun c => (by exfalso; (first | omega | ((try simp (disch := omega) only [n_0, n_1, n_2, n_3, n_4, n_5, n_6, n_8, n_24, n_255, n_256, n_576, n_4000, nI_add, pk_mul, n_sub, n_cl, n_lt, n_le, n_eq, not_true_eq_false, not_false_eq_true] at c) <;> omega))), fun _ => ?_⟩
            intro m hm8
            rw [if_pos (by rw [n_lt (by omega) (by omega)]; omega)] at hm8
            subst hm8
            exact s_DF_refusedAt h
          · intro post h1 h2
            unfold w_MO_decode
            refine ⟨fun c => (by exfalso; (first | omega | ((try simp (disch := omega) only [n_0, n_1, n_2, n_3, n_4, n_5, n_6, n_8, n_24, n_255, n_256, n_576, n_4000, nI_add, pk_mul, n_sub, n_cl, n_lt, n_le, n_eq, not_true_eq_false, not_false_eq_true] at c) <;> omega))), fun _ => ?_⟩
            rw [n_0]
            refine ⟨n_in (by omega) (by omega), ?_⟩
            rw [n_cl (by omega), e0, hk0]
            refine ⟨fun _ => ?_, fun c => (by exfalso; (first | omega | ((try simp (disch := omega) only [n_0, n_1, n_2, n_3, n_4, n_5, n_6, n_8, n_24, n_255, n_256, n_576, n_4000, nI_add, pk_mul, n_sub, n_cl, n_lt, n_le, n_eq, not_true_eq_false, not_false_eq_true] at c) <;> omega)))⟩
            refine ⟨n_in (by omega) (by omega), ?_⟩
            refine ⟨fun c => (by exfalso; (first | omega | ((try simp (disch := omega) only [n_0, n_1, n_2, n_3, n_4, n_5, n_6, n_8, n_24, n_255, n_256, n_576, n_4000, nI_add, pk_mul, n_sub, n_cl, n_lt, n_le, n_eq, not_true_eq_false, not_false_eq_true] at c) <;> omega))), fun _ => ?_⟩
            unfold w_MO_readPlain
            refine ⟨W * H + 1, ?_⟩
            refine s_MO_readPlain_2 hW hH hF (by omega) ?_ ?_ (W * H) 0 _ cp_0.symm (by omega) (by omega)
            · intro _
              refine s_MO_size ?_
              rw [n_1, nI_add]
              refine ⟨fun c => (by exfalso; (first | omega | ((try simp (disch := omega) only [n_0, n_1, n_2, n_3, n_4, n_5, n_6, n_8, n_24, n_255, n_256, n_576, n_4000, nI_add, pk_mul, n_sub, n_cl, n_lt, n_le, n_eq, not_true_eq_false, not_false_eq_true] at c) <;> omega))), fun _ => ?_⟩
              refine s_MO_size ?_
              rw [nI_add]
              refine ⟨fun c => absurd c (nI_ge0 (by omega)), fun _ => ?_⟩
              exact h1 (neg_lt (by omega)) _ _
            · intro c; omega
    · by_cases hk1 : bn q 0 = 1
      · -- by parts
        by_cases hF1 : F = 1
        · subst hF1
          refine ⟨(-1) - 1, df, mr, ⟨hd, hdb, hm⟩, ?_, ?_⟩
          · intro post h
            unfold w_DR_readDrawing
            rw [n_0]
            refine s_BR_get_in (by omega) (by omega) (show 0 < 1 by omega) ?_
            rw [e0, hk1]
            refine ⟨fun _ => ?_, fun c => (by exfalso; (first | omega | ((try simp (disch := omega) only [n_0, n_1, n_2, n_3, n_4, n_5, n_6, n_8, n_24, n_255, n_256, n_576, n_4000, nI_add, pk_mul, n_sub, n_cl, n_lt, n_le, n_eq, not_true_eq_false, not_false_eq_true] at c) <;> omega)))⟩
            refine ⟨fun _ => ?_, fun c => absurd rfl c⟩
            rw [n_1]
            refine s_BR_get_out (by omega) (by omega) (Nat.le_refl 1) (by omega) ?_
            exact ⟨fun c => absurd rfl c, fun _ => s_DF_refusedAt h⟩
          · intro post h1 h2
            unfold w_MO_decode
            refine ⟨fun c => (by exfalso; (first | omega | ((try simp (disch := omega) only [n_0, n_1, n_2, n_3, n_4, n_5, n_6, n_8, n_24, n_255, n_256, n_576, n_4000, nI_add, pk_mul, n_sub, n_cl, n_lt, n_le, n_eq, not_true_eq_false, not_false_eq_true] at c) <;> omega))), fun _ => ?_⟩
            rw [n_0]
            refine ⟨n_in (by omega) (by omega), ?_⟩
            rw [n_cl (by omega), e0, hk1]
            refine ⟨fun _ => ?_, fun c => (by exfalso; (first | omega | ((try simp (disch := omega) only [n_0, n_1, n_2, n_3, n_4, n_5, n_6, n_8, n_24, n_255, n_256, n_576, n_4000, nI_add, pk_mul, n_sub, n_cl, n_lt, n_le, n_eq, not_true_eq_false, not_false_eq_true] at c) <;> omega)))⟩
            refine ⟨n_in (by omega) (by omega), ?_⟩
            refine ⟨fun _ => ?_, fun c => (by exfalso; (first | omega | ((try simp (disch := omega) only [n_0, n_1, n_2, n_3, n_4, n_5, n_6, n_8, n_24, n_255, n_256, n_576, n_4000, nI_add, pk_mul, n_sub, n_cl, n_lt, n_le, n_eq, not_true_eq_false, not_false_eq_true] at c) <;> omega)))⟩
            unfold w_MO_readParts
            refine ⟨fun c => (by exfalso; (first | omega | ((try simp (disch := omega) only [n_0, n_1, n_2, n_3, n_4, n_5, n_6, n_8, n_24, n_255, n_256, n_576, n_4000, nI_add, pk_mul, n_sub, n_cl, n_lt, n_le, n_eq, not_true_eq_false, not_false_eq_true] at c) <;> omega))), fun _ => ?_⟩
            refine ⟨fun c => absurd c (by decide), fun _ => ?_⟩
            exact h1 (by decide) _ _
        · have e1 := bn_eq hq 1
          have hg : BY (fun _ => q 1) := fun _ => hq 1
          obtain ⟨t, c', p', f', ⟨g1, g2, g3, g4, g5, g6, g7⟩, hC, hR⟩ := dec_loop (o0_fault := 0) (o0_toldSize := o0_toldSize) (o0_parts := o0_parts) (o0_plain := o0_plain) (o0_bestOne := o0_bestOne) (o0_bestTwo := o0_bestTwo) (o0_first := f) (o0_other := o0_other) (o0_open := o0_open) (o0_toldBytes := o0_toldBytes) (o0_part := o0_part) h1W hW h1H hH hq hF (F + 1) 0 2 (cp (W * H) (fun _ => q 1) df) (by omega) (by omega) (by omega) (cp_by hdb hg) (cp_zb hd (by omega))
          have hcls : ∀ (r : Int32) (post : Int32 → (Nat → Int32) → Prop), (t = 0 → (p' + 1 = F → r = nI c') ∧ (p' + 1 ≠ F → r = (-1) - nI (p' + 1))) → (t ≠ 0 → r = (-1) - nI p') → post r f' → w_DR_readDrawing (nI F) 4000 q (nI W) (nI H) (W * H) df post := by
            intro r post r0 r1 h
            unfold w_DR_readDrawing
            rw [n_0]
            refine s_BR_get_in (by omega) (by omega) (show 0 < F by omega) ?_
            rw [e0, hk1]
            refine ⟨fun _ => ?_, fun c => (by exfalso; (first | omega | ((try simp (disch := omega) only [n_0, n_1, n_2, n_3, n_4, n_5, n_6, n_8, n_24, n_255, n_256, n_576, n_4000, nI_add, pk_mul, n_sub, n_cl, n_lt, n_le, n_eq, not_true_eq_false, not_false_eq_true] at c) <;> omega)))⟩
            refine ⟨fun _ => ?_, fun c => absurd rfl c⟩
            rw [n_1]
            refine s_BR_get_in (by omega) (by omega) (show 1 < F by omega) ?_
            refine ⟨fun _ => ?_, fun c => absurd c (by_ne_m1 (hq 1))⟩
            refine s_PI_paintAll hW hH ?_
            unfold w_DR_readParts
            refine ⟨F + 1, hC _ _ _ ?_ ?_⟩
            · intro ht
              have hp5 := g5 ht
              rw [n_1, nI_add]
              refine ⟨fun c => ?_, fun c => ?_⟩
              · have hne : p' + 1 ≠ F := by
                  intro e; rw [e] at c; exact c rfl
                refine s_DF_refusedAt ?_
                rw [← (r0 ht).2 hne]
                exact h
              · rw [n_eq (by omega) (by omega)] at c
                rw [← (r0 ht).1 c]
                exact h
            · intro ht
              refine s_DF_refusedAt ?_
              rw [← r1 ht]
              exact h
          have hrel : cp (W * H) (fun _ => q 1) mr = cp (W * H) (fun _ => q 1) df := cp_zz hm hd
          have href : ∀ (r1 : Int32) (post : Int32 → Int32 → Int32 → Int32 → Int32 → (Nat → Int32) → (Nat → Int32) → Prop), (t = 0 → (p' + 1 = F → r1 = -1) ∧ (p' + 1 ≠ F → r1 = nI (p' + 1))) → (t ≠ 0 → r1 = nI p') → (r1 < 0 → post (nI c') 0 0 (nI c') (nI p') f' f') → (¬ r1 < 0 → post ((-1) - r1) 0 0 (nI c') (nI p') f f') → w_MO_decode (nI W) (nI H) o0_fault o0_toldSize (nI F) o0_parts o0_plain o0_best o0_bestOne o0_bestTwo o0_place 576 f 576 o0_other 576 o0_open 576 mr 4000 o0_toldBytes 4000 q 3600 o0_part post := by
            intro r1 post ra rb h1 h2
            unfold w_MO_decode
            refine ⟨fun c => (by exfalso; (first | omega | ((try simp (disch := omega) only [n_0, n_1, n_2, n_3, n_4, n_5, n_6, n_8, n_24, n_255, n_256, n_576, n_4000, nI_add, pk_mul, n_sub, n_cl, n_lt, n_le, n_eq, not_true_eq_false, not_false_eq_true] at c) <;> omega))), fun _ => ?_⟩
            rw [n_0]
            refine ⟨n_in (by omega) (by omega), ?_⟩
            rw [n_cl (by omega), e0, hk1]
            refine ⟨fun _ => ?_, fun c => (by exfalso; (first | omega | ((try simp (disch := omega) only [n_0, n_1, n_2, n_3, n_4, n_5, n_6, n_8, n_24, n_255, n_256, n_576, n_4000, nI_add, pk_mul, n_sub, n_cl, n_lt, n_le, n_eq, not_true_eq_false, not_false_eq_true] at c) <;> omega)))⟩
            refine ⟨n_in (by omega) (by omega), ?_⟩
            refine ⟨fun _ => ?_, fun c => (by exfalso; (first | omega | ((try simp (disch := omega) only [n_0, n_1, n_2, n_3, n_4, n_5, n_6, n_8, n_24, n_255, n_256, n_576, n_4000, nI_add, pk_mul, n_sub, n_cl, n_lt, n_le, n_eq, not_true_eq_false, not_false_eq_true] at c) <;> omega)))⟩
            unfold w_MO_readParts
            refine ⟨fun _ => ?_, fun c => (by exfalso; (first | omega | ((try simp (disch := omega) only [n_0, n_1, n_2, n_3, n_4, n_5, n_6, n_8, n_24, n_255, n_256, n_576, n_4000, nI_add, pk_mul, n_sub, n_cl, n_lt, n_le, n_eq, not_true_eq_false, not_false_eq_true] at c) <;> omega)))⟩
            refine ⟨W * H + 1, ?_⟩
            refine s_MO_readParts_12 hW hH ?_ (W * H) 0 _ cp_0.symm (by omega)
            · rw [hrel]
              have fin : ((r1 < 0 → ∃ n_67 : Nat, w_MO_decode_67 (nI W) (nI H) o0_toldSize o0_parts o0_plain o0_bestOne o0_bestTwo 576 576 o0_other 576 o0_open 576 4000 o0_toldBytes 4000 q 3600 o0_part (nI c') (nI p') f' (fun (v2_7_10 : Int32) (f_o0_first_q_8_11 : Nat → Int32) => post (nI c') 0 0 (nI c') (nI p') f_o0_first_q_8_11 f') n_67 0 f) ∧ (¬ r1 < 0 → post ((-1) - r1) 0 0 (nI c') (nI p') f f')) := by
                refine ⟨fun c => ⟨W * H + 1, ?_⟩, fun c => h2 c⟩
                refine s_MO_decode_67 hW hH ?_ (W * H) 0 _ cp_0.symm (by omega)
                · rw [cp_zg hf g4]
                  exact h1 c
              refine ⟨F + 1, hR _ _ ?_ ?_⟩
              · intro ht
                by_cases t0 : t = 0
                · have hp5 := g5 t0
                  refine ⟨fun _ => ?_, fun c => (by exfalso; (first | omega | ((try simp (disch := omega) only [n_0, n_1, n_2, n_3, n_4, n_5, n_6, n_8, n_24, n_255, n_256, n_576, n_4000, nI_add, pk_mul, n_sub, n_cl, n_lt, n_le, n_eq, not_true_eq_false, not_false_eq_true] at c) <;> omega)))⟩
                  rw [n_1, nI_add]
                  by_cases hne : p' + 1 = F
                  · refine ⟨fun _ => ?_, fun c => (by exfalso; (first | omega | ((try simp (disch := omega) only [n_0, n_1, n_2, n_3, n_4, n_5, n_6, n_8, n_24, n_255, n_256, n_576, n_4000, nI_add, pk_mul, n_sub, n_cl, n_lt, n_le, n_eq, not_true_eq_false, not_false_eq_true] at c) <;> omega)))⟩
                    rw [(ra t0).1 hne] at fin
                    exact fin
                  · refine ⟨fun c => (by exfalso; (first | omega | ((try simp (disch := omega) only [n_0, n_1, n_2, n_3, n_4, n_5, n_6, n_8, n_24, n_255, n_256, n_576, n_4000, nI_add, pk_mul, n_sub, n_cl, n_lt, n_le, n_eq, not_true_eq_false, not_false_eq_true] at c) <;> omega))), fun _ => ?_⟩
                    rw [(ra t0).2 hne] at fin
                    exact fin
                · have hp6 := g6 (by omega)
                  rw [rb t0, hp6] at fin
                  rw [hp6]
                  refine ⟨fun c => (by exfalso; (first | omega | ((try simp (disch := omega) only [n_0, n_1, n_2, n_3, n_4, n_5, n_6, n_8, n_24, n_255, n_256, n_576, n_4000, nI_add, pk_mul, n_sub, n_cl, n_lt, n_le, n_eq, not_true_eq_false, not_false_eq_true] at c) <;> omega))), fun _ => ?_⟩
                  exact fin
              · intro t0 t1
                rw [rb t0] at fin
                exact fin
          by_cases t0 : t = 0
          · have hp5 := g5 t0
            by_cases hne : p' + 1 = F
            · refine ⟨nI c', f', f', ⟨g4, g3, g4⟩, ?_, ?_⟩
              · intro post h
                exact hcls _ post (fun _ => ⟨fun _ => rfl, fun c => absurd hne c⟩) (fun c => absurd t0 c) h
              · intro post h1 h2
                refine href (-1) post (fun _ => ⟨fun _ => rfl, fun c => absurd hne c⟩) (fun c => absurd t0 c) (fun _ => h2 (nI_ge0 (by omega)) _ _) (fun c => absurd (by decide) c)
            · refine ⟨(-1) - nI (p' + 1), f', f', ⟨g4, g3, g4⟩, ?_, ?_⟩
              · intro post h
                exact hcls _ post (fun _ => ⟨fun c => absurd c hne, fun _ => rfl⟩) (fun c => absurd t0 c) h
              · intro post h1 h2
                refine href (nI (p' + 1)) post (fun _ => ⟨fun c => absurd c hne, fun _ => rfl⟩) (fun c => absurd t0 c) (fun c => absurd c (nI_ge0 (by omega))) (fun _ => h1 (neg_lt (by omega)) _ _)
          · refine ⟨(-1) - nI p', f', f', ⟨g4, g3, g4⟩, ?_, ?_⟩
            · intro post h
              exact hcls _ post (fun c => absurd c t0) (fun _ => rfl) h
            · intro post h1 h2
              refine href (nI p') post (fun c => absurd c t0) (fun _ => rfl) (fun c => absurd c (nI_ge0 (by omega))) (fun _ => h1 (neg_lt (by omega)) _ _)
      · -- neither
        refine ⟨(-1) - 0, df, mr, ⟨hd, hdb, hm⟩, ?_, ?_⟩
        · intro post h
          unfold w_DR_readDrawing
          rw [n_0]
          refine s_BR_get_in (by omega) (by omega) (show 0 < F by omega) ?_
          rw [e0]
          refine ⟨fun _ => ⟨fun c => ?_, fun _ => s_DF_refusedAt h⟩, fun c => ?_⟩
          · exfalso; (first | omega | ((try simp (disch := omega) only [n_0, n_1, n_2, n_3, n_4, n_5, n_6, n_8, n_24, n_255, n_256, n_576, n_4000, nI_add, pk_mul, n_sub, n_cl, n_lt, n_le, n_eq, not_true_eq_false, not_false_eq_true] at c) <;> omega))
          · exfalso; (first | omega | ((try simp (disch := omega) only [n_0, n_1, n_2, n_3, n_4, n_5, n_6, n_8, n_24, n_255, n_256, n_576, n_4000, nI_add, pk_mul, n_sub, n_cl, n_lt, n_le, n_eq, not_true_eq_false, not_false_eq_true] at c) <;> omega))
        · intro post h1 h2
          unfold w_MO_decode
          refine ⟨fun c => (by exfalso; (first | omega | ((try simp (disch := omega) only [n_0, n_1, n_2, n_3, n_4, n_5, n_6, n_8, n_24, n_255, n_256, n_576, n_4000, nI_add, pk_mul, n_sub, n_cl, n_lt, n_le, n_eq, not_true_eq_false, not_false_eq_true] at c) <;> omega))), fun _ => ?_⟩
          rw [n_0]
          refine ⟨n_in (by omega) (by omega), ?_⟩
          rw [n_cl (by omega), e0]
          refine ⟨fun c => ?_, fun _ => h1 hr0 _ _⟩
          exfalso; (first | omega | ((try simp (disch := omega) only [n_0, n_1, n_2, n_3, n_4, n_5, n_6, n_8, n_24, n_255, n_256, n_576, n_4000, nI_add, pk_mul, n_sub, n_cl, n_lt, n_le, n_eq, not_true_eq_false, not_false_eq_true] at c) <;> omega))
