/-! PURE ROWS: a drawing read, by the class and by the reference. Own work. -/
theorem s_bytesOf_in {q : Nat → Int32} {p : Nat} {post : Int32 → Prop} (hk : 1 ≤ bn q p ∧ bn q p ≤ 3) (h : post (nI (pln q p))) : w_DF_bytesOf (nI (bn q p)) post := by
  unfold pln at h
  unfold w_DF_bytesOf
  have hc : bn q p = 1 ∨ bn q p = 2 ∨ bn q p = 3 := by omega
  rcases hc with z | z | z
  · rw [if_neg (by omega)] at h
    rw [z]
    refine ⟨fun _ => ?_, fun c => (by exfalso; (first | omega | ((try simp (disch := omega) only [n_0, n_1, n_2, n_3, n_4, n_5, n_6, n_8, n_24, n_255, n_256, n_576, n_4000, nI_add, pk_mul, n_sub, n_cl, n_lt, n_le, n_eq, not_true_eq_false, not_false_eq_true] at c) <;> omega)))⟩
    exact h
  · rw [if_neg (by omega)] at h
    rw [z]
    refine ⟨fun c => (by exfalso; (first | omega | ((try simp (disch := omega) only [n_0, n_1, n_2, n_3, n_4, n_5, n_6, n_8, n_24, n_255, n_256, n_576, n_4000, nI_add, pk_mul, n_sub, n_cl, n_lt, n_le, n_eq, not_true_eq_false, not_false_eq_true] at c) <;> omega))), fun _ => ?_⟩
    refine ⟨fun _ => ?_, fun c => (by exfalso; (first | omega | ((try simp (disch := omega) only [n_0, n_1, n_2, n_3, n_4, n_5, n_6, n_8, n_24, n_255, n_256, n_576, n_4000, nI_add, pk_mul, n_sub, n_cl, n_lt, n_le, n_eq, not_true_eq_false, not_false_eq_true] at c) <;> omega)))⟩
    exact h
  · rw [if_pos z] at h
    rw [z]
    refine ⟨fun c => (by exfalso; (first | omega | ((try simp (disch := omega) only [n_0, n_1, n_2, n_3, n_4, n_5, n_6, n_8, n_24, n_255, n_256, n_576, n_4000, nI_add, pk_mul, n_sub, n_cl, n_lt, n_le, n_eq, not_true_eq_false, not_false_eq_true] at c) <;> omega))), fun _ => ?_⟩
    refine ⟨fun c => (by exfalso; (first | omega | ((try simp (disch := omega) only [n_0, n_1, n_2, n_3, n_4, n_5, n_6, n_8, n_24, n_255, n_256, n_576, n_4000, nI_add, pk_mul, n_sub, n_cl, n_lt, n_le, n_eq, not_true_eq_false, not_false_eq_true] at c) <;> omega))), fun _ => ?_⟩
    refine ⟨fun _ => ?_, fun c => (by exfalso; (first | omega | ((try simp (disch := omega) only [n_0, n_1, n_2, n_3, n_4, n_5, n_6, n_8, n_24, n_255, n_256, n_576, n_4000, nI_add, pk_mul, n_sub, n_cl, n_lt, n_le, n_eq, not_true_eq_false, not_false_eq_true] at c) <;> omega)))⟩
    exact h
theorem s_bytesOf_out {k : Nat} {post : Int32 → Prop} (hk : k = 0 ∨ 4 ≤ k) (hk2 : k ≤ 255) (h : post 0) : w_DF_bytesOf (nI k) post := by
  unfold w_DF_bytesOf
  refine ⟨fun c => (by exfalso; (first | omega | ((try simp (disch := omega) only [n_0, n_1, n_2, n_3, n_4, n_5, n_6, n_8, n_24, n_255, n_256, n_576, n_4000, nI_add, pk_mul, n_sub, n_cl, n_lt, n_le, n_eq, not_true_eq_false, not_false_eq_true] at c) <;> omega))), fun _ => ?_⟩
  refine ⟨fun c => (by exfalso; (first | omega | ((try simp (disch := omega) only [n_0, n_1, n_2, n_3, n_4, n_5, n_6, n_8, n_24, n_255, n_256, n_576, n_4000, nI_add, pk_mul, n_sub, n_cl, n_lt, n_le, n_eq, not_true_eq_false, not_false_eq_true] at c) <;> omega))), fun _ => ?_⟩
  refine ⟨fun c => (by exfalso; (first | omega | ((try simp (disch := omega) only [n_0, n_1, n_2, n_3, n_4, n_5, n_6, n_8, n_24, n_255, n_256, n_576, n_4000, nI_add, pk_mul, n_sub, n_cl, n_lt, n_le, n_eq, not_true_eq_false, not_false_eq_true] at c) <;> omega))), fun _ => ?_⟩
  exact h
theorem s_bytesOf_m {post : Int32 → Prop} (h : post 0) : w_DF_bytesOf (-1) post := by
  unfold w_DF_bytesOf
  exact ⟨fun c => absurd c (by decide), fun _ => ⟨fun c => absurd c (by decide), fun _ => ⟨fun c => absurd c (by decide), fun _ => h⟩⟩⟩
theorem dec_loop {o0_toldSize o0_parts o0_plain o0_bestOne o0_bestTwo o0_fault : Int32} {o0_first o0_other o0_open o0_toldBytes o0_part : Nat → Int32} {W H F : Nat} (h1W : 1 ≤ W) (hW : W ≤ 24) (h1H : 1 ≤ H) (hH : H ≤ 24) {q : Nat → Int32} (hq : BY q) (hF : F ≤ 4000) : ∀ n c p f, F - p < n → p ≤ F → 5 * c + 2 ≤ p → BY f → ZB (W * H) f → ∃ (t c' p' : Nat) (f' : Nat → Int32), (p' ≤ F ∧ 5 * c' + 2 ≤ p' ∧ BY f' ∧ ZB (W * H) f' ∧ (t = 0 → p' < F) ∧ (t = 1 → p' = F) ∧ (t ≠ 0 → t ≠ 1 → p' < F)) ∧
    (∀ k_92 k_76 k_23 : Int32 → Int32 → (Nat → Int32) → Prop, (t = 0 → k_23 (nI c') (nI p') f') → (t ≠ 0 → k_76 (nI c') (nI p') f') → w_DR_readParts_4 (nI F) 4000 q (nI W) (nI H) (W * H) k_92 k_76 k_23 n (nI c) (nI p) f) ∧
    (∀ k_96 k_78 : Int32 → Int32 → (Nat → Int32) → Prop, (t = 0 ∨ t = 1 → k_96 (nI c') (nI p') f') → (t ≠ 0 → t ≠ 1 → k_78 (nI c') (nI p') f') → w_MO_readParts_48 (nI W) (nI H) o0_fault o0_toldSize (nI F) o0_parts o0_plain o0_bestOne o0_bestTwo 576 o0_first 576 o0_other 576 o0_open 576 4000 o0_toldBytes 4000 q 3600 o0_part k_96 k_78 n (nI c) (nI p) f) := by
  intro n
  induction n with
  | zero => intro c p f h; exact absurd h (by omega)
  | succ n ih =>
    intro c p f hn hp hc hb hz
    by_cases hpF : p < F
    · have l0 := bn_le hq p
      have e0 := bn_eq hq p
      by_cases z : bn q p = 0
      · refine ⟨0, c, p, f, ⟨hp, hc, hb, hz, fun _ => hpF, fun e => absurd e (by omega), fun e => absurd rfl e⟩, ?_, ?_⟩
        · intro k_92 k_76 k_23 h1 h2
          rw [w_DR_readParts_4]
          refine ⟨fun c => (by exfalso; (first | omega | ((try simp (disch := omega) only [n_0, n_1, n_2, n_3, n_4, n_5, n_6, n_8, n_24, n_255, n_256, n_576, n_4000, nI_add, pk_mul, n_sub, n_cl, n_lt, n_le, n_eq, not_true_eq_false, not_false_eq_true] at c) <;> omega))), fun _ => ?_⟩
          refine s_BR_get_in (by omega) (by omega) hpF ?_
          rw [e0, z]
          refine ⟨fun c => (by exfalso; (first | omega | ((try simp (disch := omega) only [n_0, n_1, n_2, n_3, n_4, n_5, n_6, n_8, n_24, n_255, n_256, n_576, n_4000, nI_add, pk_mul, n_sub, n_cl, n_lt, n_le, n_eq, not_true_eq_false, not_false_eq_true] at c) <;> omega))), fun _ => ?_⟩
          exact h1 rfl
        · intro k_96 k_78 h1 h2
          rw [w_MO_readParts_48]
          refine ⟨fun c => (by exfalso; (first | omega | ((try simp (disch := omega) only [n_0, n_1, n_2, n_3, n_4, n_5, n_6, n_8, n_24, n_255, n_256, n_576, n_4000, nI_add, pk_mul, n_sub, n_cl, n_lt, n_le, n_eq, not_true_eq_false, not_false_eq_true] at c) <;> omega))), fun _ => ?_⟩
          refine ⟨n_in (by omega) (by omega), ?_⟩
          rw [n_cl (by omega), e0, z]
          refine ⟨fun _ => ?_, fun c => (by exfalso; (first | omega | ((try simp (disch := omega) only [n_0, n_1, n_2, n_3, n_4, n_5, n_6, n_8, n_24, n_255, n_256, n_576, n_4000, nI_add, pk_mul, n_sub, n_cl, n_lt, n_le, n_eq, not_true_eq_false, not_false_eq_true] at c) <;> omega)))⟩
          exact h1 (Or.inl rfl)
      · by_cases ho : (1 ≤ bn q p ∧ bn q p ≤ 3) ∧ p + pln q p ≤ F ∧ PO W H q p
        · obtain ⟨hk, hl, hO⟩ := ho
          have hg : 5 ≤ pln q p := by unfold pln; split <;> omega
          have hg2 : pln q p ≤ 6 := by unfold pln; split <;> omega
          obtain ⟨t, c', p', f', hA, hC, hR⟩ := ih (c + 1) (p + pln q p) (PF W q p f) (by omega) (by omega) (by omega) (PF_by hq hb) (PF_zb hz hk hO)
          refine ⟨t, c', p', f', hA, ?_, ?_⟩
          · intro k_92 k_76 k_23 h1 h2
            have r := hC k_92 k_76 k_23 h1 h2
            rw [w_DR_readParts_4]
            refine ⟨fun c => (by exfalso; (first | omega | ((try simp (disch := omega) only [n_0, n_1, n_2, n_3, n_4, n_5, n_6, n_8, n_24, n_255, n_256, n_576, n_4000, nI_add, pk_mul, n_sub, n_cl, n_lt, n_le, n_eq, not_true_eq_false, not_false_eq_true] at c) <;> omega))), fun _ => ?_⟩
            refine s_BR_get_in (by omega) (by omega) hpF ?_
            rw [e0]
            refine ⟨fun _ => ?_, fun c => (by exfalso; (first | omega | ((try simp (disch := omega) only [n_0, n_1, n_2, n_3, n_4, n_5, n_6, n_8, n_24, n_255, n_256, n_576, n_4000, nI_add, pk_mul, n_sub, n_cl, n_lt, n_le, n_eq, not_true_eq_false, not_false_eq_true] at c) <;> omega)))⟩
            refine s_bytesOf_in hk ?_
            refine ⟨fun c => (by exfalso; (first | omega | ((try simp (disch := omega) only [n_0, n_1, n_2, n_3, n_4, n_5, n_6, n_8, n_24, n_255, n_256, n_576, n_4000, nI_add, pk_mul, n_sub, n_cl, n_lt, n_le, n_eq, not_true_eq_false, not_false_eq_true] at c) <;> omega))), fun _ => ?_⟩
            rw [n_sub (by omega)]
            refine ⟨fun c => (by exfalso; (first | omega | ((try simp (disch := omega) only [n_0, n_1, n_2, n_3, n_4, n_5, n_6, n_8, n_24, n_255, n_256, n_576, n_4000, nI_add, pk_mul, n_sub, n_cl, n_lt, n_le, n_eq, not_true_eq_false, not_false_eq_true] at c) <;> omega))), fun _ => ?_⟩
            refine s_DR_drawPart hW hH hq hF hk hl (fun _ => ?_) (fun w => absurd hO w)
            refine ⟨fun _ => ?_, fun c => absurd c (by decide)⟩
            rw [n_1, nI_add, nI_add]
            exact r
          · intro k_96 k_78 h1 h2
            have r := hR k_96 k_78 h1 h2
            rw [w_MO_readParts_48]
            refine ⟨fun c => (by exfalso; (first | omega | ((try simp (disch := omega) only [n_0, n_1, n_2, n_3, n_4, n_5, n_6, n_8, n_24, n_255, n_256, n_576, n_4000, nI_add, pk_mul, n_sub, n_cl, n_lt, n_le, n_eq, not_true_eq_false, not_false_eq_true] at c) <;> omega))), fun _ => ?_⟩
            refine ⟨n_in (by omega) (by omega), ?_⟩
            rw [n_cl (by omega)]
            rw [e0]
            refine ⟨fun c => (by exfalso; (first | omega | ((try simp (disch := omega) only [n_0, n_1, n_2, n_3, n_4, n_5, n_6, n_8, n_24, n_255, n_256, n_576, n_4000, nI_add, pk_mul, n_sub, n_cl, n_lt, n_le, n_eq, not_true_eq_false, not_false_eq_true] at c) <;> omega))), fun _ => ?_⟩
            refine s_MO_readPart h1W hW h1H hH hq hF hpF (fun _ _ _ => ?_) (fun w => absurd ⟨hk, hl, hO⟩ w)
            refine ⟨fun _ => ?_, fun c => absurd c (by decide)⟩
            rw [n_1, nI_add]
            exact r
        · refine ⟨2, c, p, f, ⟨hp, hc, hb, hz, fun e => absurd e (by omega), fun e => absurd e (by omega), fun _ _ => hpF⟩, ?_, ?_⟩
          · intro k_92 k_76 k_23 h1 h2
            have r := h2 (by omega)
            rw [w_DR_readParts_4]
            refine ⟨fun c => (by exfalso; (first | omega | ((try simp (disch := omega) only [n_0, n_1, n_2, n_3, n_4, n_5, n_6, n_8, n_24, n_255, n_256, n_576, n_4000, nI_add, pk_mul, n_sub, n_cl, n_lt, n_le, n_eq, not_true_eq_false, not_false_eq_true] at c) <;> omega))), fun _ => ?_⟩
            refine s_BR_get_in (by omega) (by omega) hpF ?_
            rw [e0]
            refine ⟨fun _ => ?_, fun c => (by exfalso; (first | omega | ((try simp (disch := omega) only [n_0, n_1, n_2, n_3, n_4, n_5, n_6, n_8, n_24, n_255, n_256, n_576, n_4000, nI_add, pk_mul, n_sub, n_cl, n_lt, n_le, n_eq, not_true_eq_false, not_false_eq_true] at c) <;> omega)))⟩
            by_cases hk : 1 ≤ bn q p ∧ bn q p ≤ 3
            · have hg : 5 ≤ pln q p := by unfold pln; split <;> omega
              have hg2 : pln q p ≤ 6 := by unfold pln; split <;> omega
              refine s_bytesOf_in hk ?_
              refine ⟨fun _ => r, fun _ => ?_⟩
              rw [n_sub (by omega)]
              by_cases hl : p + pln q p ≤ F
              · refine ⟨fun c => (by exfalso; (first | omega | ((try simp (disch := omega) only [n_0, n_1, n_2, n_3, n_4, n_5, n_6, n_8, n_24, n_255, n_256, n_576, n_4000, nI_add, pk_mul, n_sub, n_cl, n_lt, n_le, n_eq, not_true_eq_false, not_false_eq_true] at c) <;> omega))), fun _ => ?_⟩
                refine s_DR_drawPart hW hH hq hF hk hl (fun w => absurd ⟨hk, hl, w⟩ ho) (fun w => ?_)
                exact ⟨fun c => absurd rfl c, fun _ => r⟩
              · refine ⟨fun _ => ?_, fun c => (by exfalso; (first | omega | ((try simp (disch := omega) only [n_0, n_1, n_2, n_3, n_4, n_5, n_6, n_8, n_24, n_255, n_256, n_576, n_4000, nI_add, pk_mul, n_sub, n_cl, n_lt, n_le, n_eq, not_true_eq_false, not_false_eq_true] at c) <;> omega)))⟩
                exact r
            · refine s_bytesOf_out (by omega) l0 ?_
              exact ⟨fun _ => r, fun c => absurd rfl c⟩
          · intro k_96 k_78 h1 h2
            have r := h2 (by omega) (by omega)
            rw [w_MO_readParts_48]
            refine ⟨fun c => (by exfalso; (first | omega | ((try simp (disch := omega) only [n_0, n_1, n_2, n_3, n_4, n_5, n_6, n_8, n_24, n_255, n_256, n_576, n_4000, nI_add, pk_mul, n_sub, n_cl, n_lt, n_le, n_eq, not_true_eq_false, not_false_eq_true] at c) <;> omega))), fun _ => ?_⟩
            refine ⟨n_in (by omega) (by omega), ?_⟩
            rw [n_cl (by omega)]
            rw [e0]
            refine ⟨fun c => (by exfalso; (first | omega | ((try simp (disch := omega) only [n_0, n_1, n_2, n_3, n_4, n_5, n_6, n_8, n_24, n_255, n_256, n_576, n_4000, nI_add, pk_mul, n_sub, n_cl, n_lt, n_le, n_eq, not_true_eq_false, not_false_eq_true] at c) <;> omega))), fun _ => ?_⟩
            refine s_MO_readPart h1W hW h1H hH hq hF hpF (fun a b c => absurd ⟨a, b, c⟩ ho) (fun _ => ?_)
            exact ⟨fun c => absurd rfl c, fun _ => r⟩
    · have e : p = F := by omega
      subst e
      refine ⟨1, c, p, f, ⟨hp, hc, hb, hz, fun e => absurd e (by omega), fun _ => rfl, fun _ e => absurd rfl e⟩, ?_, ?_⟩
      · intro k_92 k_76 k_23 h1 h2
        rw [w_DR_readParts_4]
        refine ⟨fun c => (by exfalso; (first | omega | ((try simp (disch := omega) only [n_0, n_1, n_2, n_3, n_4, n_5, n_6, n_8, n_24, n_255, n_256, n_576, n_4000, nI_add, pk_mul, n_sub, n_cl, n_lt, n_le, n_eq, not_true_eq_false, not_false_eq_true] at c) <;> omega))), fun _ => ?_⟩
        refine s_BR_get_out (by omega) (by omega) (Nat.le_refl p) (by omega) ?_
        refine ⟨fun _ => ?_, fun c => absurd c (by decide)⟩
        refine s_bytesOf_m ?_
        exact ⟨fun _ => h2 (by omega), fun c => absurd rfl c⟩
      · intro k_96 k_78 h1 h2
        rw [w_MO_readParts_48]
        refine ⟨fun _ => ?_, fun c => (by exfalso; (first | omega | ((try simp (disch := omega) only [n_0, n_1, n_2, n_3, n_4, n_5, n_6, n_8, n_24, n_255, n_256, n_576, n_4000, nI_add, pk_mul, n_sub, n_cl, n_lt, n_le, n_eq, not_true_eq_false, not_false_eq_true] at c) <;> omega)))⟩
        exact h1 (Or.inr rfl)
