/-! PURE ROWS: the longest copy. Own work. -/
def tP (f : Nat → Int32) (W p x y a b : Nat) : Nat → Bool := fun i => decide (b ≤ y ∧ 4 ≤ x + i + a ∧ x + i + a < W + 4 ∧ f (p + i) = f ((y - b) * W + (x + i + a - 4)))
def cV (f o : Nat → Int32) (W p x y a b : Nat) : Nat → Bool := fun i => oP o p i && tP f W p x y a b i
theorem dx_t {c a : Nat} (hc : c ≤ 1000) (ha : a ≤ 1000) : (nI c + (nI a - 4)).toInt = (c : Int) + (a : Int) - 4 := by
  rw [iI_nI, iI_nI, i_4, iI_sub, iI_add, iI_toInt (by omega) (by omega)]
  omega
theorem dy_t {c a : Nat} (hc : c ≤ 1000) (ha : a ≤ 1000) : (nI c - nI a).toInt = (c : Int) - (a : Int) := by
  rw [iI_nI, iI_nI, iI_sub, iI_toInt (by omega) (by omega)]
theorem d4_t {a : Nat} (ha : a ≤ 1000) : (nI a - 4).toInt = (a : Int) - 4 := by
  rw [iI_nI, i_4, iI_sub, iI_toInt (by omega) (by omega)]
theorem dx_s (a : Nat) : nI a - 4 + 1 = nI (a + 1) - 4 := by
  rw [iI_nI, iI_nI, i_4, i_1, iI_sub, iI_add, iI_sub]
  congr 1
  omega
theorem dx_0 : (-4 : Int32) = nI 0 - 4 := by decide
theorem dx_4 (a : Nat) : nI a - 4 + 4 = nI a := by
  rw [iI_nI, i_4, iI_sub, iI_add]
  congr 1
  omega
theorem s_TE_openAsCopied_3 {o0_plain o0_found_count o0_found_byteLength : Int32} {o0_open o0_counts o0_found_fields : Nat → Int32} {k_58 : Int32 → Prop} {W H x y a b : Nat} (hW : W ≤ 24) (hH : H ≤ 24) (hy : y < H) (ha : a ≤ 8) (hb : b ≤ 4) (hb1 : 1 ≤ b) {f : Nat → Int32} (hf : BY f) : ∀ m i, x + i + m = W → k_58 (nI (run (cV f o0_open W (y * W + x) x y a b) m i)) → w_TE_openAsCopied_3 (nI x) (nI y) (nI a - 4) (nI b) o0_plain (W * H) o0_open 256 o0_counts o0_found_count o0_found_byteLength (W * H * 6) o0_found_fields (nI W) (nI H) (W * H) f k_58 (m + 1) (nI i) := by
  intro m
  induction m with
  | zero =>
    intro i h hk
    rw [w_TE_openAsCopied_3, nI_add]
    refine ⟨fun _ => hk, fun _ => ?_⟩
    refine s_isOpen_out hW hH (by omega) (by omega) ?_
    exact ⟨fun _ => hk, fun c => absurd rfl c⟩
  | succ m ih =>
    intro i h hk
    have e3 : y * W + (x + i) = y * W + x + i := by omega
    rw [w_TE_openAsCopied_3, nI_add]
    refine ⟨fun c => (by exfalso; (first | omega | ((try simp (disch := omega) only [n_0, n_1, n_2, n_3, n_4, n_5, n_6, n_8, n_24, n_255, n_256, n_576, n_4000, nI_add, pk_mul, n_sub, n_cl, n_lt, n_le, n_eq, not_true_eq_false, not_false_eq_true] at c) <;> omega))), fun _ => ?_⟩
    refine s_isOpen_in hW hH (show x + i < W by omega) hy (fun c => ?_) (fun c => ?_)
    · rw [e3] at c
      refine ⟨fun _ => ?_, fun c => absurd rfl c⟩
      have e : cV f o0_open W (y * W + x) x y a b i = false := by unfold cV oP; simp [c]
      simp only [run, e] at hk
      exact hk
    · rw [e3] at c
      refine ⟨fun c => absurd c (by decide), fun _ => ?_⟩
      refine s_value_in hW hH (show x + i < W by omega) hy ?_
      rw [e3]
      have eo : oP o0_open (y * W + x) i = true := by unfold oP; simp [c]
      by_cases ci : b ≤ y ∧ 4 ≤ x + i + a ∧ x + i + a < W + 4
      · rw [dx_nI (by omega), n_sub (by omega)]
        refine s_value_in hW hH (show x + i + a - 4 < W by omega) (show y - b < H by omega) ?_
        refine ⟨fun c2 => ?_, fun c2 => ?_⟩
        · have e : cV f o0_open W (y * W + x) x y a b i = false := by
            unfold cV tP; rw [eo]; simp [c2]
          simp only [run, e] at hk
          exact hk
        · have e : cV f o0_open W (y * W + x) x y a b i = true := by
            unfold cV tP; rw [eo]; simp [c2, ci]
          simp only [run, e] at hk
          rw [n_1, nI_add]
          exact ih (i + 1) (by omega) hk
      · refine s_value_out hW hH ?_ ?_
        · rw [dx_t (by omega) (by omega), dy_t (by omega) (by omega)]
          omega
        · have e : cV f o0_open W (y * W + x) x y a b i = false := by
            unfold cV tP
            have : ¬ (b ≤ y ∧ 4 ≤ x + i + a ∧ x + i + a < W + 4 ∧ f (y * W + x + i) = f ((y - b) * W + (x + i + a - 4))) := fun w => ci ⟨w.1, w.2.1, w.2.2.1⟩
            rw [eo, decide_eq_false this]; rfl
          simp only [run, e] at hk
          exact ⟨fun _ => hk, fun c => absurd c (by_ne_m1 (hf _))⟩
theorem s_TE_openAsCopied {o0_plain o0_found_count o0_found_byteLength : Int32} {o0_open o0_counts o0_found_fields : Nat → Int32} {post : Int32 → Prop} {W H x y a b : Nat} (hW : W ≤ 24) (hH : H ≤ 24) (hx : x ≤ W) (hy : y < H) (ha : a ≤ 8) (hb : b ≤ 4) (hb1 : 1 ≤ b) {f : Nat → Int32} (hf : BY f) (hp : post (nI (run (cV f o0_open W (y * W + x) x y a b) (W - x) 0))) : w_TE_openAsCopied o0_plain (W * H) o0_open 256 o0_counts o0_found_count o0_found_byteLength (W * H * 6) o0_found_fields (nI W) (nI H) (W * H) f (nI x) (nI y) (nI a - 4) (nI b) post := by
  unfold w_TE_openAsCopied
  exact ⟨W - x + 1, s_TE_openAsCopied_3 (k_58 := fun (v6_2_6 : Int32) => post v6_2_6) hW hH hy ha hb hb1 hf (W - x) 0 (by omega) hp⟩
theorem s_MO_findCopy_27 {o0_fault o0_toldSize o0_fedSize o0_parts o0_plain o0_place g_o0_q_14_14 g_o0_q_15_15 g_o0_q_16_16 : Int32} {o0_other o0_open o0_read o0_toldBytes o0_fed o0_part : Nat → Int32} {k_98 : Int32 → Prop} {W H x y a b nn : Nat} (h1W : 1 ≤ W) (hW : W ≤ 24) (h1H : 1 ≤ H) (hH : H ≤ 24) (hy : y < H) (hx : x + nn ≤ W) (ha : a ≤ 8) (hb : b ≤ 4) (hb1 : 1 ≤ b) {f : Nat → Int32} : ∀ m i, i + m = nn → k_98 (nI (run (tP f W (y * W + x) x y a b) m i)) → w_MO_findCopy_27 (nI x) (nI y) (nI nn) (nI W) (nI H) o0_fault o0_toldSize o0_fedSize o0_parts o0_plain o0_place 576 f 576 o0_other 576 o0_open 576 o0_read 4000 o0_toldBytes 4000 o0_fed 3600 o0_part (nI b) (nI a - 4) g_o0_q_14_14 g_o0_q_15_15 g_o0_q_16_16 k_98 (m + 1) (nI i) := by
  have hs := pl_le hW hH
  intro m
  induction m with
  | zero =>
    intro i h hk
    rw [w_MO_findCopy_27]
    refine ⟨fun _ => ?_, fun c => (by exfalso; (first | omega | ((try simp (disch := omega) only [n_0, n_1, n_2, n_3, n_4, n_5, n_6, n_8, n_24, n_255, n_256, n_576, n_4000, nI_add, pk_mul, n_sub, n_cl, n_lt, n_le, n_eq, not_true_eq_false, not_false_eq_true] at c) <;> omega)))⟩
    exact hk
  | succ m ih =>
    intro i h hk
    have z1 := @pl_lt W H (x + i) y (by omega) (by omega)
    rw [w_MO_findCopy_27]
    refine ⟨fun c => (by exfalso; (first | omega | ((try simp (disch := omega) only [n_0, n_1, n_2, n_3, n_4, n_5, n_6, n_8, n_24, n_255, n_256, n_576, n_4000, nI_add, pk_mul, n_sub, n_cl, n_lt, n_le, n_eq, not_true_eq_false, not_false_eq_true] at c) <;> omega))), fun _ => ?_⟩
    rw [nI_add]
    refine s_MO_isSample h1W hW h1H hH ?_
    rw [dx_t (by omega) (by omega), dy_t (by omega) (by omega)]
    by_cases ci : b ≤ y ∧ 4 ≤ x + i + a ∧ x + i + a < W + 4
    · have z2 := @pl_lt W H (x + i + a - 4) (y - b) (by omega) (by omega)
      rw [if_pos (by omega)]
      refine ⟨fun c => absurd c (by decide), fun _ => ?_⟩
      have e5 : nI W * (nI y - nI b) + nI x + nI i + (nI a - 4) = nI ((y - b) * W + (x + i + a - 4)) := by
        rw [n_sub (by omega), pk_mul, nI_add, nI_add, dx_nI (by omega), Nat.mul_comm W (y - b)]
        congr 1
        omega
      rw [e5, ix_nI2, nI_add, n_cl (by omega), n_cl (by omega)]
      refine ⟨n_in (by omega) (by omega), ?_⟩
      refine ⟨n_in (by omega) (by omega), ?_⟩
      refine ⟨fun c2 => ?_, fun c2 => ?_⟩
      · have e : tP f W (y * W + x) x y a b i = false := by unfold tP; simp [c2]
        simp only [run, e] at hk
        exact hk
      · have e : tP f W (y * W + x) x y a b i = true := by unfold tP; simp [c2, ci]
        simp only [run, e] at hk
        rw [n_1, nI_add]
        exact ih (i + 1) (by omega) hk
    · rw [if_neg (by omega)]
      have e : tP f W (y * W + x) x y a b i = false := by
        unfold tP
        have : ¬ (b ≤ y ∧ 4 ≤ x + i + a ∧ x + i + a < W + 4 ∧ f (y * W + x + i) = f ((y - b) * W + (x + i + a - 4))) := fun w => ci ⟨w.1, w.2.1, w.2.2.1⟩
        exact decide_eq_false this
      simp only [run, e] at hk
      exact ⟨fun _ => hk, fun c => absurd rfl c⟩
/-- what the searches have in common -/
def CR (len : Nat) (u v u' v' : Int32) : Prop := len = 0 ∨ (u' = u ∧ v' = v ∧ ∃ a b : Nat, a ≤ 8 ∧ 1 ≤ b ∧ b ≤ 4 ∧ u = nI a - 4 ∧ v = nI b)
theorem cpy_in {o0_plain o0_found_count o0_found_byteLength : Int32} {o0_counts o0_found_fields : Nat → Int32} {o0_fault o0_toldSize o0_fedSize o0_parts o0_pln o0_place : Int32} {o0_other o0_read o0_toldBytes o0_fed o0_part : Nat → Int32} {W H x y b : Nat} (h1W : 1 ≤ W) (hW : W ≤ 24) (h1H : 1 ≤ H) (hH : H ≤ 24) (hx : x < W) (hy : y < H) (hb1 : 1 ≤ b) (hb : b ≤ 4) {f o : Nat → Int32} (hf : BY f) : ∀ d a len u v u' v', a + d = 9 → len ≤ W - x → CR len u v u' v' → ∃ (l1 : Nat) (u1 v1 w1 z1 : Int32), (l1 ≤ W - x ∧ CR l1 u1 v1 w1 z1) ∧
    (∀ k_66 : Int32 → Int32 → Int32 → Int32 → Prop, (∀ z, k_66 z v1 u1 (nI l1)) → w_TE_takeCopyOrRun_22 (nI x) (nI y) o0_plain (W * H) o 256 o0_counts o0_found_count o0_found_byteLength (W * H * 6) o0_found_fields (nI W) (nI H) (W * H) f (nI b) k_66 (d + 1) (nI a - 4) v u (nI len)) ∧
    (∀ k_131 : Int32 → Int32 → Int32 → Int32 → Prop, (∀ z, k_131 z (nI l1) w1 z1) → w_MO_findCopy_18 (nI x) (nI y) (nI (run (oP o (y * W + x)) (W - x) 0)) (nI W) (nI H) o0_fault o0_toldSize o0_fedSize o0_parts o0_pln o0_place 576 f 576 o0_other 576 o 576 o0_read 4000 o0_toldBytes 4000 o0_fed 3600 o0_part (nI b) k_131 (d + 1) (nI a - 4) (nI len) u' v') := by
  have t4 : (4 : Int32).toInt = 4 := rfl
  have rn := run_le (P := oP o (y * W + x)) (W - x) 0
  intro d
  induction d with
  | zero =>
    intro a len u v u' v' h hl hc
    have e : a = 9 := by omega
    subst e
    refine ⟨len, u, v, u', v', ⟨hl, hc⟩, ?_, ?_⟩
    · intro k_66 hk
      rw [w_TE_takeCopyOrRun_22]
      exact ⟨fun _ => hk _, fun c => absurd (by decide) c⟩
    · intro k_131 hk
      rw [w_MO_findCopy_18]
      exact ⟨fun _ => hk _, fun c => absurd (by decide) c⟩
  | succ d ih =>
    intro a len u v u' v' h hl hc
    have h4 : ¬ (4 : Int32) < nI a - 4 := by
      rw [c_lt, t4, d4_t (by omega)]; omega
    have rl := run_le (P := cV f o W (y * W + x) x y a b) (W - x) 0
    have er : run (tP f W (y * W + x) x y a b) (run (oP o (y * W + x)) (W - x) 0) 0 = run (cV f o W (y * W + x) x y a b) (W - x) 0 := by
      have := run_and (A := oP o (y * W + x)) (B := tP f W (y * W + x) x y a b) (W - x) 0
      rw [Nat.sub_zero] at this
      exact this.symm
    generalize hL : run (cV f o W (y * W + x) x y a b) (W - x) 0 = L at rl er
    by_cases cl : L ≤ len
    · obtain ⟨l1, u1, v1, w1, z1, hA, hC, hR⟩ := ih (a + 1) len u v u' v' (by omega) hl hc
      refine ⟨l1, u1, v1, w1, z1, hA, ?_, ?_⟩
      · intro k_66 hk
        have z := hC k_66 hk
        rw [w_TE_takeCopyOrRun_22]
        refine ⟨fun c => absurd c h4, fun _ => ?_⟩
        refine s_TE_openAsCopied hW hH (by omega) hy (by omega) hb hb1 hf ?_
        rw [hL, dx_s]
        refine ⟨fun _ => ?_, fun c => (by exfalso; (first | omega | ((try simp (disch := omega) only [n_0, n_1, n_2, n_3, n_4, n_5, n_6, n_8, n_24, n_255, n_256, n_576, n_4000, nI_add, pk_mul, n_sub, n_cl, n_lt, n_le, n_eq, not_true_eq_false, not_false_eq_true] at c) <;> omega)))⟩
        exact z
      · intro k_131 hk
        have z := hR k_131 hk
        rw [w_MO_findCopy_18]
        refine ⟨fun c => absurd c h4, fun _ => ?_⟩
        refine ⟨_, s_MO_findCopy_27 h1W hW h1H hH hy (by omega) (by omega) hb hb1 _ 0 (Nat.zero_add _) ?_⟩
        rw [er, dx_s]
        refine ⟨fun _ => ?_, fun c => (by exfalso; (first | omega | ((try simp (disch := omega) only [n_0, n_1, n_2, n_3, n_4, n_5, n_6, n_8, n_24, n_255, n_256, n_576, n_4000, nI_add, pk_mul, n_sub, n_cl, n_lt, n_le, n_eq, not_true_eq_false, not_false_eq_true] at c) <;> omega)))⟩
        exact z
    · obtain ⟨l1, u1, v1, w1, z1, hA, hC, hR⟩ := ih (a + 1) L (nI a - 4) (nI b) (nI a - 4) (nI b) (by omega) (by omega) (Or.inr ⟨rfl, rfl, a, b, by omega, hb1, hb, rfl, rfl⟩)
      refine ⟨l1, u1, v1, w1, z1, hA, ?_, ?_⟩
      · intro k_66 hk
        have z := hC k_66 hk
        rw [w_TE_takeCopyOrRun_22]
        refine ⟨fun c => absurd c h4, fun _ => ?_⟩
        refine s_TE_openAsCopied hW hH (by omega) hy (by omega) hb hb1 hf ?_
        rw [hL, dx_s]
        refine ⟨fun c => (by exfalso; (first | omega | ((try simp (disch := omega) only [n_0, n_1, n_2, n_3, n_4, n_5, n_6, n_8, n_24, n_255, n_256, n_576, n_4000, nI_add, pk_mul, n_sub, n_cl, n_lt, n_le, n_eq, not_true_eq_false, not_false_eq_true] at c) <;> omega))), fun _ => ?_⟩
        exact z
      · intro k_131 hk
        have z := hR k_131 hk
        rw [w_MO_findCopy_18]
        refine ⟨fun c => absurd c h4, fun _ => ?_⟩
        refine ⟨_, s_MO_findCopy_27 h1W hW h1H hH hy (by omega) (by omega) hb hb1 _ 0 (Nat.zero_add _) ?_⟩
        rw [er, dx_s]
        refine ⟨fun c => (by exfalso; (first | omega | ((try simp (disch := omega) only [n_0, n_1, n_2, n_3, n_4, n_5, n_6, n_8, n_24, n_255, n_256, n_576, n_4000, nI_add, pk_mul, n_sub, n_cl, n_lt, n_le, n_eq, not_true_eq_false, not_false_eq_true] at c) <;> omega))), fun _ => ?_⟩
        exact z
theorem cpy_out {o0_plain o0_found_count o0_found_byteLength : Int32} {o0_counts o0_found_fields : Nat → Int32} {o0_fault o0_toldSize o0_fedSize o0_parts o0_pln o0_place : Int32} {o0_other o0_read o0_toldBytes o0_fed o0_part : Nat → Int32} {W H x y : Nat} (h1W : 1 ≤ W) (hW : W ≤ 24) (h1H : 1 ≤ H) (hH : H ≤ 24) (hx : x < W) (hy : y < H) {f o : Nat → Int32} (hf : BY f) : ∀ d b len u v u' v', b + d = 5 → 1 ≤ b → len ≤ W - x → CR len u v u' v' → ∃ (l1 : Nat) (u1 v1 w1 z1 : Int32), (l1 ≤ W - x ∧ CR l1 u1 v1 w1 z1) ∧
    (∀ k_72 : Int32 → Int32 → Int32 → Int32 → Prop, (∀ z, k_72 z v1 u1 (nI l1)) → w_TE_takeCopyOrRun_12 (nI x) (nI y) o0_plain (W * H) o 256 o0_counts o0_found_count o0_found_byteLength (W * H * 6) o0_found_fields (nI W) (nI H) (W * H) f k_72 (d + 1) (nI b) v u (nI len)) ∧
    (∀ k_137 : Int32 → Int32 → Int32 → Int32 → Prop, (∀ z, k_137 z (nI l1) w1 z1) → w_MO_findCopy_8 (nI x) (nI y) (nI (run (oP o (y * W + x)) (W - x) 0)) (nI W) (nI H) o0_fault o0_toldSize o0_fedSize o0_parts o0_pln o0_place 576 f 576 o0_other 576 o 576 o0_read 4000 o0_toldBytes 4000 o0_fed 3600 o0_part k_137 (d + 1) (nI b) (nI len) u' v') := by
  intro d
  induction d with
  | zero =>
    intro b len u v u' v' h h1 hl hc
    have e : b = 5 := by omega
    subst e
    refine ⟨len, u, v, u', v', ⟨hl, hc⟩, ?_, ?_⟩
    · intro k_72 hk
      rw [w_TE_takeCopyOrRun_12]
      exact ⟨fun _ => hk _, fun c => absurd (by decide) c⟩
    · intro k_137 hk
      rw [w_MO_findCopy_8]
      exact ⟨fun _ => hk _, fun c => absurd (by decide) c⟩
  | succ d ih =>
    intro b len u v u' v' h h1 hl hc
    obtain ⟨l1, u1, v1, w1, z1, ⟨hl1, hc1⟩, hC1, hR1⟩ := cpy_in (o0_plain := o0_plain) (o0_found_count := o0_found_count) (o0_found_byteLength := o0_found_byteLength) (o0_counts := o0_counts) (o0_found_fields := o0_found_fields) (o0_fault := o0_fault) (o0_toldSize := o0_toldSize) (o0_fedSize := o0_fedSize) (o0_parts := o0_parts) (o0_pln := o0_pln) (o0_place := o0_place) (o0_other := o0_other) (o0_read := o0_read) (o0_toldBytes := o0_toldBytes) (o0_fed := o0_fed) (o0_part := o0_part) h1W hW h1H hH hx hy h1 (by omega) (f := f) (o := o) hf 9 0 len u v u' v' (by omega) hl hc
    obtain ⟨l2, u2, v2, w2, z2, hA, hC, hR⟩ := ih (b + 1) l1 u1 v1 w1 z1 (by omega) (by omega) hl1 hc1
    refine ⟨l2, u2, v2, w2, z2, hA, ?_, ?_⟩
    · intro k_72 hk
      have z := hC k_72 hk
      rw [w_TE_takeCopyOrRun_12, dx_0]
      refine ⟨fun c => (by exfalso; (first | omega | ((try simp (disch := omega) only [n_0, n_1, n_2, n_3, n_4, n_5, n_6, n_8, n_24, n_255, n_256, n_576, n_4000, nI_add, pk_mul, n_sub, n_cl, n_lt, n_le, n_eq, not_true_eq_false, not_false_eq_true] at c) <;> omega))), fun _ => ?_⟩
      refine ⟨10, hC1 _ (fun _ => ?_)⟩
      rw [n_1, nI_add]
      exact z
    · intro k_137 hk
      have z := hR k_137 hk
      rw [w_MO_findCopy_8, dx_0]
      refine ⟨fun c => (by exfalso; (first | omega | ((try simp (disch := omega) only [n_0, n_1, n_2, n_3, n_4, n_5, n_6, n_8, n_24, n_255, n_256, n_576, n_4000, nI_add, pk_mul, n_sub, n_cl, n_lt, n_le, n_eq, not_true_eq_false, not_false_eq_true] at c) <;> omega))), fun _ => ?_⟩
      refine ⟨10, hR1 _ (fun _ => ?_)⟩
      rw [n_1, nI_add]
      exact z
