/-! PURE ROWS: encode. Own work. -/
def bb (fl : Nat → Int32) (k t : Nat) : Nat → Int32 := fun i => if t = 2 ∧ i = 4 then fl (k * 6 + i) + 4 else fl (k * 6 + i)
theorem ap_byN {b : Nat → Int32} : ∀ d i F q, (∀ j, i ≤ j → j < i + d → by8 (b j)) → BY q → BY (ap b d i F q) := by
  intro d
  induction d with
  | zero => intro i F q _ h; exact h
  | succ d ih =>
    intro i F q hb h
    refine ih (i + 1) (F + 1) _ (fun j h1 h2 => hb j (by omega) (by omega)) ?_
    exact upd_by h (hb i (by omega) (by omega))
theorem pls_mono {fl : Nat → Int32} : ∀ d k, pls fl k ≤ pls fl (k + d) := by
  intro d
  induction d with
  | zero => intro k; exact Nat.le_refl _
  | succ d ih =>
    intro k
    have := ih k
    show pls fl k ≤ pls fl (k + d) + _
    omega
theorem s_PL_field {o0_count o0_byteLength : Int32} {o0_fields : Nat → Int32} {post : Int32 → Prop} {W H k i : Nat} (hW : W ≤ 24) (hH : H ≤ 24) (hk : k < W * H) (hi : i < 6) (hp : post (o0_fields (k * 6 + i))) : w_PL_field o0_count o0_byteLength (W * H * 6) o0_fields (nI k) (nI i) post := by
  have hs := pl_le hW hH
  unfold w_PL_field
  rw [n_6, pk_mul, nI_add]
  refine ⟨fun c => (by exfalso; (first | omega | ((try simp (disch := omega) only [n_0, n_1, n_2, n_3, n_4, n_5, n_6, n_8, n_24, n_255, n_256, n_576, n_4000, nI_add, pk_mul, n_sub, n_cl, n_lt, n_le, n_eq, not_true_eq_false, not_false_eq_true] at c) <;> omega))), fun _ => ?_⟩
  refine ⟨fun c => (by exfalso; (first | omega | ((try simp (disch := omega) only [n_0, n_1, n_2, n_3, n_4, n_5, n_6, n_8, n_24, n_255, n_256, n_576, n_4000, nI_add, pk_mul, n_sub, n_cl, n_lt, n_le, n_eq, not_true_eq_false, not_false_eq_true] at c) <;> omega))), fun _ => ?_⟩
  refine ⟨n_in (by omega) (by omega), ?_⟩
  rwa [n_cl (by omega)]
theorem add0 (v : Int32) : v + 0 = v := Int32.add_zero v
theorem s_PL_writeTo_20 {o0_count o0_byteLength : Int32} {k_67 : Int32 → Int32 → (Nat → Int32) → Prop} {W H k t N : Nat} (hW : W ≤ 24) (hH : H ≤ 24) (hk : k < W * H) (h1 : 1 ≤ t) (h3 : t ≤ 3) (hN : N ≤ 4000) {fl : Nat → Int32} : ∀ d i T q, i + d = (if t = 3 then 5 else 6) → T + d ≤ N → k_67 (nI (if t = 3 then 5 else 6)) (nI (T + d)) (ap (bb fl k t) d i T q) → w_PL_writeTo_20 o0_count o0_byteLength (W * H * 6) fl N (nI k) (nI t) k_67 (d + 1) (nI i) (nI T) q := by
  have hl : (if t = 3 then 5 else 6) ≤ 6 := by split <;> omega
  intro d
  induction d with
  | zero =>
    intro i T q h hT hk
    rw [w_PL_writeTo_20]
    refine s_bytesOf_t h1 h3 ?_
    rw [Nat.add_zero] at h
    rw [← h] at hk ⊢
    refine ⟨fun _ => hk, fun c => (by exfalso; (first | omega | ((try simp (disch := omega) only [n_0, n_1, n_2, n_3, n_4, n_5, n_6, n_8, n_24, n_255, n_256, n_576, n_4000, nI_add, pk_mul, n_sub, n_cl, n_lt, n_le, n_eq, not_true_eq_false, not_false_eq_true] at c) <;> omega)))⟩
  | succ d ih =>
    intro i T q h hT hk
    rw [w_PL_writeTo_20]
    refine s_bytesOf_t h1 h3 ?_
    rw [← h]
    refine ⟨fun c => (by exfalso; (first | omega | ((try simp (disch := omega) only [n_0, n_1, n_2, n_3, n_4, n_5, n_6, n_8, n_24, n_255, n_256, n_576, n_4000, nI_add, pk_mul, n_sub, n_cl, n_lt, n_le, n_eq, not_true_eq_false, not_false_eq_true] at c) <;> omega))), fun _ => ?_⟩
    rw [n_1, nI_add]
    rw [show T + (d + 1) = T + 1 + d by omega] at hk
    refine ⟨fun c => ?_, fun c => ⟨fun c2 => ?_, fun c2 => ?_⟩⟩
    · refine s_PL_field hW hH (by omega) (by omega) ?_
      refine s_BR_add (by omega) hN ?_
      refine ih (i + 1) (T + 1) _ (by omega) (by omega) ?_
      have e : bb fl k t i = fl (k * 6 + i) := by
        unfold bb; rw [if_neg]; intro w; apply c; rw [w.1]; rfl
      rw [add0]
      simp only [ap, e] at hk
      exact hk
    · refine s_PL_field hW hH (by omega) (by omega) ?_
      refine s_BR_add (by omega) hN ?_
      refine ih (i + 1) (T + 1) _ (by omega) (by omega) ?_
      have e : bb fl k t i = fl (k * 6 + i) := by
        unfold bb; rw [if_neg]; intro w; apply c2; rw [w.2]; rfl
      rw [add0]
      simp only [ap, e] at hk
      exact hk
    · refine s_PL_field hW hH (by omega) (by omega) ?_
      refine s_BR_add (by omega) hN ?_
      refine ih (i + 1) (T + 1) _ (by omega) (by omega) ?_
      have e : bb fl k t i = fl (k * 6 + i) + 4 := by
        unfold bb; rw [if_pos]
        rw [n_2, n_eq (by omega) (by omega)] at c
        rw [n_4, n_eq (by omega) (by omega)] at c2
        exact ⟨c, c2⟩
      simp only [ap, e] at hk
      exact hk
theorem s_MO_encode_357_v3 {o0_fedSize o0_place g_o0_q_11_45_59 g_o0_q_14_46_60 g_o0_q_15_47_61 g_o0_q_16_48_62 : Int32} {o0_first o0_other o0_read o0_fed f_o0_open_q_49_63 : Nat → Int32} {k_422 : Int32 → Int32 → (Nat → Int32) → Prop} {W H k t : Nat} (hk : k < 576) (ht : t = 1 ∨ t = 2) {fl : Nat → Int32} (hf : fl (k * 6) = nI t) : ∀ d i T q, i + d = 6 → T + d ≤ 4000 → k_422 (nI 6) (nI (T + d)) (ap (bb fl k t) d i T q) → w_MO_encode_357_v3 (nI W) (nI H) o0_fedSize o0_place 576 o0_first 576 o0_other 576 576 o0_read 4000 4000 o0_fed 3600 g_o0_q_11_45_59 g_o0_q_14_46_60 g_o0_q_15_47_61 g_o0_q_16_48_62 f_o0_open_q_49_63 fl (nI k) k_422 (d + 1) (nI i) (nI T) q := by
  intro d
  induction d with
  | zero =>
    intro i T q h hT hk
    have e : i = 6 := by omega
    subst e
    rw [w_MO_encode_357_v3]
    refine ⟨fun _ => ?_, fun c => (by exfalso; (first | omega | ((try simp (disch := omega) only [n_0, n_1, n_2, n_3, n_4, n_5, n_6, n_8, n_24, n_255, n_256, n_576, n_4000, nI_add, pk_mul, n_sub, n_cl, n_lt, n_le, n_eq, not_true_eq_false, not_false_eq_true] at c) <;> omega)))⟩
    exact hk
  | succ d ih =>
    intro i T q h hT hk
    rw [show T + (d + 1) = T + 1 + d by omega] at hk
    rw [w_MO_encode_357_v3]
    refine ⟨fun c => (by exfalso; (first | omega | ((try simp (disch := omega) only [n_0, n_1, n_2, n_3, n_4, n_5, n_6, n_8, n_24, n_255, n_256, n_576, n_4000, nI_add, pk_mul, n_sub, n_cl, n_lt, n_le, n_eq, not_true_eq_false, not_false_eq_true] at c) <;> omega))), fun _ => ?_⟩
    rw [n_6, pk_mul, nI_add, Nat.mul_comm 6 k, n_cl (by omega), n_cl (by omega), hf, n_1, nI_add]
    refine ⟨n_in (by omega) (by omega), ?_⟩
    refine ⟨fun c => ⟨n_in (by omega) (by omega), ?_⟩, fun c => ⟨fun c2 => ⟨n_in (by omega) (by omega), ?_⟩, fun c2 => ⟨n_in (by omega) (by omega), ?_⟩⟩⟩
    · refine s_MO_say (by omega) ?_
      refine ih (i + 1) (T + 1) _ (by omega) (by omega) ?_
      have e : bb fl k t i = fl (k * 6 + i) := by
        unfold bb; rw [if_neg]; intro w; apply c; rw [w.1]; rfl
      simp only [ap, e] at hk
      exact hk
    · refine s_MO_say (by omega) ?_
      refine ih (i + 1) (T + 1) _ (by omega) (by omega) ?_
      have e : bb fl k t i = fl (k * 6 + i) := by
        unfold bb; rw [if_neg]; intro w; apply c2; rw [w.2]; rfl
      simp only [ap, e] at hk
      exact hk
    · refine s_MO_say (by omega) ?_
      refine ih (i + 1) (T + 1) _ (by omega) (by omega) ?_
      have e : bb fl k t i = fl (k * 6 + i) + 4 := by
        unfold bb; rw [if_pos]
        rw [n_2, n_eq (by omega) (by omega)] at c
        rw [n_4, n_eq (by omega) (by omega)] at c2
        exact ⟨c, c2⟩
      simp only [ap, e] at hk
      exact hk
theorem s_MO_encode_357_v4 {o0_fedSize o0_place g_o0_q_11_45_59 g_o0_q_14_46_60 g_o0_q_15_47_61 g_o0_q_16_48_62 : Int32} {o0_first o0_other o0_read o0_fed f_o0_open_q_49_63 : Nat → Int32} {k_422 : Int32 → Int32 → (Nat → Int32) → Prop} {W H k : Nat} (hk : k < 576) {fl : Nat → Int32} : ∀ d i T q, i + d = 5 → T + d ≤ 4000 → k_422 (nI 5) (nI (T + d)) (ap (bb fl k 3) d i T q) → w_MO_encode_357_v4 (nI W) (nI H) o0_fedSize o0_place 576 o0_first 576 o0_other 576 576 o0_read 4000 4000 o0_fed 3600 g_o0_q_11_45_59 g_o0_q_14_46_60 g_o0_q_15_47_61 g_o0_q_16_48_62 f_o0_open_q_49_63 fl (nI k) k_422 (d + 1) (nI i) (nI T) q := by
  intro d
  induction d with
  | zero =>
    intro i T q h hT hk
    have e : i = 5 := by omega
    subst e
    rw [w_MO_encode_357_v4]
    refine ⟨fun _ => ?_, fun c => (by exfalso; (first | omega | ((try simp (disch := omega) only [n_0, n_1, n_2, n_3, n_4, n_5, n_6, n_8, n_24, n_255, n_256, n_576, n_4000, nI_add, pk_mul, n_sub, n_cl, n_lt, n_le, n_eq, not_true_eq_false, not_false_eq_true] at c) <;> omega)))⟩
    exact hk
  | succ d ih =>
    intro i T q h hT hk
    rw [show T + (d + 1) = T + 1 + d by omega] at hk
    rw [w_MO_encode_357_v4]
    refine ⟨fun c => (by exfalso; (first | omega | ((try simp (disch := omega) only [n_0, n_1, n_2, n_3, n_4, n_5, n_6, n_8, n_24, n_255, n_256, n_576, n_4000, nI_add, pk_mul, n_sub, n_cl, n_lt, n_le, n_eq, not_true_eq_false, not_false_eq_true] at c) <;> omega))), fun _ => ?_⟩
    rw [n_6, pk_mul, nI_add, Nat.mul_comm 6 k, n_cl (by omega), n_1, nI_add]
    refine ⟨n_in (by omega) (by omega), ?_⟩
    refine ⟨n_in (by omega) (by omega), ?_⟩
    refine s_MO_say (by omega) ?_
    refine ih (i + 1) (T + 1) _ (by omega) (by omega) ?_
    have e : bb fl k 3 i = fl (k * 6 + i) := by
      unfold bb; rw [if_neg (by omega)]
    simp only [ap, e] at hk
    exact hk
theorem wr_all {o0_byteLength : Int32} {o0_fedSize o0_place g14 g15 g16 : Int32} {o0_first o0_other o0_read o0_fed fo : Nat → Int32} {W H P N : Nat} (hW : W ≤ 24) (hH : H ≤ 24) (hP : P ≤ W * H) (hN : N ≤ 4000) {fl : Nat → Int32} (hv : ∀ k, k < P → PVk fl k) (hr : 2 + pls fl P ≤ N) : ∀ d k q, k + d = P → BY q → ∃ q' : Nat → Int32, BY q' ∧
    (∀ K : Int32 → Int32 → (Nat → Int32) → Prop, K (nI P) (nI (2 + pls fl P)) q' → w_PL_writeTo_2 (nI P) o0_byteLength (W * H * 6) fl N K (d + 1) (nI k) (nI (2 + pls fl k)) q) ∧
    (∀ K : Int32 → Int32 → (Nat → Int32) → Prop, K (nI P) (nI (2 + pls fl P)) q' → w_MO_encode_325_v2 (nI W) (nI H) o0_fedSize o0_place 576 o0_first 576 o0_other 576 576 o0_read 4000 4000 o0_fed 3600 (nI P) g14 g15 g16 fo fl K (d + 1) (nI k) (nI (2 + pls fl k)) q) := by
  have hs := pl_le hW hH
  intro d
  induction d with
  | zero =>
    intro k q h hb
    have e : k = P := by omega
    subst e
    refine ⟨q, hb, ?_, ?_⟩
    · intro K hk
      rw [w_PL_writeTo_2]
      refine ⟨fun _ => ?_, fun c => (by exfalso; (first | omega | ((try simp (disch := omega) only [n_0, n_1, n_2, n_3, n_4, n_5, n_6, n_8, n_24, n_255, n_256, n_576, n_4000, nI_add, pk_mul, n_sub, n_cl, n_lt, n_le, n_eq, not_true_eq_false, not_false_eq_true] at c) <;> omega)))⟩
      exact hk
    · intro K hk
      rw [w_MO_encode_325_v2]
      refine ⟨fun _ => ?_, fun c => (by exfalso; (first | omega | ((try simp (disch := omega) only [n_0, n_1, n_2, n_3, n_4, n_5, n_6, n_8, n_24, n_255, n_256, n_576, n_4000, nI_add, pk_mul, n_sub, n_cl, n_lt, n_le, n_eq, not_true_eq_false, not_false_eq_true] at c) <;> omega)))⟩
      exact hk
  | succ d ih =>
    intro k q h hb
    obtain ⟨t, t1, t3, ef, hbt⟩ := hv k (by omega)
    have hm := pls_mono (fl := fl) (P - (k + 1)) (k + 1)
    rw [show k + 1 + (P - (k + 1)) = P by omega] at hm
    have hk1 : pls fl (k + 1) = pls fl k + (if t = 3 then 5 else 6) := by
      show pls fl k + (if fl (k * 6) = 3 then 5 else 6) = _
      congr 1
      by_cases z : t = 3
      · rw [if_pos z, if_pos (by rw [ef, z]; rfl)]
      · rw [if_neg z, if_neg (by rw [ef, n_3, n_eq (by omega) (by omega)]; exact z)]
    have hl : (if t = 3 then 5 else 6) ≤ 6 := by split <;> omega
    have hbq : BY (ap (bb fl k t) (if t = 3 then 5 else 6) 0 (2 + pls fl k) q) := by
      refine ap_byN _ _ _ _ ?_ hb
      intro j _ hj
      by_cases j0 : j = 0
      · subst j0
        unfold bb
        rw [if_neg (by omega), Nat.add_zero, ef]
        exact by_nI (by omega)
      · exact hbt j (by omega) (by omega)
    obtain ⟨q', hb', hC, hR⟩ := ih (k + 1) _ (by omega) hbq
    have e2 : 2 + pls fl k + (if t = 3 then 5 else 6) = 2 + pls fl (k + 1) := by rw [hk1]; omega
    refine ⟨q', hb', ?_, ?_⟩
    · intro K hk
      have z := hC K hk
      rw [w_PL_writeTo_2]
      refine ⟨fun c => (by exfalso; (first | omega | ((try simp (disch := omega) only [n_0, n_1, n_2, n_3, n_4, n_5, n_6, n_8, n_24, n_255, n_256, n_576, n_4000, nI_add, pk_mul, n_sub, n_cl, n_lt, n_le, n_eq, not_true_eq_false, not_false_eq_true] at c) <;> omega))), fun _ => ?_⟩
      refine s_PL_field (i := 0) hW hH (by omega) (by omega) ?_
      rw [Nat.add_zero, ef]
      refine ⟨_, s_PL_writeTo_20 hW hH (by omega) t1 t3 hN _ 0 (2 + pls fl k) q (Nat.zero_add _) (by omega) ?_⟩
      rw [e2, n_1, nI_add]
      exact z
    · intro K hk
      have z := hR K hk
      rw [w_MO_encode_325_v2]
      refine ⟨fun c => (by exfalso; (first | omega | ((try simp (disch := omega) only [n_0, n_1, n_2, n_3, n_4, n_5, n_6, n_8, n_24, n_255, n_256, n_576, n_4000, nI_add, pk_mul, n_sub, n_cl, n_lt, n_le, n_eq, not_true_eq_false, not_false_eq_true] at c) <;> omega))), fun _ => ?_⟩
      rw [n_6, pk_mul, Nat.mul_comm 6 k, n_cl (by omega), ef, n_1, nI_add]
      refine ⟨n_in (by omega) (by omega), ?_⟩
      by_cases z3 : t = 3
      · subst z3
        rw [if_pos rfl] at e2 z
        refine ⟨fun c => absurd rfl c, fun _ => ?_⟩
        refine ⟨_, s_MO_encode_357_v4 (by omega) 5 0 (2 + pls fl k) q (by omega) (by omega) ?_⟩
        rw [e2]
        exact z
      · rw [if_neg z3] at e2 z
        refine ⟨fun _ => ?_, fun c => ?_⟩
        · refine ⟨_, s_MO_encode_357_v3 (by omega) (by omega) ef 6 0 (2 + pls fl k) q (by omega) (by omega) ?_⟩
          rw [e2]
          exact z
        · exfalso
          rw [n_3, n_eq (by omega) (by omega)] at c
          exact z3 c
theorem s_MO_encode_202 {k_238 : Int32 → Int32 → Prop} {P : Nat} (hP : P ≤ 576) {fl : Nat → Int32} (hk : k_238 (nI P) (nI (3 + pls fl P))) : ∀ d k, k + d = P → w_MO_encode_202 3600 (nI P) fl k_238 (d + 1) (nI k) (nI (3 + pls fl k)) := by
  intro d
  induction d with
  | zero =>
    intro k h
    have e : k = P := by omega
    subst e
    rw [w_MO_encode_202]
    refine ⟨fun _ => ?_, fun c => (by exfalso; (first | omega | ((try simp (disch := omega) only [n_0, n_1, n_2, n_3, n_4, n_5, n_6, n_8, n_24, n_255, n_256, n_576, n_4000, nI_add, pk_mul, n_sub, n_cl, n_lt, n_le, n_eq, not_true_eq_false, not_false_eq_true] at c) <;> omega)))⟩
    exact hk
  | succ d ih =>
    intro k h
    have z := ih (k + 1) (by omega)
    have e1 : pls fl (k + 1) = pls fl k + (if fl (k * 6) = 3 then 5 else 6) := rfl
    rw [e1] at z
    rw [w_MO_encode_202]
    refine ⟨fun c => (by exfalso; (first | omega | ((try simp (disch := omega) only [n_0, n_1, n_2, n_3, n_4, n_5, n_6, n_8, n_24, n_255, n_256, n_576, n_4000, nI_add, pk_mul, n_sub, n_cl, n_lt, n_le, n_eq, not_true_eq_false, not_false_eq_true] at c) <;> omega))), fun _ => ?_⟩
    rw [n_6, n_5, pk_mul, Nat.mul_comm 6 k, n_cl (by omega), n_1, nI_add, nI_add, nI_add]
    refine ⟨n_in (by omega) (by omega), ?_⟩
    refine ⟨fun c => ?_, fun c => ?_⟩
    · rw [if_neg c, ← Nat.add_assoc] at z
      exact z
    · rw [if_pos c, ← Nat.add_assoc] at z
      exact z
theorem s_TE_writePlain_7 {k_32 : Int32 → Int32 → (Nat → Int32) → Prop} {W H N : Nat} (hW : W ≤ 24) (hH : H ≤ 24) (hN : N ≤ 4000) {f : Nat → Int32} : ∀ d i T q, i + d = W * H → T + d ≤ N → k_32 (nI (W * H)) (nI (T + d)) (ap f d i T q) → w_TE_writePlain_7 (W * H) f N k_32 (d + 1) (nI i) (nI T) q := by
  have hs := pl_le hW hH
  intro d
  induction d with
  | zero =>
    intro i T q h hT hk
    have e : i = W * H := by omega
    subst e
    rw [w_TE_writePlain_7]
    refine ⟨fun _ => ?_, fun c => (by exfalso; (first | omega | ((try simp (disch := omega) only [n_0, n_1, n_2, n_3, n_4, n_5, n_6, n_8, n_24, n_255, n_256, n_576, n_4000, nI_add, pk_mul, n_sub, n_cl, n_lt, n_le, n_eq, not_true_eq_false, not_false_eq_true] at c) <;> omega)))⟩
    exact hk
  | succ d ih =>
    intro i T q h hT hk
    rw [show T + (d + 1) = T + 1 + d by omega] at hk
    rw [w_TE_writePlain_7]
    refine ⟨fun c => (by exfalso; (first | omega | ((try simp (disch := omega) only [n_0, n_1, n_2, n_3, n_4, n_5, n_6, n_8, n_24, n_255, n_256, n_576, n_4000, nI_add, pk_mul, n_sub, n_cl, n_lt, n_le, n_eq, not_true_eq_false, not_false_eq_true] at c) <;> omega))), fun _ => ?_⟩
    refine ⟨n_in (by omega) (by omega), ?_⟩
    rw [n_cl (by omega), n_1, nI_add]
    refine s_BR_add (by omega) hN ?_
    exact ih (i + 1) (T + 1) _ (by omega) (by omega) hk
theorem s_MO_encode_280 {o0_fedSize o0_place g_o0_q_11_45_59 g_o0_q_14_46_60 g_o0_q_15_47_61 g_o0_q_16_48_62 : Int32} {o0_other o0_read o0_fed f_o0_open_q_49_63 f_o0_part_q_50_64 : Nat → Int32} {k_311 : Int32 → Int32 → (Nat → Int32) → Prop} {W H : Nat} (hW : W ≤ 24) (hH : H ≤ 24) {f : Nat → Int32} : ∀ d i T q, i + d = W * H → T + d ≤ 4000 → k_311 (nI (W * H)) (nI (T + d)) (ap f d i T q) → w_MO_encode_280 (nI W) (nI H) o0_fedSize o0_place 576 f 576 o0_other 576 576 o0_read 4000 4000 o0_fed 3600 g_o0_q_11_45_59 g_o0_q_14_46_60 g_o0_q_15_47_61 g_o0_q_16_48_62 f_o0_open_q_49_63 f_o0_part_q_50_64 k_311 (d + 1) (nI i) (nI T) q := by
  have hs := pl_le hW hH
  intro d
  induction d with
  | zero =>
    intro i T q h hT hk
    have e : i = W * H := by omega
    subst e
    rw [w_MO_encode_280]
    refine s_MO_size ?_
    refine ⟨fun _ => ?_, fun c => (by exfalso; (first | omega | ((try simp (disch := omega) only [n_0, n_1, n_2, n_3, n_4, n_5, n_6, n_8, n_24, n_255, n_256, n_576, n_4000, nI_add, pk_mul, n_sub, n_cl, n_lt, n_le, n_eq, not_true_eq_false, not_false_eq_true] at c) <;> omega)))⟩
    exact hk
  | succ d ih =>
    intro i T q h hT hk
    rw [show T + (d + 1) = T + 1 + d by omega] at hk
    rw [w_MO_encode_280]
    refine s_MO_size ?_
    refine ⟨fun c => (by exfalso; (first | omega | ((try simp (disch := omega) only [n_0, n_1, n_2, n_3, n_4, n_5, n_6, n_8, n_24, n_255, n_256, n_576, n_4000, nI_add, pk_mul, n_sub, n_cl, n_lt, n_le, n_eq, not_true_eq_false, not_false_eq_true] at c) <;> omega))), fun _ => ?_⟩
    refine ⟨n_in (by omega) (by omega), ?_⟩
    rw [n_cl (by omega), n_1, nI_add]
    refine s_MO_say (by omega) ?_
    exact ih (i + 1) (T + 1) _ (by omega) (by omega) hk
def og (f : Nat → Int32) (g : Int32) : Nat → Int32 := fun i => if f i = g then 0 else 1
theorem s_TE_openAllBut_2 {x1 : Int32} {k_47 : Int32 → (Nat → Int32) → Prop} {W H : Nat} (hW : W ≤ 24) (hH : H ≤ 24) {f o : Nat → Int32} (hk : k_47 (nI (W * H)) (cp (W * H) (og f x1) o)) : ∀ d i f0, f0 = cp i (og f x1) o → i + d = W * H → w_TE_openAllBut_2 x1 (W * H) (W * H) f k_47 (d + 1) (nI i) f0 := by
  have hs := pl_le hW hH
  intro d
  induction d with
  | zero =>
    intro i f0 he h
    subst he
    have e : i = W * H := by omega
    subst e
    rw [w_TE_openAllBut_2]
    refine ⟨fun _ => ?_, fun c => (by exfalso; (first | omega | ((try simp (disch := omega) only [n_0, n_1, n_2, n_3, n_4, n_5, n_6, n_8, n_24, n_255, n_256, n_576, n_4000, nI_add, pk_mul, n_sub, n_cl, n_lt, n_le, n_eq, not_true_eq_false, not_false_eq_true] at c) <;> omega)))⟩
    exact hk
  | succ d ih =>
    intro i f0 he h
    subst he
    rw [w_TE_openAllBut_2]
    refine ⟨fun c => (by exfalso; (first | omega | ((try simp (disch := omega) only [n_0, n_1, n_2, n_3, n_4, n_5, n_6, n_8, n_24, n_255, n_256, n_576, n_4000, nI_add, pk_mul, n_sub, n_cl, n_lt, n_le, n_eq, not_true_eq_false, not_false_eq_true] at c) <;> omega))), fun _ => ?_⟩
    refine ⟨fun c => (by exfalso; (first | omega | ((try simp (disch := omega) only [n_0, n_1, n_2, n_3, n_4, n_5, n_6, n_8, n_24, n_255, n_256, n_576, n_4000, nI_add, pk_mul, n_sub, n_cl, n_lt, n_le, n_eq, not_true_eq_false, not_false_eq_true] at c) <;> omega))), fun _ => ?_⟩
    refine ⟨n_in (by omega) (by omega), ?_⟩
    rw [n_cl (by omega), nar0, nar1, n_1, nI_add]
    refine ⟨fun c => ⟨n_in (by omega) (by omega), ?_⟩, fun c => ⟨n_in (by omega) (by omega), ?_⟩⟩
    · exact ih (i + 1) _ (cp_sv (by unfold og; rw [if_pos c])) (by omega)
    · exact ih (i + 1) _ (cp_sv (by unfold og; rw [if_neg c]; rfl)) (by omega)
theorem s_MO_encode_17 {o0_toldSize o0_fedSize o0_plain o0_best o0_bestOne o0_bestTwo o0_place r_1 : Int32} {o0_other o0_read o0_toldBytes o0_fed o0_part : Nat → Int32} {k_52 : Int32 → (Nat → Int32) → Prop} {W H : Nat} (hW : W ≤ 24) (hH : H ≤ 24) {f o : Nat → Int32} (hk : k_52 (nI (W * H)) (cp (W * H) (og f r_1) o)) : ∀ d i f0, f0 = cp i (og f r_1) o → i + d = W * H → w_MO_encode_17 (nI W) (nI H) o0_toldSize o0_fedSize o0_plain o0_best o0_bestOne o0_bestTwo o0_place 576 f 576 o0_other 576 576 o0_read 4000 o0_toldBytes 4000 o0_fed 3600 o0_part r_1 k_52 (d + 1) (nI i) f0 := by
  have hs := pl_le hW hH
  intro d
  induction d with
  | zero =>
    intro i f0 he h
    subst he
    have e : i = W * H := by omega
    subst e
    rw [w_MO_encode_17]
    refine s_MO_size ?_
    refine ⟨fun _ => ?_, fun c => (by exfalso; (first | omega | ((try simp (disch := omega) only [n_0, n_1, n_2, n_3, n_4, n_5, n_6, n_8, n_24, n_255, n_256, n_576, n_4000, nI_add, pk_mul, n_sub, n_cl, n_lt, n_le, n_eq, not_true_eq_false, not_false_eq_true] at c) <;> omega)))⟩
    exact hk
  | succ d ih =>
    intro i f0 he h
    subst he
    rw [w_MO_encode_17]
    refine s_MO_size ?_
    refine ⟨fun c => (by exfalso; (first | omega | ((try simp (disch := omega) only [n_0, n_1, n_2, n_3, n_4, n_5, n_6, n_8, n_24, n_255, n_256, n_576, n_4000, nI_add, pk_mul, n_sub, n_cl, n_lt, n_le, n_eq, not_true_eq_false, not_false_eq_true] at c) <;> omega))), fun _ => ?_⟩
    refine ⟨n_in (by omega) (by omega), ?_⟩
    rw [n_cl (by omega), nar0, nar1, n_1, nI_add]
    refine ⟨fun c => ⟨n_in (by omega) (by omega), ?_⟩, fun c => ⟨n_in (by omega) (by omega), ?_⟩⟩
    · exact ih (i + 1) _ (cp_sv (by unfold og; rw [if_pos c])) (by omega)
    · exact ih (i + 1) _ (cp_sv (by unfold og; rw [if_neg c]; rfl)) (by omega)
