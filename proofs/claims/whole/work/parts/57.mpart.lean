/-! PURE ROWS: one part read by the reference. Own work. -/
theorem s_MO_readPart_247_v2 {k_320 : Int32 → (Nat → Int32) → Prop} {W H x n y a b p : Nat} (hW : W ≤ 24) (hH : H ≤ 24) (hp : p ≤ 4000) (hc : COK W H x y n a b) {q : Nat → Int32} (e1 : q (p + 1) = nI x) (e3 : q (p + 3) = nI n) (e4 : q (p + 4) = nI a) (e5 : q (p + 5) = nI b) : ∀ d c f, c + d = x + n → x ≤ c → k_320 (nI (x + n)) (cyF d (y * W + c) ((y - b) * W + (c + a - 4)) f) → w_MO_readPart_247_v2 (nI W) (nI p) 576 q (nI y) k_320 (d + 1) (nI c) f := by
  unfold COK ROK at hc
  have hs := pl_le hW hH
  intro d
  induction d with
  | zero =>
    intro c f h hx hk
    have e : c = x + n := by omega
    subst e
    rw [w_MO_readPart_247_v2]
    simp (disch := omega) only [n_1, n_3, nI_add, n_cl, e1, e3]
    refine ⟨fun _ => ?_, fun c => (by exfalso; (first | omega | ((try simp (disch := omega) only [n_0, n_1, n_2, n_3, n_4, n_5, n_6, n_8, n_24, n_255, n_256, n_576, n_4000, nI_add, pk_mul, n_sub, n_cl, n_lt, n_le, n_eq, not_true_eq_false, not_false_eq_true] at c) <;> omega)))⟩
    exact hk
  | succ d ih =>
    intro c f h hx hk
    have z1 := @pl_lt W H c y (by omega) (by omega)
    have z2 := @pl_lt W H (c + a - 4) (y - b) (by omega) (by omega)
    have z3 : W * (y - b) + c + a - 4 = (y - b) * W + (c + a - 4) := by rw [Nat.mul_comm W (y - b)]; omega
    have z4 : W * y + c = y * W + c := by rw [Nat.mul_comm W y]
    rw [w_MO_readPart_247_v2]
    simp (disch := omega) only [n_1, n_3, n_4, n_5, nI_add, n_cl, e1, e3, e4, e5]
    refine ⟨fun c => (by exfalso; (first | omega | ((try simp (disch := omega) only [n_0, n_1, n_2, n_3, n_4, n_5, n_6, n_8, n_24, n_255, n_256, n_576, n_4000, nI_add, pk_mul, n_sub, n_cl, n_lt, n_le, n_eq, not_true_eq_false, not_false_eq_true] at c) <;> omega))), fun _ => ?_⟩
    simp (disch := omega) only [n_sub, pk_mul, nI_add]
    rw [z3, z4]
    refine ⟨n_in (by omega) (by omega), ?_⟩
    refine ⟨n_in (by omega) (by omega), ?_⟩
    rw [n_cl (by omega), n_cl (by omega)]
    refine ih (c + 1) _ (by omega) (by omega) ?_
    rw [show c + 1 + a - 4 = c + a - 4 + 1 by omega]
    exact hk
theorem s_MO_readPart_235_v2 {k_326 : Int32 → (Nat → Int32) → Prop} {W H x n y a b p : Nat} (hW : W ≤ 24) (hH : H ≤ 24) (hp : p ≤ 4000) (hc : COK W H x y n a b) {q f : Nat → Int32} (e1 : q (p + 1) = nI x) (e2 : q (p + 2) = nI y) (e3 : q (p + 3) = nI n) (e4 : q (p + 4) = nI a) (e5 : q (p + 5) = nI b) (hk : k_326 (nI (y + 1)) (cyF n (y * W + x) ((y - b) * W + (x + a - 4)) f)) : w_MO_readPart_235_v2 (nI W) (nI p) 576 q k_326 2 (nI y) f := by
  have hc' := hc
  unfold COK ROK at hc'
  rw [w_MO_readPart_235_v2]
  simp (disch := omega) only [n_1, n_2, nI_add, n_cl, e1, e2]
  refine ⟨fun c => (by exfalso; (first | omega | ((try simp (disch := omega) only [n_0, n_1, n_2, n_3, n_4, n_5, n_6, n_8, n_24, n_255, n_256, n_576, n_4000, nI_add, pk_mul, n_sub, n_cl, n_lt, n_le, n_eq, not_true_eq_false, not_false_eq_true] at c) <;> omega))), fun _ => ?_⟩
  refine ⟨n + 1, s_MO_readPart_247_v2 hW hH hp hc e1 e3 e4 e5 n x f rfl (by omega) ?_⟩
  rw [w_MO_readPart_235_v2]
  simp (disch := omega) only [n_1, n_2, nI_add, n_cl, e2]
  refine ⟨fun _ => ?_, fun c => (by exfalso; (first | omega | ((try simp (disch := omega) only [n_0, n_1, n_2, n_3, n_4, n_5, n_6, n_8, n_24, n_255, n_256, n_576, n_4000, nI_add, pk_mul, n_sub, n_cl, n_lt, n_le, n_eq, not_true_eq_false, not_false_eq_true] at c) <;> omega)))⟩
  exact hk
theorem s_MO_readPart_247_v3 {k_320 : Int32 → (Nat → Int32) → Prop} {W H x n y p : Nat} (hW : W ≤ 24) (hH : H ≤ 24) (hp : p ≤ 4000) (hx : x + n ≤ W) (hy : y < H) {q : Nat → Int32} (e1 : q (p + 1) = nI x) (e3 : q (p + 3) = nI n) : ∀ d c f, c + d = x + n → x ≤ c → k_320 (nI (x + n)) (rowF (q (p + 5)) d (y * W + c) f) → w_MO_readPart_247_v3 (nI W) (nI p) 576 q (nI y) k_320 (d + 1) (nI c) f := by
  have hs := pl_le hW hH
  intro d
  induction d with
  | zero =>
    intro c f h hx hk
    have e : c = x + n := by omega
    subst e
    rw [w_MO_readPart_247_v3]
    simp (disch := omega) only [n_1, n_3, nI_add, n_cl, e1, e3]
    refine ⟨fun _ => ?_, fun c => (by exfalso; (first | omega | ((try simp (disch := omega) only [n_0, n_1, n_2, n_3, n_4, n_5, n_6, n_8, n_24, n_255, n_256, n_576, n_4000, nI_add, pk_mul, n_sub, n_cl, n_lt, n_le, n_eq, not_true_eq_false, not_false_eq_true] at c) <;> omega)))⟩
    exact hk
  | succ d ih =>
    intro c f h hx hk
    have z1 := @pl_lt W H c y (by omega) (by omega)
    have z4 : W * y + c = y * W + c := by rw [Nat.mul_comm W y]
    rw [w_MO_readPart_247_v3]
    simp (disch := omega) only [n_1, n_3, n_4, n_5, nI_add, n_cl, e1, e3]
    refine ⟨fun c => (by exfalso; (first | omega | ((try simp (disch := omega) only [n_0, n_1, n_2, n_3, n_4, n_5, n_6, n_8, n_24, n_255, n_256, n_576, n_4000, nI_add, pk_mul, n_sub, n_cl, n_lt, n_le, n_eq, not_true_eq_false, not_false_eq_true] at c) <;> omega))), fun _ => ?_⟩
    simp (disch := omega) only [pk_mul, nI_add]
    rw [z4]
    refine ⟨n_in (by omega) (by omega), ?_⟩
    rw [n_cl (by omega)]
    exact ih (c + 1) _ (by omega) (by omega) hk
theorem s_MO_readPart_235_v3 {k_326 : Int32 → (Nat → Int32) → Prop} {W H x n y0 h0 p : Nat} (hW : W ≤ 24) (hH : H ≤ 24) (hp : p ≤ 4000) (hx : x + n ≤ W) (hy : y0 + h0 ≤ H) {q : Nat → Int32} (e1 : q (p + 1) = nI x) (e2 : q (p + 2) = nI y0) (e3 : q (p + 3) = nI n) (e4 : q (p + 4) = nI h0) : ∀ d y f, y + d = y0 + h0 → y0 ≤ y → k_326 (nI (y0 + h0)) (rcF (q (p + 5)) W n d (y * W + x) f) → w_MO_readPart_235_v3 (nI W) (nI p) 576 q k_326 (d + 1) (nI y) f := by
  intro d
  induction d with
  | zero =>
    intro y f h hx hk
    have e : y = y0 + h0 := by omega
    subst e
    rw [w_MO_readPart_235_v3]
    simp (disch := omega) only [n_1, n_2, n_4, nI_add, n_cl, e1, e2, e4]
    refine ⟨fun _ => ?_, fun c => (by exfalso; (first | omega | ((try simp (disch := omega) only [n_0, n_1, n_2, n_3, n_4, n_5, n_6, n_8, n_24, n_255, n_256, n_576, n_4000, nI_add, pk_mul, n_sub, n_cl, n_lt, n_le, n_eq, not_true_eq_false, not_false_eq_true] at c) <;> omega)))⟩
    exact hk
  | succ d ih =>
    intro y f h hx' hk
    rw [w_MO_readPart_235_v3]
    simp (disch := omega) only [n_1, n_2, n_4, nI_add, n_cl, e1, e2, e4]
    refine ⟨fun c => (by exfalso; (first | omega | ((try simp (disch := omega) only [n_0, n_1, n_2, n_3, n_4, n_5, n_6, n_8, n_24, n_255, n_256, n_576, n_4000, nI_add, pk_mul, n_sub, n_cl, n_lt, n_le, n_eq, not_true_eq_false, not_false_eq_true] at c) <;> omega))), fun _ => ?_⟩
    refine ⟨n + 1, s_MO_readPart_247_v3 hW hH hp hx (by omega) e1 e3 n x f rfl (by omega) ?_⟩
    refine ih (y + 1) _ (by omega) (by omega) ?_
    rw [show (y + 1) * W + x = y * W + x + W by rw [Nat.add_mul, Nat.one_mul]; omega]
    exact hk
theorem s_MO_readPart_247_v4 {k_320 : Int32 → (Nat → Int32) → Prop} {W H x n y p : Nat} (hW : W ≤ 24) (hH : H ≤ 24) (hp : p ≤ 4000) (hx : x + n ≤ W) (hy : y < H) {q : Nat → Int32} (e1 : q (p + 1) = nI x) (e3 : q (p + 3) = nI n) : ∀ d c f, c + d = x + n → x ≤ c → k_320 (nI (x + n)) (rowF (q (p + 4)) d (y * W + c) f) → w_MO_readPart_247_v4 (nI W) (nI p) 576 q (nI y) k_320 (d + 1) (nI c) f := by
  have hs := pl_le hW hH
  intro d
  induction d with
  | zero =>
    intro c f h hx hk
    have e : c = x + n := by omega
    subst e
    rw [w_MO_readPart_247_v4]
    simp (disch := omega) only [n_1, n_3, nI_add, n_cl, e1, e3]
    refine ⟨fun _ => ?_, fun c => (by exfalso; (first | omega | ((try simp (disch := omega) only [n_0, n_1, n_2, n_3, n_4, n_5, n_6, n_8, n_24, n_255, n_256, n_576, n_4000, nI_add, pk_mul, n_sub, n_cl, n_lt, n_le, n_eq, not_true_eq_false, not_false_eq_true] at c) <;> omega)))⟩
    exact hk
  | succ d ih =>
    intro c f h hx hk
    have z1 := @pl_lt W H c y (by omega) (by omega)
    have z4 : W * y + c = y * W + c := by rw [Nat.mul_comm W y]
    rw [w_MO_readPart_247_v4]
    simp (disch := omega) only [n_1, n_3, n_4, n_5, nI_add, n_cl, e1, e3]
    refine ⟨fun c => (by exfalso; (first | omega | ((try simp (disch := omega) only [n_0, n_1, n_2, n_3, n_4, n_5, n_6, n_8, n_24, n_255, n_256, n_576, n_4000, nI_add, pk_mul, n_sub, n_cl, n_lt, n_le, n_eq, not_true_eq_false, not_false_eq_true] at c) <;> omega))), fun _ => ?_⟩
    simp (disch := omega) only [pk_mul, nI_add]
    rw [z4]
    refine ⟨n_in (by omega) (by omega), ?_⟩
    rw [n_cl (by omega)]
    exact ih (c + 1) _ (by omega) (by omega) hk
theorem s_MO_readPart_235_v4 {k_326 : Int32 → (Nat → Int32) → Prop} {W H x n y p : Nat} (hW : W ≤ 24) (hH : H ≤ 24) (hp : p ≤ 4000) (hc : ROK W H x y n 1) {q f : Nat → Int32} (e1 : q (p + 1) = nI x) (e2 : q (p + 2) = nI y) (e3 : q (p + 3) = nI n) (hk : k_326 (nI (y + 1)) (rcF (q (p + 4)) W n 1 (y * W + x) f)) : w_MO_readPart_235_v4 (nI W) (nI p) 576 q k_326 2 (nI y) f := by
  have hc' := hc
  unfold ROK at hc'
  rw [w_MO_readPart_235_v4]
  simp (disch := omega) only [n_1, n_2, nI_add, n_cl, e1, e2]
  refine ⟨fun c => (by exfalso; (first | omega | ((try simp (disch := omega) only [n_0, n_1, n_2, n_3, n_4, n_5, n_6, n_8, n_24, n_255, n_256, n_576, n_4000, nI_add, pk_mul, n_sub, n_cl, n_lt, n_le, n_eq, not_true_eq_false, not_false_eq_true] at c) <;> omega))), fun _ => ?_⟩
  refine ⟨n + 1, s_MO_readPart_247_v4 hW hH hp (by omega) (by omega) e1 e3 n x f rfl (by omega) ?_⟩
  rw [w_MO_readPart_235_v4]
  simp (disch := omega) only [n_1, n_2, nI_add, n_cl, e2]
  refine ⟨fun _ => ?_, fun c => (by exfalso; (first | omega | ((try simp (disch := omega) only [n_0, n_1, n_2, n_3, n_4, n_5, n_6, n_8, n_24, n_255, n_256, n_576, n_4000, nI_add, pk_mul, n_sub, n_cl, n_lt, n_le, n_eq, not_true_eq_false, not_false_eq_true] at c) <;> omega)))⟩
  exact hk
theorem s_MO_readPart {o0_fault o0_toldSize o0_parts o0_plain o0_best o0_bestOne o0_bestTwo : Int32} {o0_first o0_other o0_open o0_read o0_toldBytes o0_part : Nat → Int32} {post : Int32 → Int32 → (Nat → Int32) → Prop} {W H F p : Nat} (h1W : 1 ≤ W) (hW : W ≤ 24) (h1H : 1 ≤ H) (hH : H ≤ 24) {q : Nat → Int32} (hq : BY q) (hF : F ≤ 4000) (hp : p < F) (hyes : 1 ≤ bn q p ∧ bn q p ≤ 3 → p + pln q p ≤ F → PO W H q p → post 1 (nI (p + pln q p)) (PF W q p o0_read)) (hno : ¬ ((1 ≤ bn q p ∧ bn q p ≤ 3) ∧ p + pln q p ≤ F ∧ PO W H q p) → post 0 (nI p) o0_read) : w_MO_readPart (nI W) (nI H) o0_fault o0_toldSize (nI F) o0_parts o0_plain o0_best o0_bestOne o0_bestTwo (nI p) 576 o0_first 576 o0_other 576 o0_open 576 o0_read 4000 o0_toldBytes 4000 q 3600 o0_part post := by
  have l0 := bn_le hq p
  have l1 := bn_le hq (p + 1)
  have l2 := bn_le hq (p + 2)
  have l3 := bn_le hq (p + 3)
  have l4 := bn_le hq (p + 4)
  have l5 := bn_le hq (p + 5)
  have e0 := bn_eq hq p
  have e1 := bn_eq hq (p + 1)
  have e2 := bn_eq hq (p + 2)
  have e3 := bn_eq hq (p + 3)
  have e4 := bn_eq hq (p + 4)
  have e5 := bn_eq hq (p + 5)
  unfold w_MO_readPart
  refine ⟨n_in (by omega) (by omega), ?_⟩
  simp (disch := omega) only [n_1, n_2, n_3, n_4, n_5, n_6, n_8, nI_add, n_cl]
  refine s_MO_in ?_
  simp only [e0, ni_t (show bn q p ≤ 100000 by omega), ni_t (show 1 ≤ 100000 by omega), ni_t (show 3 ≤ 100000 by omega)]
  by_cases hk : 1 ≤ bn q p ∧ bn q p ≤ 3
  · rw [if_pos (by omega)]
    refine ⟨fun c => absurd c (by decide), fun _ => ?_⟩
    have hc : bn q p = 1 ∨ bn q p = 2 ∨ bn q p = 3 := by omega
    rcases hc with z | z | z
    · have zl : pln q p = 6 := by unfold pln; rw [if_neg (by omega)]
      rw [zl] at hyes hno
      simp only [z]
      refine ⟨fun _ => ?_, fun c => (by exfalso; (first | omega | ((try simp (disch := omega) only [n_0, n_1, n_2, n_3, n_4, n_5, n_6, n_8, n_24, n_255, n_256, n_576, n_4000, nI_add, pk_mul, n_sub, n_cl, n_lt, n_le, n_eq, not_true_eq_false, not_false_eq_true] at c) <;> omega)))⟩
      by_cases hl : p + 6 ≤ F
      · refine ⟨fun _ => ?_, fun c => (by exfalso; (first | omega | ((try simp (disch := omega) only [n_0, n_1, n_2, n_3, n_4, n_5, n_6, n_8, n_24, n_255, n_256, n_576, n_4000, nI_add, pk_mul, n_sub, n_cl, n_lt, n_le, n_eq, not_true_eq_false, not_false_eq_true] at c) <;> omega)))⟩
        refine ⟨n_in (by omega) (by omega), ?_⟩
        refine ⟨n_in (by omega) (by omega), ?_⟩
        refine ⟨n_in (by omega) (by omega), ?_⟩
        refine ⟨n_in (by omega) (by omega), ?_⟩
        refine ⟨n_in (by omega) (by omega), ?_⟩
        refine ⟨fun c => (by exfalso; (first | omega | ((try simp (disch := omega) only [n_0, n_1, n_2, n_3, n_4, n_5, n_6, n_8, n_24, n_255, n_256, n_576, n_4000, nI_add, pk_mul, n_sub, n_cl, n_lt, n_le, n_eq, not_true_eq_false, not_false_eq_true] at c) <;> omega))), fun _ => ?_⟩
        simp only [e1, e2, e3, e4]
        refine s_MO_isSample h1W hW h1H hH ?_
        simp only [ni_t (show bn q (p + 1) ≤ 100000 by omega), ni_t (show bn q (p + 2) ≤ 100000 by omega), nI_add]
        by_cases ho : ROK W H (bn q (p + 1)) (bn q (p + 2)) (bn q (p + 3)) (bn q (p + 4))
        · have ho' := ho
          unfold ROK at ho'
          rw [if_pos (by omega)]
          refine ⟨fun c => absurd c (by decide), fun _ => ?_⟩
          refine ⟨fun c => (by exfalso; (first | omega | ((try simp (disch := omega) only [n_0, n_1, n_2, n_3, n_4, n_5, n_6, n_8, n_24, n_255, n_256, n_576, n_4000, nI_add, pk_mul, n_sub, n_cl, n_lt, n_le, n_eq, not_true_eq_false, not_false_eq_true] at c) <;> omega))), fun _ => ?_⟩
          refine ⟨fun c => (by exfalso; (first | omega | ((try simp (disch := omega) only [n_0, n_1, n_2, n_3, n_4, n_5, n_6, n_8, n_24, n_255, n_256, n_576, n_4000, nI_add, pk_mul, n_sub, n_cl, n_lt, n_le, n_eq, not_true_eq_false, not_false_eq_true] at c) <;> omega))), fun _ => ?_⟩
          refine ⟨fun c => (by exfalso; (first | omega | ((try simp (disch := omega) only [n_0, n_1, n_2, n_3, n_4, n_5, n_6, n_8, n_24, n_255, n_256, n_576, n_4000, nI_add, pk_mul, n_sub, n_cl, n_lt, n_le, n_eq, not_true_eq_false, not_false_eq_true] at c) <;> omega))), fun _ => ?_⟩
          refine ⟨fun _ => ?_, fun c => (by exfalso; (first | omega | ((try simp (disch := omega) only [n_0, n_1, n_2, n_3, n_4, n_5, n_6, n_8, n_24, n_255, n_256, n_576, n_4000, nI_add, pk_mul, n_sub, n_cl, n_lt, n_le, n_eq, not_true_eq_false, not_false_eq_true] at c) <;> omega)))⟩
          refine ⟨bn q (p + 4) + 1, s_MO_readPart_235_v3 hW hH (by omega) (by omega) (by omega) e1 e2 e3 e4 _ _ _ rfl (by omega) ⟨nb1, ?_⟩⟩
          have r := hyes (by omega) hl (by unfold PO; exact ⟨fun _ => ho, fun w => absurd w (by omega), fun w => absurd w (by omega)⟩)
          unfold PF at r
          rw [if_pos z] at r
          exact r
        · have r := hno (fun w => ho (w.2.2.1 z))
          unfold ROK at ho
          by_cases g : bn q (p + 1) < W ∧ bn q (p + 2) < H
          · rw [if_pos (by omega)]
            refine ⟨fun _ => ⟨nb0, r⟩, fun _ => ?_⟩
            refine ⟨fun _ => ⟨nb0, r⟩, fun _ => ?_⟩
            refine ⟨fun _ => ⟨nb0, r⟩, fun _ => ?_⟩
            refine ⟨fun _ => ⟨nb0, r⟩, fun c3 => ?_⟩
            refine ⟨fun c4 => ?_, fun _ => ⟨nb0, r⟩⟩
            exfalso
            rename_i c1 c2
            simp (disch := omega) only [n_0, n_1, n_2, n_3, n_4, n_5, n_6, n_8, n_24, n_255, n_256, n_576, n_4000, nI_add, pk_mul, n_sub, n_cl, n_lt, n_le, n_eq, not_true_eq_false, not_false_eq_true] at c1 c2 c3 c4
            omega
          · rw [if_neg (by omega)]
            exact ⟨fun _ => ⟨nb0, r⟩, fun c => absurd rfl c⟩
      · refine ⟨fun c => (by exfalso; (first | omega | ((try simp (disch := omega) only [n_0, n_1, n_2, n_3, n_4, n_5, n_6, n_8, n_24, n_255, n_256, n_576, n_4000, nI_add, pk_mul, n_sub, n_cl, n_lt, n_le, n_eq, not_true_eq_false, not_false_eq_true] at c) <;> omega))), fun _ => ?_⟩
        exact ⟨nb0, hno (fun w => hl w.2.1)⟩
    · have zl : pln q p = 6 := by unfold pln; rw [if_neg (by omega)]
      rw [zl] at hyes hno
      simp only [z]
      refine ⟨fun _ => ?_, fun c => (by exfalso; (first | omega | ((try simp (disch := omega) only [n_0, n_1, n_2, n_3, n_4, n_5, n_6, n_8, n_24, n_255, n_256, n_576, n_4000, nI_add, pk_mul, n_sub, n_cl, n_lt, n_le, n_eq, not_true_eq_false, not_false_eq_true] at c) <;> omega)))⟩
      by_cases hl : p + 6 ≤ F
      · refine ⟨fun _ => ?_, fun c => (by exfalso; (first | omega | ((try simp (disch := omega) only [n_0, n_1, n_2, n_3, n_4, n_5, n_6, n_8, n_24, n_255, n_256, n_576, n_4000, nI_add, pk_mul, n_sub, n_cl, n_lt, n_le, n_eq, not_true_eq_false, not_false_eq_true] at c) <;> omega)))⟩
        refine ⟨n_in (by omega) (by omega), ?_⟩
        refine ⟨n_in (by omega) (by omega), ?_⟩
        refine ⟨n_in (by omega) (by omega), ?_⟩
        refine ⟨n_in (by omega) (by omega), ?_⟩
        refine ⟨n_in (by omega) (by omega), ?_⟩
        refine ⟨fun _ => ?_, fun c => (by exfalso; (first | omega | ((try simp (disch := omega) only [n_0, n_1, n_2, n_3, n_4, n_5, n_6, n_8, n_24, n_255, n_256, n_576, n_4000, nI_add, pk_mul, n_sub, n_cl, n_lt, n_le, n_eq, not_true_eq_false, not_false_eq_true] at c) <;> omega)))⟩
        simp only [e1, e2, e3, e4, e5]
        refine s_MO_isSample h1W hW h1H hH ?_
        simp only [ni_t (show bn q (p + 1) ≤ 100000 by omega), ni_t (show bn q (p + 2) ≤ 100000 by omega), nI_add]
        by_cases ho : COK W H (bn q (p + 1)) (bn q (p + 2)) (bn q (p + 3)) (bn q (p + 4)) (bn q (p + 5))
        · have ho' := ho
          unfold COK ROK at ho'
          rw [if_pos (by omega)]
          refine ⟨fun c => absurd c (by decide), fun _ => ?_⟩
          refine ⟨fun c => (by exfalso; (first | omega | ((try simp (disch := omega) only [n_0, n_1, n_2, n_3, n_4, n_5, n_6, n_8, n_24, n_255, n_256, n_576, n_4000, nI_add, pk_mul, n_sub, n_cl, n_lt, n_le, n_eq, not_true_eq_false, not_false_eq_true] at c) <;> omega))), fun _ => ?_⟩
          refine ⟨fun c => (by exfalso; (first | omega | ((try simp (disch := omega) only [n_0, n_1, n_2, n_3, n_4, n_5, n_6, n_8, n_24, n_255, n_256, n_576, n_4000, nI_add, pk_mul, n_sub, n_cl, n_lt, n_le, n_eq, not_true_eq_false, not_false_eq_true] at c) <;> omega))), fun _ => ?_⟩
          refine ⟨fun _ => ?_, fun c => (by exfalso; (first | omega | ((try simp (disch := omega) only [n_0, n_1, n_2, n_3, n_4, n_5, n_6, n_8, n_24, n_255, n_256, n_576, n_4000, nI_add, pk_mul, n_sub, n_cl, n_lt, n_le, n_eq, not_true_eq_false, not_false_eq_true] at c) <;> omega)))⟩
          refine ⟨fun c => (by exfalso; (first | omega | ((try simp (disch := omega) only [n_0, n_1, n_2, n_3, n_4, n_5, n_6, n_8, n_24, n_255, n_256, n_576, n_4000, nI_add, pk_mul, n_sub, n_cl, n_lt, n_le, n_eq, not_true_eq_false, not_false_eq_true] at c) <;> omega))), fun _ => ?_⟩
          refine ⟨fun c => (by exfalso; (first | omega | ((try simp (disch := omega) only [n_0, n_1, n_2, n_3, n_4, n_5, n_6, n_8, n_24, n_255, n_256, n_576, n_4000, nI_add, pk_mul, n_sub, n_cl, n_lt, n_le, n_eq, not_true_eq_false, not_false_eq_true] at c) <;> omega))), fun _ => ?_⟩
          refine ⟨fun c => (by exfalso; (first | omega | ((try simp (disch := omega) only [n_0, n_1, n_2, n_3, n_4, n_5, n_6, n_8, n_24, n_255, n_256, n_576, n_4000, nI_add, pk_mul, n_sub, n_cl, n_lt, n_le, n_eq, not_true_eq_false, not_false_eq_true] at c) <;> omega))), fun _ => ?_⟩
          refine ⟨fun c => (by exfalso; (first | omega | ((try simp (disch := omega) only [n_0, n_1, n_2, n_3, n_4, n_5, n_6, n_8, n_24, n_255, n_256, n_576, n_4000, nI_add, pk_mul, n_sub, n_cl, n_lt, n_le, n_eq, not_true_eq_false, not_false_eq_true] at c) <;> omega))), fun _ => ?_⟩
          refine ⟨fun c => (by exfalso; (first | omega | ((try simp (disch := omega) only [n_0, n_1, n_2, n_3, n_4, n_5, n_6, n_8, n_24, n_255, n_256, n_576, n_4000, nI_add, pk_mul, n_sub, n_cl, n_lt, n_le, n_eq, not_true_eq_false, not_false_eq_true] at c) <;> omega))), fun _ => ?_⟩
          refine ⟨fun c => (by exfalso; (first | omega | ((try simp (disch := omega) only [n_0, n_1, n_2, n_3, n_4, n_5, n_6, n_8, n_24, n_255, n_256, n_576, n_4000, nI_add, pk_mul, n_sub, n_cl, n_lt, n_le, n_eq, not_true_eq_false, not_false_eq_true] at c) <;> omega))), fun _ => ?_⟩
          refine ⟨fun _ => ?_, fun c => (by exfalso; (first | omega | ((try simp (disch := omega) only [n_0, n_1, n_2, n_3, n_4, n_5, n_6, n_8, n_24, n_255, n_256, n_576, n_4000, nI_add, pk_mul, n_sub, n_cl, n_lt, n_le, n_eq, not_true_eq_false, not_false_eq_true] at c) <;> omega)))⟩
          refine ⟨2, s_MO_readPart_235_v2 hW hH (by omega) ho e1 e2 e3 e4 e5 ⟨nb1, ?_⟩⟩
          have r := hyes (by omega) hl (by unfold PO; exact ⟨fun w => absurd w (by omega), fun _ => ho, fun w => absurd w (by omega)⟩)
          unfold PF at r
          rw [if_neg (by omega), if_pos z] at r
          exact r
        · have r := hno (fun w => ho (w.2.2.2.1 z))
          unfold COK ROK at ho
          by_cases g : bn q (p + 1) < W ∧ bn q (p + 2) < H
          · rw [if_pos (by omega)]
            refine ⟨fun _ => ⟨nb0, r⟩, fun _ => ?_⟩
            refine ⟨fun _ => ⟨nb0, r⟩, fun c1 => ?_⟩
            refine ⟨fun _ => ⟨nb0, r⟩, fun c2 => ?_⟩
            refine ⟨fun c3 => ?_, fun _ => ⟨nb0, r⟩⟩
            refine ⟨fun c => (by exfalso; (first | omega | ((try simp (disch := omega) only [n_0, n_1, n_2, n_3, n_4, n_5, n_6, n_8, n_24, n_255, n_256, n_576, n_4000, nI_add, pk_mul, n_sub, n_cl, n_lt, n_le, n_eq, not_true_eq_false, not_false_eq_true] at c) <;> omega))), fun _ => ?_⟩
            refine ⟨fun _ => ⟨nb0, r⟩, fun c4 => ?_⟩
            refine ⟨fun _ => ⟨nb0, r⟩, fun c5 => ?_⟩
            refine ⟨fun _ => ⟨nb0, r⟩, fun c6 => ?_⟩
            refine ⟨fun _ => ⟨nb0, r⟩, fun c7 => ?_⟩
            refine ⟨fun _ => ⟨nb0, r⟩, fun c8 => ?_⟩
            refine ⟨fun c9 => ?_, fun _ => ⟨nb0, r⟩⟩
            exfalso
            have k7 : (bn q (p + 5) : Int) ≤ bn q (p + 2) := by
              rw [iI_nI, iI_nI, i_0, iI_sub, iI_lt (by omega) (by omega) (by omega) (by omega)] at c7
              omega
            have k8 : 4 ≤ bn q (p + 1) + bn q (p + 4) := by
              rw [iI_nI, iI_nI, i_0, iI_sub, iI_lt (by omega) (by omega) (by omega) (by omega)] at c8
              omega
            simp (disch := omega) only [n_0, n_1, n_2, n_3, n_4, n_5, n_6, n_8, n_24, n_255, n_256, n_576, n_4000, nI_add, pk_mul, n_sub, n_cl, n_lt, n_le, n_eq, not_true_eq_false, not_false_eq_true] at c1 c2 c3 c4 c5 c6 c9
            omega
          · rw [if_neg (by omega)]
            exact ⟨fun _ => ⟨nb0, r⟩, fun c => absurd rfl c⟩
      · refine ⟨fun c => (by exfalso; (first | omega | ((try simp (disch := omega) only [n_0, n_1, n_2, n_3, n_4, n_5, n_6, n_8, n_24, n_255, n_256, n_576, n_4000, nI_add, pk_mul, n_sub, n_cl, n_lt, n_le, n_eq, not_true_eq_false, not_false_eq_true] at c) <;> omega))), fun _ => ?_⟩
        exact ⟨nb0, hno (fun w => hl w.2.1)⟩
    · have zl : pln q p = 5 := by unfold pln; rw [if_pos z]
      rw [zl] at hyes hno
      simp only [z]
      refine ⟨fun c => (by exfalso; (first | omega | ((try simp (disch := omega) only [n_0, n_1, n_2, n_3, n_4, n_5, n_6, n_8, n_24, n_255, n_256, n_576, n_4000, nI_add, pk_mul, n_sub, n_cl, n_lt, n_le, n_eq, not_true_eq_false, not_false_eq_true] at c) <;> omega))), fun _ => ?_⟩
      by_cases hl : p + 5 ≤ F
      · refine ⟨fun _ => ?_, fun c => (by exfalso; (first | omega | ((try simp (disch := omega) only [n_0, n_1, n_2, n_3, n_4, n_5, n_6, n_8, n_24, n_255, n_256, n_576, n_4000, nI_add, pk_mul, n_sub, n_cl, n_lt, n_le, n_eq, not_true_eq_false, not_false_eq_true] at c) <;> omega)))⟩
        refine ⟨n_in (by omega) (by omega), ?_⟩
        refine ⟨n_in (by omega) (by omega), ?_⟩
        refine ⟨n_in (by omega) (by omega), ?_⟩
        refine ⟨n_in (by omega) (by omega), ?_⟩
        simp only [e1, e2, e3]
        refine s_MO_isSample h1W hW h1H hH ?_
        simp only [ni_t (show bn q (p + 1) ≤ 100000 by omega), ni_t (show bn q (p + 2) ≤ 100000 by omega), nI_add]
        by_cases ho : ROK W H (bn q (p + 1)) (bn q (p + 2)) (bn q (p + 3)) 1
        · have ho' := ho
          unfold ROK at ho'
          rw [if_pos (by omega)]
          refine ⟨fun c => absurd c (by decide), fun _ => ?_⟩
          refine ⟨fun c => (by exfalso; (first | omega | ((try simp (disch := omega) only [n_0, n_1, n_2, n_3, n_4, n_5, n_6, n_8, n_24, n_255, n_256, n_576, n_4000, nI_add, pk_mul, n_sub, n_cl, n_lt, n_le, n_eq, not_true_eq_false, not_false_eq_true] at c) <;> omega))), fun _ => ?_⟩
          refine ⟨fun c => (by exfalso; (first | omega | ((try simp (disch := omega) only [n_0, n_1, n_2, n_3, n_4, n_5, n_6, n_8, n_24, n_255, n_256, n_576, n_4000, nI_add, pk_mul, n_sub, n_cl, n_lt, n_le, n_eq, not_true_eq_false, not_false_eq_true] at c) <;> omega))), fun _ => ?_⟩
          refine ⟨fun _ => ?_, fun c => (by exfalso; (first | omega | ((try simp (disch := omega) only [n_0, n_1, n_2, n_3, n_4, n_5, n_6, n_8, n_24, n_255, n_256, n_576, n_4000, nI_add, pk_mul, n_sub, n_cl, n_lt, n_le, n_eq, not_true_eq_false, not_false_eq_true] at c) <;> omega)))⟩
          refine ⟨2, s_MO_readPart_235_v4 hW hH (by omega) ho e1 e2 e3 ⟨nb1, ?_⟩⟩
          have r := hyes (by omega) hl (by unfold PO; exact ⟨fun w => absurd w (by omega), fun w => absurd w (by omega), fun _ => ho⟩)
          unfold PF at r
          rw [if_neg (by omega), if_neg (by omega)] at r
          exact r
        · have r := hno (fun w => ho (w.2.2.2.2 z))
          unfold ROK at ho
          by_cases g : bn q (p + 1) < W ∧ bn q (p + 2) < H
          · rw [if_pos (by omega)]
            refine ⟨fun _ => ⟨nb0, r⟩, fun _ => ?_⟩
            refine ⟨fun _ => ⟨nb0, r⟩, fun c1 => ?_⟩
            refine ⟨fun _ => ⟨nb0, r⟩, fun c2 => ?_⟩
            refine ⟨fun c3 => ?_, fun _ => ⟨nb0, r⟩⟩
            exfalso
            simp (disch := omega) only [n_0, n_1, n_2, n_3, n_4, n_5, n_6, n_8, n_24, n_255, n_256, n_576, n_4000, nI_add, pk_mul, n_sub, n_cl, n_lt, n_le, n_eq, not_true_eq_false, not_false_eq_true] at c1 c2 c3
            omega
          · rw [if_neg (by omega)]
            exact ⟨fun _ => ⟨nb0, r⟩, fun c => absurd rfl c⟩
      · refine ⟨fun c => (by exfalso; (first | omega | ((try simp (disch := omega) only [n_0, n_1, n_2, n_3, n_4, n_5, n_6, n_8, n_24, n_255, n_256, n_576, n_4000, nI_add, pk_mul, n_sub, n_cl, n_lt, n_le, n_eq, not_true_eq_false, not_false_eq_true] at c) <;> omega))), fun _ => ?_⟩
        exact ⟨nb0, hno (fun w => hl w.2.1)⟩
  · rw [if_neg (by omega)]
    exact ⟨fun _ => ⟨nb0, hno (fun w => hk w.1)⟩, fun c => absurd rfl c⟩
