/-! PURE ROWS: one part read and drawn. Own work. -/
def bn (q : Nat → Int32) (i : Nat) : Nat := (q i).toInt.toNat
theorem bn_eq {q : Nat → Int32} (h : BY q) (i : Nat) : q i = nI (bn q i) := by
  unfold bn
  rw [iI_nI, Int.toNat_of_nonneg (h i).1]; exact iI_of (q i)
theorem bn_le {q : Nat → Int32} (h : BY q) (i : Nat) : bn q i ≤ 255 := by
  unfold bn
  have := (h i).2
  omega
def ROK (W H x y w h : Nat) : Prop := x < W ∧ y < H ∧ 1 ≤ w ∧ x + w ≤ W ∧ 1 ≤ h ∧ y + h ≤ H
def COK (W H x y n a b : Nat) : Prop := ROK W H x y n 1 ∧ a ≤ 8 ∧ 1 ≤ b ∧ b ≤ 4 ∧ b ≤ y ∧ 4 ≤ x + a ∧ x + n + a ≤ W + 4
/-- a row copied, sample by sample -/
def cyF : Nat → Nat → Nat → (Nat → Int32) → (Nat → Int32)
  | 0, _, _, f => f
  | d + 1, p, r, f => cyF d (p + 1) (r + 1) (upd f p (f r))
theorem cyF_by : ∀ d p r f, BY f → BY (cyF d p r f) := by
  intro d
  induction d with
  | zero => intro p r f h; exact h
  | succ d ih =>
    intro p r f h
    refine ih (p + 1) (r + 1) _ ?_
    intro j
    by_cases e : j = p
    · rw [e, pk_us]; exact h r
    · rw [pk_un e]; exact h j
theorem cyF_zb {N : Nat} : ∀ d p r f, ZB N f → p + d ≤ N → ZB N (cyF d p r f) := by
  intro d
  induction d with
  | zero => intro p r f h _; exact h
  | succ d ih =>
    intro p r f h hp
    refine ih (p + 1) (r + 1) _ ?_ (by omega)
    intro j hj
    rw [pk_un (by omega)]; exact h j hj
theorem dx_nI {c a : Nat} (h : 4 ≤ c + a) : nI c + (nI a - 4) = nI (c + a - 4) := by
  rw [iI_nI, iI_nI, iI_nI, i_4, iI_sub, iI_add]
  congr 1
  omega
theorem s_DR_drawRectangle {o0_values : Nat → Int32} {post : Int32 → (Nat → Int32) → Prop} {W H x y w h : Nat} (hW : W ≤ 24) (hH : H ≤ 24) (bx : x ≤ 255) (by' : y ≤ 255) (bw : w ≤ 255) (bh : h ≤ 255) {v : Int32} (h1 : ROK W H x y w h → post 1 (rcF v W w h (y * W + x) o0_values)) (h2 : ¬ ROK W H x y w h → post 0 o0_values) : w_DR_drawRectangle (nI W) (nI H) (W * H) o0_values (nI x) (nI y) (nI w) (nI h) v post := by
  unfold w_DR_drawRectangle
  refine s_holds hW hH ?_
  rw [ni_t (by omega), ni_t (by omega), ni_t (by omega), ni_t (by omega)]
  by_cases c : ROK W H x y w h
  · have c' := c
    unfold ROK at c'
    rw [if_pos (by omega)]
    refine ⟨fun _ => ?_, fun z => absurd z (by decide)⟩
    exact s_PI_paintRectangle hW hH (by omega) (by omega) ⟨nb1, h1 c⟩
  · have c' := c
    unfold ROK at c'
    rw [if_neg (by omega)]
    exact ⟨fun z => absurd rfl z, fun _ => ⟨nb0, h2 c⟩⟩
theorem s_PI_paintCopy_3 {k_38 : Int32 → (Nat → Int32) → Prop} {W H x n y a b : Nat} (hW : W ≤ 24) (hH : H ≤ 24) (hc : COK W H x y n a b) : ∀ d c f, c + d = x + n → x ≤ c → k_38 (nI (x + n)) (cyF d (y * W + c) ((y - b) * W + (c + a - 4)) f) → w_PI_paintCopy_3 (nI x) (nI y) (nI n) (nI a - 4) (nI b) (nI W) (nI H) (W * H) k_38 (d + 1) (nI c) f := by
  unfold COK ROK at hc
  intro d
  induction d with
  | zero =>
    intro c f h hx hk
    have e : c = x + n := by omega
    subst e
    rw [w_PI_paintCopy_3]
    refine ⟨fun _ => ?_, fun c => (by exfalso; (first | omega | ((try simp (disch := omega) only [n_0, n_1, n_2, n_3, n_4, n_5, n_6, n_8, n_24, n_255, n_256, n_576, n_4000, nI_add, pk_mul, n_sub, n_cl, n_lt, n_le, n_eq, not_true_eq_false, not_false_eq_true] at c) <;> omega)))⟩
    exact hk
  | succ d ih =>
    intro c f h hx hk
    rw [w_PI_paintCopy_3]
    refine ⟨fun c => (by exfalso; (first | omega | ((try simp (disch := omega) only [n_0, n_1, n_2, n_3, n_4, n_5, n_6, n_8, n_24, n_255, n_256, n_576, n_4000, nI_add, pk_mul, n_sub, n_cl, n_lt, n_le, n_eq, not_true_eq_false, not_false_eq_true] at c) <;> omega))), fun _ => ?_⟩
    rw [dx_nI (by omega), n_sub (by omega)]
    refine s_value_in hW hH (by omega) (by omega) ?_
    refine s_paint_in hW hH (by omega) (by omega) ?_
    rw [n_1, nI_add]
    refine ih (c + 1) _ (by omega) (by omega) ?_
    rw [show c + 1 + a - 4 = c + a - 4 + 1 by omega]
    exact hk
theorem s_DR_drawCopy {o0_values : Nat → Int32} {post : Int32 → (Nat → Int32) → Prop} {W H x y n a b : Nat} (hW : W ≤ 24) (hH : H ≤ 24) (bx : x ≤ 255) (by' : y ≤ 255) (bw : n ≤ 255) (ba : a ≤ 255) (bb : b ≤ 255) (h1 : COK W H x y n a b → post 1 (cyF n (y * W + x) ((y - b) * W + (x + a - 4)) o0_values)) (h2 : ¬ COK W H x y n a b → post 0 o0_values) : w_DR_drawCopy (nI W) (nI H) (W * H) o0_values (nI x) (nI y) (nI n) (nI a - 4) (nI b) post := by
  unfold w_DR_drawCopy
  have ea : (nI a - 4).toInt = (a : Int) - 4 := by
    rw [iI_nI, i_4, iI_sub, iI_toInt (by omega) (by omega)]
  have t4 : (4 : Int32).toInt = 4 := rfl
  have t1 : (1 : Int32).toInt = 1 := rfl
  by_cases c1 : a ≤ 8
  · refine ⟨fun c => ?_, fun _ => ?_⟩
    · exfalso; rw [c_lt, ea, t4] at c; omega
    by_cases c2 : 1 ≤ b
    · refine ⟨fun c => (by exfalso; (first | omega | ((try simp (disch := omega) only [n_0, n_1, n_2, n_3, n_4, n_5, n_6, n_8, n_24, n_255, n_256, n_576, n_4000, nI_add, pk_mul, n_sub, n_cl, n_lt, n_le, n_eq, not_true_eq_false, not_false_eq_true] at c) <;> omega))), fun _ => ?_⟩
      by_cases c3 : b ≤ 4
      · refine ⟨fun _ => ?_, fun c => (by exfalso; (first | omega | ((try simp (disch := omega) only [n_0, n_1, n_2, n_3, n_4, n_5, n_6, n_8, n_24, n_255, n_256, n_576, n_4000, nI_add, pk_mul, n_sub, n_cl, n_lt, n_le, n_eq, not_true_eq_false, not_false_eq_true] at c) <;> omega)))⟩
        refine s_holds hW hH ?_
        rw [ni_t (by omega), ni_t (by omega), ni_t (by omega), t1]
        by_cases c4 : ROK W H x y n 1
        · have c4' := c4
          unfold ROK at c4'
          rw [if_pos (by omega)]
          refine ⟨fun z => absurd z (by decide), fun _ => ?_⟩
          refine s_holds hW hH ?_
          have ex : (nI x + (nI a - 4)).toInt = (x : Int) + ((a : Int) - 4) := by
            rw [iI_nI, iI_nI, i_4, iI_sub, iI_add, iI_toInt (by omega) (by omega)]
          have ey : (nI y - nI b).toInt = (y : Int) - (b : Int) := by
            rw [iI_nI, iI_nI, iI_sub, iI_toInt (by omega) (by omega)]
          rw [ex, ey, ni_t (by omega), t1]
          by_cases c5 : COK W H x y n a b
          · have c5' := c5
            unfold COK ROK at c5'
            rw [if_pos (by omega)]
            refine ⟨fun _ => ?_, fun z => absurd z (by decide)⟩
            unfold w_PI_paintCopy
            exact ⟨n + 1, s_PI_paintCopy_3 (k_38 := fun (v6_3_8 : Int32) (f_o0_values_q_4_9 : Nat → Int32) => narrow .boolean (.int 1) = .int 1 ∧ post 1 f_o0_values_q_4_9) hW hH c5 n x _ rfl (by omega) ⟨nb1, h1 c5⟩⟩
          · have c5' := c5
            unfold COK ROK at c5'
            rw [if_neg (by omega)]
            exact ⟨fun z => absurd rfl z, fun _ => ⟨nb0, h2 c5⟩⟩
        · have c4' := c4
          unfold ROK at c4'
          rw [if_neg (by omega)]
          exact ⟨fun _ => ⟨nb0, h2 (fun z => c4 z.1)⟩, fun z => absurd rfl z⟩
      · refine ⟨fun c => (by exfalso; (first | omega | ((try simp (disch := omega) only [n_0, n_1, n_2, n_3, n_4, n_5, n_6, n_8, n_24, n_255, n_256, n_576, n_4000, nI_add, pk_mul, n_sub, n_cl, n_lt, n_le, n_eq, not_true_eq_false, not_false_eq_true] at c) <;> omega))), fun _ => ?_⟩
        exact ⟨nb0, h2 (fun z => c3 z.2.2.2.1)⟩
    · refine ⟨fun _ => ?_, fun c => (by exfalso; (first | omega | ((try simp (disch := omega) only [n_0, n_1, n_2, n_3, n_4, n_5, n_6, n_8, n_24, n_255, n_256, n_576, n_4000, nI_add, pk_mul, n_sub, n_cl, n_lt, n_le, n_eq, not_true_eq_false, not_false_eq_true] at c) <;> omega)))⟩
      exact ⟨nb0, h2 (fun z => c2 z.2.2.1)⟩
  · refine ⟨fun _ => ⟨nb0, h2 (fun z => c1 z.2.1)⟩, fun c => ?_⟩
    exfalso; rw [c_lt, ea, t4] at c; omega
/-- what the part at p draws -/
def PO (W H : Nat) (q : Nat → Int32) (p : Nat) : Prop :=
  (bn q p = 1 → ROK W H (bn q (p + 1)) (bn q (p + 2)) (bn q (p + 3)) (bn q (p + 4))) ∧ (bn q p = 2 → COK W H (bn q (p + 1)) (bn q (p + 2)) (bn q (p + 3)) (bn q (p + 4)) (bn q (p + 5))) ∧ (bn q p = 3 → ROK W H (bn q (p + 1)) (bn q (p + 2)) (bn q (p + 3)) 1)
def PF (W : Nat) (q : Nat → Int32) (p : Nat) (f : Nat → Int32) : Nat → Int32 :=
  if bn q p = 1 then rcF (q (p + 5)) W (bn q (p + 3)) (bn q (p + 4)) (bn q (p + 2) * W + bn q (p + 1)) f
  else if bn q p = 2 then cyF (bn q (p + 3)) (bn q (p + 2) * W + bn q (p + 1)) ((bn q (p + 2) - bn q (p + 5)) * W + (bn q (p + 1) + bn q (p + 4) - 4)) f
  else rcF (q (p + 4)) W (bn q (p + 3)) 1 (bn q (p + 2) * W + bn q (p + 1)) f
def pln (q : Nat → Int32) (p : Nat) : Nat := if bn q p = 3 then 5 else 6
theorem PF_by {W p : Nat} {q f : Nat → Int32} (hq : BY q) (hf : BY f) : BY (PF W q p f) := by
  unfold PF
  split
  · exact rcF_by hf (hq _)
  · split
    · exact cyF_by _ _ _ _ hf
    · exact rcF_by hf (hq _)
theorem PF_zb {W H p : Nat} {q f : Nat → Int32} (hf : ZB (W * H) f) (hk : 1 ≤ bn q p ∧ bn q p ≤ 3) (ho : PO W H q p) : ZB (W * H) (PF W q p f) := by
  unfold PO at ho
  unfold PF
  split
  · rename_i e
    have z := ho.1 e
    unfold ROK at z
    exact rcF_zb hf (by omega) (by omega)
  · split
    · rename_i e
      have z := ho.2.1 e
      unfold COK ROK at z
      have e1 := @pl_lt W H (bn q (p + 1) + bn q (p + 3) - 1) (bn q (p + 2)) (by omega) (by omega)
      exact cyF_zb _ _ _ _ hf (by omega)
    · have z := ho.2.2 (by omega)
      unfold ROK at z
      exact rcF_zb hf (by omega) (by omega)
theorem s_DR_drawPart {o2_values : Nat → Int32} {post : Int32 → (Nat → Int32) → Prop} {W H F p : Nat} (hW : W ≤ 24) (hH : H ≤ 24) {q : Nat → Int32} (hq : BY q) (hF : F ≤ 4000) (hk : 1 ≤ bn q p ∧ bn q p ≤ 3) (hl : p + pln q p ≤ F) (h1 : PO W H q p → post 1 (PF W q p o2_values)) (h2 : ¬ PO W H q p → post 0 o2_values) : w_DR_drawPart (nI F) 4000 q (nI W) (nI H) (W * H) o2_values (nI p) post := by
  have l1 := bn_le hq (p + 1)
  have l2 := bn_le hq (p + 2)
  have l3 := bn_le hq (p + 3)
  have l4 := bn_le hq (p + 4)
  have l5 := bn_le hq (p + 5)
  have e0 := bn_eq hq p
  have e1 := bn_eq hq (p + 1)
  have e2 := bn_eq hq (p + 2)
  have e3 := bn_eq hq (p + 3)
  have e4 := bn_eq hq (p + 4)
  have e5 := bn_eq hq (p + 5)
  unfold pln at hl
  unfold w_DR_drawPart
  simp only [n_1, n_2, n_3, n_4, n_5, nI_add]
  have hl5 : p + 5 ≤ F := by
    by_cases z : bn q p = 3
    · rw [if_pos z] at hl; exact hl
    · rw [if_neg z] at hl; omega
  refine s_BR_get_in (by omega) (by omega) (show p < F by omega) ?_
  refine s_BR_get_in (by omega) (by omega) (show p + 1 < F by omega) ?_
  refine s_BR_get_in (by omega) (by omega) (show p + 2 < F by omega) ?_
  refine s_BR_get_in (by omega) (by omega) (show p + 3 < F by omega) ?_
  refine s_BR_get_in (by omega) (by omega) (show p + 4 < F by omega) ?_
  unfold PO PF at h1
  unfold PO at h2
  have hc : bn q p = 1 ∨ bn q p = 2 ∨ bn q p = 3 := by omega
  rw [e0, e1, e2, e3]
  rcases hc with z | z | z
  · rw [if_neg (by omega)] at hl
    simp only [z, if_true, if_pos rfl] at h1 h2
    rw [z]
    refine ⟨fun c => (by exfalso; (first | omega | ((try simp (disch := omega) only [n_0, n_1, n_2, n_3, n_4, n_5, n_6, n_8, n_24, n_255, n_256, n_576, n_4000, nI_add, pk_mul, n_sub, n_cl, n_lt, n_le, n_eq, not_true_eq_false, not_false_eq_true] at c) <;> omega))), fun _ => ?_⟩
    refine s_BR_get_in (by omega) (by omega) (show p + 5 < F by omega) ?_
    rw [e4]
    refine s_DR_drawRectangle hW hH l1 l2 l3 l4 (fun c => ⟨nb1, h1 ⟨fun _ => c, fun w => absurd w (by omega), fun w => absurd w (by omega)⟩⟩) (fun c => ⟨nb0, h2 (fun w => c (w.1 trivial))⟩)
  · rw [if_neg (by omega)] at hl
    simp only [z] at h1 h2
    rw [z]
    refine ⟨fun _ => ?_, fun c => (by exfalso; (first | omega | ((try simp (disch := omega) only [n_0, n_1, n_2, n_3, n_4, n_5, n_6, n_8, n_24, n_255, n_256, n_576, n_4000, nI_add, pk_mul, n_sub, n_cl, n_lt, n_le, n_eq, not_true_eq_false, not_false_eq_true] at c) <;> omega)))⟩
    refine ⟨fun c => (by exfalso; (first | omega | ((try simp (disch := omega) only [n_0, n_1, n_2, n_3, n_4, n_5, n_6, n_8, n_24, n_255, n_256, n_576, n_4000, nI_add, pk_mul, n_sub, n_cl, n_lt, n_le, n_eq, not_true_eq_false, not_false_eq_true] at c) <;> omega))), fun _ => ?_⟩
    refine s_BR_get_in (by omega) (by omega) (show p + 5 < F by omega) ?_
    rw [e4, e5]
    refine s_DR_drawCopy hW hH l1 l2 l3 l4 l5 (fun c => ⟨nb1, ?_⟩) (fun c => ⟨nb0, ?_⟩)
    · exact h1 ⟨fun w => absurd w (by omega), fun _ => c, fun w => absurd w (by omega)⟩
    · exact h2 (fun w => c (w.2.1 trivial))
  · simp only [z] at h1 h2
    rw [z]
    refine ⟨fun _ => ?_, fun c => (by exfalso; (first | omega | ((try simp (disch := omega) only [n_0, n_1, n_2, n_3, n_4, n_5, n_6, n_8, n_24, n_255, n_256, n_576, n_4000, nI_add, pk_mul, n_sub, n_cl, n_lt, n_le, n_eq, not_true_eq_false, not_false_eq_true] at c) <;> omega)))⟩
    refine ⟨fun _ => ?_, fun c => (by exfalso; (first | omega | ((try simp (disch := omega) only [n_0, n_1, n_2, n_3, n_4, n_5, n_6, n_8, n_24, n_255, n_256, n_576, n_4000, nI_add, pk_mul, n_sub, n_cl, n_lt, n_le, n_eq, not_true_eq_false, not_false_eq_true] at c) <;> omega)))⟩
    refine s_DR_drawRectangle (h := 1) hW hH l1 l2 l3 (by omega) (fun c => ⟨nb1, ?_⟩) (fun c => ⟨nb0, ?_⟩)
    · exact h1 ⟨fun w => absurd w (by omega), fun w => absurd w (by omega), fun _ => c⟩
    · exact h2 (fun w => c (w.2.2 trivial))
