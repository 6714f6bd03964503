/-! PURE ROWS: the law's start. Own work. -/
theorem cell_ok (L : Nat) (hL : L ≤ 3074) (xs : Nat → Int32) (k : Nat) (hk : k ≤ 1) : ∃ v : Int32, ∀ post : Int32 → Prop, post v → w_LW_cell L xs (nI k) post := by
  by_cases c : L ≤ k
  · refine ⟨0, fun post h => ?_⟩
    unfold w_LW_cell
    refine ⟨fun _ => ?_, fun c => (by exfalso; (first | omega | ((try simp (disch := omega) only [n_0, n_1, n_2, n_3, n_4, n_5, n_6, n_8, n_24, n_255, n_256, n_576, n_4000, nI_add, pk_mul, n_sub, n_cl, n_lt, n_le, n_eq, not_true_eq_false, not_false_eq_true] at c) <;> omega)))⟩
    exact h
  · refine ⟨xs k, fun post h => ?_⟩
    unfold w_LW_cell
    refine ⟨fun c => (by exfalso; (first | omega | ((try simp (disch := omega) only [n_0, n_1, n_2, n_3, n_4, n_5, n_6, n_8, n_24, n_255, n_256, n_576, n_4000, nI_add, pk_mul, n_sub, n_cl, n_lt, n_le, n_eq, not_true_eq_false, not_false_eq_true] at c) <;> omega))), fun _ => ?_⟩
    refine ⟨n_in (by omega) (by omega), ?_⟩
    rw [n_cl (by omega)]
    exact h
/-- what a side becomes -/
def SD (v : Int32) (W : Nat) : Prop := 1 ≤ W ∧ W ≤ 24 ∧ (1 ≤ v.toInt → v.toInt ≤ 24 → v.toInt = W) ∧ (v.toInt < 1 → W = 1) ∧ (24 < v.toInt → W = 24)
theorem s_PI_init {post : Int32 → Int32 → Nat → (Nat → Int32) → Prop} {W H : Nat} (hW : W ≤ 24) (hH : H ≤ 24) (hp : post (nI W) (nI H) (W * H) (fun _ => 0)) : w_PI_init (nI W) (nI H) post := by
  have hs := pl_le hW hH
  unfold w_PI_init
  rw [pk_mul, n_cl (by omega)]
  exact ⟨nI_ge0 (by omega), hs, hp⟩
theorem s_BR_init {post : Int32 → Nat → (Nat → Int32) → Prop} {N : Nat} (hN : N ≤ 4000) (hp : post 0 N (fun _ => 0)) : w_BR_init (nI N) post := by
  unfold w_BR_init
  rw [n_cl (by omega)]
  exact ⟨nI_ge0 (by omega), hN, hp⟩
theorem s_TE_init {post : Int32 → Nat → (Nat → Int32) → Nat → (Nat → Int32) → Int32 → Int32 → Nat → (Nat → Int32) → Prop} {N : Nat} (hN : N ≤ 576) (hp : post 0 N (fun _ => 0) 256 (fun _ => 0) 0 0 (N * 6) (fun _ => 0)) : w_TE_init (nI N) post := by
  unfold w_TE_init w_PL_init
  rw [n_cl (by omega), n_6, pk_mul, n_cl (by omega), n_256, n_cl (by omega)]
  exact ⟨nI_ge0 (by omega), hN, nI_ge0 (by omega), by omega, nI_ge0 (by omega), by omega, hp⟩
theorem s_DF_init {x1 x2 : Int32} {post : Int32 → Nat → (Nat → Int32) → Nat → (Nat → Int32) → Int32 → Int32 → Nat → (Nat → Int32) → Int32 → Nat → (Nat → Int32) → Int32 → Nat → (Nat → Int32) → Int32 → Int32 → Nat → (Nat → Int32) → Int32 → Int32 → Nat → (Nat → Int32) → Int32 → Int32 → Nat → (Nat → Int32) → Prop} (hp : ∀ W H : Nat, SD x1 W → SD x2 H → post 0 (W * H) (fun _ => 0) 256 (fun _ => 0) 0 0 (W * H * 6) (fun _ => 0) 0 (H * (2 * W + 2) + 1) (fun _ => 0) 0 4000 (fun _ => 0) (nI W) (nI H) (W * H) (fun _ => 0) (nI W) (nI H) (W * H) (fun _ => 0) (nI W) (nI H) (W * H) (fun _ => 0)) : w_DF_init x1 x2 post := by
  unfold w_DF_init
  refine side_ok (fun W w1 w2 w3 w4 w5 => ?_)
  refine side_ok (fun H g1 g2 g3 g4 g5 => ?_)
  have hs := pl_le w2 g2
  have hC2 : H * (2 * W + 2) ≤ 24 * 50 := Nat.mul_le_mul g2 (by omega)
  refine s_PI_init w2 g2 ?_
  refine s_PI_init w2 g2 ?_
  refine s_PI_init w2 g2 ?_
  rw [pk_mul]
  refine s_TE_init hs ?_
  have e1 : nI H * (2 * nI W + 2) + 1 = nI (H * (2 * W + 2) + 1) := by
    rw [n_2, n_1, pk_mul, nI_add, pk_mul, nI_add]
  rw [e1]
  refine s_BR_init (by omega) ?_
  refine s_BR_init (N := 4000) (by omega) ?_
  exact hp W H ⟨w1, w2, w3, w4, w5⟩ ⟨g1, g2, g3, g4, g5⟩
theorem s_MO_init {x1 x2 : Int32} {post : Int32 → Int32 → Int32 → Int32 → Int32 → Int32 → Int32 → Int32 → Int32 → Int32 → Int32 → Nat → (Nat → Int32) → Nat → (Nat → Int32) → Nat → (Nat → Int32) → Nat → (Nat → Int32) → Nat → (Nat → Int32) → Nat → (Nat → Int32) → Nat → (Nat → Int32) → Prop} {W H : Nat} (hx : SD x1 W) (hy : SD x2 H) (hp : post (nI W) (nI H) 0 0 0 0 0 0 0 0 0 576 (fun _ => 0) 576 (fun _ => 0) 576 (fun _ => 0) 576 (fun _ => 0) 4000 (fun _ => 0) 4000 (fun _ => 0) 3600 (fun _ => 0)) : w_MO_init x1 x2 post := by
  have t24 : (24 : Int32).toInt = 24 := rfl
  have c576 : (576 : Int32).toNatClampNeg = 576 := n_cl (n := 576) (by omega)
  have c4000 : (4000 : Int32).toNatClampNeg = 4000 := n_cl (n := 4000) (by omega)
  have c3600 : (3600 : Int32).toNatClampNeg = 3600 := n_cl (n := 3600) (by omega)
  have p576 : ¬ (576 : Int32) < 0 := nI_ge0 (p := 576) (by omega)
  have p4000 : ¬ (4000 : Int32) < 0 := nI_ge0 (p := 4000) (by omega)
  have p3600 : ¬ (3600 : Int32) < 0 := nI_ge0 (p := 3600) (by omega)
  obtain ⟨w1, w2, w3, w4, w5⟩ := hx
  obtain ⟨g1, g2, g3, g4, g5⟩ := hy
  have eW : (1 ≤ x1 → x1 ≤ 24 → nI W = x1) ∧ (¬ x1 ≤ 24 → nI W = 24) ∧ (¬ 1 ≤ x1 → nI W = 1) := by
    refine ⟨fun a b => ?_, fun a => ?_, fun a => ?_⟩
    · rw [c_le, t_1] at a
      rw [c_le, t24] at b
      rw [c_eq, ni_t (by omega)]
      omega
    · rw [c_le, t24] at a
      rw [w5 (by omega)]; rfl
    · rw [c_le, t_1] at a
      rw [w4 (by omega)]; rfl
  have eH : (1 ≤ x2 → x2 ≤ 24 → nI H = x2) ∧ (¬ x2 ≤ 24 → nI H = 24) ∧ (¬ 1 ≤ x2 → nI H = 1) := by
    refine ⟨fun a b => ?_, fun a => ?_, fun a => ?_⟩
    · rw [c_le, t_1] at a
      rw [c_le, t24] at b
      rw [c_eq, ni_t (by omega)]
      omega
    · rw [c_le, t24] at a
      rw [g5 (by omega)]; rfl
    · rw [c_le, t_1] at a
      rw [g4 (by omega)]; rfl
  generalize nI W = U at hp eW
  generalize nI H = V at hp eH
  unfold w_MO_init
  rw [c576, c4000, c3600]
  refine ⟨p576, by omega, p576, by omega, p576, by omega, p576, by omega, p4000, by omega, p4000, by omega, p3600, by omega, ?_⟩
  refine ⟨fun a1 => ⟨fun a2 => ?_, fun a2 => ?_⟩, fun a1 => ?_⟩
  · have e := eW.1 a1 a2
    rw [← e]
    refine ⟨fun b1 => ⟨fun b2 => ?_, fun b2 => ?_⟩, fun b1 => ?_⟩
    · rw [← eH.1 b1 b2]; exact hp
    · rw [eH.2.1 b2] at hp; exact hp
    · rw [eH.2.2 b1] at hp; exact hp
  · rw [eW.2.1 a2] at hp
    refine ⟨fun b1 => ⟨fun b2 => ?_, fun b2 => ?_⟩, fun b1 => ?_⟩
    · rw [← eH.1 b1 b2]; exact hp
    · rw [eH.2.1 b2] at hp; exact hp
    · rw [eH.2.2 b1] at hp; exact hp
  · rw [eW.2.2 a1] at hp
    refine ⟨fun b1 => ⟨fun b2 => ?_, fun b2 => ?_⟩, fun b1 => ?_⟩
    · rw [← eH.1 b1 b2]; exact hp
    · rw [eH.2.1 b2] at hp; exact hp
    · rw [eH.2.2 b1] at hp; exact hp
theorem pure_law0 {L : Nat} (hL : L ≤ 3074) (xs : Nat → Int32) : w_LW_law L xs := by
  obtain ⟨v0, h0⟩ := cell_ok L hL xs 0 (by omega)
  obtain ⟨v1, h1⟩ := cell_ok L hL xs 1 (by omega)
  unfold w_LW_law
  refine h0 _ ?_
  refine h1 _ ?_
  refine s_DF_init (fun W H hx hy => ?_)
  refine h0 _ ?_
  refine h1 _ ?_
  refine s_MO_init hx hy ?_
  refine ⟨by decide, by decide, 513, by omega, ?_⟩
  have zz : ∀ n, ZB n (fun _ => (0 : Int32)) := fun _ _ _ => rfl
  have zb : BY (fun _ => (0 : Int32)) := fun _ => by_0
  have z := law_all (xs := xs) (W := W) (H := H) hL 512 2 (by omega) (by omega)
  exact z 0 (fun _ => 0) (fun _ => 0) 0 0 (fun _ => 0) 0 (fun _ => 0) 0 (fun _ => 0) (fun _ => 0) (fun _ => 0) (fun _ => 0) 0 0 0 0 0 (fun _ => 0) (fun _ => 0) ⟨⟨hx.1, hx.2.1, hy.1, hy.2.1⟩, Or.inl rfl, zz _, Nat.zero_le _, Nat.zero_le _, zb, Nat.zero_le _, zb, zz _, zb, zz _, zb, zz _, zb, zz _⟩
