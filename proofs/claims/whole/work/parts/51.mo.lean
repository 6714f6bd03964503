/-! PURE ROWS: the reference's small methods. Own work. -/
section PM
variable {m_wide m_high m_fault m_toldSize m_fedSize m_parts m_plain m_best m_bestOne m_bestTwo m_place : Int32}
variable {m_first_n m_other_n m_open_n m_read_n m_toldBytes_n m_fed_n m_part_n : Nat}
variable {m_first m_other m_open m_read m_toldBytes m_fed m_part : Nat → Int32}
theorem s_MO_in {x a b : Int32} {post : Int32 → Prop} (H : post (if a.toInt ≤ x.toInt ∧ x.toInt ≤ b.toInt then 1 else 0)) : w_MO_in x a b post := by
  unfold w_MO_in
  simp only [c_lt]
  refine ⟨fun c => ⟨nb0, ?_⟩, fun c => ⟨fun c2 => ⟨nb0, ?_⟩, fun c2 => ⟨nb1, ?_⟩⟩⟩
  · rwa [if_neg (by omega)] at H
  · rwa [if_neg (by omega)] at H
  · rwa [if_pos (by omega)] at H
theorem m1_t {n : Nat} (h1 : 1 ≤ n) (h : n ≤ 100000) : (nI n - 1).toInt = (n : Int) - 1 := by
  rw [show (1 : Int32) = nI 1 from rfl, pk_sub h1, ni_t (by omega)]
  omega
theorem s_MO_isSample {W H : Nat} {x y : Int32} (h1 : 1 ≤ W) (h2 : W ≤ 24) (h3 : 1 ≤ H) (h4 : H ≤ 24) {post : Int32 → Prop} (hp : post (if inb W H x.toInt y.toInt then 1 else 0)) : w_MO_isSample (nI W) (nI H) m_fault m_toldSize m_fedSize m_parts m_plain m_best m_bestOne m_bestTwo m_place m_first_n m_first m_other_n m_other m_open_n m_open m_read_n m_read m_toldBytes_n m_toldBytes m_fed_n m_fed m_part_n m_part x y post := by
  unfold w_MO_isSample
  refine s_MO_in ?_
  rw [m1_t h1 (by omega), t_0]
  by_cases c : 0 ≤ x.toInt ∧ x.toInt ≤ (W : Int) - 1
  · rw [if_pos c]
    refine ⟨fun z => absurd z (by decide), fun _ => s_MO_in ?_⟩
    rw [m1_t h3 (by omega), t_0]
    by_cases c2 : 0 ≤ y.toInt ∧ y.toInt ≤ (H : Int) - 1
    · rw [if_pos c2]
      rw [if_pos (by omega)] at hp
      exact ⟨fun z => absurd z (by decide), fun _ => ⟨nb1, hp⟩⟩
    · rw [if_neg c2]
      rw [if_neg (by omega)] at hp
      exact ⟨fun _ => ⟨nb0, hp⟩, fun z => absurd rfl z⟩
  · rw [if_neg c]
    rw [if_neg (by omega)] at hp
    exact ⟨fun _ => ⟨nb0, hp⟩, fun z => absurd rfl z⟩
theorem s_MO_at {W H : Nat} {x y : Int32} (h1 : 1 ≤ W) (h2 : W ≤ 24) (h3 : 1 ≤ H) (h4 : H ≤ 24) {post : Int32 → Int32 → Prop} (ho : ¬ inb W H x.toInt y.toInt → post 0 1) (hi : ∀ a b : Nat, a < W → b < H → x = nI a → y = nI b → post (m_first (b * W + a)) 0) : w_MO_at (nI W) (nI H) m_fault m_toldSize m_fedSize m_parts m_plain m_best m_bestOne m_bestTwo m_place 576 m_first m_other_n m_other m_open_n m_open m_read_n m_read m_toldBytes_n m_toldBytes m_fed_n m_fed m_part_n m_part x y post := by
  unfold w_MO_at
  refine s_MO_isSample h1 h2 h3 h4 ?_
  by_cases c : inb W H x.toInt y.toInt
  · rw [if_pos c]
    obtain ⟨a, b, ha, hb, rfl, rfl⟩ := in_nat h2 h4 c
    have hz := ix_lt h2 h4 ha hb
    refine ⟨fun z => absurd z (by decide), fun _ => ?_⟩
    rw [ix_nI2, nI_clamp (by omega)]
    exact ⟨vp_in_nI (by omega) (by omega), hi a b ha hb rfl rfl⟩
  · rw [if_neg c]
    exact ⟨fun _ => ho c, fun z => absurd rfl z⟩
end PM
