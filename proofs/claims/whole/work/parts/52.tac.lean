/-! PURE ROWS: natural numbers as ints, and the small tactics. Own work. -/
theorem n_0 : (0 : Int32) = nI 0 := rfl
theorem n_1 : (1 : Int32) = nI 1 := rfl
theorem n_2 : (2 : Int32) = nI 2 := rfl
theorem n_3 : (3 : Int32) = nI 3 := rfl
theorem n_4 : (4 : Int32) = nI 4 := rfl
theorem n_5 : (5 : Int32) = nI 5 := rfl
theorem n_6 : (6 : Int32) = nI 6 := rfl
theorem n_8 : (8 : Int32) = nI 8 := rfl
theorem n_24 : (24 : Int32) = nI 24 := rfl
theorem n_255 : (255 : Int32) = nI 255 := rfl
theorem n_256 : (256 : Int32) = nI 256 := rfl
theorem n_576 : (576 : Int32) = nI 576 := rfl
theorem n_4000 : (4000 : Int32) = nI 4000 := rfl
theorem n_lt {a b : Nat} (ha : a < 2147483648) (hb : b < 2147483648) : nI a < nI b ↔ a < b := by
  rw [c_lt, nI_toInt ha, nI_toInt hb]; omega
theorem n_le {a b : Nat} (ha : a < 2147483648) (hb : b < 2147483648) : nI a ≤ nI b ↔ a ≤ b := by
  rw [c_le, nI_toInt ha, nI_toInt hb]; omega
theorem n_eq {a b : Nat} (ha : a < 2147483648) (hb : b < 2147483648) : nI a = nI b ↔ a = b := by
  rw [c_eq, nI_toInt ha, nI_toInt hb]; omega
theorem n_sub {a b : Nat} (h : b ≤ a) : nI a - nI b = nI (a - b) := pk_sub h
theorem n_cl {n : Nat} (h : n < 2147483648) : (nI n).toNatClampNeg = n := nI_clamp h
theorem n_in {n N : Nat} (h : n < N) (hN : N < 2147483648) : vp_in (nI n) N := vp_in_nI h hN
/-- below i one function, from there on another -/
def cp (i : Nat) (g f : Nat → Int32) : Nat → Int32 := fun j => if j < i then g j else f j
theorem cp_0 {g f : Nat → Int32} : cp 0 g f = f := by
  funext j; unfold cp; rw [if_neg (by omega)]
theorem cp_s {i : Nat} {g f : Nat → Int32} : upd (cp i g f) i (g i) = cp (i + 1) g f := by
  funext j
  by_cases e : j = i
  · subst e; rw [pk_us]; unfold cp; rw [if_pos (by omega)]
  · rw [pk_un e]; unfold cp
    by_cases h : j < i
    · rw [if_pos h, if_pos (by omega)]
    · rw [if_neg h, if_neg (by omega)]
theorem cp_sv {i : Nat} {g f : Nat → Int32} {v : Int32} (h : v = g i) : upd (cp i g f) i v = cp (i + 1) g f := by
  rw [h]; exact cp_s
theorem cp_lt {i j : Nat} {g f : Nat → Int32} (h : j < i) : cp i g f j = g j := by unfold cp; rw [if_pos h]
theorem cp_ge {i j : Nat} {g f : Nat → Int32} (h : i ≤ j) : cp i g f j = f j := by unfold cp; rw [if_neg (by omega)]
theorem cp_all {n : Nat} {g f : Nat → Int32} (h : ∀ j, n ≤ j → f j = g j) : cp n g f = g := by
  funext j
  by_cases c : j < n
  · exact cp_lt c
  · rw [cp_ge (by omega)]; exact h j (by omega)
theorem s_AR_fill_5 {x1 : Int32} {k_20 : Int32 → (Nat → Int32) → Prop} {N : Nat} (hN : N ≤ 4000) {f : Nat → Int32} (hk : k_20 (nI N) (cp N (fun _ => x1) f)) : ∀ d i, i + d = N → w_AR_fill_5 x1 N k_20 (d + 1) (nI i) (cp i (fun _ => x1) f) := by
  intro d
  induction d with
  | zero =>
    intro i h
    have e : i = N := by omega
    subst e
    rw [w_AR_fill_5]
    refine ⟨fun _ => ?_, fun c => (by exfalso; (first | omega | ((try simp (disch := omega) only [n_0, n_1, n_2, n_3, n_4, n_5, n_6, n_8, n_24, n_255, n_256, n_576, n_4000, nI_add, pk_mul, n_sub, n_cl, n_lt, n_le, n_eq, not_true_eq_false, not_false_eq_true] at c) <;> omega)))⟩
    exact hk
  | succ d ih =>
    intro i h
    rw [w_AR_fill_5]
    refine ⟨fun c => (by exfalso; (first | omega | ((try simp (disch := omega) only [n_0, n_1, n_2, n_3, n_4, n_5, n_6, n_8, n_24, n_255, n_256, n_576, n_4000, nI_add, pk_mul, n_sub, n_cl, n_lt, n_le, n_eq, not_true_eq_false, not_false_eq_true] at c) <;> omega))), fun _ => ?_⟩
    refine ⟨n_in (by omega) (by omega), ?_⟩
    rw [n_cl (by omega), n_1, nI_add, cp_s]
    exact ih (i + 1) (by omega)
theorem s_AR_fill {o0 : Nat → Int32} {x1 : Int32} {post : (Nat → Int32) → Prop} {N : Nat} (hN : N ≤ 4000) (hk : post (cp N (fun _ => x1) o0)) : w_AR_fill N o0 x1 post := by
  unfold w_AR_fill
  refine ⟨N + 1, ?_⟩
  have z := s_AR_fill_5 (k_20 := fun (v2_3_5 : Int32) (f_o0_q_4_6 : Nat → Int32) => post f_o0_q_4_6) hN hk N 0 (by omega)
  rwa [cp_0] at z
