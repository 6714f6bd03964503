/-! PURE ROWS: the ground. Own work. -/
theorem by_nat {v : Int32} (h : by8 v) : ∃ t : Nat, t ≤ 255 ∧ v = nI t := by
  refine ⟨v.toInt.toNat, by have := h.2; omega, ?_⟩
  rw [iI_nI, Int.toNat_of_nonneg h.1]; exact iI_of v
theorem by_nI {t : Nat} (h : t ≤ 255) : by8 (nI t) := by
  unfold by8; rw [ni_t (by omega)]; omega
theorem by_0 : by8 0 := by_nI (t := 0) (by omega)
def cnt (f : Nat → Int32) (v : Int32) : Nat → Nat
  | 0 => 0
  | k + 1 => if f k = v then cnt f v k + 1 else cnt f v k
theorem cnt_le {f : Nat → Int32} {v : Int32} : ∀ n, cnt f v n ≤ n := by
  intro n
  induction n with
  | zero => exact Nat.le_refl 0
  | succ n ih => simp only [cnt]; split <;> omega
def gm (c : Nat → Nat) : Nat → Nat
  | 0 => 0
  | v + 1 => if gm c v < c v then c v else gm c v
def gi (c : Nat → Nat) : Nat → Nat
  | 0 => 0
  | v + 1 => if gm c v < c v then v else gi c v
theorem gm_le {c : Nat → Nat} {N : Nat} (h : ∀ v, c v ≤ N) : ∀ n, gm c n ≤ N := by
  intro n
  induction n with
  | zero => exact Nat.zero_le _
  | succ n ih => simp only [gm]; split <;> first | exact h n | exact ih
theorem gi_le {c : Nat → Nat} : ∀ n, gi c n ≤ n - 1 := by
  intro n
  induction n with
  | zero => exact Nat.le_refl 0
  | succ n ih => simp only [gi]; split <;> omega
def grd (f : Nat → Int32) (N : Nat) : Nat := gi (fun v => cnt f (nI v) N) 256
theorem grd_le {f : Nat → Int32} {N : Nat} : grd f N ≤ 255 := gi_le 256
theorem s_TE_groundOf_10 {k_55 : Int32 → (Nat → Int32) → Prop} {W H : Nat} (hW : W ≤ 24) (hH : H ≤ 24) {f : Nat → Int32} (hf : BY f) {c0 : Nat → Int32} (hk : ∀ c : Nat → Int32, (∀ v, v < 256 → c v = nI (cnt f (nI v) (W * H))) → (∀ v, 256 ≤ v → c v = c0 v) → k_55 (nI (W * H)) c) : ∀ d i (c : Nat → Int32), i + d = W * H → (∀ v, v < 256 → c v = nI (cnt f (nI v) i)) → (∀ v, 256 ≤ v → c v = c0 v) → w_TE_groundOf_10 256 (W * H) f k_55 (d + 1) (nI i) c := by
  have hs := pl_le hW hH
  intro d
  induction d with
  | zero =>
    intro i c h hc hc0
    have e : i = W * H := by omega
    subst e
    rw [w_TE_groundOf_10]
    refine ⟨fun _ => ?_, fun c => (by exfalso; (first | omega | ((try simp (disch := omega) only [n_0, n_1, n_2, n_3, n_4, n_5, n_6, n_8, n_24, n_255, n_256, n_576, n_4000, nI_add, pk_mul, n_sub, n_cl, n_lt, n_le, n_eq, not_true_eq_false, not_false_eq_true] at c) <;> omega)))⟩
    exact hk c hc hc0
  | succ d ih =>
    intro i c h hc hc0
    rw [w_TE_groundOf_10]
    refine ⟨fun c => (by exfalso; (first | omega | ((try simp (disch := omega) only [n_0, n_1, n_2, n_3, n_4, n_5, n_6, n_8, n_24, n_255, n_256, n_576, n_4000, nI_add, pk_mul, n_sub, n_cl, n_lt, n_le, n_eq, not_true_eq_false, not_false_eq_true] at c) <;> omega))), fun _ => ?_⟩
    refine ⟨n_in (by omega) (by omega), ?_⟩
    rw [n_cl (by omega)]
    obtain ⟨t, ht, e⟩ := by_nat (hf i)
    rw [e, n_cl (by omega), hc t (by omega)]
    refine ⟨fun c => (by exfalso; (first | omega | ((try simp (disch := omega) only [n_0, n_1, n_2, n_3, n_4, n_5, n_6, n_8, n_24, n_255, n_256, n_576, n_4000, nI_add, pk_mul, n_sub, n_cl, n_lt, n_le, n_eq, not_true_eq_false, not_false_eq_true] at c) <;> omega))), fun _ => ?_⟩
    refine ⟨fun c => (by exfalso; (first | omega | ((try simp (disch := omega) only [n_0, n_1, n_2, n_3, n_4, n_5, n_6, n_8, n_24, n_255, n_256, n_576, n_4000, nI_add, pk_mul, n_sub, n_cl, n_lt, n_le, n_eq, not_true_eq_false, not_false_eq_true] at c) <;> omega))), fun _ => ?_⟩
    refine ⟨n_in (by omega) (by omega), ?_⟩
    refine ⟨n_in (by omega) (by omega), ?_⟩
    rw [n_1, nI_add, nI_add]
    refine ih (i + 1) _ (by omega) ?_ (fun v hv => by rw [pk_un (by omega)]; exact hc0 v hv)
    intro v hv
    by_cases z : v = t
    · subst z; rw [pk_us]; simp only [cnt, if_pos e]
    · rw [pk_un z, hc v hv]
      have z2 : ¬ f i = nI v := by
        rw [e, n_eq (by omega) (by omega)]; omega
      simp only [cnt, if_neg z2]
theorem s_TE_groundOf_62 {k_100 : Int32 → Int32 → Int32 → Prop} {c : Nat → Nat} (hb : ∀ v, c v ≤ 576) {a : Nat → Int32} (hc : ∀ v, v < 256 → a v = nI (c v)) (hk : k_100 (nI 256) (nI (gm c 256)) (nI (gi c 256))) : ∀ d v, v + d = 256 → w_TE_groundOf_62 256 a k_100 (d + 1) (nI v) (nI (gm c v)) (nI (gi c v)) := by
  intro d
  induction d with
  | zero =>
    intro v h
    have e : v = 256 := by omega
    subst e
    rw [w_TE_groundOf_62]
    refine ⟨fun _ => ?_, fun c => (by exfalso; (first | omega | ((try simp (disch := omega) only [n_0, n_1, n_2, n_3, n_4, n_5, n_6, n_8, n_24, n_255, n_256, n_576, n_4000, nI_add, pk_mul, n_sub, n_cl, n_lt, n_le, n_eq, not_true_eq_false, not_false_eq_true] at c) <;> omega)))⟩
    exact hk
  | succ d ih =>
    intro v h
    have h1 := gm_le hb v
    have h2 := hb v
    have z := ih (v + 1) (by omega)
    rw [w_TE_groundOf_62]
    refine ⟨fun c => (by exfalso; (first | omega | ((try simp (disch := omega) only [n_0, n_1, n_2, n_3, n_4, n_5, n_6, n_8, n_24, n_255, n_256, n_576, n_4000, nI_add, pk_mul, n_sub, n_cl, n_lt, n_le, n_eq, not_true_eq_false, not_false_eq_true] at c) <;> omega))), fun _ => ?_⟩
    refine ⟨n_in (by omega) (by omega), ?_⟩
    rw [n_cl (by omega), hc v (by omega), n_1, nI_add]
    by_cases hz : gm c v < c v
    · refine ⟨fun c => (by exfalso; (first | omega | ((try simp (disch := omega) only [n_0, n_1, n_2, n_3, n_4, n_5, n_6, n_8, n_24, n_255, n_256, n_576, n_4000, nI_add, pk_mul, n_sub, n_cl, n_lt, n_le, n_eq, not_true_eq_false, not_false_eq_true] at c) <;> omega))), fun _ => ?_⟩
      refine ⟨n_in (by omega) (by omega), ?_⟩
      simp only [gm, gi, if_pos hz] at z
      exact z
    · refine ⟨fun _ => ?_, fun c => (by exfalso; (first | omega | ((try simp (disch := omega) only [n_0, n_1, n_2, n_3, n_4, n_5, n_6, n_8, n_24, n_255, n_256, n_576, n_4000, nI_add, pk_mul, n_sub, n_cl, n_lt, n_le, n_eq, not_true_eq_false, not_false_eq_true] at c) <;> omega)))⟩
      simp only [gm, gi, if_neg hz] at z
      exact z
theorem s_TE_groundOf {o0_plain o0_found_count o0_found_byteLength : Int32} {o0_open o0_counts o0_found_fields : Nat → Int32} {post : Int32 → (Nat → Int32) → Prop} {W H : Nat} (hW : W ≤ 24) (hH : H ≤ 24) {f : Nat → Int32} (hf : BY f) (hp : post (nI (grd f (W * H))) (cp 256 (fun v => nI (cnt f (nI v) (W * H))) o0_counts)) : w_TE_groundOf o0_plain (W * H) o0_open 256 o0_counts o0_found_count o0_found_byteLength (W * H * 6) o0_found_fields (nI W) (nI H) (W * H) f post := by
  have hs := pl_le hW hH
  unfold w_TE_groundOf
  refine s_AR_fill (by omega) ⟨W * H + 1, ?_⟩
  refine s_TE_groundOf_10 (k_55 := _) (c0 := o0_counts) hW hH hf ?_ (W * H) 0 _ (by omega) ?_ ?_
  · intro c hc hc0
    refine ⟨257, ?_⟩
    have ec : c = cp 256 (fun v => nI (cnt f (nI v) (W * H))) o0_counts := by
      funext v
      by_cases z : v < 256
      · rw [cp_lt z]; exact hc v z
      · rw [cp_ge (by omega)]; exact hc0 v (by omega)
    have hq := hp
    unfold grd at hq
    rw [← ec] at hq
    exact s_TE_groundOf_62 (k_100 := fun (v4_13_16 : Int32) (v3_14_17 : Int32) (v2_15_18 : Int32) => post v2_15_18 c) (c := fun v => cnt f (nI v) (W * H)) (fun v => Nat.le_trans (cnt_le _) hs) hc hq 256 0 (by omega)
  · intro v hv
    rw [cp_lt hv]; rfl
  · intro v hv
    rw [cp_ge hv]
theorem s_MO_size {o0_fault o0_toldSize o0_fedSize o0_parts o0_plain o0_best o0_bestOne o0_bestTwo o0_place : Int32} {o0_first o0_other o0_open o0_read o0_toldBytes o0_fed o0_part : Nat → Int32} {post : Int32 → Prop} {W H : Nat} (hp : post (nI (W * H))) : w_MO_size (nI W) (nI H) o0_fault o0_toldSize o0_fedSize o0_parts o0_plain o0_best o0_bestOne o0_bestTwo o0_place 576 o0_first 576 o0_other 576 o0_open 576 o0_read 4000 o0_toldBytes 4000 o0_fed 3600 o0_part post := by
  unfold w_MO_size
  rw [pk_mul]
  exact hp
theorem s_MO_ground_19 {o0_fault o0_toldSize o0_fedSize o0_parts o0_plain o0_best o0_bestOne o0_bestTwo o0_place : Int32} {o0_other o0_open o0_read o0_toldBytes o0_fed o0_part : Nat → Int32} {k_56 : Int32 → Int32 → Prop} {W H : Nat} (hW : W ≤ 24) (hH : H ≤ 24) {f : Nat → Int32} {v : Nat} (hk : k_56 (nI (W * H)) (nI (cnt f (nI v) (W * H)))) : ∀ d i, i + d = W * H → w_MO_ground_19 (nI W) (nI H) o0_fault o0_toldSize o0_fedSize o0_parts o0_plain o0_best o0_bestOne o0_bestTwo o0_place 576 f 576 o0_other 576 o0_open 576 o0_read 4000 o0_toldBytes 4000 o0_fed 3600 o0_part (nI v) k_56 (d + 1) (nI i) (nI (cnt f (nI v) i)) := by
  have hs := pl_le hW hH
  intro d
  induction d with
  | zero =>
    intro i h
    have e : i = W * H := by omega
    subst e
    rw [w_MO_ground_19]
    refine s_MO_size ?_
    refine ⟨fun _ => ?_, fun c => (by exfalso; (first | omega | ((try simp (disch := omega) only [n_0, n_1, n_2, n_3, n_4, n_5, n_6, n_8, n_24, n_255, n_256, n_576, n_4000, nI_add, pk_mul, n_sub, n_cl, n_lt, n_le, n_eq, not_true_eq_false, not_false_eq_true] at c) <;> omega)))⟩
    exact hk
  | succ d ih =>
    intro i h
    have z := ih (i + 1) (by omega)
    rw [w_MO_ground_19]
    refine s_MO_size ?_
    refine ⟨fun c => (by exfalso; (first | omega | ((try simp (disch := omega) only [n_0, n_1, n_2, n_3, n_4, n_5, n_6, n_8, n_24, n_255, n_256, n_576, n_4000, nI_add, pk_mul, n_sub, n_cl, n_lt, n_le, n_eq, not_true_eq_false, not_false_eq_true] at c) <;> omega))), fun _ => ?_⟩
    refine ⟨n_in (by omega) (by omega), ?_⟩
    rw [n_cl (by omega), n_1, nI_add, nI_add]
    refine ⟨fun e => ?_, fun e => ?_⟩
    · simp only [cnt, if_neg e] at z
      exact z
    · simp only [cnt, if_pos e] at z
      exact z
theorem s_MO_ground_6 {o0_fault o0_toldSize o0_fedSize o0_parts o0_plain o0_best o0_bestOne o0_bestTwo o0_place : Int32} {o0_other o0_open o0_read o0_toldBytes o0_fed o0_part : Nat → Int32} {k_73 : Int32 → Int32 → Int32 → Prop} {W H : Nat} (hW : W ≤ 24) (hH : H ≤ 24) {f : Nat → Int32} {c : Nat → Nat} (hc : c = fun v => cnt f (nI v) (W * H)) (hk : k_73 (nI 256) (nI (gi c 256)) (nI (gm c 256))) : ∀ d v, v + d = 256 → w_MO_ground_6 (nI W) (nI H) o0_fault o0_toldSize o0_fedSize o0_parts o0_plain o0_best o0_bestOne o0_bestTwo o0_place 576 f 576 o0_other 576 o0_open 576 o0_read 4000 o0_toldBytes 4000 o0_fed 3600 o0_part k_73 (d + 1) (nI v) (nI (gi c v)) (nI (gm c v)) := by
  have hs := pl_le hW hH
  have hb : ∀ v, c v ≤ 576 := by intro v; rw [hc]; exact Nat.le_trans (cnt_le _) hs
  intro d
  induction d with
  | zero =>
    intro v h
    have e : v = 256 := by omega
    subst e
    rw [w_MO_ground_6]
    refine ⟨fun _ => ?_, fun c => (by exfalso; (first | omega | ((try simp (disch := omega) only [n_0, n_1, n_2, n_3, n_4, n_5, n_6, n_8, n_24, n_255, n_256, n_576, n_4000, nI_add, pk_mul, n_sub, n_cl, n_lt, n_le, n_eq, not_true_eq_false, not_false_eq_true] at c) <;> omega)))⟩
    exact hk
  | succ d ih =>
    intro v h
    have h1 := gm_le hb v
    have h2 := hb v
    have z := ih (v + 1) (by omega)
    have e : cnt f (nI v) (W * H) = c v := by rw [hc]
    rw [w_MO_ground_6]
    refine ⟨fun c => (by exfalso; (first | omega | ((try simp (disch := omega) only [n_0, n_1, n_2, n_3, n_4, n_5, n_6, n_8, n_24, n_255, n_256, n_576, n_4000, nI_add, pk_mul, n_sub, n_cl, n_lt, n_le, n_eq, not_true_eq_false, not_false_eq_true] at c) <;> omega))), fun _ => ?_⟩
    refine ⟨W * H + 1, s_MO_ground_19 hW hH ?_ (W * H) 0 (by omega)⟩
    rw [e, n_1, nI_add]
    by_cases hz : gm c v < c v
    · refine ⟨fun c => (by exfalso; (first | omega | ((try simp (disch := omega) only [n_0, n_1, n_2, n_3, n_4, n_5, n_6, n_8, n_24, n_255, n_256, n_576, n_4000, nI_add, pk_mul, n_sub, n_cl, n_lt, n_le, n_eq, not_true_eq_false, not_false_eq_true] at c) <;> omega))), fun _ => ?_⟩
      simp only [gm, gi, if_pos hz] at z
      exact z
    · refine ⟨fun _ => ?_, fun c => (by exfalso; (first | omega | ((try simp (disch := omega) only [n_0, n_1, n_2, n_3, n_4, n_5, n_6, n_8, n_24, n_255, n_256, n_576, n_4000, nI_add, pk_mul, n_sub, n_cl, n_lt, n_le, n_eq, not_true_eq_false, not_false_eq_true] at c) <;> omega)))⟩
      simp only [gm, gi, if_neg hz] at z
      exact z
theorem s_MO_ground {o0_fault o0_toldSize o0_fedSize o0_parts o0_plain o0_best o0_bestOne o0_bestTwo o0_place : Int32} {o0_other o0_open o0_read o0_toldBytes o0_fed o0_part : Nat → Int32} {post : Int32 → Prop} {W H : Nat} (hW : W ≤ 24) (hH : H ≤ 24) {f : Nat → Int32} (hp : post (nI (grd f (W * H)))) : w_MO_ground (nI W) (nI H) o0_fault o0_toldSize o0_fedSize o0_parts o0_plain o0_best o0_bestOne o0_bestTwo o0_place 576 f 576 o0_other 576 o0_open 576 o0_read 4000 o0_toldBytes 4000 o0_fed 3600 o0_part post := by
  unfold w_MO_ground
  unfold grd at hp
  exact ⟨257, s_MO_ground_6 (k_73 := fun (v3_6_16 : Int32) (v2_7_17 : Int32) (v1_8_18 : Int32) => post v2_7_17) (c := fun v => cnt f (nI v) (W * H)) hW hH rfl hp 256 0 (by omega)⟩
