def w_AR_fill_5 (x1 : Int32) (o0_n : Nat) (k_20 : Int32 → (Nat → Int32) → Prop) : Nat → Int32 → (Nat → Int32) → Prop
  | 0, _, _ => False
  | n + 1, v2_3, f_o0_q_4 => ((nI o0_n) ≤ v2_3 → k_20 v2_3 f_o0_q_4) ∧ (¬ (nI o0_n) ≤ v2_3 → vp_in v2_3 o0_n ∧ (w_AR_fill_5 x1 o0_n k_20 n (v2_3 + 1) (upd f_o0_q_4 v2_3.toNatClampNeg x1)))
def w_AR_fill (o0_n : Nat) (o0 : Nat → Int32) (x1 : Int32) (post : (Nat → Int32) → Prop) : Prop := ∃ n_5 : Nat, w_AR_fill_5 x1 o0_n (fun (v2_3_5 : Int32) (f_o0_q_4_6 : Nat → Int32) => post f_o0_q_4_6) n_5 0 o0
def rm_AR_fill : Room := { frames := 0, cells := 0, slots := 0, locals := 0 }
set_option maxHeartbeats 4000000 in
set_option maxRecDepth 100000 in
theorem c_AR_fill (l : Launch) (D : va_G) (cI cZ cL : ClassId) (sz : Nat) (o0_q : Nat) (o0_n : Nat) (o0 : Nat → Int32) (x1 : Int32) {post : (Nat → Int32) → Prop} (hw : w_AR_fill o0_n o0 x1 post) : Met l y_AR_fill (Cond.code y_AR_fill b_AR_fill 4 (none) :: AW) rm_AR_fill (va_Pc [.ref o0_q, .int x1] (ST D cI cZ cL [(o0_q, .inl (cI, o0_n, .inl o0))] sz)) (va_Qv (fun (u : (Nat → Int32)) => post u) (fun u t => EN D [(o0_q, .inl (cI, o0_n, .inl u))] (va_A [(o0_q, .inl (cI, o0_n, .inl o0))] sz) t) (va_A [(o0_q, .inl (cI, o0_n, .inl o0))] sz)) 0 0 (va_A [(o0_q, .inl (cI, o0_n, .inl o0))] sz) := by
  refine ofM (own := R_AR) (fun A => (va_Qv (fun (u : (Nat → Int32)) => post u) (fun u t => EN D [(o0_q, .inl (cI, o0_n, .inl u))] A t) A)) (by decide) rfl (Nat.le_of_ble_eq_true rfl) ?_
  intro p e s m args below meth c A ls Q cx hQ hA hl hP hD hS hinit
  obtain ⟨hx, hb, hml, hrt, hown, hta, hlk, hK, hN⟩ := id cx
  have hl : lv_has ls 4 [(0, .ref o0_q), (1, .int x1)] := hl
  have h00 : va_P D CL [(o0_q, .inl (cI, o0_n, .inl o0))] s.heap := hP
  unfold w_AR_fill at hw
  obtain ⟨H, eH⟩ : ∃ H, H = s.heap := ⟨_, rfl⟩
  obtain ⟨locs, eL⟩ : ∃ locs : List Loc, locs = [] := ⟨_, rfl⟩
  have hS : va_S A s.heap H locs := by rw [eH, eL]; exact hS
  have hP : va_P D CL [(o0_q, .inl (cI, o0_n, .inl o0))] H := by rw [eH]; exact hP
  suffices hgo : W p l e rm_AR_fill s m args below meth c H locs 0 0 Q (F0 m 0 ls []) by rw [eH, eL] at hgo; exact hgo
  clear eH eL h00
  refine lv_iconst (v := 0) hx hb d_AR_fill_0 (by decide) ?_
  refine lv_istore_n (lv' := [(2, .int 0), (0, .ref o0_q), (1, .int x1)]) hx hb d_AR_fill_1 rfl hl (by decide) rfl (fun ls hl => ?_)
  refine lv_aload_n hx hb d_AR_fill_2 rfl (lv_at hl 1 rfl) ?_
  refine va_alen (v := nI o0_n) hx hb hK hP 0 0 rfl rfl rfl d_AR_fill_3 ?_
  refine lv_istore_n (lv' := [(3, .int (nI o0_n)), (2, .int 0), (0, .ref o0_q), (1, .int x1)]) hx hb d_AR_fill_4 rfl hl (by decide) rfl (fun ls hl => ?_)
  have L5 : ∀ (k_20 : Int32 → (Nat → Int32) → Prop) (hk_20 : ∀ (v2_3 : Int32) (f_o0_q_4 : Nat → Int32) (H : Heap) (locs : List Loc) (ls : Array Slot), lv_has ls 4 [(3, .int (nI o0_n)), (2, .int v2_3), (0, .ref o0_q), (1, .int x1)] → va_P D CL [(o0_q, .inl (cI, o0_n, .inl f_o0_q_4))] H → va_D A [(o0_q, .inl (cI, o0_n, .inl f_o0_q_4))] → va_S A s.heap H locs → k_20 v2_3 f_o0_q_4 → W p l e rm_AR_fill s m args below meth c H locs 0 0 Q (F0 m 20 ls [])), ∀ (n : Nat) (v2_3 : Int32) (f_o0_q_4 : Nat → Int32) (H : Heap) (locs : List Loc) (ls : Array Slot), lv_has ls 4 [(3, .int (nI o0_n)), (2, .int v2_3), (0, .ref o0_q), (1, .int x1)] → va_P D CL [(o0_q, .inl (cI, o0_n, .inl f_o0_q_4))] H → va_D A [(o0_q, .inl (cI, o0_n, .inl f_o0_q_4))] → va_S A s.heap H locs → w_AR_fill_5 x1 o0_n k_20 n v2_3 f_o0_q_4 → W p l e rm_AR_fill s m args below meth c H locs 0 0 Q (F0 m 5 ls []) := by
    intro k_20 hk_20 n
    induction n with
    | zero => intro v2_3 f_o0_q_4 H locs ls hl hP hD hS hw; exact hw.elim
    | succ n ih =>
      intro v2_3 f_o0_q_4 H locs ls hl hP hD hS hw
      rw [w_AR_fill_5] at hw
      refine lv_iload_n hx hb d_AR_fill_5 rfl (lv_at hl 1 rfl) ?_
      refine lv_iload_n hx hb d_AR_fill_6 rfl (lv_at hl 0 rfl) ?_
      refine lv_icmp_ge (tgt := 20) hx hb d_AR_fill_7 (by decide) (fun hc_3 => ?_) (fun hc_3 => ?_)
      · have hw := hw.1 hc_3
        exact hk_20 v2_3 f_o0_q_4 _ _ _ (lv_sub hl [0, 1, 2, 3] rfl) (hP.sub [0] rfl) (hD.sub [0] (by decide) rfl) hS hw
      · have hw := hw.2 hc_3
        refine lv_aload_n hx hb d_AR_fill_10 rfl (lv_at hl 2 rfl) ?_
        refine lv_iload_n hx hb d_AR_fill_11 rfl (lv_at hl 1 rfl) ?_
        refine lv_iload_n hx hb d_AR_fill_12 rfl (lv_at hl 3 rfl) ?_
        refine va_iast hx hb hK hP hD hS 0 0 rfl rfl hw.1 d_AR_fill_13 (fun H locs hP hD hS => ?_)
        have hw := hw.2
        have hP : va_P D CL [(o0_q, .inl (cI, o0_n, .inl (upd f_o0_q_4 v2_3.toNatClampNeg x1)))] H := hP
        have hD : va_D A [(o0_q, .inl (cI, o0_n, .inl (upd f_o0_q_4 v2_3.toNatClampNeg x1)))] := hD
        refine lv_iinc (v := v2_3 + 1) (lv' := [(2, .int (v2_3 + 1)), (3, .int (nI o0_n)), (0, .ref o0_q), (1, .int x1)]) hx hb d_AR_fill_14 hl (k := 1) rfl rfl (by decide) rfl (fun ls hl => ?_)
        refine lv_goto (tgt := 5) hx hb d_AR_fill_17 (by decide) ?_
        exact ih (v2_3 + 1) (upd f_o0_q_4 v2_3.toNatClampNeg x1) _ _ _ (lv_sub hl [1, 0, 2, 3] rfl) (hP.sub [0] rfl) (hD.sub [0] (by decide) rfl) hS hw
  obtain ⟨n_5, hw⟩ := hw
  refine L5 _ (fun v2_3_5 f_o0_q_4_6 H locs ls hl hP hD hS hw => ?_) n_5 0 o0 _ _ _ (lv_sub hl [0, 1, 2, 3] rfl) (hP.sub [0] rfl) (hD.sub [0] (by decide) rfl) hS hw
  have hl : lv_has ls 4 [(3, .int (nI o0_n)), (2, .int v2_3_5), (0, .ref o0_q), (1, .int x1)] := hl
  have hP : va_P D CL [(o0_q, .inl (cI, o0_n, .inl f_o0_q_4_6))] H := hP
  have hD : va_D A [(o0_q, .inl (cI, o0_n, .inl f_o0_q_4_6))] := hD
  try dsimp only at hw
  exact retV cx hQ d_AR_fill_20 f_o0_q_4_6 hw (hP.sub [0] rfl) (hD.sub [0] (by decide) rfl) hS
def w_PI_init (x1 : Int32) (x2 : Int32) (post : Int32 → Int32 → Nat → (Nat → Int32) → Prop) : Prop := ¬ (x1 * x2) < 0 ∧ (x1 * x2).toNatClampNeg ≤ 576 ∧ (post x1 x2 ((x1 * x2).toNatClampNeg) (fun _ => 0))
def rm_PI_init : Room := { frames := 1, cells := 1, slots := 576, locals := 12 }
set_option maxHeartbeats 4000000 in
set_option maxRecDepth 100000 in
theorem c_PI_init (l : Launch) (D : va_G) (cI cZ cL : ClassId) (sz : Nat) (o0_q : Nat) (x1 : Int32) (x2 : Int32) {post : Int32 → Int32 → Nat → (Nat → Int32) → Prop} (hw : w_PI_init x1 x2 post) : Met l y_PI_init (Cond.code y_PI_init b_PI_init 3 (none) :: AW) rm_PI_init (va_Pc [.ref o0_q, .int x1, .int x2] (ST D cI cZ cL [(o0_q, .inr (0, [.int 0, .int 0, .null]))] sz)) (va_Qv (fun (u : Int32 × Int32 × Nat × Nat × (Nat → Int32)) => post u.1 u.2.1 u.2.2.2.1 u.2.2.2.2) (fun u t => EN D [(o0_q, .inr (0, [.int u.1, .int u.2.1, .ref u.2.2.1])), (u.2.2.1, .inl (cI, u.2.2.2.1, .inl u.2.2.2.2))] (va_A [(o0_q, .inr (0, [.int 0, .int 0, .null]))] sz) t) (va_A [(o0_q, .inr (0, [.int 0, .int 0, .null]))] sz)) 1 576 (va_A [(o0_q, .inr (0, [.int 0, .int 0, .null]))] sz) := by
  refine ofM (own := R_PI) (fun A => (va_Qv (fun (u : Int32 × Int32 × Nat × Nat × (Nat → Int32)) => post u.1 u.2.1 u.2.2.2.1 u.2.2.2.2) (fun u t => EN D [(o0_q, .inr (0, [.int u.1, .int u.2.1, .ref u.2.2.1])), (u.2.2.1, .inl (cI, u.2.2.2.1, .inl u.2.2.2.2))] A t) A)) (by decide) rfl (Nat.le_of_ble_eq_true rfl) ?_
  intro p e s m args below meth c A ls Q cx hQ hA hl hP hD hS hinit
  have hin := hinit rfl
  obtain ⟨hx, hb, hml, hrt, hown, hta, hlk, hK, hN⟩ := id cx
  have hl : lv_has ls 3 [(0, .ref o0_q), (1, .int x1), (2, .int x2)] := hl
  have h00 : va_P D CL [(o0_q, .inr (0, [.int 0, .int 0, .null]))] s.heap := hP
  unfold w_PI_init at hw
  obtain ⟨H, eH⟩ : ∃ H, H = s.heap := ⟨_, rfl⟩
  obtain ⟨locs, eL⟩ : ∃ locs : List Loc, locs = [] := ⟨_, rfl⟩
  have hS : va_S A s.heap H locs := by rw [eH, eL]; exact hS
  have hP : va_P D CL [(o0_q, .inr (0, [.int 0, .int 0, .null]))] H := by rw [eH]; exact hP
  suffices hgo : W p l e rm_PI_init s m args below meth c H locs 0 0 Q (F0 m 0 ls []) by rw [eH, eL] at hgo; exact hgo
  clear eH eL h00
  refine lv_aload_n hx hb d_PI_init_0 rfl (lv_at hl 0 rfl) ?_
  refine W.objInit hx hb hown (hta _ k_PI_3) (hta _ k_objI) (hta _ k_objC) rfl (by rw [hml]; exact hl.1) rfl d_PI_init_1 (Nat.le_of_ble_eq_true rfl) (Nat.le_of_ble_eq_true rfl) ?_
  refine W.eq (g2 := F0 m 4 ls []) rfl ?_
  refine lv_aload_n hx hb d_PI_init_4 rfl (lv_at hl 0 rfl) ?_
  refine lv_iload_n hx hb d_PI_init_5 rfl (lv_at hl 1 rfl) ?_
  refine va_putF (D := D) (ci := 0) (v := .int x1) (ty := .int) (C := R_PI) (T := F_PI) (N := 3) hx hb hta lay_PI t_PI t_PI_ok n_PI hown hK hP hD hS 0 rfl rfl 0 (by decide) (hta _ k_PI_9) (fun _ h9 => h9) rfl hin rfl (by decide +kernel) rfl rfl (Nat.le_of_ble_eq_true rfl) d_PI_init_6 (fun H locs hP hD hS => ?_)
  have hP : va_P D CL [(o0_q, .inr (0, [.int x1, .int 0, .null]))] H := hP
  have hD : va_D A [(o0_q, .inr (0, [.int x1, .int 0, .null]))] := hD
  refine lv_aload_n hx hb d_PI_init_9 rfl (lv_at hl 0 rfl) ?_
  refine lv_iload_n hx hb d_PI_init_10 rfl (lv_at hl 2 rfl) ?_
  refine va_putF (D := D) (ci := 0) (v := .int x2) (ty := .int) (C := R_PI) (T := F_PI) (N := 3) hx hb hta lay_PI t_PI t_PI_ok n_PI hown hK hP hD hS 0 rfl rfl 1 (by decide) (hta _ k_PI_15) (fun _ h9 => h9) rfl hin rfl (by decide +kernel) rfl rfl (Nat.le_of_ble_eq_true rfl) d_PI_init_11 (fun H locs hP hD hS => ?_)
  have hP : va_P D CL [(o0_q, .inr (0, [.int x1, .int x2, .null]))] H := hP
  have hD : va_D A [(o0_q, .inr (0, [.int x1, .int x2, .null]))] := hD
  refine lv_aload_n hx hb d_PI_init_14 rfl (lv_at hl 0 rfl) ?_
  refine lv_iload_n hx hb d_PI_init_15 rfl (lv_at hl 1 rfl) ?_
  refine lv_iload_n hx hb d_PI_init_16 rfl (lv_at hl 2 rfl) ?_
  refine lv_imul hx hb d_PI_init_17 ?_
  refine va_newa (atype := .int) (ty := .int) (a0 := ((x1 * x2).toNatClampNeg, .inl (fun _ => 0))) hx hb (hta _ k_arr_int) rfl hK hP hD hS hA (fun _ => rfl) hw.1 rfl (by have h9 := hw.2.1; show _ * 4 ≤ _; omega) (Nat.le_of_ble_eq_true rfl) (by have h9 := hw.2.1; show 0 + _ ≤ 576; omega) d_PI_init_18 (fun q_1 cA H hK9 hP hD hS => ?_)
  rw [newA_cI hK9] at hP hD
  have hP : va_P D CL [(o0_q, .inr (0, [.int x1, .int x2, .null])), (q_1, .inl (cI, ((x1 * x2).toNatClampNeg), .inl (fun _ => 0)))] H := hP
  have hD : va_D A [(o0_q, .inr (0, [.int x1, .int x2, .null])), (q_1, .inl (cI, ((x1 * x2).toNatClampNeg), .inl (fun _ => 0)))] := hD
  refine W.widen (k := 1) (n := 576) (by decide) (by have h9 := hw.2.1; omega) ?_
  have hw := hw.2.2
  refine va_putF (D := D) (ci := 0) (v := .ref q_1) (ty := .array .int) (C := R_PI) (T := F_PI) (N := 3) hx hb hta lay_PI t_PI t_PI_ok n_PI hown hK hP hD hS 0 rfl rfl 2 (by decide) (hta _ k_PI_18) (fun _ h9 => h9) rfl hin rfl (by decide +kernel) rfl rfl (Nat.le_of_ble_eq_true rfl) d_PI_init_20 (fun H locs hP hD hS => ?_)
  have hP : va_P D CL [(o0_q, .inr (0, [.int x1, .int x2, .ref q_1])), (q_1, .inl (cI, ((x1 * x2).toNatClampNeg), .inl (fun _ => 0)))] H := hP
  have hD : va_D A [(o0_q, .inr (0, [.int x1, .int x2, .ref q_1])), (q_1, .inl (cI, ((x1 * x2).toNatClampNeg), .inl (fun _ => 0)))] := hD
  exact retV cx hQ d_PI_init_23 (x1, x2, q_1, (x1 * x2).toNatClampNeg, fun _ => 0) hw (hP.sub [0, 1] rfl) (hD.sub [0, 1] (by decide) rfl) hS
def w_PI_has (o0_width : Int32) (o0_height : Int32) (o0_values_n : Nat) (o0_values : Nat → Int32) (x1 : Int32) (x2 : Int32) (post : Int32 → Prop) : Prop := (x1 < 0 → narrow .boolean (.int 0) = .int 0 ∧ post 0) ∧ (¬ x1 < 0 → (o0_width ≤ x1 → narrow .boolean (.int 0) = .int 0 ∧ post 0) ∧ (¬ o0_width ≤ x1 → (x2 < 0 → narrow .boolean (.int 0) = .int 0 ∧ post 0) ∧ (¬ x2 < 0 → (o0_height ≤ x2 → narrow .boolean (.int 0) = .int 0 ∧ post 0) ∧ (¬ o0_height ≤ x2 → narrow .boolean (.int 1) = .int 1 ∧ post 1))))
def rm_PI_has : Room := { frames := 0, cells := 0, slots := 0, locals := 0 }
set_option maxHeartbeats 4000000 in
set_option maxRecDepth 100000 in
theorem c_PI_has (l : Launch) (D : va_G) (cI cZ cL : ClassId) (sz : Nat) (o0_q : Nat) (o0_values_q : Nat) (o0_width : Int32) (o0_height : Int32) (o0_values_n : Nat) (o0_values : Nat → Int32) (x1 : Int32) (x2 : Int32) {post : Int32 → Prop} (hw : w_PI_has o0_width o0_height o0_values_n o0_values x1 x2 post) : Met l y_PI_has (Cond.code y_PI_has b_PI_has 3 (some .boolean) :: AW) rm_PI_has (va_Pc [.ref o0_q, .int x1, .int x2] (ST D cI cZ cL [(o0_q, .inr (0, [.int o0_width, .int o0_height, .ref o0_values_q])), (o0_values_q, .inl (cI, o0_values_n, .inl o0_values))] sz)) (vp_Si post) 0 0 (fun _ => False) := by
  refine ofR (own := R_PI) (vp_Si post) (by decide) rfl (Nat.le_of_ble_eq_true rfl) ?_
  intro p e s m args below meth c A ls Q cx hQ hl hP hD
  obtain ⟨hx, hb, hml, hrt, hown, hta, hlk, hK, hN⟩ := id cx
  have hl : lv_has ls 3 [(0, .ref o0_q), (1, .int x1), (2, .int x2)] := hl
  unfold w_PI_has at hw
  refine lv_iload_n hx hb d_PI_has_0 rfl (lv_at hl 1 rfl) ?_
  refine lv_if_lt (tgt := 28) hx hb d_PI_has_1 (by decide) (fun hc_1 => ?_) (fun hc_1 => ?_)
  · have hw := hw.1 hc_1
    refine lv_iconst (v := 0) hx hb d_PI_has_28 (by decide) ?_
    exact retZr cx hQ d_PI_has_29 hw
  · have hw := hw.2 hc_1
    refine lv_iload_n hx hb d_PI_has_4 rfl (lv_at hl 1 rfl) ?_
    refine lv_aload_n hx hb d_PI_has_5 rfl (lv_at hl 0 rfl) ?_
    refine va_get (D := D) (ci := 0) (v := .int o0_width) (C := R_PI) (T := F_PI) (N := 3) hx hb hta lay_PI hown hK hP 0 rfl rfl 0 (by decide) (hta _ k_PI_9) (fun _ h9 => h9) rfl d_PI_has_6 ?_
    refine lv_icmp_ge (tgt := 28) hx hb d_PI_has_9 (by decide) (fun hc_2 => ?_) (fun hc_2 => ?_)
    · have hw := hw.1 hc_2
      refine lv_iconst (v := 0) hx hb d_PI_has_28 (by decide) ?_
      exact retZr cx hQ d_PI_has_29 hw
    · have hw := hw.2 hc_2
      refine lv_iload_n hx hb d_PI_has_12 rfl (lv_at hl 2 rfl) ?_
      refine lv_if_lt (tgt := 28) hx hb d_PI_has_13 (by decide) (fun hc_3 => ?_) (fun hc_3 => ?_)
      · have hw := hw.1 hc_3
        refine lv_iconst (v := 0) hx hb d_PI_has_28 (by decide) ?_
        exact retZr cx hQ d_PI_has_29 hw
      · have hw := hw.2 hc_3
        refine lv_iload_n hx hb d_PI_has_16 rfl (lv_at hl 2 rfl) ?_
        refine lv_aload_n hx hb d_PI_has_17 rfl (lv_at hl 0 rfl) ?_
        refine va_get (D := D) (ci := 0) (v := .int o0_height) (C := R_PI) (T := F_PI) (N := 3) hx hb hta lay_PI hown hK hP 0 rfl rfl 1 (by decide) (hta _ k_PI_15) (fun _ h9 => h9) rfl d_PI_has_18 ?_
        refine lv_icmp_ge (tgt := 28) hx hb d_PI_has_21 (by decide) (fun hc_4 => ?_) (fun hc_4 => ?_)
        · have hw := hw.1 hc_4
          refine lv_iconst (v := 0) hx hb d_PI_has_28 (by decide) ?_
          exact retZr cx hQ d_PI_has_29 hw
        · have hw := hw.2 hc_4
          refine lv_iconst (v := 1) hx hb d_PI_has_24 (by decide) ?_
          refine lv_goto (tgt := 29) hx hb d_PI_has_25 (by decide) ?_
          exact retZr cx hQ d_PI_has_29 hw
def w_PI_holds (o0_width : Int32) (o0_height : Int32) (o0_values_n : Nat) (o0_values : Nat → Int32) (x1 : Int32) (x2 : Int32) (x3 : Int32) (x4 : Int32) (post : Int32 → Prop) : Prop := w_PI_has o0_width o0_height o0_values_n o0_values x1 x2 (fun r_1 => (r_1 = 0 → narrow .boolean (.int 0) = .int 0 ∧ post 0) ∧ (¬ r_1 = 0 → (x3 < 1 → narrow .boolean (.int 0) = .int 0 ∧ post 0) ∧ (¬ x3 < 1 → ((o0_width - x1) < x3 → narrow .boolean (.int 0) = .int 0 ∧ post 0) ∧ (¬ (o0_width - x1) < x3 → (x4 < 1 → narrow .boolean (.int 0) = .int 0 ∧ post 0) ∧ (¬ x4 < 1 → ((o0_height - x2) < x4 → narrow .boolean (.int 0) = .int 0 ∧ post 0) ∧ (¬ (o0_height - x2) < x4 → narrow .boolean (.int 1) = .int 1 ∧ post 1))))))
def rm_PI_holds : Room := { frames := 1, cells := 0, slots := 0, locals := 22 }
set_option maxHeartbeats 4000000 in
set_option maxRecDepth 100000 in
theorem c_PI_holds (l : Launch) (D : va_G) (cI cZ cL : ClassId) (sz : Nat) (o0_q : Nat) (o0_values_q : Nat) (o0_width : Int32) (o0_height : Int32) (o0_values_n : Nat) (o0_values : Nat → Int32) (x1 : Int32) (x2 : Int32) (x3 : Int32) (x4 : Int32) {post : Int32 → Prop} (hw : w_PI_holds o0_width o0_height o0_values_n o0_values x1 x2 x3 x4 post) : Met l y_PI_holds (Cond.code y_PI_holds b_PI_holds 5 (some .boolean) :: AW) rm_PI_holds (va_Pc [.ref o0_q, .int x1, .int x2, .int x3, .int x4] (ST D cI cZ cL [(o0_q, .inr (0, [.int o0_width, .int o0_height, .ref o0_values_q])), (o0_values_q, .inl (cI, o0_values_n, .inl o0_values))] sz)) (vp_Si post) 0 0 (fun _ => False) := by
  refine ofR (own := R_PI) (vp_Si post) (by decide) rfl (Nat.le_of_ble_eq_true rfl) ?_
  intro p e s m args below meth c A ls Q cx hQ hl hP hD
  obtain ⟨hx, hb, hml, hrt, hown, hta, hlk, hK, hN⟩ := id cx
  have hl : lv_has ls 5 [(0, .ref o0_q), (1, .int x1), (2, .int x2), (3, .int x3), (4, .int x4)] := hl
  unfold w_PI_holds at hw
  refine lv_aload_n hx hb d_PI_holds_0 rfl (lv_at hl 0 rfl) ?_
  refine lv_iload_n hx hb d_PI_holds_1 rfl (lv_at hl 1 rfl) ?_
  refine lv_iload_n hx hb d_PI_holds_2 rfl (lv_at hl 2 rfl) ?_
  refine goR (xV (C := R_PI) (ci := 0) (As := [.int x1, .int x2]) (rest := []) (wc := [(o0_q, .inr (0, [.int o0_width, .int o0_height, .ref o0_values_q])), (o0_values_q, .inl (cI, o0_values_n, .inl o0_values))]) (A := A) cx (c_PI_has l D cI cZ cL s.heap.size o0_q o0_values_q o0_width o0_height o0_values_n o0_values x1 x2 hw) vw_PI_22 md_PI_has ⟨rfl, rfl, Nat.le_of_ble_eq_true rfl, Nat.le_of_ble_eq_true rfl⟩ (hP.sub [0, 1] rfl) (hD.sub [0, 1] (by decide) rfl) 0 rfl rfl rfl hl.1 (Nat.le_of_ble_eq_true rfl) d_PI_holds_3 ⟨Nat.le_of_ble_eq_true rfl, Nat.le_of_ble_eq_true rfl⟩ rfl) (fun r_1 hw => ?_)
  try dsimp only at hw
  refine lv_if_eq (tgt := 45) hx hb d_PI_holds_6 (by decide) (fun hc_1 => ?_) (fun hc_1 => ?_)
  · have hw := hw.1 hc_1
    refine lv_iconst (v := 0) hx hb d_PI_holds_45 (by decide) ?_
    exact retZr cx hQ d_PI_holds_46 hw
  · have hw := hw.2 hc_1
    refine lv_iload_n hx hb d_PI_holds_9 rfl (lv_at hl 3 rfl) ?_
    refine lv_iconst (v := 1) hx hb d_PI_holds_10 (by decide) ?_
    refine lv_icmp_lt (tgt := 45) hx hb d_PI_holds_11 (by decide) (fun hc_2 => ?_) (fun hc_2 => ?_)
    · have hw := hw.1 hc_2
      refine lv_iconst (v := 0) hx hb d_PI_holds_45 (by decide) ?_
      exact retZr cx hQ d_PI_holds_46 hw
    · have hw := hw.2 hc_2
      refine lv_iload_n hx hb d_PI_holds_14 rfl (lv_at hl 3 rfl) ?_
      refine lv_aload_n hx hb d_PI_holds_15 rfl (lv_at hl 0 rfl) ?_
      refine va_get (D := D) (ci := 0) (v := .int o0_width) (C := R_PI) (T := F_PI) (N := 3) hx hb hta lay_PI hown hK hP 0 rfl rfl 0 (by decide) (hta _ k_PI_9) (fun _ h9 => h9) rfl d_PI_holds_16 ?_
      refine lv_iload_n hx hb d_PI_holds_19 rfl (lv_at hl 1 rfl) ?_
      refine lv_isub hx hb d_PI_holds_20 ?_
      refine lv_icmp_gt (tgt := 45) hx hb d_PI_holds_21 (by decide) (fun hc_3 => ?_) (fun hc_3 => ?_)
      · have hw := hw.1 hc_3
        refine lv_iconst (v := 0) hx hb d_PI_holds_45 (by decide) ?_
        exact retZr cx hQ d_PI_holds_46 hw
      · have hw := hw.2 hc_3
        refine lv_iload hx hb d_PI_holds_24 (lv_at hl 4 rfl) ?_
        refine lv_iconst (v := 1) hx hb d_PI_holds_26 (by decide) ?_
        refine lv_icmp_lt (tgt := 45) hx hb d_PI_holds_27 (by decide) (fun hc_4 => ?_) (fun hc_4 => ?_)
        · have hw := hw.1 hc_4
          refine lv_iconst (v := 0) hx hb d_PI_holds_45 (by decide) ?_
          exact retZr cx hQ d_PI_holds_46 hw
        · have hw := hw.2 hc_4
          refine lv_iload hx hb d_PI_holds_30 (lv_at hl 4 rfl) ?_
          refine lv_aload_n hx hb d_PI_holds_32 rfl (lv_at hl 0 rfl) ?_
          refine va_get (D := D) (ci := 0) (v := .int o0_height) (C := R_PI) (T := F_PI) (N := 3) hx hb hta lay_PI hown hK hP 0 rfl rfl 1 (by decide) (hta _ k_PI_15) (fun _ h9 => h9) rfl d_PI_holds_33 ?_
          refine lv_iload_n hx hb d_PI_holds_36 rfl (lv_at hl 2 rfl) ?_
          refine lv_isub hx hb d_PI_holds_37 ?_
          refine lv_icmp_gt (tgt := 45) hx hb d_PI_holds_38 (by decide) (fun hc_5 => ?_) (fun hc_5 => ?_)
          · have hw := hw.1 hc_5
            refine lv_iconst (v := 0) hx hb d_PI_holds_45 (by decide) ?_
            exact retZr cx hQ d_PI_holds_46 hw
          · have hw := hw.2 hc_5
            refine lv_iconst (v := 1) hx hb d_PI_holds_41 (by decide) ?_
            refine lv_goto (tgt := 46) hx hb d_PI_holds_42 (by decide) ?_
            exact retZr cx hQ d_PI_holds_46 hw
def w_PI_value (o0_width : Int32) (o0_height : Int32) (o0_values_n : Nat) (o0_values : Nat → Int32) (x1 : Int32) (x2 : Int32) (post : Int32 → Prop) : Prop := w_PI_has o0_width o0_height o0_values_n o0_values x1 x2 (fun r_1 => (r_1 = 0 → post (-1)) ∧ (¬ r_1 = 0 → vp_in ((x2 * o0_width) + x1) o0_values_n ∧ (post (o0_values ((x2 * o0_width) + x1).toNatClampNeg))))
def rm_PI_value : Room := { frames := 1, cells := 0, slots := 0, locals := 22 }
set_option maxHeartbeats 4000000 in
set_option maxRecDepth 100000 in
theorem c_PI_value (l : Launch) (D : va_G) (cI cZ cL : ClassId) (sz : Nat) (o0_q : Nat) (o0_values_q : Nat) (o0_width : Int32) (o0_height : Int32) (o0_values_n : Nat) (o0_values : Nat → Int32) (x1 : Int32) (x2 : Int32) {post : Int32 → Prop} (hw : w_PI_value o0_width o0_height o0_values_n o0_values x1 x2 post) : Met l y_PI_value (Cond.code y_PI_value b_PI_value 3 (some .int) :: AW) rm_PI_value (va_Pc [.ref o0_q, .int x1, .int x2] (ST D cI cZ cL [(o0_q, .inr (0, [.int o0_width, .int o0_height, .ref o0_values_q])), (o0_values_q, .inl (cI, o0_values_n, .inl o0_values))] sz)) (vp_Si post) 0 0 (fun _ => False) := by
  refine ofR (own := R_PI) (vp_Si post) (by decide) rfl (Nat.le_of_ble_eq_true rfl) ?_
  intro p e s m args below meth c A ls Q cx hQ hl hP hD
  obtain ⟨hx, hb, hml, hrt, hown, hta, hlk, hK, hN⟩ := id cx
  have hl : lv_has ls 3 [(0, .ref o0_q), (1, .int x1), (2, .int x2)] := hl
  unfold w_PI_value at hw
  refine lv_aload_n hx hb d_PI_value_0 rfl (lv_at hl 0 rfl) ?_
  refine lv_iload_n hx hb d_PI_value_1 rfl (lv_at hl 1 rfl) ?_
  refine lv_iload_n hx hb d_PI_value_2 rfl (lv_at hl 2 rfl) ?_
  refine goR (xV (C := R_PI) (ci := 0) (As := [.int x1, .int x2]) (rest := []) (wc := [(o0_q, .inr (0, [.int o0_width, .int o0_height, .ref o0_values_q])), (o0_values_q, .inl (cI, o0_values_n, .inl o0_values))]) (A := A) cx (c_PI_has l D cI cZ cL s.heap.size o0_q o0_values_q o0_width o0_height o0_values_n o0_values x1 x2 hw) vw_PI_22 md_PI_has ⟨rfl, rfl, Nat.le_of_ble_eq_true rfl, Nat.le_of_ble_eq_true rfl⟩ (hP.sub [0, 1] rfl) (hD.sub [0, 1] (by decide) rfl) 0 rfl rfl rfl hl.1 (Nat.le_of_ble_eq_true rfl) d_PI_value_3 ⟨Nat.le_of_ble_eq_true rfl, Nat.le_of_ble_eq_true rfl⟩ rfl) (fun r_1 hw => ?_)
  try dsimp only at hw
  refine lv_if_eq (tgt := 25) hx hb d_PI_value_6 (by decide) (fun hc_1 => ?_) (fun hc_1 => ?_)
  · have hw := hw.1 hc_1
    refine lv_iconst (v := (-1)) hx hb d_PI_value_25 (by decide) ?_
    exact retIr cx hQ d_PI_value_26 hw
  · have hw := hw.2 hc_1
    refine lv_aload_n hx hb d_PI_value_9 rfl (lv_at hl 0 rfl) ?_
    refine va_get (D := D) (ci := 0) (v := .ref o0_values_q) (C := R_PI) (T := F_PI) (N := 3) hx hb hta lay_PI hown hK hP 0 rfl rfl 2 (by decide) (hta _ k_PI_18) (fun _ h9 => h9) rfl d_PI_value_10 ?_
    refine lv_iload_n hx hb d_PI_value_13 rfl (lv_at hl 2 rfl) ?_
    refine lv_aload_n hx hb d_PI_value_14 rfl (lv_at hl 0 rfl) ?_
    refine va_get (D := D) (ci := 0) (v := .int o0_width) (C := R_PI) (T := F_PI) (N := 3) hx hb hta lay_PI hown hK hP 0 rfl rfl 0 (by decide) (hta _ k_PI_9) (fun _ h9 => h9) rfl d_PI_value_15 ?_
    refine lv_imul hx hb d_PI_value_18 ?_
    refine lv_iload_n hx hb d_PI_value_19 rfl (lv_at hl 1 rfl) ?_
    refine lv_iadd hx hb d_PI_value_20 ?_
    refine va_iald hx hb hK hP 1 0 rfl rfl hw.1 d_PI_value_21 ?_
    have hw := hw.2
    refine lv_goto (tgt := 26) hx hb d_PI_value_22 (by decide) ?_
    exact retIr cx hQ d_PI_value_26 hw
def w_PI_paint (o0_width : Int32) (o0_height : Int32) (o0_values_n : Nat) (o0_values : Nat → Int32) (x1 : Int32) (x2 : Int32) (x3 : Int32) (post : Int32 → (Nat → Int32) → Prop) : Prop := w_PI_has o0_width o0_height o0_values_n o0_values x1 x2 (fun r_1 => (¬ r_1 = 0 → vp_in ((x2 * o0_width) + x1) o0_values_n ∧ (((o0_values ((x2 * o0_width) + x1).toNatClampNeg) = x3 → vp_in ((x2 * o0_width) + x1) o0_values_n ∧ (narrow .boolean (.int 0) = .int 0 ∧ post 0 (upd o0_values ((x2 * o0_width) + x1).toNatClampNeg x3))) ∧ (¬ (o0_values ((x2 * o0_width) + x1).toNatClampNeg) = x3 → vp_in ((x2 * o0_width) + x1) o0_values_n ∧ (narrow .boolean (.int 1) = .int 1 ∧ post 1 (upd o0_values ((x2 * o0_width) + x1).toNatClampNeg x3))))) ∧ (r_1 = 0 → narrow .boolean (.int 0) = .int 0 ∧ post 0 o0_values))
def rm_PI_paint : Room := { frames := 1, cells := 0, slots := 0, locals := 22 }
set_option maxHeartbeats 4000000 in
set_option maxRecDepth 100000 in
theorem c_PI_paint (l : Launch) (D : va_G) (cI cZ cL : ClassId) (sz : Nat) (o0_q : Nat) (o0_values_q : Nat) (o0_width : Int32) (o0_height : Int32) (o0_values_n : Nat) (o0_values : Nat → Int32) (x1 : Int32) (x2 : Int32) (x3 : Int32) {post : Int32 → (Nat → Int32) → Prop} (hw : w_PI_paint o0_width o0_height o0_values_n o0_values x1 x2 x3 post) : Met l y_PI_paint (Cond.code y_PI_paint b_PI_paint 6 (some .boolean) :: AW) rm_PI_paint (va_Pc [.ref o0_q, .int x1, .int x2, .int x3] (ST D cI cZ cL [(o0_q, .inr (0, [.int o0_width, .int o0_height, .ref o0_values_q])), (o0_values_q, .inl (cI, o0_values_n, .inl o0_values))] sz)) (va_Qi (fun (r : Int32) (u : (Nat → Int32)) => post r u) (fun u t => EN D [(o0_q, .inr (0, [.int o0_width, .int o0_height, .ref o0_values_q])), (o0_values_q, .inl (cI, o0_values_n, .inl u))] (va_A [(o0_q, .inr (0, [.int o0_width, .int o0_height, .ref o0_values_q])), (o0_values_q, .inl (cI, o0_values_n, .inl o0_values))] sz) t) (va_A [(o0_q, .inr (0, [.int o0_width, .int o0_height, .ref o0_values_q])), (o0_values_q, .inl (cI, o0_values_n, .inl o0_values))] sz)) 0 0 (va_A [(o0_q, .inr (0, [.int o0_width, .int o0_height, .ref o0_values_q])), (o0_values_q, .inl (cI, o0_values_n, .inl o0_values))] sz) := by
  refine ofM (own := R_PI) (fun A => (va_Qi (fun (r : Int32) (u : (Nat → Int32)) => post r u) (fun u t => EN D [(o0_q, .inr (0, [.int o0_width, .int o0_height, .ref o0_values_q])), (o0_values_q, .inl (cI, o0_values_n, .inl u))] A t) A)) (by decide) rfl (Nat.le_of_ble_eq_true rfl) ?_
  intro p e s m args below meth c A ls Q cx hQ hA hl hP hD hS hinit
  obtain ⟨hx, hb, hml, hrt, hown, hta, hlk, hK, hN⟩ := id cx
  have hl : lv_has ls 6 [(0, .ref o0_q), (1, .int x1), (2, .int x2), (3, .int x3)] := hl
  have h00 : va_P D CL [(o0_q, .inr (0, [.int o0_width, .int o0_height, .ref o0_values_q])), (o0_values_q, .inl (cI, o0_values_n, .inl o0_values))] s.heap := hP
  unfold w_PI_paint at hw
  obtain ⟨H, eH⟩ : ∃ H, H = s.heap := ⟨_, rfl⟩
  obtain ⟨locs, eL⟩ : ∃ locs : List Loc, locs = [] := ⟨_, rfl⟩
  have hS : va_S A s.heap H locs := by rw [eH, eL]; exact hS
  have hP : va_P D CL [(o0_q, .inr (0, [.int o0_width, .int o0_height, .ref o0_values_q])), (o0_values_q, .inl (cI, o0_values_n, .inl o0_values))] H := by rw [eH]; exact hP
  suffices hgo : W p l e rm_PI_paint s m args below meth c H locs 0 0 Q (F0 m 0 ls []) by rw [eH, eL] at hgo; exact hgo
  clear eH eL h00
  refine lv_aload_n hx hb d_PI_paint_0 rfl (lv_at hl 0 rfl) ?_
  refine lv_iload_n hx hb d_PI_paint_1 rfl (lv_at hl 1 rfl) ?_
  refine lv_iload_n hx hb d_PI_paint_2 rfl (lv_at hl 2 rfl) ?_
  refine goR (xV (C := R_PI) (ci := 0) (As := [.int x1, .int x2]) (rest := []) (wc := [(o0_q, .inr (0, [.int o0_width, .int o0_height, .ref o0_values_q])), (o0_values_q, .inl (cI, o0_values_n, .inl o0_values))]) (A := A) cx (c_PI_has l D cI cZ cL H.size o0_q o0_values_q o0_width o0_height o0_values_n o0_values x1 x2 hw) vw_PI_22 md_PI_has ⟨rfl, rfl, Nat.le_of_ble_eq_true rfl, Nat.le_of_ble_eq_true rfl⟩ (hP.sub [0, 1] rfl) (hD.sub [0, 1] (by decide) rfl) 0 rfl rfl rfl hl.1 (Nat.le_of_ble_eq_true rfl) d_PI_paint_3 ⟨Nat.le_of_ble_eq_true rfl, Nat.le_of_ble_eq_true rfl⟩ rfl) (fun r_1 hw => ?_)
  try dsimp only at hw
  refine lv_if_ne (tgt := 11) hx hb d_PI_paint_6 (by decide) (fun hc_1 => ?_) (fun hc_1 => ?_)
  · have hw := hw.1 hc_1
    refine lv_iload_n hx hb d_PI_paint_11 rfl (lv_at hl 2 rfl) ?_
    refine lv_aload_n hx hb d_PI_paint_12 rfl (lv_at hl 0 rfl) ?_
    refine va_get (D := D) (ci := 0) (v := .int o0_width) (C := R_PI) (T := F_PI) (N := 3) hx hb hta lay_PI hown hK hP 0 rfl rfl 0 (by decide) (hta _ k_PI_9) (fun _ h9 => h9) rfl d_PI_paint_13 ?_
    refine lv_imul hx hb d_PI_paint_16 ?_
    refine lv_iload_n hx hb d_PI_paint_17 rfl (lv_at hl 1 rfl) ?_
    refine lv_iadd hx hb d_PI_paint_18 ?_
    refine lv_istore (lv' := [(4, .int ((x2 * o0_width) + x1)), (0, .ref o0_q), (1, .int x1), (2, .int x2), (3, .int x3)]) hx hb d_PI_paint_19 hl (by decide) rfl (fun ls hl => ?_)
    refine lv_aload_n hx hb d_PI_paint_21 rfl (lv_at hl 1 rfl) ?_
    refine va_get (D := D) (ci := 0) (v := .ref o0_values_q) (C := R_PI) (T := F_PI) (N := 3) hx hb hta lay_PI hown hK hP 0 rfl rfl 2 (by decide) (hta _ k_PI_18) (fun _ h9 => h9) rfl d_PI_paint_22 ?_
    refine lv_iload hx hb d_PI_paint_25 (lv_at hl 0 rfl) ?_
    refine va_iald hx hb hK hP 1 0 rfl rfl hw.1 d_PI_paint_27 ?_
    have hw := hw.2
    refine lv_iload_n hx hb d_PI_paint_28 rfl (lv_at hl 4 rfl) ?_
    refine lv_icmp_eq (tgt := 36) hx hb d_PI_paint_29 (by decide) (fun hc_2 => ?_) (fun hc_2 => ?_)
    · have hw := hw.1 hc_2
      refine lv_iconst (v := 0) hx hb d_PI_paint_36 (by decide) ?_
      refine lv_istore (lv' := [(5, .int 0), (4, .int ((x2 * o0_width) + x1)), (0, .ref o0_q), (1, .int x1), (2, .int x2), (3, .int x3)]) hx hb d_PI_paint_37 hl (by decide) rfl (fun ls hl => ?_)
      refine lv_aload_n hx hb d_PI_paint_39 rfl (lv_at hl 2 rfl) ?_
      refine va_get (D := D) (ci := 0) (v := .ref o0_values_q) (C := R_PI) (T := F_PI) (N := 3) hx hb hta lay_PI hown hK hP 0 rfl rfl 2 (by decide) (hta _ k_PI_18) (fun _ h9 => h9) rfl d_PI_paint_40 ?_
      refine lv_iload hx hb d_PI_paint_43 (lv_at hl 1 rfl) ?_
      refine lv_iload_n hx hb d_PI_paint_45 rfl (lv_at hl 5 rfl) ?_
      refine va_iast hx hb hK hP hD hS 1 0 rfl rfl hw.1 d_PI_paint_46 (fun H locs hP hD hS => ?_)
      have hw := hw.2
      have hP : va_P D CL [(o0_q, .inr (0, [.int o0_width, .int o0_height, .ref o0_values_q])), (o0_values_q, .inl (cI, o0_values_n, .inl (upd o0_values ((x2 * o0_width) + x1).toNatClampNeg x3)))] H := hP
      have hD : va_D A [(o0_q, .inr (0, [.int o0_width, .int o0_height, .ref o0_values_q])), (o0_values_q, .inl (cI, o0_values_n, .inl (upd o0_values ((x2 * o0_width) + x1).toNatClampNeg x3)))] := hD
      refine lv_iload hx hb d_PI_paint_47 (lv_at hl 0 rfl) ?_
      exact retZ cx hQ d_PI_paint_49 (upd o0_values ((x2 * o0_width) + x1).toNatClampNeg x3) hw (hP.sub [0, 1] rfl) (hD.sub [0, 1] (by decide) rfl) hS
    · have hw := hw.2 hc_2
      refine lv_iconst (v := 1) hx hb d_PI_paint_32 (by decide) ?_
      refine lv_goto (tgt := 37) hx hb d_PI_paint_33 (by decide) ?_
      refine lv_istore (lv' := [(5, .int 1), (4, .int ((x2 * o0_width) + x1)), (0, .ref o0_q), (1, .int x1), (2, .int x2), (3, .int x3)]) hx hb d_PI_paint_37 hl (by decide) rfl (fun ls hl => ?_)
      refine lv_aload_n hx hb d_PI_paint_39 rfl (lv_at hl 2 rfl) ?_
      refine va_get (D := D) (ci := 0) (v := .ref o0_values_q) (C := R_PI) (T := F_PI) (N := 3) hx hb hta lay_PI hown hK hP 0 rfl rfl 2 (by decide) (hta _ k_PI_18) (fun _ h9 => h9) rfl d_PI_paint_40 ?_
      refine lv_iload hx hb d_PI_paint_43 (lv_at hl 1 rfl) ?_
      refine lv_iload_n hx hb d_PI_paint_45 rfl (lv_at hl 5 rfl) ?_
      refine va_iast hx hb hK hP hD hS 1 0 rfl rfl hw.1 d_PI_paint_46 (fun H locs hP hD hS => ?_)
      have hw := hw.2
      have hP : va_P D CL [(o0_q, .inr (0, [.int o0_width, .int o0_height, .ref o0_values_q])), (o0_values_q, .inl (cI, o0_values_n, .inl (upd o0_values ((x2 * o0_width) + x1).toNatClampNeg x3)))] H := hP
      have hD : va_D A [(o0_q, .inr (0, [.int o0_width, .int o0_height, .ref o0_values_q])), (o0_values_q, .inl (cI, o0_values_n, .inl (upd o0_values ((x2 * o0_width) + x1).toNatClampNeg x3)))] := hD
      refine lv_iload hx hb d_PI_paint_47 (lv_at hl 0 rfl) ?_
      exact retZ cx hQ d_PI_paint_49 (upd o0_values ((x2 * o0_width) + x1).toNatClampNeg x3) hw (hP.sub [0, 1] rfl) (hD.sub [0, 1] (by decide) rfl) hS
  · have hw := hw.2 hc_1
    refine lv_iconst (v := 0) hx hb d_PI_paint_9 (by decide) ?_
    exact retZ cx hQ d_PI_paint_10 o0_values hw (hP.sub [0, 1] rfl) (hD.sub [0, 1] (by decide) rfl) hS
def w_PI_paintRectangle_18 (x1 : Int32) (x3 : Int32) (x5 : Int32) (o0_width : Int32) (o0_height : Int32) (o0_values_n : Nat) (v7_4 : Int32) (k_48 : Int32 → Int32 → (Nat → Int32) → Prop) : Nat → Int32 → Int32 → (Nat → Int32) → Prop
  | 0, _, _, _ => False
  | n + 1, v8_10, v6_11, f_o0_values_q_12 => ((x1 + x3) ≤ v8_10 → k_48 v8_10 v6_11 f_o0_values_q_12) ∧ (¬ (x1 + x3) ≤ v8_10 → w_PI_paint o0_width o0_height o0_values_n f_o0_values_q_12 v8_10 v7_4 x5 (fun (r_13 : Int32) (f_14 : Nat → Int32) => (r_13 = 0 → w_PI_paintRectangle_18 x1 x3 x5 o0_width o0_height o0_values_n v7_4 k_48 n (v8_10 + 1) v6_11 f_14) ∧ (¬ r_13 = 0 → w_PI_paintRectangle_18 x1 x3 x5 o0_width o0_height o0_values_n v7_4 k_48 n (v8_10 + 1) (v6_11 + 1) f_14)))
def w_PI_paintRectangle_6 (x1 : Int32) (x2 : Int32) (x3 : Int32) (x4 : Int32) (x5 : Int32) (o0_width : Int32) (o0_height : Int32) (o0_values_n : Nat) (k_54 : Int32 → Int32 → (Nat → Int32) → Prop) : Nat → Int32 → Int32 → (Nat → Int32) → Prop
  | 0, _, _, _ => False
  | n + 1, v7_4, v6_5, f_o0_values_q_6 => ((x2 + x4) ≤ v7_4 → k_54 v7_4 v6_5 f_o0_values_q_6) ∧ (¬ (x2 + x4) ≤ v7_4 → ∃ n_18 : Nat, w_PI_paintRectangle_18 x1 x3 x5 o0_width o0_height o0_values_n v7_4 (fun (v8_10_15 : Int32) (v6_11_16 : Int32) (f_o0_values_q_12_17 : Nat → Int32) => w_PI_paintRectangle_6 x1 x2 x3 x4 x5 o0_width o0_height o0_values_n k_54 n (v7_4 + 1) v6_11_16 f_o0_values_q_12_17) n_18 x1 v6_5 f_o0_values_q_6)
def w_PI_paintRectangle (o0_width : Int32) (o0_height : Int32) (o0_values_n : Nat) (o0_values : Nat → Int32) (x1 : Int32) (x2 : Int32) (x3 : Int32) (x4 : Int32) (x5 : Int32) (post : Int32 → (Nat → Int32) → Prop) : Prop := ∃ n_6 : Nat, w_PI_paintRectangle_6 x1 x2 x3 x4 x5 o0_width o0_height o0_values_n (fun (v7_4_18 : Int32) (v6_5_19 : Int32) (f_o0_values_q_6_20 : Nat → Int32) => post v6_5_19 f_o0_values_q_6_20) n_6 x2 0 o0_values
def rm_PI_paintRectangle : Room := { frames := 2, cells := 0, slots := 0, locals := 47 }
set_option maxHeartbeats 4000000 in
set_option maxRecDepth 100000 in
theorem c_PI_paintRectangle (l : Launch) (D : va_G) (cI cZ cL : ClassId) (sz : Nat) (o0_q : Nat) (o0_values_q : Nat) (o0_width : Int32) (o0_height : Int32) (o0_values_n : Nat) (o0_values : Nat → Int32) (x1 : Int32) (x2 : Int32) (x3 : Int32) (x4 : Int32) (x5 : Int32) {post : Int32 → (Nat → Int32) → Prop} (hw : w_PI_paintRectangle o0_width o0_height o0_values_n o0_values x1 x2 x3 x4 x5 post) : Met l y_PI_paintRectangle (Cond.code y_PI_paintRectangle b_PI_paintRectangle 9 (some .int) :: AW) rm_PI_paintRectangle (va_Pc [.ref o0_q, .int x1, .int x2, .int x3, .int x4, .int x5] (ST D cI cZ cL [(o0_q, .inr (0, [.int o0_width, .int o0_height, .ref o0_values_q])), (o0_values_q, .inl (cI, o0_values_n, .inl o0_values))] sz)) (va_Qi (fun (r : Int32) (u : (Nat → Int32)) => post r u) (fun u t => EN D [(o0_q, .inr (0, [.int o0_width, .int o0_height, .ref o0_values_q])), (o0_values_q, .inl (cI, o0_values_n, .inl u))] (va_A [(o0_q, .inr (0, [.int o0_width, .int o0_height, .ref o0_values_q])), (o0_values_q, .inl (cI, o0_values_n, .inl o0_values))] sz) t) (va_A [(o0_q, .inr (0, [.int o0_width, .int o0_height, .ref o0_values_q])), (o0_values_q, .inl (cI, o0_values_n, .inl o0_values))] sz)) 0 0 (va_A [(o0_q, .inr (0, [.int o0_width, .int o0_height, .ref o0_values_q])), (o0_values_q, .inl (cI, o0_values_n, .inl o0_values))] sz) := by
  refine ofM (own := R_PI) (fun A => (va_Qi (fun (r : Int32) (u : (Nat → Int32)) => post r u) (fun u t => EN D [(o0_q, .inr (0, [.int o0_width, .int o0_height, .ref o0_values_q])), (o0_values_q, .inl (cI, o0_values_n, .inl u))] A t) A)) (by decide) rfl (Nat.le_of_ble_eq_true rfl) ?_
  intro p e s m args below meth c A ls Q cx hQ hA hl hP hD hS hinit
  obtain ⟨hx, hb, hml, hrt, hown, hta, hlk, hK, hN⟩ := id cx
  have hl : lv_has ls 9 [(0, .ref o0_q), (1, .int x1), (2, .int x2), (3, .int x3), (4, .int x4), (5, .int x5)] := hl
  have h00 : va_P D CL [(o0_q, .inr (0, [.int o0_width, .int o0_height, .ref o0_values_q])), (o0_values_q, .inl (cI, o0_values_n, .inl o0_values))] s.heap := hP
  unfold w_PI_paintRectangle at hw
  obtain ⟨H, eH⟩ : ∃ H, H = s.heap := ⟨_, rfl⟩
  obtain ⟨locs, eL⟩ : ∃ locs : List Loc, locs = [] := ⟨_, rfl⟩
  have hS : va_S A s.heap H locs := by rw [eH, eL]; exact hS
  have hP : va_P D CL [(o0_q, .inr (0, [.int o0_width, .int o0_height, .ref o0_values_q])), (o0_values_q, .inl (cI, o0_values_n, .inl o0_values))] H := by rw [eH]; exact hP
  suffices hgo : W p l e rm_PI_paintRectangle s m args below meth c H locs 0 0 Q (F0 m 0 ls []) by rw [eH, eL] at hgo; exact hgo
  clear eH eL h00
  refine lv_iconst (v := 0) hx hb d_PI_paintRectangle_0 (by decide) ?_
  refine lv_istore (lv' := [(6, .int 0), (0, .ref o0_q), (1, .int x1), (2, .int x2), (3, .int x3), (4, .int x4), (5, .int x5)]) hx hb d_PI_paintRectangle_1 hl (by decide) rfl (fun ls hl => ?_)
  refine lv_iload_n hx hb d_PI_paintRectangle_3 rfl (lv_at hl 3 rfl) ?_
  refine lv_istore (lv' := [(7, .int x2), (6, .int 0), (0, .ref o0_q), (1, .int x1), (2, .int x2), (3, .int x3), (4, .int x4), (5, .int x5)]) hx hb d_PI_paintRectangle_4 hl (by decide) rfl (fun ls hl => ?_)
  have L6 : ∀ (k_54 : Int32 → Int32 → (Nat → Int32) → Prop) (hk_54 : ∀ (v7_4 : Int32) (v6_5 : Int32) (f_o0_values_q_6 : Nat → Int32) (H : Heap) (locs : List Loc) (ls : Array Slot), lv_has ls 9 [(7, .int v7_4), (6, .int v6_5), (0, .ref o0_q), (1, .int x1), (2, .int x2), (3, .int x3), (4, .int x4), (5, .int x5)] → va_P D CL [(o0_q, .inr (0, [.int o0_width, .int o0_height, .ref o0_values_q])), (o0_values_q, .inl (cI, o0_values_n, .inl f_o0_values_q_6))] H → va_D A [(o0_q, .inr (0, [.int o0_width, .int o0_height, .ref o0_values_q])), (o0_values_q, .inl (cI, o0_values_n, .inl f_o0_values_q_6))] → va_S A s.heap H locs → k_54 v7_4 v6_5 f_o0_values_q_6 → W p l e rm_PI_paintRectangle s m args below meth c H locs 0 0 Q (F0 m 54 ls [])), ∀ (n : Nat) (v7_4 : Int32) (v6_5 : Int32) (f_o0_values_q_6 : Nat → Int32) (H : Heap) (locs : List Loc) (ls : Array Slot), lv_has ls 9 [(7, .int v7_4), (6, .int v6_5), (0, .ref o0_q), (1, .int x1), (2, .int x2), (3, .int x3), (4, .int x4), (5, .int x5)] → va_P D CL [(o0_q, .inr (0, [.int o0_width, .int o0_height, .ref o0_values_q])), (o0_values_q, .inl (cI, o0_values_n, .inl f_o0_values_q_6))] H → va_D A [(o0_q, .inr (0, [.int o0_width, .int o0_height, .ref o0_values_q])), (o0_values_q, .inl (cI, o0_values_n, .inl f_o0_values_q_6))] → va_S A s.heap H locs → w_PI_paintRectangle_6 x1 x2 x3 x4 x5 o0_width o0_height o0_values_n k_54 n v7_4 v6_5 f_o0_values_q_6 → W p l e rm_PI_paintRectangle s m args below meth c H locs 0 0 Q (F0 m 6 ls []) := by
    intro k_54 hk_54 n
    induction n with
    | zero => intro v7_4 v6_5 f_o0_values_q_6 H locs ls hl hP hD hS hw; exact hw.elim
    | succ n ih =>
      intro v7_4 v6_5 f_o0_values_q_6 H locs ls hl hP hD hS hw
      rw [w_PI_paintRectangle_6] at hw
      refine lv_iload hx hb d_PI_paintRectangle_6 (lv_at hl 0 rfl) ?_
      refine lv_iload_n hx hb d_PI_paintRectangle_8 rfl (lv_at hl 4 rfl) ?_
      refine lv_iload hx hb d_PI_paintRectangle_9 (lv_at hl 6 rfl) ?_
      refine lv_iadd hx hb d_PI_paintRectangle_11 ?_
      refine lv_icmp_ge (tgt := 54) hx hb d_PI_paintRectangle_12 (by decide) (fun hc_15 => ?_) (fun hc_15 => ?_)
      · have hw := hw.1 hc_15
        exact hk_54 v7_4 v6_5 f_o0_values_q_6 _ _ _ (lv_sub hl [0, 1, 2, 3, 4, 5, 6, 7] rfl) (hP.sub [0, 1] rfl) (hD.sub [0, 1] (by decide) rfl) hS hw
      · have hw := hw.2 hc_15
        refine lv_iload_n hx hb d_PI_paintRectangle_15 rfl (lv_at hl 3 rfl) ?_
        refine lv_istore (lv' := [(8, .int x1), (7, .int v7_4), (6, .int v6_5), (0, .ref o0_q), (1, .int x1), (2, .int x2), (3, .int x3), (4, .int x4), (5, .int x5)]) hx hb d_PI_paintRectangle_16 hl (by decide) rfl (fun ls hl => ?_)
        have L18 : ∀ (k_48 : Int32 → Int32 → (Nat → Int32) → Prop) (hk_48 : ∀ (v8_10 : Int32) (v6_11 : Int32) (f_o0_values_q_12 : Nat → Int32) (H : Heap) (locs : List Loc) (ls : Array Slot), lv_has ls 9 [(8, .int v8_10), (7, .int v7_4), (6, .int v6_11), (0, .ref o0_q), (1, .int x1), (2, .int x2), (3, .int x3), (4, .int x4), (5, .int x5)] → va_P D CL [(o0_q, .inr (0, [.int o0_width, .int o0_height, .ref o0_values_q])), (o0_values_q, .inl (cI, o0_values_n, .inl f_o0_values_q_12))] H → va_D A [(o0_q, .inr (0, [.int o0_width, .int o0_height, .ref o0_values_q])), (o0_values_q, .inl (cI, o0_values_n, .inl f_o0_values_q_12))] → va_S A s.heap H locs → k_48 v8_10 v6_11 f_o0_values_q_12 → W p l e rm_PI_paintRectangle s m args below meth c H locs 0 0 Q (F0 m 48 ls [])), ∀ (n : Nat) (v8_10 : Int32) (v6_11 : Int32) (f_o0_values_q_12 : Nat → Int32) (H : Heap) (locs : List Loc) (ls : Array Slot), lv_has ls 9 [(8, .int v8_10), (7, .int v7_4), (6, .int v6_11), (0, .ref o0_q), (1, .int x1), (2, .int x2), (3, .int x3), (4, .int x4), (5, .int x5)] → va_P D CL [(o0_q, .inr (0, [.int o0_width, .int o0_height, .ref o0_values_q])), (o0_values_q, .inl (cI, o0_values_n, .inl f_o0_values_q_12))] H → va_D A [(o0_q, .inr (0, [.int o0_width, .int o0_height, .ref o0_values_q])), (o0_values_q, .inl (cI, o0_values_n, .inl f_o0_values_q_12))] → va_S A s.heap H locs → w_PI_paintRectangle_18 x1 x3 x5 o0_width o0_height o0_values_n v7_4 k_48 n v8_10 v6_11 f_o0_values_q_12 → W p l e rm_PI_paintRectangle s m args below meth c H locs 0 0 Q (F0 m 18 ls []) := by
          intro k_48 hk_48 n
          induction n with
          | zero => intro v8_10 v6_11 f_o0_values_q_12 H locs ls hl hP hD hS hw; exact hw.elim
          | succ n ih =>
            intro v8_10 v6_11 f_o0_values_q_12 H locs ls hl hP hD hS hw
            rw [w_PI_paintRectangle_18] at hw
            refine lv_iload hx hb d_PI_paintRectangle_18 (lv_at hl 0 rfl) ?_
            refine lv_iload_n hx hb d_PI_paintRectangle_20 rfl (lv_at hl 4 rfl) ?_
            refine lv_iload_n hx hb d_PI_paintRectangle_21 rfl (lv_at hl 6 rfl) ?_
            refine lv_iadd hx hb d_PI_paintRectangle_22 ?_
            refine lv_icmp_ge (tgt := 48) hx hb d_PI_paintRectangle_23 (by decide) (fun hc_20 => ?_) (fun hc_20 => ?_)
            · have hw := hw.1 hc_20
              exact hk_48 v8_10 v6_11 f_o0_values_q_12 _ _ _ (lv_sub hl [0, 1, 2, 3, 4, 5, 6, 7, 8] rfl) (hP.sub [0, 1] rfl) (hD.sub [0, 1] (by decide) rfl) hS hw
            · have hw := hw.2 hc_20
              refine lv_aload_n hx hb d_PI_paintRectangle_26 rfl (lv_at hl 3 rfl) ?_
              refine lv_iload hx hb d_PI_paintRectangle_27 (lv_at hl 0 rfl) ?_
              refine lv_iload hx hb d_PI_paintRectangle_29 (lv_at hl 1 rfl) ?_
              refine lv_iload hx hb d_PI_paintRectangle_31 (lv_at hl 8 rfl) ?_
              refine goI (wr := []) (xV (C := R_PI) (ci := 0) (As := [.int v8_10, .int v7_4, .int x5]) (rest := []) (wc := [(o0_q, .inr (0, [.int o0_width, .int o0_height, .ref o0_values_q])), (o0_values_q, .inl (cI, o0_values_n, .inl f_o0_values_q_12))]) (A := A) cx (c_PI_paint l D cI cZ cL H.size o0_q o0_values_q o0_width o0_height o0_values_n f_o0_values_q_12 v8_10 v7_4 x5 hw) vw_PI_26 md_PI_paint ⟨rfl, rfl, Nat.le_of_ble_eq_true rfl, Nat.le_of_ble_eq_true rfl⟩ (hP.sub [0, 1] rfl) (hD.sub [0, 1] (by decide) rfl) 0 rfl rfl rfl hl.1 (Nat.le_of_ble_eq_true rfl) d_PI_paintRectangle_33 ⟨Nat.le_of_ble_eq_true rfl, Nat.le_of_ble_eq_true rfl⟩ rfl) hP hD hS hA [0, 1] [] rfl rfl (by decide) (by decide) (fun r_13 f_14 H locs hw hP hD hS => ?_)
              try dsimp only at hw
              have hP : va_P D CL [(o0_q, .inr (0, [.int o0_width, .int o0_height, .ref o0_values_q])), (o0_values_q, .inl (cI, o0_values_n, .inl f_14))] H := hP
              have hD : va_D A [(o0_q, .inr (0, [.int o0_width, .int o0_height, .ref o0_values_q])), (o0_values_q, .inl (cI, o0_values_n, .inl f_14))] := hD
              refine lv_if_eq (tgt := 42) hx hb d_PI_paintRectangle_36 (by decide) (fun hc_21 => ?_) (fun hc_21 => ?_)
              · have hw := hw.1 hc_21
                refine lv_iinc (v := v8_10 + 1) (lv' := [(8, .int (v8_10 + 1)), (7, .int v7_4), (6, .int v6_11), (0, .ref o0_q), (1, .int x1), (2, .int x2), (3, .int x3), (4, .int x4), (5, .int x5)]) hx hb d_PI_paintRectangle_42 hl (k := 0) rfl rfl (by decide) rfl (fun ls hl => ?_)
                refine lv_goto (tgt := 18) hx hb d_PI_paintRectangle_45 (by decide) ?_
                exact ih (v8_10 + 1) v6_11 f_14 _ _ _ (lv_sub hl [0, 1, 2, 3, 4, 5, 6, 7, 8] rfl) (hP.sub [0, 1] rfl) (hD.sub [0, 1] (by decide) rfl) hS hw
              · have hw := hw.2 hc_21
                refine lv_iinc (v := v6_11 + 1) (lv' := [(6, .int (v6_11 + 1)), (8, .int v8_10), (7, .int v7_4), (0, .ref o0_q), (1, .int x1), (2, .int x2), (3, .int x3), (4, .int x4), (5, .int x5)]) hx hb d_PI_paintRectangle_39 hl (k := 2) rfl rfl (by decide) rfl (fun ls hl => ?_)
                refine lv_iinc (v := v8_10 + 1) (lv' := [(8, .int (v8_10 + 1)), (6, .int (v6_11 + 1)), (7, .int v7_4), (0, .ref o0_q), (1, .int x1), (2, .int x2), (3, .int x3), (4, .int x4), (5, .int x5)]) hx hb d_PI_paintRectangle_42 hl (k := 1) rfl rfl (by decide) rfl (fun ls hl => ?_)
                refine lv_goto (tgt := 18) hx hb d_PI_paintRectangle_45 (by decide) ?_
                exact ih (v8_10 + 1) (v6_11 + 1) f_14 _ _ _ (lv_sub hl [0, 2, 1, 3, 4, 5, 6, 7, 8] rfl) (hP.sub [0, 1] rfl) (hD.sub [0, 1] (by decide) rfl) hS hw
        obtain ⟨n_18, hw⟩ := hw
        refine L18 _ (fun v8_10_15 v6_11_16 f_o0_values_q_12_17 H locs ls hl hP hD hS hw => ?_) n_18 x1 v6_5 f_o0_values_q_6 _ _ _ (lv_sub hl [0, 1, 2, 3, 4, 5, 6, 7, 8] rfl) (hP.sub [0, 1] rfl) (hD.sub [0, 1] (by decide) rfl) hS hw
        have hl : lv_has ls 9 [(8, .int v8_10_15), (7, .int v7_4), (6, .int v6_11_16), (0, .ref o0_q), (1, .int x1), (2, .int x2), (3, .int x3), (4, .int x4), (5, .int x5)] := hl
        have hP : va_P D CL [(o0_q, .inr (0, [.int o0_width, .int o0_height, .ref o0_values_q])), (o0_values_q, .inl (cI, o0_values_n, .inl f_o0_values_q_12_17))] H := hP
        have hD : va_D A [(o0_q, .inr (0, [.int o0_width, .int o0_height, .ref o0_values_q])), (o0_values_q, .inl (cI, o0_values_n, .inl f_o0_values_q_12_17))] := hD
        try dsimp only at hw
        refine lv_iinc (v := v7_4 + 1) (lv' := [(7, .int (v7_4 + 1)), (8, .int v8_10_15), (6, .int v6_11_16), (0, .ref o0_q), (1, .int x1), (2, .int x2), (3, .int x3), (4, .int x4), (5, .int x5)]) hx hb d_PI_paintRectangle_48 hl (k := 1) rfl rfl (by decide) rfl (fun ls hl => ?_)
        refine lv_goto (tgt := 6) hx hb d_PI_paintRectangle_51 (by decide) ?_
        exact ih (v7_4 + 1) v6_11_16 f_o0_values_q_12_17 _ _ _ (lv_sub hl [0, 2, 3, 4, 5, 6, 7, 8] rfl) (hP.sub [0, 1] rfl) (hD.sub [0, 1] (by decide) rfl) hS hw
  obtain ⟨n_6, hw⟩ := hw
  refine L6 _ (fun v7_4_18 v6_5_19 f_o0_values_q_6_20 H locs ls hl hP hD hS hw => ?_) n_6 x2 0 o0_values _ _ _ (lv_sub hl [0, 1, 2, 3, 4, 5, 6, 7] rfl) (hP.sub [0, 1] rfl) (hD.sub [0, 1] (by decide) rfl) hS hw
  have hl : lv_has ls 9 [(7, .int v7_4_18), (6, .int v6_5_19), (0, .ref o0_q), (1, .int x1), (2, .int x2), (3, .int x3), (4, .int x4), (5, .int x5)] := hl
  have hP : va_P D CL [(o0_q, .inr (0, [.int o0_width, .int o0_height, .ref o0_values_q])), (o0_values_q, .inl (cI, o0_values_n, .inl f_o0_values_q_6_20))] H := hP
  have hD : va_D A [(o0_q, .inr (0, [.int o0_width, .int o0_height, .ref o0_values_q])), (o0_values_q, .inl (cI, o0_values_n, .inl f_o0_values_q_6_20))] := hD
  try dsimp only at hw
  refine lv_iload hx hb d_PI_paintRectangle_54 (lv_at hl 1 rfl) ?_
  exact retI cx hQ d_PI_paintRectangle_56 f_o0_values_q_6_20 hw (hP.sub [0, 1] rfl) (hD.sub [0, 1] (by decide) rfl) hS
def w_PI_paintAll (o0_width : Int32) (o0_height : Int32) (o0_values_n : Nat) (o0_values : Nat → Int32) (x1 : Int32) (post : (Nat → Int32) → Prop) : Prop := w_AR_fill o0_values_n o0_values x1 (fun (f_1 : Nat → Int32) => post f_1)
def rm_PI_paintAll : Room := { frames := 1, cells := 0, slots := 0, locals := 23 }
set_option maxHeartbeats 4000000 in
set_option maxRecDepth 100000 in
theorem c_PI_paintAll (l : Launch) (D : va_G) (cI cZ cL : ClassId) (sz : Nat) (o0_q : Nat) (o0_values_q : Nat) (o0_width : Int32) (o0_height : Int32) (o0_values_n : Nat) (o0_values : Nat → Int32) (x1 : Int32) {post : (Nat → Int32) → Prop} (hw : w_PI_paintAll o0_width o0_height o0_values_n o0_values x1 post) : Met l y_PI_paintAll (Cond.code y_PI_paintAll b_PI_paintAll 2 (none) :: AW) rm_PI_paintAll (va_Pc [.ref o0_q, .int x1] (ST D cI cZ cL [(o0_q, .inr (0, [.int o0_width, .int o0_height, .ref o0_values_q])), (o0_values_q, .inl (cI, o0_values_n, .inl o0_values))] sz)) (va_Qv (fun (u : (Nat → Int32)) => post u) (fun u t => EN D [(o0_q, .inr (0, [.int o0_width, .int o0_height, .ref o0_values_q])), (o0_values_q, .inl (cI, o0_values_n, .inl u))] (va_A [(o0_q, .inr (0, [.int o0_width, .int o0_height, .ref o0_values_q])), (o0_values_q, .inl (cI, o0_values_n, .inl o0_values))] sz) t) (va_A [(o0_q, .inr (0, [.int o0_width, .int o0_height, .ref o0_values_q])), (o0_values_q, .inl (cI, o0_values_n, .inl o0_values))] sz)) 0 0 (va_A [(o0_q, .inr (0, [.int o0_width, .int o0_height, .ref o0_values_q])), (o0_values_q, .inl (cI, o0_values_n, .inl o0_values))] sz) := by
  refine ofM (own := R_PI) (fun A => (va_Qv (fun (u : (Nat → Int32)) => post u) (fun u t => EN D [(o0_q, .inr (0, [.int o0_width, .int o0_height, .ref o0_values_q])), (o0_values_q, .inl (cI, o0_values_n, .inl u))] A t) A)) (by decide) rfl (Nat.le_of_ble_eq_true rfl) ?_
  intro p e s m args below meth c A ls Q cx hQ hA hl hP hD hS hinit
  obtain ⟨hx, hb, hml, hrt, hown, hta, hlk, hK, hN⟩ := id cx
  have hl : lv_has ls 2 [(0, .ref o0_q), (1, .int x1)] := hl
  have h00 : va_P D CL [(o0_q, .inr (0, [.int o0_width, .int o0_height, .ref o0_values_q])), (o0_values_q, .inl (cI, o0_values_n, .inl o0_values))] s.heap := hP
  unfold w_PI_paintAll at hw
  obtain ⟨H, eH⟩ : ∃ H, H = s.heap := ⟨_, rfl⟩
  obtain ⟨locs, eL⟩ : ∃ locs : List Loc, locs = [] := ⟨_, rfl⟩
  have hS : va_S A s.heap H locs := by rw [eH, eL]; exact hS
  have hP : va_P D CL [(o0_q, .inr (0, [.int o0_width, .int o0_height, .ref o0_values_q])), (o0_values_q, .inl (cI, o0_values_n, .inl o0_values))] H := by rw [eH]; exact hP
  suffices hgo : W p l e rm_PI_paintAll s m args below meth c H locs 0 0 Q (F0 m 0 ls []) by rw [eH, eL] at hgo; exact hgo
  clear eH eL h00
  refine lv_aload_n hx hb d_PI_paintAll_0 rfl (lv_at hl 0 rfl) ?_
  refine va_get (D := D) (ci := 0) (v := .ref o0_values_q) (C := R_PI) (T := F_PI) (N := 3) hx hb hta lay_PI hown hK hP 0 rfl rfl 2 (by decide) (hta _ k_PI_18) (fun _ h9 => h9) rfl d_PI_paintAll_1 ?_
  refine lv_iload_n hx hb d_PI_paintAll_4 rfl (lv_at hl 1 rfl) ?_
  refine goV (wr := [(o0_q, .inr (0, [.int o0_width, .int o0_height, .ref o0_values_q]))]) (xS (As := [.ref o0_values_q, .int x1]) (rest := []) (wc := [(o0_values_q, .inl (cI, o0_values_n, .inl o0_values))]) (A := A) cx (c_AR_fill l D cI cZ cL H.size o0_values_q o0_values_n o0_values x1 hw) sw_PI_30 md_AR_fill ⟨rfl, rfl, Nat.le_of_ble_eq_true rfl, Nat.le_of_ble_eq_true rfl⟩ (hP.sub [1] rfl) (hD.sub [1] (by decide) rfl) rfl hl.1 (Nat.le_of_ble_eq_true rfl) d_PI_paintAll_5 ⟨Nat.le_of_ble_eq_true rfl, Nat.le_of_ble_eq_true rfl⟩ rfl) hP hD hS hA [1] [0] rfl rfl (by decide) (by decide) (fun f_1 H locs hw hP hD hS => ?_)
  try dsimp only at hw
  have hP : va_P D CL [(o0_q, .inr (0, [.int o0_width, .int o0_height, .ref o0_values_q])), (o0_values_q, .inl (cI, o0_values_n, .inl f_1))] H := hP
  have hD : va_D A [(o0_q, .inr (0, [.int o0_width, .int o0_height, .ref o0_values_q])), (o0_values_q, .inl (cI, o0_values_n, .inl f_1))] := hD
  exact retV cx hQ d_PI_paintAll_8 f_1 hw (hP.sub [0, 1] rfl) (hD.sub [0, 1] (by decide) rfl) hS
def w_PI_paintCopy_3 (x1 : Int32) (x2 : Int32) (x3 : Int32) (x4 : Int32) (x5 : Int32) (o0_width : Int32) (o0_height : Int32) (o0_values_n : Nat) (k_38 : Int32 → (Nat → Int32) → Prop) : Nat → Int32 → (Nat → Int32) → Prop
  | 0, _, _ => False
  | n + 1, v6_3, f_o0_values_q_4 => ((x1 + x3) ≤ v6_3 → k_38 v6_3 f_o0_values_q_4) ∧ (¬ (x1 + x3) ≤ v6_3 → w_PI_value o0_width o0_height o0_values_n f_o0_values_q_4 (v6_3 + x4) (x2 - x5) (fun r_5 => w_PI_paint o0_width o0_height o0_values_n f_o0_values_q_4 v6_3 x2 r_5 (fun (r_6 : Int32) (f_7 : Nat → Int32) => w_PI_paintCopy_3 x1 x2 x3 x4 x5 o0_width o0_height o0_values_n k_38 n (v6_3 + 1) f_7)))
def w_PI_paintCopy (o0_width : Int32) (o0_height : Int32) (o0_values_n : Nat) (o0_values : Nat → Int32) (x1 : Int32) (x2 : Int32) (x3 : Int32) (x4 : Int32) (x5 : Int32) (post : (Nat → Int32) → Prop) : Prop := ∃ n_3 : Nat, w_PI_paintCopy_3 x1 x2 x3 x4 x5 o0_width o0_height o0_values_n (fun (v6_3_8 : Int32) (f_o0_values_q_4_9 : Nat → Int32) => post f_o0_values_q_4_9) n_3 x1 o0_values
def rm_PI_paintCopy : Room := { frames := 2, cells := 0, slots := 0, locals := 47 }
set_option maxHeartbeats 4000000 in
set_option maxRecDepth 100000 in
theorem c_PI_paintCopy (l : Launch) (D : va_G) (cI cZ cL : ClassId) (sz : Nat) (o0_q : Nat) (o0_values_q : Nat) (o0_width : Int32) (o0_height : Int32) (o0_values_n : Nat) (o0_values : Nat → Int32) (x1 : Int32) (x2 : Int32) (x3 : Int32) (x4 : Int32) (x5 : Int32) {post : (Nat → Int32) → Prop} (hw : w_PI_paintCopy o0_width o0_height o0_values_n o0_values x1 x2 x3 x4 x5 post) : Met l y_PI_paintCopy (Cond.code y_PI_paintCopy b_PI_paintCopy 7 (none) :: AW) rm_PI_paintCopy (va_Pc [.ref o0_q, .int x1, .int x2, .int x3, .int x4, .int x5] (ST D cI cZ cL [(o0_q, .inr (0, [.int o0_width, .int o0_height, .ref o0_values_q])), (o0_values_q, .inl (cI, o0_values_n, .inl o0_values))] sz)) (va_Qv (fun (u : (Nat → Int32)) => post u) (fun u t => EN D [(o0_q, .inr (0, [.int o0_width, .int o0_height, .ref o0_values_q])), (o0_values_q, .inl (cI, o0_values_n, .inl u))] (va_A [(o0_q, .inr (0, [.int o0_width, .int o0_height, .ref o0_values_q])), (o0_values_q, .inl (cI, o0_values_n, .inl o0_values))] sz) t) (va_A [(o0_q, .inr (0, [.int o0_width, .int o0_height, .ref o0_values_q])), (o0_values_q, .inl (cI, o0_values_n, .inl o0_values))] sz)) 0 0 (va_A [(o0_q, .inr (0, [.int o0_width, .int o0_height, .ref o0_values_q])), (o0_values_q, .inl (cI, o0_values_n, .inl o0_values))] sz) := by
  refine ofM (own := R_PI) (fun A => (va_Qv (fun (u : (Nat → Int32)) => post u) (fun u t => EN D [(o0_q, .inr (0, [.int o0_width, .int o0_height, .ref o0_values_q])), (o0_values_q, .inl (cI, o0_values_n, .inl u))] A t) A)) (by decide) rfl (Nat.le_of_ble_eq_true rfl) ?_
  intro p e s m args below meth c A ls Q cx hQ hA hl hP hD hS hinit
  obtain ⟨hx, hb, hml, hrt, hown, hta, hlk, hK, hN⟩ := id cx
  have hl : lv_has ls 7 [(0, .ref o0_q), (1, .int x1), (2, .int x2), (3, .int x3), (4, .int x4), (5, .int x5)] := hl
  have h00 : va_P D CL [(o0_q, .inr (0, [.int o0_width, .int o0_height, .ref o0_values_q])), (o0_values_q, .inl (cI, o0_values_n, .inl o0_values))] s.heap := hP
  unfold w_PI_paintCopy at hw
  obtain ⟨H, eH⟩ : ∃ H, H = s.heap := ⟨_, rfl⟩
  obtain ⟨locs, eL⟩ : ∃ locs : List Loc, locs = [] := ⟨_, rfl⟩
  have hS : va_S A s.heap H locs := by rw [eH, eL]; exact hS
  have hP : va_P D CL [(o0_q, .inr (0, [.int o0_width, .int o0_height, .ref o0_values_q])), (o0_values_q, .inl (cI, o0_values_n, .inl o0_values))] H := by rw [eH]; exact hP
  suffices hgo : W p l e rm_PI_paintCopy s m args below meth c H locs 0 0 Q (F0 m 0 ls []) by rw [eH, eL] at hgo; exact hgo
  clear eH eL h00
  refine lv_iload_n hx hb d_PI_paintCopy_0 rfl (lv_at hl 1 rfl) ?_
  refine lv_istore (lv' := [(6, .int x1), (0, .ref o0_q), (1, .int x1), (2, .int x2), (3, .int x3), (4, .int x4), (5, .int x5)]) hx hb d_PI_paintCopy_1 hl (by decide) rfl (fun ls hl => ?_)
  have L3 : ∀ (k_38 : Int32 → (Nat → Int32) → Prop) (hk_38 : ∀ (v6_3 : Int32) (f_o0_values_q_4 : Nat → Int32) (H : Heap) (locs : List Loc) (ls : Array Slot), lv_has ls 7 [(6, .int v6_3), (0, .ref o0_q), (1, .int x1), (2, .int x2), (3, .int x3), (4, .int x4), (5, .int x5)] → va_P D CL [(o0_q, .inr (0, [.int o0_width, .int o0_height, .ref o0_values_q])), (o0_values_q, .inl (cI, o0_values_n, .inl f_o0_values_q_4))] H → va_D A [(o0_q, .inr (0, [.int o0_width, .int o0_height, .ref o0_values_q])), (o0_values_q, .inl (cI, o0_values_n, .inl f_o0_values_q_4))] → va_S A s.heap H locs → k_38 v6_3 f_o0_values_q_4 → W p l e rm_PI_paintCopy s m args below meth c H locs 0 0 Q (F0 m 38 ls [])), ∀ (n : Nat) (v6_3 : Int32) (f_o0_values_q_4 : Nat → Int32) (H : Heap) (locs : List Loc) (ls : Array Slot), lv_has ls 7 [(6, .int v6_3), (0, .ref o0_q), (1, .int x1), (2, .int x2), (3, .int x3), (4, .int x4), (5, .int x5)] → va_P D CL [(o0_q, .inr (0, [.int o0_width, .int o0_height, .ref o0_values_q])), (o0_values_q, .inl (cI, o0_values_n, .inl f_o0_values_q_4))] H → va_D A [(o0_q, .inr (0, [.int o0_width, .int o0_height, .ref o0_values_q])), (o0_values_q, .inl (cI, o0_values_n, .inl f_o0_values_q_4))] → va_S A s.heap H locs → w_PI_paintCopy_3 x1 x2 x3 x4 x5 o0_width o0_height o0_values_n k_38 n v6_3 f_o0_values_q_4 → W p l e rm_PI_paintCopy s m args below meth c H locs 0 0 Q (F0 m 3 ls []) := by
    intro k_38 hk_38 n
    induction n with
    | zero => intro v6_3 f_o0_values_q_4 H locs ls hl hP hD hS hw; exact hw.elim
    | succ n ih =>
      intro v6_3 f_o0_values_q_4 H locs ls hl hP hD hS hw
      rw [w_PI_paintCopy_3] at hw
      refine lv_iload hx hb d_PI_paintCopy_3 (lv_at hl 0 rfl) ?_
      refine lv_iload_n hx hb d_PI_paintCopy_5 rfl (lv_at hl 2 rfl) ?_
      refine lv_iload_n hx hb d_PI_paintCopy_6 rfl (lv_at hl 4 rfl) ?_
      refine lv_iadd hx hb d_PI_paintCopy_7 ?_
      refine lv_icmp_ge (tgt := 38) hx hb d_PI_paintCopy_8 (by decide) (fun hc_3 => ?_) (fun hc_3 => ?_)
      · have hw := hw.1 hc_3
        exact hk_38 v6_3 f_o0_values_q_4 _ _ _ (lv_sub hl [0, 1, 2, 3, 4, 5, 6] rfl) (hP.sub [0, 1] rfl) (hD.sub [0, 1] (by decide) rfl) hS hw
      · have hw := hw.2 hc_3
        refine lv_aload_n hx hb d_PI_paintCopy_11 rfl (lv_at hl 1 rfl) ?_
        refine lv_iload hx hb d_PI_paintCopy_12 (lv_at hl 0 rfl) ?_
        refine lv_iload_n hx hb d_PI_paintCopy_14 rfl (lv_at hl 3 rfl) ?_
        refine lv_aload_n hx hb d_PI_paintCopy_15 rfl (lv_at hl 1 rfl) ?_
        refine lv_iload hx hb d_PI_paintCopy_16 (lv_at hl 0 rfl) ?_
        refine lv_iload hx hb d_PI_paintCopy_18 (lv_at hl 5 rfl) ?_
        refine lv_iadd hx hb d_PI_paintCopy_20 ?_
        refine lv_iload_n hx hb d_PI_paintCopy_21 rfl (lv_at hl 3 rfl) ?_
        refine lv_iload hx hb d_PI_paintCopy_22 (lv_at hl 6 rfl) ?_
        refine lv_isub hx hb d_PI_paintCopy_24 ?_
        refine goR (xV (C := R_PI) (ci := 0) (As := [.int (v6_3 + x4), .int (x2 - x5)]) (rest := [.int x2, .int v6_3, .ref o0_q]) (wc := [(o0_q, .inr (0, [.int o0_width, .int o0_height, .ref o0_values_q])), (o0_values_q, .inl (cI, o0_values_n, .inl f_o0_values_q_4))]) (A := A) cx (c_PI_value l D cI cZ cL H.size o0_q o0_values_q o0_width o0_height o0_values_n f_o0_values_q_4 (v6_3 + x4) (x2 - x5) hw) vw_PI_36 md_PI_value ⟨rfl, rfl, Nat.le_of_ble_eq_true rfl, Nat.le_of_ble_eq_true rfl⟩ (hP.sub [0, 1] rfl) (hD.sub [0, 1] (by decide) rfl) 0 rfl rfl rfl hl.1 (Nat.le_of_ble_eq_true rfl) d_PI_paintCopy_25 ⟨Nat.le_of_ble_eq_true rfl, Nat.le_of_ble_eq_true rfl⟩ rfl) (fun r_5 hw => ?_)
        try dsimp only at hw
        refine goI (wr := []) (xV (C := R_PI) (ci := 0) (As := [.int v6_3, .int x2, .int r_5]) (rest := []) (wc := [(o0_q, .inr (0, [.int o0_width, .int o0_height, .ref o0_values_q])), (o0_values_q, .inl (cI, o0_values_n, .inl f_o0_values_q_4))]) (A := A) cx (c_PI_paint l D cI cZ cL H.size o0_q o0_values_q o0_width o0_height o0_values_n f_o0_values_q_4 v6_3 x2 r_5 hw) vw_PI_26 md_PI_paint ⟨rfl, rfl, Nat.le_of_ble_eq_true rfl, Nat.le_of_ble_eq_true rfl⟩ (hP.sub [0, 1] rfl) (hD.sub [0, 1] (by decide) rfl) 0 rfl rfl rfl hl.1 (Nat.le_of_ble_eq_true rfl) d_PI_paintCopy_28 ⟨Nat.le_of_ble_eq_true rfl, Nat.le_of_ble_eq_true rfl⟩ rfl) hP hD hS hA [0, 1] [] rfl rfl (by decide) (by decide) (fun r_6 f_7 H locs hw hP hD hS => ?_)
        try dsimp only at hw
        have hP : va_P D CL [(o0_q, .inr (0, [.int o0_width, .int o0_height, .ref o0_values_q])), (o0_values_q, .inl (cI, o0_values_n, .inl f_7))] H := hP
        have hD : va_D A [(o0_q, .inr (0, [.int o0_width, .int o0_height, .ref o0_values_q])), (o0_values_q, .inl (cI, o0_values_n, .inl f_7))] := hD
        refine lv_pop hx hb d_PI_paintCopy_31 rfl ?_
        refine lv_iinc (v := v6_3 + 1) (lv' := [(6, .int (v6_3 + 1)), (0, .ref o0_q), (1, .int x1), (2, .int x2), (3, .int x3), (4, .int x4), (5, .int x5)]) hx hb d_PI_paintCopy_32 hl (k := 0) rfl rfl (by decide) rfl (fun ls hl => ?_)
        refine lv_goto (tgt := 3) hx hb d_PI_paintCopy_35 (by decide) ?_
        exact ih (v6_3 + 1) f_7 _ _ _ (lv_sub hl [0, 1, 2, 3, 4, 5, 6] rfl) (hP.sub [0, 1] rfl) (hD.sub [0, 1] (by decide) rfl) hS hw
  obtain ⟨n_3, hw⟩ := hw
  refine L3 _ (fun v6_3_8 f_o0_values_q_4_9 H locs ls hl hP hD hS hw => ?_) n_3 x1 o0_values _ _ _ (lv_sub hl [0, 1, 2, 3, 4, 5, 6] rfl) (hP.sub [0, 1] rfl) (hD.sub [0, 1] (by decide) rfl) hS hw
  have hl : lv_has ls 7 [(6, .int v6_3_8), (0, .ref o0_q), (1, .int x1), (2, .int x2), (3, .int x3), (4, .int x4), (5, .int x5)] := hl
  have hP : va_P D CL [(o0_q, .inr (0, [.int o0_width, .int o0_height, .ref o0_values_q])), (o0_values_q, .inl (cI, o0_values_n, .inl f_o0_values_q_4_9))] H := hP
  have hD : va_D A [(o0_q, .inr (0, [.int o0_width, .int o0_height, .ref o0_values_q])), (o0_values_q, .inl (cI, o0_values_n, .inl f_o0_values_q_4_9))] := hD
  try dsimp only at hw
  exact retV cx hQ d_PI_paintCopy_38 f_o0_values_q_4_9 hw (hP.sub [0, 1] rfl) (hD.sub [0, 1] (by decide) rfl) hS
def w_PI_takeFrom_2 (o0_values_n : Nat) (o1_values_n : Nat) (o1_values : Nat → Int32) (k_38 : Int32 → (Nat → Int32) → Prop) : Nat → Int32 → (Nat → Int32) → Prop
  | 0, _, _ => False
  | n + 1, v2_3, f_o0_values_q_4 => ((nI o0_values_n) ≤ v2_3 → k_38 v2_3 f_o0_values_q_4) ∧ (¬ (nI o0_values_n) ≤ v2_3 → ((nI o1_values_n) ≤ v2_3 → k_38 v2_3 f_o0_values_q_4) ∧ (¬ (nI o1_values_n) ≤ v2_3 → vp_in v2_3 o1_values_n ∧ (vp_in v2_3 o0_values_n ∧ (w_PI_takeFrom_2 o0_values_n o1_values_n o1_values k_38 n (v2_3 + 1) (upd f_o0_values_q_4 v2_3.toNatClampNeg (o1_values v2_3.toNatClampNeg))))))
def w_PI_takeFrom (o0_width : Int32) (o0_height : Int32) (o0_values_n : Nat) (o0_values : Nat → Int32) (o1_width : Int32) (o1_height : Int32) (o1_values_n : Nat) (o1_values : Nat → Int32) (post : (Nat → Int32) → Prop) : Prop := ∃ n_2 : Nat, w_PI_takeFrom_2 o0_values_n o1_values_n o1_values (fun (v2_3_5 : Int32) (f_o0_values_q_4_6 : Nat → Int32) => post f_o0_values_q_4_6) n_2 0 o0_values
def rm_PI_takeFrom : Room := { frames := 0, cells := 0, slots := 0, locals := 0 }
set_option maxHeartbeats 4000000 in
set_option maxRecDepth 100000 in
theorem c_PI_takeFrom (l : Launch) (D : va_G) (cI cZ cL : ClassId) (sz : Nat) (o0_q : Nat) (o0_values_q : Nat) (o1_q : Nat) (o1_values_q : Nat) (o0_width : Int32) (o0_height : Int32) (o0_values_n : Nat) (o0_values : Nat → Int32) (o1_width : Int32) (o1_height : Int32) (o1_values_n : Nat) (o1_values : Nat → Int32) {post : (Nat → Int32) → Prop} (hw : w_PI_takeFrom o0_width o0_height o0_values_n o0_values o1_width o1_height o1_values_n o1_values post) : Met l y_PI_takeFrom (Cond.code y_PI_takeFrom b_PI_takeFrom 3 (none) :: AW) rm_PI_takeFrom (va_Pc [.ref o0_q, .ref o1_q] (ST D cI cZ cL [(o0_q, .inr (0, [.int o0_width, .int o0_height, .ref o0_values_q])), (o0_values_q, .inl (cI, o0_values_n, .inl o0_values)), (o1_q, .inr (0, [.int o1_width, .int o1_height, .ref o1_values_q])), (o1_values_q, .inl (cI, o1_values_n, .inl o1_values))] sz)) (va_Qv (fun (u : (Nat → Int32)) => post u) (fun u t => EN D [(o0_q, .inr (0, [.int o0_width, .int o0_height, .ref o0_values_q])), (o0_values_q, .inl (cI, o0_values_n, .inl u)), (o1_q, .inr (0, [.int o1_width, .int o1_height, .ref o1_values_q])), (o1_values_q, .inl (cI, o1_values_n, .inl o1_values))] (va_A [(o0_q, .inr (0, [.int o0_width, .int o0_height, .ref o0_values_q])), (o0_values_q, .inl (cI, o0_values_n, .inl o0_values)), (o1_q, .inr (0, [.int o1_width, .int o1_height, .ref o1_values_q])), (o1_values_q, .inl (cI, o1_values_n, .inl o1_values))] sz) t) (va_A [(o0_q, .inr (0, [.int o0_width, .int o0_height, .ref o0_values_q])), (o0_values_q, .inl (cI, o0_values_n, .inl o0_values)), (o1_q, .inr (0, [.int o1_width, .int o1_height, .ref o1_values_q])), (o1_values_q, .inl (cI, o1_values_n, .inl o1_values))] sz)) 0 0 (va_A [(o0_q, .inr (0, [.int o0_width, .int o0_height, .ref o0_values_q])), (o0_values_q, .inl (cI, o0_values_n, .inl o0_values)), (o1_q, .inr (0, [.int o1_width, .int o1_height, .ref o1_values_q])), (o1_values_q, .inl (cI, o1_values_n, .inl o1_values))] sz) := by
  refine ofM (own := R_PI) (fun A => (va_Qv (fun (u : (Nat → Int32)) => post u) (fun u t => EN D [(o0_q, .inr (0, [.int o0_width, .int o0_height, .ref o0_values_q])), (o0_values_q, .inl (cI, o0_values_n, .inl u)), (o1_q, .inr (0, [.int o1_width, .int o1_height, .ref o1_values_q])), (o1_values_q, .inl (cI, o1_values_n, .inl o1_values))] A t) A)) (by decide) rfl (Nat.le_of_ble_eq_true rfl) ?_
  intro p e s m args below meth c A ls Q cx hQ hA hl hP hD hS hinit
  obtain ⟨hx, hb, hml, hrt, hown, hta, hlk, hK, hN⟩ := id cx
  have hl : lv_has ls 3 [(0, .ref o0_q), (1, .ref o1_q)] := hl
  have h00 : va_P D CL [(o0_q, .inr (0, [.int o0_width, .int o0_height, .ref o0_values_q])), (o0_values_q, .inl (cI, o0_values_n, .inl o0_values)), (o1_q, .inr (0, [.int o1_width, .int o1_height, .ref o1_values_q])), (o1_values_q, .inl (cI, o1_values_n, .inl o1_values))] s.heap := hP
  unfold w_PI_takeFrom at hw
  obtain ⟨H, eH⟩ : ∃ H, H = s.heap := ⟨_, rfl⟩
  obtain ⟨locs, eL⟩ : ∃ locs : List Loc, locs = [] := ⟨_, rfl⟩
  have hS : va_S A s.heap H locs := by rw [eH, eL]; exact hS
  have hP : va_P D CL [(o0_q, .inr (0, [.int o0_width, .int o0_height, .ref o0_values_q])), (o0_values_q, .inl (cI, o0_values_n, .inl o0_values)), (o1_q, .inr (0, [.int o1_width, .int o1_height, .ref o1_values_q])), (o1_values_q, .inl (cI, o1_values_n, .inl o1_values))] H := by rw [eH]; exact hP
  suffices hgo : W p l e rm_PI_takeFrom s m args below meth c H locs 0 0 Q (F0 m 0 ls []) by rw [eH, eL] at hgo; exact hgo
  clear eH eL h00
  refine lv_iconst (v := 0) hx hb d_PI_takeFrom_0 (by decide) ?_
  refine lv_istore_n (lv' := [(2, .int 0), (0, .ref o0_q), (1, .ref o1_q)]) hx hb d_PI_takeFrom_1 rfl hl (by decide) rfl (fun ls hl => ?_)
  have L2 : ∀ (k_38 : Int32 → (Nat → Int32) → Prop) (hk_38 : ∀ (v2_3 : Int32) (f_o0_values_q_4 : Nat → Int32) (H : Heap) (locs : List Loc) (ls : Array Slot), lv_has ls 3 [(2, .int v2_3), (0, .ref o0_q), (1, .ref o1_q)] → va_P D CL [(o0_q, .inr (0, [.int o0_width, .int o0_height, .ref o0_values_q])), (o0_values_q, .inl (cI, o0_values_n, .inl f_o0_values_q_4)), (o1_q, .inr (0, [.int o1_width, .int o1_height, .ref o1_values_q])), (o1_values_q, .inl (cI, o1_values_n, .inl o1_values))] H → va_D A [(o0_q, .inr (0, [.int o0_width, .int o0_height, .ref o0_values_q])), (o0_values_q, .inl (cI, o0_values_n, .inl f_o0_values_q_4)), (o1_q, .inr (0, [.int o1_width, .int o1_height, .ref o1_values_q])), (o1_values_q, .inl (cI, o1_values_n, .inl o1_values))] → va_S A s.heap H locs → k_38 v2_3 f_o0_values_q_4 → W p l e rm_PI_takeFrom s m args below meth c H locs 0 0 Q (F0 m 38 ls [])), ∀ (n : Nat) (v2_3 : Int32) (f_o0_values_q_4 : Nat → Int32) (H : Heap) (locs : List Loc) (ls : Array Slot), lv_has ls 3 [(2, .int v2_3), (0, .ref o0_q), (1, .ref o1_q)] → va_P D CL [(o0_q, .inr (0, [.int o0_width, .int o0_height, .ref o0_values_q])), (o0_values_q, .inl (cI, o0_values_n, .inl f_o0_values_q_4)), (o1_q, .inr (0, [.int o1_width, .int o1_height, .ref o1_values_q])), (o1_values_q, .inl (cI, o1_values_n, .inl o1_values))] H → va_D A [(o0_q, .inr (0, [.int o0_width, .int o0_height, .ref o0_values_q])), (o0_values_q, .inl (cI, o0_values_n, .inl f_o0_values_q_4)), (o1_q, .inr (0, [.int o1_width, .int o1_height, .ref o1_values_q])), (o1_values_q, .inl (cI, o1_values_n, .inl o1_values))] → va_S A s.heap H locs → w_PI_takeFrom_2 o0_values_n o1_values_n o1_values k_38 n v2_3 f_o0_values_q_4 → W p l e rm_PI_takeFrom s m args below meth c H locs 0 0 Q (F0 m 2 ls []) := by
    intro k_38 hk_38 n
    induction n with
    | zero => intro v2_3 f_o0_values_q_4 H locs ls hl hP hD hS hw; exact hw.elim
    | succ n ih =>
      intro v2_3 f_o0_values_q_4 H locs ls hl hP hD hS hw
      rw [w_PI_takeFrom_2] at hw
      refine lv_iload_n hx hb d_PI_takeFrom_2 rfl (lv_at hl 0 rfl) ?_
      refine lv_aload_n hx hb d_PI_takeFrom_3 rfl (lv_at hl 1 rfl) ?_
      refine va_get (D := D) (ci := 0) (v := .ref o0_values_q) (C := R_PI) (T := F_PI) (N := 3) hx hb hta lay_PI hown hK hP 0 rfl rfl 2 (by decide) (hta _ k_PI_18) (fun _ h9 => h9) rfl d_PI_takeFrom_4 ?_
      refine va_alen (v := nI o0_values_n) hx hb hK hP 1 0 rfl rfl rfl d_PI_takeFrom_7 ?_
      refine lv_icmp_ge (tgt := 38) hx hb d_PI_takeFrom_8 (by decide) (fun hc_5 => ?_) (fun hc_5 => ?_)
      · have hw := hw.1 hc_5
        exact hk_38 v2_3 f_o0_values_q_4 _ _ _ (lv_sub hl [0, 1, 2] rfl) (hP.sub [0, 1, 2, 3] rfl) (hD.sub [0, 1, 2, 3] (by decide) rfl) hS hw
      · have hw := hw.2 hc_5
        refine lv_iload_n hx hb d_PI_takeFrom_11 rfl (lv_at hl 0 rfl) ?_
        refine lv_aload_n hx hb d_PI_takeFrom_12 rfl (lv_at hl 2 rfl) ?_
        refine va_get (D := D) (ci := 0) (v := .ref o1_values_q) (C := R_PI) (T := F_PI) (N := 3) hx hb hta lay_PI hown hK hP 2 rfl rfl 2 (by decide) (hta _ k_PI_18) (fun _ h9 => h9) rfl d_PI_takeFrom_13 ?_
        refine va_alen (v := nI o1_values_n) hx hb hK hP 3 0 rfl rfl rfl d_PI_takeFrom_16 ?_
        refine lv_icmp_ge (tgt := 38) hx hb d_PI_takeFrom_17 (by decide) (fun hc_6 => ?_) (fun hc_6 => ?_)
        · have hw := hw.1 hc_6
          exact hk_38 v2_3 f_o0_values_q_4 _ _ _ (lv_sub hl [0, 1, 2] rfl) (hP.sub [0, 1, 2, 3] rfl) (hD.sub [0, 1, 2, 3] (by decide) rfl) hS hw
        · have hw := hw.2 hc_6
          refine lv_aload_n hx hb d_PI_takeFrom_20 rfl (lv_at hl 1 rfl) ?_
          refine va_get (D := D) (ci := 0) (v := .ref o0_values_q) (C := R_PI) (T := F_PI) (N := 3) hx hb hta lay_PI hown hK hP 0 rfl rfl 2 (by decide) (hta _ k_PI_18) (fun _ h9 => h9) rfl d_PI_takeFrom_21 ?_
          refine lv_iload_n hx hb d_PI_takeFrom_24 rfl (lv_at hl 0 rfl) ?_
          refine lv_aload_n hx hb d_PI_takeFrom_25 rfl (lv_at hl 2 rfl) ?_
          refine va_get (D := D) (ci := 0) (v := .ref o1_values_q) (C := R_PI) (T := F_PI) (N := 3) hx hb hta lay_PI hown hK hP 2 rfl rfl 2 (by decide) (hta _ k_PI_18) (fun _ h9 => h9) rfl d_PI_takeFrom_26 ?_
          refine lv_iload_n hx hb d_PI_takeFrom_29 rfl (lv_at hl 0 rfl) ?_
          refine va_iald hx hb hK hP 3 0 rfl rfl hw.1 d_PI_takeFrom_30 ?_
          have hw := hw.2
          refine va_iast hx hb hK hP hD hS 1 0 rfl rfl hw.1 d_PI_takeFrom_31 (fun H locs hP hD hS => ?_)
          have hw := hw.2
          have hP : va_P D CL [(o0_q, .inr (0, [.int o0_width, .int o0_height, .ref o0_values_q])), (o0_values_q, .inl (cI, o0_values_n, .inl (upd f_o0_values_q_4 v2_3.toNatClampNeg (o1_values v2_3.toNatClampNeg)))), (o1_q, .inr (0, [.int o1_width, .int o1_height, .ref o1_values_q])), (o1_values_q, .inl (cI, o1_values_n, .inl o1_values))] H := hP
          have hD : va_D A [(o0_q, .inr (0, [.int o0_width, .int o0_height, .ref o0_values_q])), (o0_values_q, .inl (cI, o0_values_n, .inl (upd f_o0_values_q_4 v2_3.toNatClampNeg (o1_values v2_3.toNatClampNeg)))), (o1_q, .inr (0, [.int o1_width, .int o1_height, .ref o1_values_q])), (o1_values_q, .inl (cI, o1_values_n, .inl o1_values))] := hD
          refine lv_iinc (v := v2_3 + 1) (lv' := [(2, .int (v2_3 + 1)), (0, .ref o0_q), (1, .ref o1_q)]) hx hb d_PI_takeFrom_32 hl (k := 0) rfl rfl (by decide) rfl (fun ls hl => ?_)
          refine lv_goto (tgt := 2) hx hb d_PI_takeFrom_35 (by decide) ?_
          exact ih (v2_3 + 1) (upd f_o0_values_q_4 v2_3.toNatClampNeg (o1_values v2_3.toNatClampNeg)) _ _ _ (lv_sub hl [0, 1, 2] rfl) (hP.sub [0, 1, 2, 3] rfl) (hD.sub [0, 1, 2, 3] (by decide) rfl) hS hw
  obtain ⟨n_2, hw⟩ := hw
  refine L2 _ (fun v2_3_5 f_o0_values_q_4_6 H locs ls hl hP hD hS hw => ?_) n_2 0 o0_values _ _ _ (lv_sub hl [0, 1, 2] rfl) (hP.sub [0, 1, 2, 3] rfl) (hD.sub [0, 1, 2, 3] (by decide) rfl) hS hw
  have hl : lv_has ls 3 [(2, .int v2_3_5), (0, .ref o0_q), (1, .ref o1_q)] := hl
  have hP : va_P D CL [(o0_q, .inr (0, [.int o0_width, .int o0_height, .ref o0_values_q])), (o0_values_q, .inl (cI, o0_values_n, .inl f_o0_values_q_4_6)), (o1_q, .inr (0, [.int o1_width, .int o1_height, .ref o1_values_q])), (o1_values_q, .inl (cI, o1_values_n, .inl o1_values))] H := hP
  have hD : va_D A [(o0_q, .inr (0, [.int o0_width, .int o0_height, .ref o0_values_q])), (o0_values_q, .inl (cI, o0_values_n, .inl f_o0_values_q_4_6)), (o1_q, .inr (0, [.int o1_width, .int o1_height, .ref o1_values_q])), (o1_values_q, .inl (cI, o1_values_n, .inl o1_values))] := hD
  try dsimp only at hw
  exact retV cx hQ d_PI_takeFrom_38 f_o0_values_q_4_6 hw (hP.sub [0, 1, 2, 3] rfl) (hD.sub [0, 1, 2, 3] (by decide) rfl) hS
def w_PI_differences_4 (o0_values_n : Nat) (o0_values : Nat → Int32) (o1_values_n : Nat) (o1_values : Nat → Int32) (k_46 : Int32 → Int32 → Prop) : Nat → Int32 → Int32 → Prop
  | 0, _, _ => False
  | n + 1, v3_3, v2_4 => ((nI o0_values_n) ≤ v3_3 → k_46 v3_3 v2_4) ∧ (¬ (nI o0_values_n) ≤ v3_3 → ((nI o1_values_n) ≤ v3_3 → k_46 v3_3 v2_4) ∧ (¬ (nI o1_values_n) ≤ v3_3 → vp_in v3_3 o0_values_n ∧ (vp_in v3_3 o1_values_n ∧ (((o0_values v3_3.toNatClampNeg) = (o1_values v3_3.toNatClampNeg) → w_PI_differences_4 o0_values_n o0_values o1_values_n o1_values k_46 n (v3_3 + 1) v2_4) ∧ (¬ (o0_values v3_3.toNatClampNeg) = (o1_values v3_3.toNatClampNeg) → w_PI_differences_4 o0_values_n o0_values o1_values_n o1_values k_46 n (v3_3 + 1) (v2_4 + 1))))))
def w_PI_differences (o0_width : Int32) (o0_height : Int32) (o0_values_n : Nat) (o0_values : Nat → Int32) (o1_width : Int32) (o1_height : Int32) (o1_values_n : Nat) (o1_values : Nat → Int32) (post : Int32 → Prop) : Prop := ∃ n_4 : Nat, w_PI_differences_4 o0_values_n o0_values o1_values_n o1_values (fun (v3_3_5 : Int32) (v2_4_6 : Int32) => post v2_4_6) n_4 0 0
def rm_PI_differences : Room := { frames := 0, cells := 0, slots := 0, locals := 0 }
set_option maxHeartbeats 4000000 in
set_option maxRecDepth 100000 in
theorem c_PI_differences (l : Launch) (D : va_G) (cI cZ cL : ClassId) (sz : Nat) (o0_q : Nat) (o0_values_q : Nat) (o1_q : Nat) (o1_values_q : Nat) (o0_width : Int32) (o0_height : Int32) (o0_values_n : Nat) (o0_values : Nat → Int32) (o1_width : Int32) (o1_height : Int32) (o1_values_n : Nat) (o1_values : Nat → Int32) {post : Int32 → Prop} (hw : w_PI_differences o0_width o0_height o0_values_n o0_values o1_width o1_height o1_values_n o1_values post) : Met l y_PI_differences (Cond.code y_PI_differences b_PI_differences 4 (some .int) :: AW) rm_PI_differences (va_Pc [.ref o0_q, .ref o1_q] (ST D cI cZ cL [(o0_q, .inr (0, [.int o0_width, .int o0_height, .ref o0_values_q])), (o0_values_q, .inl (cI, o0_values_n, .inl o0_values)), (o1_q, .inr (0, [.int o1_width, .int o1_height, .ref o1_values_q])), (o1_values_q, .inl (cI, o1_values_n, .inl o1_values))] sz)) (vp_Si post) 0 0 (fun _ => False) := by
  refine ofR (own := R_PI) (vp_Si post) (by decide) rfl (Nat.le_of_ble_eq_true rfl) ?_
  intro p e s m args below meth c A ls Q cx hQ hl hP hD
  obtain ⟨hx, hb, hml, hrt, hown, hta, hlk, hK, hN⟩ := id cx
  have hl : lv_has ls 4 [(0, .ref o0_q), (1, .ref o1_q)] := hl
  unfold w_PI_differences at hw
  refine lv_iconst (v := 0) hx hb d_PI_differences_0 (by decide) ?_
  refine lv_istore_n (lv' := [(2, .int 0), (0, .ref o0_q), (1, .ref o1_q)]) hx hb d_PI_differences_1 rfl hl (by decide) rfl (fun ls hl => ?_)
  refine lv_iconst (v := 0) hx hb d_PI_differences_2 (by decide) ?_
  refine lv_istore_n (lv' := [(3, .int 0), (2, .int 0), (0, .ref o0_q), (1, .ref o1_q)]) hx hb d_PI_differences_3 rfl hl (by decide) rfl (fun ls hl => ?_)
  have L4 : ∀ (k_46 : Int32 → Int32 → Prop) (hk_46 : ∀ (v3_3 : Int32) (v2_4 : Int32) (ls : Array Slot), lv_has ls 4 [(3, .int v3_3), (2, .int v2_4), (0, .ref o0_q), (1, .ref o1_q)] → k_46 v3_3 v2_4 → W p l e rm_PI_differences s m args below meth c s.heap [] 0 0 Q (F0 m 46 ls [])), ∀ (n : Nat) (v3_3 : Int32) (v2_4 : Int32) (ls : Array Slot), lv_has ls 4 [(3, .int v3_3), (2, .int v2_4), (0, .ref o0_q), (1, .ref o1_q)] → w_PI_differences_4 o0_values_n o0_values o1_values_n o1_values k_46 n v3_3 v2_4 → W p l e rm_PI_differences s m args below meth c s.heap [] 0 0 Q (F0 m 4 ls []) := by
    intro k_46 hk_46 n
    induction n with
    | zero => intro v3_3 v2_4 ls hl hw; exact hw.elim
    | succ n ih =>
      intro v3_3 v2_4 ls hl hw
      rw [w_PI_differences_4] at hw
      refine lv_iload_n hx hb d_PI_differences_4 rfl (lv_at hl 0 rfl) ?_
      refine lv_aload_n hx hb d_PI_differences_5 rfl (lv_at hl 2 rfl) ?_
      refine va_get (D := D) (ci := 0) (v := .ref o0_values_q) (C := R_PI) (T := F_PI) (N := 3) hx hb hta lay_PI hown hK hP 0 rfl rfl 2 (by decide) (hta _ k_PI_18) (fun _ h9 => h9) rfl d_PI_differences_6 ?_
      refine va_alen (v := nI o0_values_n) hx hb hK hP 1 0 rfl rfl rfl d_PI_differences_9 ?_
      refine lv_icmp_ge (tgt := 46) hx hb d_PI_differences_10 (by decide) (fun hc_7 => ?_) (fun hc_7 => ?_)
      · have hw := hw.1 hc_7
        exact hk_46 v3_3 v2_4 _ (lv_sub hl [0, 1, 2, 3] rfl) hw
      · have hw := hw.2 hc_7
        refine lv_iload_n hx hb d_PI_differences_13 rfl (lv_at hl 0 rfl) ?_
        refine lv_aload_n hx hb d_PI_differences_14 rfl (lv_at hl 3 rfl) ?_
        refine va_get (D := D) (ci := 0) (v := .ref o1_values_q) (C := R_PI) (T := F_PI) (N := 3) hx hb hta lay_PI hown hK hP 2 rfl rfl 2 (by decide) (hta _ k_PI_18) (fun _ h9 => h9) rfl d_PI_differences_15 ?_
        refine va_alen (v := nI o1_values_n) hx hb hK hP 3 0 rfl rfl rfl d_PI_differences_18 ?_
        refine lv_icmp_ge (tgt := 46) hx hb d_PI_differences_19 (by decide) (fun hc_8 => ?_) (fun hc_8 => ?_)
        · have hw := hw.1 hc_8
          exact hk_46 v3_3 v2_4 _ (lv_sub hl [0, 1, 2, 3] rfl) hw
        · have hw := hw.2 hc_8
          refine lv_aload_n hx hb d_PI_differences_22 rfl (lv_at hl 2 rfl) ?_
          refine va_get (D := D) (ci := 0) (v := .ref o0_values_q) (C := R_PI) (T := F_PI) (N := 3) hx hb hta lay_PI hown hK hP 0 rfl rfl 2 (by decide) (hta _ k_PI_18) (fun _ h9 => h9) rfl d_PI_differences_23 ?_
          refine lv_iload_n hx hb d_PI_differences_26 rfl (lv_at hl 0 rfl) ?_
          refine va_iald hx hb hK hP 1 0 rfl rfl hw.1 d_PI_differences_27 ?_
          have hw := hw.2
          refine lv_aload_n hx hb d_PI_differences_28 rfl (lv_at hl 3 rfl) ?_
          refine va_get (D := D) (ci := 0) (v := .ref o1_values_q) (C := R_PI) (T := F_PI) (N := 3) hx hb hta lay_PI hown hK hP 2 rfl rfl 2 (by decide) (hta _ k_PI_18) (fun _ h9 => h9) rfl d_PI_differences_29 ?_
          refine lv_iload_n hx hb d_PI_differences_32 rfl (lv_at hl 0 rfl) ?_
          refine va_iald hx hb hK hP 3 0 rfl rfl hw.1 d_PI_differences_33 ?_
          have hw := hw.2
          refine lv_icmp_eq (tgt := 40) hx hb d_PI_differences_34 (by decide) (fun hc_9 => ?_) (fun hc_9 => ?_)
          · have hw := hw.1 hc_9
            refine lv_iinc (v := v3_3 + 1) (lv' := [(3, .int (v3_3 + 1)), (2, .int v2_4), (0, .ref o0_q), (1, .ref o1_q)]) hx hb d_PI_differences_40 hl (k := 0) rfl rfl (by decide) rfl (fun ls hl => ?_)
            refine lv_goto (tgt := 4) hx hb d_PI_differences_43 (by decide) ?_
            exact ih (v3_3 + 1) v2_4 _ (lv_sub hl [0, 1, 2, 3] rfl) hw
          · have hw := hw.2 hc_9
            refine lv_iinc (v := v2_4 + 1) (lv' := [(2, .int (v2_4 + 1)), (3, .int v3_3), (0, .ref o0_q), (1, .ref o1_q)]) hx hb d_PI_differences_37 hl (k := 1) rfl rfl (by decide) rfl (fun ls hl => ?_)
            refine lv_iinc (v := v3_3 + 1) (lv' := [(3, .int (v3_3 + 1)), (2, .int (v2_4 + 1)), (0, .ref o0_q), (1, .ref o1_q)]) hx hb d_PI_differences_40 hl (k := 1) rfl rfl (by decide) rfl (fun ls hl => ?_)
            refine lv_goto (tgt := 4) hx hb d_PI_differences_43 (by decide) ?_
            exact ih (v3_3 + 1) (v2_4 + 1) _ (lv_sub hl [0, 1, 2, 3] rfl) hw
  obtain ⟨n_4, hw⟩ := hw
  refine L4 _ (fun v3_3_5 v2_4_6 ls hl hw => ?_) n_4 0 0 _ (lv_sub hl [0, 1, 2, 3] rfl) hw
  have hl : lv_has ls 4 [(3, .int v3_3_5), (2, .int v2_4_6), (0, .ref o0_q), (1, .ref o1_q)] := hl
  try dsimp only at hw
  refine lv_iload_n hx hb d_PI_differences_46 rfl (lv_at hl 1 rfl) ?_
  exact retIr cx hQ d_PI_differences_47 hw
