def w_BR_init (x1 : Int32) (post : Int32 → Nat → (Nat → Int32) → Prop) : Prop := ¬ x1 < 0 ∧ x1.toNatClampNeg ≤ 4000 ∧ (post 0 x1.toNatClampNeg (fun _ => 0))
def rm_BR_init : Room := { frames := 1, cells := 1, slots := 4000, locals := 12 }
set_option maxHeartbeats 4000000 in
set_option maxRecDepth 100000 in
theorem c_BR_init (l : Launch) (D : va_G) (cI cZ cL : ClassId) (sz : Nat) (o0_q : Nat) (x1 : Int32) {post : Int32 → Nat → (Nat → Int32) → Prop} (hw : w_BR_init x1 post) : Met l y_BR_init (Cond.code y_BR_init b_BR_init 2 (none) :: AW) rm_BR_init (va_Pc [.ref o0_q, .int x1] (ST D cI cZ cL [(o0_q, .inr (1, [.null, .int 0]))] sz)) (va_Qv (fun (u : Int32 × Nat × Nat × (Nat → Int32)) => post u.1 u.2.2.1 u.2.2.2) (fun u t => EN D [(o0_q, .inr (1, [.ref u.2.1, .int u.1])), (u.2.1, .inl (cI, u.2.2.1, .inl u.2.2.2))] (va_A [(o0_q, .inr (1, [.null, .int 0]))] sz) t) (va_A [(o0_q, .inr (1, [.null, .int 0]))] sz)) 1 4000 (va_A [(o0_q, .inr (1, [.null, .int 0]))] sz) := by
  refine ofM (own := R_BR) (fun A => (va_Qv (fun (u : Int32 × Nat × Nat × (Nat → Int32)) => post u.1 u.2.2.1 u.2.2.2) (fun u t => EN D [(o0_q, .inr (1, [.ref u.2.1, .int u.1])), (u.2.1, .inl (cI, u.2.2.1, .inl u.2.2.2))] A t) A)) (by decide) rfl (Nat.le_of_ble_eq_true rfl) ?_
  intro p e s m args below meth c A ls Q cx hQ hA hl hP hD hS hinit
  have hin := hinit rfl
  obtain ⟨hx, hb, hml, hrt, hown, hta, hlk, hK, hN⟩ := id cx
  have hl : lv_has ls 2 [(0, .ref o0_q), (1, .int x1)] := hl
  have h00 : va_P D CL [(o0_q, .inr (1, [.null, .int 0]))] s.heap := hP
  unfold w_BR_init at hw
  obtain ⟨H, eH⟩ : ∃ H, H = s.heap := ⟨_, rfl⟩
  obtain ⟨locs, eL⟩ : ∃ locs : List Loc, locs = [] := ⟨_, rfl⟩
  have hS : va_S A s.heap H locs := by rw [eH, eL]; exact hS
  have hP : va_P D CL [(o0_q, .inr (1, [.null, .int 0]))] H := by rw [eH]; exact hP
  suffices hgo : W p l e rm_BR_init s m args below meth c H locs 0 0 Q (F0 m 0 ls []) by rw [eH, eL] at hgo; exact hgo
  clear eH eL h00
  refine lv_aload_n hx hb d_BR_init_0 rfl (lv_at hl 0 rfl) ?_
  refine W.objInit hx hb hown (hta _ k_BR_3) (hta _ k_objI) (hta _ k_objC) rfl (by rw [hml]; exact hl.1) rfl d_BR_init_1 (Nat.le_of_ble_eq_true rfl) (Nat.le_of_ble_eq_true rfl) ?_
  refine W.eq (g2 := F0 m 4 ls []) rfl ?_
  refine lv_aload_n hx hb d_BR_init_4 rfl (lv_at hl 0 rfl) ?_
  refine lv_iload_n hx hb d_BR_init_5 rfl (lv_at hl 1 rfl) ?_
  refine va_newa (atype := .int) (ty := .int) (a0 := (x1.toNatClampNeg, .inl (fun _ => 0))) hx hb (hta _ k_arr_int) rfl hK hP hD hS hA (fun _ => rfl) hw.1 rfl (by have h9 := hw.2.1; show _ * 4 ≤ _; omega) (Nat.le_of_ble_eq_true rfl) (by have h9 := hw.2.1; show 0 + _ ≤ 4000; omega) d_BR_init_6 (fun q_1 cA H hK9 hP hD hS => ?_)
  rw [newA_cI hK9] at hP hD
  have hP : va_P D CL [(o0_q, .inr (1, [.null, .int 0])), (q_1, .inl (cI, x1.toNatClampNeg, .inl (fun _ => 0)))] H := hP
  have hD : va_D A [(o0_q, .inr (1, [.null, .int 0])), (q_1, .inl (cI, x1.toNatClampNeg, .inl (fun _ => 0)))] := hD
  refine W.widen (k := 1) (n := 4000) (by decide) (by have h9 := hw.2.1; omega) ?_
  have hw := hw.2.2
  refine va_putF (D := D) (ci := 1) (v := .ref q_1) (ty := .array .int) (C := R_BR) (T := F_BR) (N := 2) hx hb hta lay_BR t_BR t_BR_ok n_BR hown hK hP hD hS 0 rfl rfl 0 (by decide) (hta _ k_BR_9) (fun _ h9 => h9) rfl hin rfl (by decide +kernel) rfl rfl (Nat.le_of_ble_eq_true rfl) d_BR_init_8 (fun H locs hP hD hS => ?_)
  have hP : va_P D CL [(o0_q, .inr (1, [.ref q_1, .int 0])), (q_1, .inl (cI, x1.toNatClampNeg, .inl (fun _ => 0)))] H := hP
  have hD : va_D A [(o0_q, .inr (1, [.ref q_1, .int 0])), (q_1, .inl (cI, x1.toNatClampNeg, .inl (fun _ => 0)))] := hD
  exact retV cx hQ d_BR_init_11 (0, q_1, x1.toNatClampNeg, fun _ => 0) hw (hP.sub [0, 1] rfl) (hD.sub [0, 1] (by decide) rfl) hS
def w_BR_get (o0_count : Int32) (o0_bytes_n : Nat) (o0_bytes : Nat → Int32) (x1 : Int32) (post : Int32 → Prop) : Prop := (x1 < 0 → post (-1)) ∧ (¬ x1 < 0 → (o0_count ≤ x1 → post (-1)) ∧ (¬ o0_count ≤ x1 → ((nI o0_bytes_n) ≤ x1 → post (-1)) ∧ (¬ (nI o0_bytes_n) ≤ x1 → vp_in x1 o0_bytes_n ∧ (post (o0_bytes x1.toNatClampNeg)))))
def rm_BR_get : Room := { frames := 0, cells := 0, slots := 0, locals := 0 }
set_option maxHeartbeats 4000000 in
set_option maxRecDepth 100000 in
theorem c_BR_get (l : Launch) (D : va_G) (cI cZ cL : ClassId) (sz : Nat) (o0_q : Nat) (o0_bytes_q : Nat) (o0_count : Int32) (o0_bytes_n : Nat) (o0_bytes : Nat → Int32) (x1 : Int32) {post : Int32 → Prop} (hw : w_BR_get o0_count o0_bytes_n o0_bytes x1 post) : Met l y_BR_get (Cond.code y_BR_get b_BR_get 2 (some .int) :: AW) rm_BR_get (va_Pc [.ref o0_q, .int x1] (ST D cI cZ cL [(o0_q, .inr (1, [.ref o0_bytes_q, .int o0_count])), (o0_bytes_q, .inl (cI, o0_bytes_n, .inl o0_bytes))] sz)) (vp_Si post) 0 0 (fun _ => False) := by
  refine ofR (own := R_BR) (vp_Si post) (by decide) rfl (Nat.le_of_ble_eq_true rfl) ?_
  intro p e s m args below meth c A ls Q cx hQ hl hP hD
  obtain ⟨hx, hb, hml, hrt, hown, hta, hlk, hK, hN⟩ := id cx
  have hl : lv_has ls 2 [(0, .ref o0_q), (1, .int x1)] := hl
  unfold w_BR_get at hw
  refine lv_iload_n hx hb d_BR_get_0 rfl (lv_at hl 1 rfl) ?_
  refine lv_if_lt (tgt := 30) hx hb d_BR_get_1 (by decide) (fun hc_1 => ?_) (fun hc_1 => ?_)
  · have hw := hw.1 hc_1
    refine lv_iconst (v := (-1)) hx hb d_BR_get_30 (by decide) ?_
    exact retIr cx hQ d_BR_get_31 hw
  · have hw := hw.2 hc_1
    refine lv_iload_n hx hb d_BR_get_4 rfl (lv_at hl 1 rfl) ?_
    refine lv_aload_n hx hb d_BR_get_5 rfl (lv_at hl 0 rfl) ?_
    refine va_get (D := D) (ci := 1) (v := .int o0_count) (C := R_BR) (T := F_BR) (N := 2) hx hb hta lay_BR hown hK hP 0 rfl rfl 1 (by decide) (hta _ k_BR_15) (fun _ h9 => h9) rfl d_BR_get_6 ?_
    refine lv_icmp_ge (tgt := 30) hx hb d_BR_get_9 (by decide) (fun hc_2 => ?_) (fun hc_2 => ?_)
    · have hw := hw.1 hc_2
      refine lv_iconst (v := (-1)) hx hb d_BR_get_30 (by decide) ?_
      exact retIr cx hQ d_BR_get_31 hw
    · have hw := hw.2 hc_2
      refine lv_iload_n hx hb d_BR_get_12 rfl (lv_at hl 1 rfl) ?_
      refine lv_aload_n hx hb d_BR_get_13 rfl (lv_at hl 0 rfl) ?_
      refine va_get (D := D) (ci := 1) (v := .ref o0_bytes_q) (C := R_BR) (T := F_BR) (N := 2) hx hb hta lay_BR hown hK hP 0 rfl rfl 0 (by decide) (hta _ k_BR_9) (fun _ h9 => h9) rfl d_BR_get_14 ?_
      refine va_alen (v := nI o0_bytes_n) hx hb hK hP 1 0 rfl rfl rfl d_BR_get_17 ?_
      refine lv_icmp_ge (tgt := 30) hx hb d_BR_get_18 (by decide) (fun hc_3 => ?_) (fun hc_3 => ?_)
      · have hw := hw.1 hc_3
        refine lv_iconst (v := (-1)) hx hb d_BR_get_30 (by decide) ?_
        exact retIr cx hQ d_BR_get_31 hw
      · have hw := hw.2 hc_3
        refine lv_aload_n hx hb d_BR_get_21 rfl (lv_at hl 0 rfl) ?_
        refine va_get (D := D) (ci := 1) (v := .ref o0_bytes_q) (C := R_BR) (T := F_BR) (N := 2) hx hb hta lay_BR hown hK hP 0 rfl rfl 0 (by decide) (hta _ k_BR_9) (fun _ h9 => h9) rfl d_BR_get_22 ?_
        refine lv_iload_n hx hb d_BR_get_25 rfl (lv_at hl 1 rfl) ?_
        refine va_iald hx hb hK hP 1 0 rfl rfl hw.1 d_BR_get_26 ?_
        have hw := hw.2
        refine lv_goto (tgt := 31) hx hb d_BR_get_27 (by decide) ?_
        exact retIr cx hQ d_BR_get_31 hw
def w_BR_add (o0_count : Int32) (o0_bytes_n : Nat) (o0_bytes : Nat → Int32) (x1 : Int32) (post : Int32 → (Nat → Int32) → Prop) : Prop := (o0_count < 0 → post o0_count o0_bytes) ∧ (¬ o0_count < 0 → ((nI o0_bytes_n) ≤ o0_count → post o0_count o0_bytes) ∧ (¬ (nI o0_bytes_n) ≤ o0_count → vp_in o0_count o0_bytes_n ∧ (post (o0_count + 1) (upd o0_bytes o0_count.toNatClampNeg x1))))
def rm_BR_add : Room := { frames := 0, cells := 0, slots := 0, locals := 0 }
set_option maxHeartbeats 4000000 in
set_option maxRecDepth 100000 in
theorem c_BR_add (l : Launch) (D : va_G) (cI cZ cL : ClassId) (sz : Nat) (o0_q : Nat) (o0_bytes_q : Nat) (o0_count : Int32) (o0_bytes_n : Nat) (o0_bytes : Nat → Int32) (x1 : Int32) {post : Int32 → (Nat → Int32) → Prop} (hw : w_BR_add o0_count o0_bytes_n o0_bytes x1 post) : Met l y_BR_add (Cond.code y_BR_add b_BR_add 2 (none) :: AW) rm_BR_add (va_Pc [.ref o0_q, .int x1] (ST D cI cZ cL [(o0_q, .inr (1, [.ref o0_bytes_q, .int o0_count])), (o0_bytes_q, .inl (cI, o0_bytes_n, .inl o0_bytes))] sz)) (va_Qv (fun (u : Int32 × (Nat → Int32)) => post u.1 u.2) (fun u t => EN D [(o0_q, .inr (1, [.ref o0_bytes_q, .int u.1])), (o0_bytes_q, .inl (cI, o0_bytes_n, .inl u.2))] (va_A [(o0_q, .inr (1, [.ref o0_bytes_q, .int o0_count])), (o0_bytes_q, .inl (cI, o0_bytes_n, .inl o0_bytes))] sz) t) (va_A [(o0_q, .inr (1, [.ref o0_bytes_q, .int o0_count])), (o0_bytes_q, .inl (cI, o0_bytes_n, .inl o0_bytes))] sz)) 0 0 (va_A [(o0_q, .inr (1, [.ref o0_bytes_q, .int o0_count])), (o0_bytes_q, .inl (cI, o0_bytes_n, .inl o0_bytes))] sz) := by
  refine ofM (own := R_BR) (fun A => (va_Qv (fun (u : Int32 × (Nat → Int32)) => post u.1 u.2) (fun u t => EN D [(o0_q, .inr (1, [.ref o0_bytes_q, .int u.1])), (o0_bytes_q, .inl (cI, o0_bytes_n, .inl u.2))] A t) A)) (by decide) rfl (Nat.le_of_ble_eq_true rfl) ?_
  intro p e s m args below meth c A ls Q cx hQ hA hl hP hD hS hinit
  obtain ⟨hx, hb, hml, hrt, hown, hta, hlk, hK, hN⟩ := id cx
  have hl : lv_has ls 2 [(0, .ref o0_q), (1, .int x1)] := hl
  have h00 : va_P D CL [(o0_q, .inr (1, [.ref o0_bytes_q, .int o0_count])), (o0_bytes_q, .inl (cI, o0_bytes_n, .inl o0_bytes))] s.heap := hP
  unfold w_BR_add at hw
  obtain ⟨H, eH⟩ : ∃ H, H = s.heap := ⟨_, rfl⟩
  obtain ⟨locs, eL⟩ : ∃ locs : List Loc, locs = [] := ⟨_, rfl⟩
  have hS : va_S A s.heap H locs := by rw [eH, eL]; exact hS
  have hP : va_P D CL [(o0_q, .inr (1, [.ref o0_bytes_q, .int o0_count])), (o0_bytes_q, .inl (cI, o0_bytes_n, .inl o0_bytes))] H := by rw [eH]; exact hP
  suffices hgo : W p l e rm_BR_add s m args below meth c H locs 0 0 Q (F0 m 0 ls []) by rw [eH, eL] at hgo; exact hgo
  clear eH eL h00
  refine lv_aload_n hx hb d_BR_add_0 rfl (lv_at hl 0 rfl) ?_
  refine va_get (D := D) (ci := 1) (v := .int o0_count) (C := R_BR) (T := F_BR) (N := 2) hx hb hta lay_BR hown hK hP 0 rfl rfl 1 (by decide) (hta _ k_BR_15) (fun _ h9 => h9) rfl d_BR_add_1 ?_
  refine lv_if_lt (tgt := 39) hx hb d_BR_add_4 (by decide) (fun hc_1 => ?_) (fun hc_1 => ?_)
  · have hw := hw.1 hc_1
    exact retV cx hQ d_BR_add_39 (o0_count, o0_bytes) hw (hP.sub [0, 1] rfl) (hD.sub [0, 1] (by decide) rfl) hS
  · have hw := hw.2 hc_1
    refine lv_aload_n hx hb d_BR_add_7 rfl (lv_at hl 0 rfl) ?_
    refine va_get (D := D) (ci := 1) (v := .int o0_count) (C := R_BR) (T := F_BR) (N := 2) hx hb hta lay_BR hown hK hP 0 rfl rfl 1 (by decide) (hta _ k_BR_15) (fun _ h9 => h9) rfl d_BR_add_8 ?_
    refine lv_aload_n hx hb d_BR_add_11 rfl (lv_at hl 0 rfl) ?_
    refine va_get (D := D) (ci := 1) (v := .ref o0_bytes_q) (C := R_BR) (T := F_BR) (N := 2) hx hb hta lay_BR hown hK hP 0 rfl rfl 0 (by decide) (hta _ k_BR_9) (fun _ h9 => h9) rfl d_BR_add_12 ?_
    refine va_alen (v := nI o0_bytes_n) hx hb hK hP 1 0 rfl rfl rfl d_BR_add_15 ?_
    refine lv_icmp_ge (tgt := 39) hx hb d_BR_add_16 (by decide) (fun hc_2 => ?_) (fun hc_2 => ?_)
    · have hw := hw.1 hc_2
      exact retV cx hQ d_BR_add_39 (o0_count, o0_bytes) hw (hP.sub [0, 1] rfl) (hD.sub [0, 1] (by decide) rfl) hS
    · have hw := hw.2 hc_2
      refine lv_aload_n hx hb d_BR_add_19 rfl (lv_at hl 0 rfl) ?_
      refine va_get (D := D) (ci := 1) (v := .ref o0_bytes_q) (C := R_BR) (T := F_BR) (N := 2) hx hb hta lay_BR hown hK hP 0 rfl rfl 0 (by decide) (hta _ k_BR_9) (fun _ h9 => h9) rfl d_BR_add_20 ?_
      refine lv_aload_n hx hb d_BR_add_23 rfl (lv_at hl 0 rfl) ?_
      refine va_get (D := D) (ci := 1) (v := .int o0_count) (C := R_BR) (T := F_BR) (N := 2) hx hb hta lay_BR hown hK hP 0 rfl rfl 1 (by decide) (hta _ k_BR_15) (fun _ h9 => h9) rfl d_BR_add_24 ?_
      refine lv_iload_n hx hb d_BR_add_27 rfl (lv_at hl 1 rfl) ?_
      refine va_iast hx hb hK hP hD hS 1 0 rfl rfl hw.1 d_BR_add_28 (fun H locs hP hD hS => ?_)
      have hw := hw.2
      have hP : va_P D CL [(o0_q, .inr (1, [.ref o0_bytes_q, .int o0_count])), (o0_bytes_q, .inl (cI, o0_bytes_n, .inl (upd o0_bytes o0_count.toNatClampNeg x1)))] H := hP
      have hD : va_D A [(o0_q, .inr (1, [.ref o0_bytes_q, .int o0_count])), (o0_bytes_q, .inl (cI, o0_bytes_n, .inl (upd o0_bytes o0_count.toNatClampNeg x1)))] := hD
      refine lv_aload_n hx hb d_BR_add_29 rfl (lv_at hl 0 rfl) ?_
      refine lv_dup hx hb d_BR_add_30 rfl ?_
      refine va_get (D := D) (ci := 1) (v := .int o0_count) (C := R_BR) (T := F_BR) (N := 2) hx hb hta lay_BR hown hK hP 0 rfl rfl 1 (by decide) (hta _ k_BR_15) (fun _ h9 => h9) rfl d_BR_add_31 ?_
      refine lv_iconst (v := 1) hx hb d_BR_add_34 (by decide) ?_
      refine lv_iadd hx hb d_BR_add_35 ?_
      refine va_put (D := D) (ci := 1) (v := .int (o0_count + 1)) (ty := .int) (C := R_BR) (T := F_BR) (N := 2) hx hb hta lay_BR t_BR t_BR_ok n_BR hown hK hP hD hS 0 rfl rfl 1 (by decide) (hta _ k_BR_15) (fun _ h9 => h9) rfl (by decide +kernel) rfl rfl (Nat.le_of_ble_eq_true rfl) d_BR_add_36 (fun H locs hP hD hS => ?_)
      have hP : va_P D CL [(o0_q, .inr (1, [.ref o0_bytes_q, .int (o0_count + 1)])), (o0_bytes_q, .inl (cI, o0_bytes_n, .inl (upd o0_bytes o0_count.toNatClampNeg x1)))] H := hP
      have hD : va_D A [(o0_q, .inr (1, [.ref o0_bytes_q, .int (o0_count + 1)])), (o0_bytes_q, .inl (cI, o0_bytes_n, .inl (upd o0_bytes o0_count.toNatClampNeg x1)))] := hD
      exact retV cx hQ d_BR_add_39 (o0_count + 1, upd o0_bytes o0_count.toNatClampNeg x1) hw (hP.sub [0, 1] rfl) (hD.sub [0, 1] (by decide) rfl) hS
def w_BR_addAll_2 (o0_bytes_n : Nat) (o1_count : Int32) (o1_bytes_n : Nat) (o1_bytes : Nat → Int32) (k_25 : Int32 → Int32 → (Nat → Int32) → Prop) : Nat → Int32 → Int32 → (Nat → Int32) → Prop
  | 0, _, _, _ => False
  | n + 1, v2_4, g_o0_q_1_5, f_o0_bytes_q_6 => (o1_count ≤ v2_4 → k_25 v2_4 g_o0_q_1_5 f_o0_bytes_q_6) ∧ (¬ o1_count ≤ v2_4 → w_BR_get o1_count o1_bytes_n o1_bytes v2_4 (fun r_7 => w_BR_add g_o0_q_1_5 o0_bytes_n f_o0_bytes_q_6 r_7 (fun (g_8 : Int32) (f_9 : Nat → Int32) => w_BR_addAll_2 o0_bytes_n o1_count o1_bytes_n o1_bytes k_25 n (v2_4 + 1) g_8 f_9)))
def w_BR_addAll (o0_count : Int32) (o0_bytes_n : Nat) (o0_bytes : Nat → Int32) (o1_count : Int32) (o1_bytes_n : Nat) (o1_bytes : Nat → Int32) (post : Int32 → (Nat → Int32) → Prop) : Prop := ∃ n_2 : Nat, w_BR_addAll_2 o0_bytes_n o1_count o1_bytes_n o1_bytes (fun (v2_4_10 : Int32) (g_o0_q_1_5_11 : Int32) (f_o0_bytes_q_6_12 : Nat → Int32) => post g_o0_q_1_5_11 f_o0_bytes_q_6_12) n_2 0 o0_count o0_bytes
def rm_BR_addAll : Room := { frames := 1, cells := 0, slots := 0, locals := 21 }
set_option maxHeartbeats 4000000 in
set_option maxRecDepth 100000 in
theorem c_BR_addAll (l : Launch) (D : va_G) (cI cZ cL : ClassId) (sz : Nat) (o0_q : Nat) (o0_bytes_q : Nat) (o1_q : Nat) (o1_bytes_q : Nat) (o0_count : Int32) (o0_bytes_n : Nat) (o0_bytes : Nat → Int32) (o1_count : Int32) (o1_bytes_n : Nat) (o1_bytes : Nat → Int32) {post : Int32 → (Nat → Int32) → Prop} (hw : w_BR_addAll o0_count o0_bytes_n o0_bytes o1_count o1_bytes_n o1_bytes post) : Met l y_BR_addAll (Cond.code y_BR_addAll b_BR_addAll 3 (none) :: AW) rm_BR_addAll (va_Pc [.ref o0_q, .ref o1_q] (ST D cI cZ cL [(o0_q, .inr (1, [.ref o0_bytes_q, .int o0_count])), (o0_bytes_q, .inl (cI, o0_bytes_n, .inl o0_bytes)), (o1_q, .inr (1, [.ref o1_bytes_q, .int o1_count])), (o1_bytes_q, .inl (cI, o1_bytes_n, .inl o1_bytes))] sz)) (va_Qv (fun (u : Int32 × (Nat → Int32)) => post u.1 u.2) (fun u t => EN D [(o0_q, .inr (1, [.ref o0_bytes_q, .int u.1])), (o0_bytes_q, .inl (cI, o0_bytes_n, .inl u.2)), (o1_q, .inr (1, [.ref o1_bytes_q, .int o1_count])), (o1_bytes_q, .inl (cI, o1_bytes_n, .inl o1_bytes))] (va_A [(o0_q, .inr (1, [.ref o0_bytes_q, .int o0_count])), (o0_bytes_q, .inl (cI, o0_bytes_n, .inl o0_bytes)), (o1_q, .inr (1, [.ref o1_bytes_q, .int o1_count])), (o1_bytes_q, .inl (cI, o1_bytes_n, .inl o1_bytes))] sz) t) (va_A [(o0_q, .inr (1, [.ref o0_bytes_q, .int o0_count])), (o0_bytes_q, .inl (cI, o0_bytes_n, .inl o0_bytes)), (o1_q, .inr (1, [.ref o1_bytes_q, .int o1_count])), (o1_bytes_q, .inl (cI, o1_bytes_n, .inl o1_bytes))] sz)) 0 0 (va_A [(o0_q, .inr (1, [.ref o0_bytes_q, .int o0_count])), (o0_bytes_q, .inl (cI, o0_bytes_n, .inl o0_bytes)), (o1_q, .inr (1, [.ref o1_bytes_q, .int o1_count])), (o1_bytes_q, .inl (cI, o1_bytes_n, .inl o1_bytes))] sz) := by
  refine ofM (own := R_BR) (fun A => (va_Qv (fun (u : Int32 × (Nat → Int32)) => post u.1 u.2) (fun u t => EN D [(o0_q, .inr (1, [.ref o0_bytes_q, .int u.1])), (o0_bytes_q, .inl (cI, o0_bytes_n, .inl u.2)), (o1_q, .inr (1, [.ref o1_bytes_q, .int o1_count])), (o1_bytes_q, .inl (cI, o1_bytes_n, .inl o1_bytes))] A t) A)) (by decide) rfl (Nat.le_of_ble_eq_true rfl) ?_
  intro p e s m args below meth c A ls Q cx hQ hA hl hP hD hS hinit
  obtain ⟨hx, hb, hml, hrt, hown, hta, hlk, hK, hN⟩ := id cx
  have hl : lv_has ls 3 [(0, .ref o0_q), (1, .ref o1_q)] := hl
  have h00 : va_P D CL [(o0_q, .inr (1, [.ref o0_bytes_q, .int o0_count])), (o0_bytes_q, .inl (cI, o0_bytes_n, .inl o0_bytes)), (o1_q, .inr (1, [.ref o1_bytes_q, .int o1_count])), (o1_bytes_q, .inl (cI, o1_bytes_n, .inl o1_bytes))] s.heap := hP
  unfold w_BR_addAll at hw
  obtain ⟨H, eH⟩ : ∃ H, H = s.heap := ⟨_, rfl⟩
  obtain ⟨locs, eL⟩ : ∃ locs : List Loc, locs = [] := ⟨_, rfl⟩
  have hS : va_S A s.heap H locs := by rw [eH, eL]; exact hS
  have hP : va_P D CL [(o0_q, .inr (1, [.ref o0_bytes_q, .int o0_count])), (o0_bytes_q, .inl (cI, o0_bytes_n, .inl o0_bytes)), (o1_q, .inr (1, [.ref o1_bytes_q, .int o1_count])), (o1_bytes_q, .inl (cI, o1_bytes_n, .inl o1_bytes))] H := by rw [eH]; exact hP
  suffices hgo : W p l e rm_BR_addAll s m args below meth c H locs 0 0 Q (F0 m 0 ls []) by rw [eH, eL] at hgo; exact hgo
  clear eH eL h00
  refine lv_iconst (v := 0) hx hb d_BR_addAll_0 (by decide) ?_
  refine lv_istore_n (lv' := [(2, .int 0), (0, .ref o0_q), (1, .ref o1_q)]) hx hb d_BR_addAll_1 rfl hl (by decide) rfl (fun ls hl => ?_)
  have L2 : ∀ (k_25 : Int32 → Int32 → (Nat → Int32) → Prop) (hk_25 : ∀ (v2_4 : Int32) (g_o0_q_1_5 : Int32) (f_o0_bytes_q_6 : Nat → Int32) (H : Heap) (locs : List Loc) (ls : Array Slot), lv_has ls 3 [(2, .int v2_4), (0, .ref o0_q), (1, .ref o1_q)] → va_P D CL [(o0_q, .inr (1, [.ref o0_bytes_q, .int g_o0_q_1_5])), (o0_bytes_q, .inl (cI, o0_bytes_n, .inl f_o0_bytes_q_6)), (o1_q, .inr (1, [.ref o1_bytes_q, .int o1_count])), (o1_bytes_q, .inl (cI, o1_bytes_n, .inl o1_bytes))] H → va_D A [(o0_q, .inr (1, [.ref o0_bytes_q, .int g_o0_q_1_5])), (o0_bytes_q, .inl (cI, o0_bytes_n, .inl f_o0_bytes_q_6)), (o1_q, .inr (1, [.ref o1_bytes_q, .int o1_count])), (o1_bytes_q, .inl (cI, o1_bytes_n, .inl o1_bytes))] → va_S A s.heap H locs → k_25 v2_4 g_o0_q_1_5 f_o0_bytes_q_6 → W p l e rm_BR_addAll s m args below meth c H locs 0 0 Q (F0 m 25 ls [])), ∀ (n : Nat) (v2_4 : Int32) (g_o0_q_1_5 : Int32) (f_o0_bytes_q_6 : Nat → Int32) (H : Heap) (locs : List Loc) (ls : Array Slot), lv_has ls 3 [(2, .int v2_4), (0, .ref o0_q), (1, .ref o1_q)] → va_P D CL [(o0_q, .inr (1, [.ref o0_bytes_q, .int g_o0_q_1_5])), (o0_bytes_q, .inl (cI, o0_bytes_n, .inl f_o0_bytes_q_6)), (o1_q, .inr (1, [.ref o1_bytes_q, .int o1_count])), (o1_bytes_q, .inl (cI, o1_bytes_n, .inl o1_bytes))] H → va_D A [(o0_q, .inr (1, [.ref o0_bytes_q, .int g_o0_q_1_5])), (o0_bytes_q, .inl (cI, o0_bytes_n, .inl f_o0_bytes_q_6)), (o1_q, .inr (1, [.ref o1_bytes_q, .int o1_count])), (o1_bytes_q, .inl (cI, o1_bytes_n, .inl o1_bytes))] → va_S A s.heap H locs → w_BR_addAll_2 o0_bytes_n o1_count o1_bytes_n o1_bytes k_25 n v2_4 g_o0_q_1_5 f_o0_bytes_q_6 → W p l e rm_BR_addAll s m args below meth c H locs 0 0 Q (F0 m 2 ls []) := by
    intro k_25 hk_25 n
    induction n with
    | zero => intro v2_4 g_o0_q_1_5 f_o0_bytes_q_6 H locs ls hl hP hD hS hw; exact hw.elim
    | succ n ih =>
      intro v2_4 g_o0_q_1_5 f_o0_bytes_q_6 H locs ls hl hP hD hS hw
      rw [w_BR_addAll_2] at hw
      refine lv_iload_n hx hb d_BR_addAll_2 rfl (lv_at hl 0 rfl) ?_
      refine lv_aload_n hx hb d_BR_addAll_3 rfl (lv_at hl 2 rfl) ?_
      refine va_get (D := D) (ci := 1) (v := .int o1_count) (C := R_BR) (T := F_BR) (N := 2) hx hb hta lay_BR hown hK hP 2 rfl rfl 1 (by decide) (hta _ k_BR_15) (fun _ h9 => h9) rfl d_BR_addAll_4 ?_
      refine lv_icmp_ge (tgt := 25) hx hb d_BR_addAll_7 (by decide) (fun hc_3 => ?_) (fun hc_3 => ?_)
      · have hw := hw.1 hc_3
        exact hk_25 v2_4 g_o0_q_1_5 f_o0_bytes_q_6 _ _ _ (lv_sub hl [0, 1, 2] rfl) (hP.sub [0, 1, 2, 3] rfl) (hD.sub [0, 1, 2, 3] (by decide) rfl) hS hw
      · have hw := hw.2 hc_3
        refine lv_aload_n hx hb d_BR_addAll_10 rfl (lv_at hl 1 rfl) ?_
        refine lv_aload_n hx hb d_BR_addAll_11 rfl (lv_at hl 2 rfl) ?_
        refine lv_iload_n hx hb d_BR_addAll_12 rfl (lv_at hl 0 rfl) ?_
        refine goR (xV (C := R_BR) (ci := 1) (As := [.int v2_4]) (rest := [.ref o0_q]) (wc := [(o1_q, .inr (1, [.ref o1_bytes_q, .int o1_count])), (o1_bytes_q, .inl (cI, o1_bytes_n, .inl o1_bytes))]) (A := A) cx (c_BR_get l D cI cZ cL H.size o1_q o1_bytes_q o1_count o1_bytes_n o1_bytes v2_4 hw) vw_BR_19 md_BR_get ⟨rfl, rfl, Nat.le_of_ble_eq_true rfl, Nat.le_of_ble_eq_true rfl⟩ (hP.sub [2, 3] rfl) (hD.sub [2, 3] (by decide) rfl) 0 rfl rfl rfl hl.1 (Nat.le_of_ble_eq_true rfl) d_BR_addAll_13 ⟨Nat.le_of_ble_eq_true rfl, Nat.le_of_ble_eq_true rfl⟩ rfl) (fun r_7 hw => ?_)
        try dsimp only at hw
        refine goV (wr := [(o1_q, .inr (1, [.ref o1_bytes_q, .int o1_count])), (o1_bytes_q, .inl (cI, o1_bytes_n, .inl o1_bytes))]) (xV (C := R_BR) (ci := 1) (As := [.int r_7]) (rest := []) (wc := [(o0_q, .inr (1, [.ref o0_bytes_q, .int g_o0_q_1_5])), (o0_bytes_q, .inl (cI, o0_bytes_n, .inl f_o0_bytes_q_6))]) (A := A) cx (c_BR_add l D cI cZ cL H.size o0_q o0_bytes_q g_o0_q_1_5 o0_bytes_n f_o0_bytes_q_6 r_7 hw) vw_BR_23 md_BR_add ⟨rfl, rfl, Nat.le_of_ble_eq_true rfl, Nat.le_of_ble_eq_true rfl⟩ (hP.sub [0, 1] rfl) (hD.sub [0, 1] (by decide) rfl) 0 rfl rfl rfl hl.1 (Nat.le_of_ble_eq_true rfl) d_BR_addAll_16 ⟨Nat.le_of_ble_eq_true rfl, Nat.le_of_ble_eq_true rfl⟩ rfl) hP hD hS hA [0, 1] [2, 3] rfl rfl (by decide) (by decide) (fun u H locs hw hP hD hS => ?_)
        obtain ⟨g_8, f_9⟩ := u
        try dsimp only at hw
        have hP : va_P D CL [(o1_q, .inr (1, [.ref o1_bytes_q, .int o1_count])), (o1_bytes_q, .inl (cI, o1_bytes_n, .inl o1_bytes)), (o0_q, .inr (1, [.ref o0_bytes_q, .int g_8])), (o0_bytes_q, .inl (cI, o0_bytes_n, .inl f_9))] H := hP
        have hD : va_D A [(o1_q, .inr (1, [.ref o1_bytes_q, .int o1_count])), (o1_bytes_q, .inl (cI, o1_bytes_n, .inl o1_bytes)), (o0_q, .inr (1, [.ref o0_bytes_q, .int g_8])), (o0_bytes_q, .inl (cI, o0_bytes_n, .inl f_9))] := hD
        refine lv_iinc (v := v2_4 + 1) (lv' := [(2, .int (v2_4 + 1)), (0, .ref o0_q), (1, .ref o1_q)]) hx hb d_BR_addAll_19 hl (k := 0) rfl rfl (by decide) rfl (fun ls hl => ?_)
        refine lv_goto (tgt := 2) hx hb d_BR_addAll_22 (by decide) ?_
        exact ih (v2_4 + 1) g_8 f_9 _ _ _ (lv_sub hl [0, 1, 2] rfl) (hP.sub [2, 3, 0, 1] rfl) (hD.sub [2, 3, 0, 1] (by decide) rfl) hS hw
  obtain ⟨n_2, hw⟩ := hw
  refine L2 _ (fun v2_4_10 g_o0_q_1_5_11 f_o0_bytes_q_6_12 H locs ls hl hP hD hS hw => ?_) n_2 0 o0_count o0_bytes _ _ _ (lv_sub hl [0, 1, 2] rfl) (hP.sub [0, 1, 2, 3] rfl) (hD.sub [0, 1, 2, 3] (by decide) rfl) hS hw
  have hl : lv_has ls 3 [(2, .int v2_4_10), (0, .ref o0_q), (1, .ref o1_q)] := hl
  have hP : va_P D CL [(o0_q, .inr (1, [.ref o0_bytes_q, .int g_o0_q_1_5_11])), (o0_bytes_q, .inl (cI, o0_bytes_n, .inl f_o0_bytes_q_6_12)), (o1_q, .inr (1, [.ref o1_bytes_q, .int o1_count])), (o1_bytes_q, .inl (cI, o1_bytes_n, .inl o1_bytes))] H := hP
  have hD : va_D A [(o0_q, .inr (1, [.ref o0_bytes_q, .int g_o0_q_1_5_11])), (o0_bytes_q, .inl (cI, o0_bytes_n, .inl f_o0_bytes_q_6_12)), (o1_q, .inr (1, [.ref o1_bytes_q, .int o1_count])), (o1_bytes_q, .inl (cI, o1_bytes_n, .inl o1_bytes))] := hD
  try dsimp only at hw
  exact retV cx hQ d_BR_addAll_25 (g_o0_q_1_5_11, f_o0_bytes_q_6_12) hw (hP.sub [0, 1, 2, 3] rfl) (hD.sub [0, 1, 2, 3] (by decide) rfl) hS
def w_BR_drop (o0_count : Int32) (o0_bytes_n : Nat) (o0_bytes : Nat → Int32) (post : Int32 → Prop) : Prop := post 0
def rm_BR_drop : Room := { frames := 0, cells := 0, slots := 0, locals := 0 }
set_option maxHeartbeats 4000000 in
set_option maxRecDepth 100000 in
theorem c_BR_drop (l : Launch) (D : va_G) (cI cZ cL : ClassId) (sz : Nat) (o0_q : Nat) (o0_bytes_q : Nat) (o0_count : Int32) (o0_bytes_n : Nat) (o0_bytes : Nat → Int32) {post : Int32 → Prop} (hw : w_BR_drop o0_count o0_bytes_n o0_bytes post) : Met l y_BR_drop (Cond.code y_BR_drop b_BR_drop 1 (none) :: AW) rm_BR_drop (va_Pc [.ref o0_q] (ST D cI cZ cL [(o0_q, .inr (1, [.ref o0_bytes_q, .int o0_count])), (o0_bytes_q, .inl (cI, o0_bytes_n, .inl o0_bytes))] sz)) (va_Qv (fun (u : Int32) => post u) (fun u t => EN D [(o0_q, .inr (1, [.ref o0_bytes_q, .int u])), (o0_bytes_q, .inl (cI, o0_bytes_n, .inl o0_bytes))] (va_A [(o0_q, .inr (1, [.ref o0_bytes_q, .int o0_count])), (o0_bytes_q, .inl (cI, o0_bytes_n, .inl o0_bytes))] sz) t) (va_A [(o0_q, .inr (1, [.ref o0_bytes_q, .int o0_count])), (o0_bytes_q, .inl (cI, o0_bytes_n, .inl o0_bytes))] sz)) 0 0 (va_A [(o0_q, .inr (1, [.ref o0_bytes_q, .int o0_count])), (o0_bytes_q, .inl (cI, o0_bytes_n, .inl o0_bytes))] sz) := by
  refine ofM (own := R_BR) (fun A => (va_Qv (fun (u : Int32) => post u) (fun u t => EN D [(o0_q, .inr (1, [.ref o0_bytes_q, .int u])), (o0_bytes_q, .inl (cI, o0_bytes_n, .inl o0_bytes))] A t) A)) (by decide) rfl (Nat.le_of_ble_eq_true rfl) ?_
  intro p e s m args below meth c A ls Q cx hQ hA hl hP hD hS hinit
  obtain ⟨hx, hb, hml, hrt, hown, hta, hlk, hK, hN⟩ := id cx
  have hl : lv_has ls 1 [(0, .ref o0_q)] := hl
  have h00 : va_P D CL [(o0_q, .inr (1, [.ref o0_bytes_q, .int o0_count])), (o0_bytes_q, .inl (cI, o0_bytes_n, .inl o0_bytes))] s.heap := hP
  unfold w_BR_drop at hw
  obtain ⟨H, eH⟩ : ∃ H, H = s.heap := ⟨_, rfl⟩
  obtain ⟨locs, eL⟩ : ∃ locs : List Loc, locs = [] := ⟨_, rfl⟩
  have hS : va_S A s.heap H locs := by rw [eH, eL]; exact hS
  have hP : va_P D CL [(o0_q, .inr (1, [.ref o0_bytes_q, .int o0_count])), (o0_bytes_q, .inl (cI, o0_bytes_n, .inl o0_bytes))] H := by rw [eH]; exact hP
  suffices hgo : W p l e rm_BR_drop s m args below meth c H locs 0 0 Q (F0 m 0 ls []) by rw [eH, eL] at hgo; exact hgo
  clear eH eL h00
  refine lv_aload_n hx hb d_BR_drop_0 rfl (lv_at hl 0 rfl) ?_
  refine lv_iconst (v := 0) hx hb d_BR_drop_1 (by decide) ?_
  refine va_put (D := D) (ci := 1) (v := .int 0) (ty := .int) (C := R_BR) (T := F_BR) (N := 2) hx hb hta lay_BR t_BR t_BR_ok n_BR hown hK hP hD hS 0 rfl rfl 1 (by decide) (hta _ k_BR_15) (fun _ h9 => h9) rfl (by decide +kernel) rfl rfl (Nat.le_of_ble_eq_true rfl) d_BR_drop_2 (fun H locs hP hD hS => ?_)
  have hP : va_P D CL [(o0_q, .inr (1, [.ref o0_bytes_q, .int 0])), (o0_bytes_q, .inl (cI, o0_bytes_n, .inl o0_bytes))] H := hP
  have hD : va_D A [(o0_q, .inr (1, [.ref o0_bytes_q, .int 0])), (o0_bytes_q, .inl (cI, o0_bytes_n, .inl o0_bytes))] := hD
  exact retV cx hQ d_BR_drop_5 0 hw (hP.sub [0, 1] rfl) (hD.sub [0, 1] (by decide) rfl) hS
def w_DF_refusedAt (x0 : Int32) (post : Int32 → Prop) : Prop := post ((-1) - x0)
def rm_DF_refusedAt : Room := { frames := 0, cells := 0, slots := 0, locals := 0 }
set_option maxHeartbeats 4000000 in
set_option maxRecDepth 100000 in
theorem c_DF_refusedAt (l : Launch) (D : va_G) (cI cZ cL : ClassId) (sz : Nat)  (x0 : Int32) {post : Int32 → Prop} (hw : w_DF_refusedAt x0 post) : Met l y_DF_refusedAt (Cond.code y_DF_refusedAt b_DF_refusedAt 1 (some .int) :: AW) rm_DF_refusedAt (va_Pc [.int x0] (ST D cI cZ cL [] sz)) (vp_Si post) 0 0 (fun _ => False) := by
  refine ofR (own := R_DF) (vp_Si post) (by decide) rfl (Nat.le_of_ble_eq_true rfl) ?_
  intro p e s m args below meth c A ls Q cx hQ hl hP hD
  obtain ⟨hx, hb, hml, hrt, hown, hta, hlk, hK, hN⟩ := id cx
  have hl : lv_has ls 1 [(0, .int x0)] := hl
  unfold w_DF_refusedAt at hw
  refine lv_iconst (v := (-1)) hx hb d_DF_refusedAt_0 (by decide) ?_
  refine lv_iload_n hx hb d_DF_refusedAt_1 rfl (lv_at hl 0 rfl) ?_
  refine lv_isub hx hb d_DF_refusedAt_2 ?_
  exact retIr cx hQ d_DF_refusedAt_3 hw
def w_DF_bytesOf (x0 : Int32) (post : Int32 → Prop) : Prop := (x0 = 1 → post 6) ∧ (¬ x0 = 1 → (x0 = 2 → post 6) ∧ (¬ x0 = 2 → (x0 = 3 → post 5) ∧ (¬ x0 = 3 → post 0)))
def rm_DF_bytesOf : Room := { frames := 0, cells := 0, slots := 0, locals := 0 }
set_option maxHeartbeats 4000000 in
set_option maxRecDepth 100000 in
theorem c_DF_bytesOf (l : Launch) (D : va_G) (cI cZ cL : ClassId) (sz : Nat)  (x0 : Int32) {post : Int32 → Prop} (hw : w_DF_bytesOf x0 post) : Met l y_DF_bytesOf (Cond.code y_DF_bytesOf b_DF_bytesOf 1 (some .int) :: AW) rm_DF_bytesOf (va_Pc [.int x0] (ST D cI cZ cL [] sz)) (vp_Si post) 0 0 (fun _ => False) := by
  refine ofR (own := R_DF) (vp_Si post) (by decide) rfl (Nat.le_of_ble_eq_true rfl) ?_
  intro p e s m args below meth c A ls Q cx hQ hl hP hD
  obtain ⟨hx, hb, hml, hrt, hown, hta, hlk, hK, hN⟩ := id cx
  have hl : lv_has ls 1 [(0, .int x0)] := hl
  unfold w_DF_bytesOf at hw
  refine lv_iload_n hx hb d_DF_bytesOf_0 rfl (lv_at hl 0 rfl) ?_
  by_cases hc : x0 = 1
  · have hw := hw.1 hc
    refine lv_tableIn (tgt := 28) hx hb d_DF_bytesOf_1 (by rw [hc]; decide) (by rw [hc]; decide) (by rw [hc]; rfl) (by decide) ?_
    refine lv_bipush (v := 6) hx hb d_DF_bytesOf_28 (by decide) ?_
    exact retIr cx hQ d_DF_bytesOf_30 hw
  · have hw := hw.2 hc
    have hc0 := lv_neT (a := 1) hc (by decide)
    by_cases hc : x0 = 2
    · have hw := hw.1 hc
      refine lv_tableIn (tgt := 28) hx hb d_DF_bytesOf_1 (by rw [hc]; decide) (by rw [hc]; decide) (by rw [hc]; rfl) (by decide) ?_
      refine lv_bipush (v := 6) hx hb d_DF_bytesOf_28 (by decide) ?_
      exact retIr cx hQ d_DF_bytesOf_30 hw
    · have hw := hw.2 hc
      have hc1 := lv_neT (a := 2) hc (by decide)
      by_cases hc : x0 = 3
      · have hw := hw.1 hc
        refine lv_tableIn (tgt := 31) hx hb d_DF_bytesOf_1 (by rw [hc]; decide) (by rw [hc]; decide) (by rw [hc]; rfl) (by decide) ?_
        refine lv_iconst (v := 5) hx hb d_DF_bytesOf_31 (by decide) ?_
        exact retIr cx hQ d_DF_bytesOf_32 hw
      · have hw := hw.2 hc
        have hc2 := lv_neT (a := 3) hc (by decide)
        refine lv_tableOut (tgt := 33) hx hb d_DF_bytesOf_1 (by omega) (by decide) ?_
        refine lv_iconst (v := 0) hx hb d_DF_bytesOf_33 (by decide) ?_
        exact retIr cx hQ d_DF_bytesOf_34 hw
def w_DF_nearestSide (x0 : Int32) (post : Int32 → Prop) : Prop := ∀ m_1 : Int32, m_1 = (if x0 < 24 then x0 else 24) → ∀ m_2 : Int32, m_2 = (if 1 < m_1 then m_1 else 1) → post m_2
def rm_DF_nearestSide : Room := { frames := 1, cells := 0, slots := 0, locals := 21 }
set_option maxHeartbeats 4000000 in
set_option maxRecDepth 100000 in
theorem c_DF_nearestSide (l : Launch) (D : va_G) (cI cZ cL : ClassId) (sz : Nat)  (x0 : Int32) {post : Int32 → Prop} (hw : w_DF_nearestSide x0 post) : Met l y_DF_nearestSide (Cond.code y_DF_nearestSide b_DF_nearestSide 1 (some .int) :: AW) rm_DF_nearestSide (va_Pc [.int x0] (ST D cI cZ cL [] sz)) (vp_Si post) 0 0 (fun _ => False) := by
  refine ofR (own := R_DF) (vp_Si post) (by decide) rfl (Nat.le_of_ble_eq_true rfl) ?_
  intro p e s m args below meth c A ls Q cx hQ hl hP hD
  obtain ⟨hx, hb, hml, hrt, hown, hta, hlk, hK, hN⟩ := id cx
  have hl : lv_has ls 1 [(0, .int x0)] := hl
  unfold w_DF_nearestSide at hw
  refine lv_iconst (v := 1) hx hb d_DF_nearestSide_0 (by decide) ?_
  refine lv_bipush (v := 24) hx hb d_DF_nearestSide_1 (by decide) ?_
  refine lv_iload_n hx hb d_DF_nearestSide_3 rfl (lv_at hl 0 rfl) ?_
  refine va_mmin hx hb (by rw [hml]; exact hl.1.symm) hown (hta _ k_DF_68) (hta _ k_minS) (hta _ k_mathI) (hta _ k_minC) (Nat.le_of_ble_eq_true rfl) (Nat.le_of_ble_eq_true rfl) (Nat.le_of_ble_eq_true rfl) (Nat.le_of_ble_eq_true rfl) d_DF_nearestSide_4 ?_
  refine lv_topi (fun m_1 em_1 => ?_)
  have hw := hw m_1 em_1
  refine va_mmax hx hb (by rw [hml]; exact hl.1.symm) hown (hta _ k_DF_167) (hta _ k_maxS) (hta _ k_mathI) (hta _ k_maxC) (Nat.le_of_ble_eq_true rfl) (Nat.le_of_ble_eq_true rfl) (Nat.le_of_ble_eq_true rfl) (Nat.le_of_ble_eq_true rfl) d_DF_nearestSide_7 ?_
  refine lv_topi (fun m_2 em_2 => ?_)
  have hw := hw m_2 em_2
  exact retIr cx hQ d_DF_nearestSide_10 hw
def w_PL_init (x1 : Int32) (post : Int32 → Int32 → Nat → (Nat → Int32) → Prop) : Prop := ¬ (x1 * 6) < 0 ∧ (x1 * 6).toNatClampNeg ≤ 3456 ∧ (post 0 0 ((x1 * 6).toNatClampNeg) (fun _ => 0))
def rm_PL_init : Room := { frames := 1, cells := 1, slots := 3456, locals := 12 }
set_option maxHeartbeats 4000000 in
set_option maxRecDepth 100000 in
theorem c_PL_init (l : Launch) (D : va_G) (cI cZ cL : ClassId) (sz : Nat) (o0_q : Nat) (x1 : Int32) {post : Int32 → Int32 → Nat → (Nat → Int32) → Prop} (hw : w_PL_init x1 post) : Met l y_PL_init (Cond.code y_PL_init b_PL_init 2 (none) :: AW) rm_PL_init (va_Pc [.ref o0_q, .int x1] (ST D cI cZ cL [(o0_q, .inr (2, [.null, .int 0, .int 0]))] sz)) (va_Qv (fun (u : Int32 × Int32 × Nat × Nat × (Nat → Int32)) => post u.1 u.2.1 u.2.2.2.1 u.2.2.2.2) (fun u t => EN D [(o0_q, .inr (2, [.ref u.2.2.1, .int u.1, .int u.2.1])), (u.2.2.1, .inl (cI, u.2.2.2.1, .inl u.2.2.2.2))] (va_A [(o0_q, .inr (2, [.null, .int 0, .int 0]))] sz) t) (va_A [(o0_q, .inr (2, [.null, .int 0, .int 0]))] sz)) 1 3456 (va_A [(o0_q, .inr (2, [.null, .int 0, .int 0]))] sz) := by
  refine ofM (own := R_PL) (fun A => (va_Qv (fun (u : Int32 × Int32 × Nat × Nat × (Nat → Int32)) => post u.1 u.2.1 u.2.2.2.1 u.2.2.2.2) (fun u t => EN D [(o0_q, .inr (2, [.ref u.2.2.1, .int u.1, .int u.2.1])), (u.2.2.1, .inl (cI, u.2.2.2.1, .inl u.2.2.2.2))] A t) A)) (by decide) rfl (Nat.le_of_ble_eq_true rfl) ?_
  intro p e s m args below meth c A ls Q cx hQ hA hl hP hD hS hinit
  have hin := hinit rfl
  obtain ⟨hx, hb, hml, hrt, hown, hta, hlk, hK, hN⟩ := id cx
  have hl : lv_has ls 2 [(0, .ref o0_q), (1, .int x1)] := hl
  have h00 : va_P D CL [(o0_q, .inr (2, [.null, .int 0, .int 0]))] s.heap := hP
  unfold w_PL_init at hw
  obtain ⟨H, eH⟩ : ∃ H, H = s.heap := ⟨_, rfl⟩
  obtain ⟨locs, eL⟩ : ∃ locs : List Loc, locs = [] := ⟨_, rfl⟩
  have hS : va_S A s.heap H locs := by rw [eH, eL]; exact hS
  have hP : va_P D CL [(o0_q, .inr (2, [.null, .int 0, .int 0]))] H := by rw [eH]; exact hP
  suffices hgo : W p l e rm_PL_init s m args below meth c H locs 0 0 Q (F0 m 0 ls []) by rw [eH, eL] at hgo; exact hgo
  clear eH eL h00
  refine lv_aload_n hx hb d_PL_init_0 rfl (lv_at hl 0 rfl) ?_
  refine W.objInit hx hb hown (hta _ k_PL_3) (hta _ k_objI) (hta _ k_objC) rfl (by rw [hml]; exact hl.1) rfl d_PL_init_1 (Nat.le_of_ble_eq_true rfl) (Nat.le_of_ble_eq_true rfl) ?_
  refine W.eq (g2 := F0 m 4 ls []) rfl ?_
  refine lv_aload_n hx hb d_PL_init_4 rfl (lv_at hl 0 rfl) ?_
  refine lv_iload_n hx hb d_PL_init_5 rfl (lv_at hl 1 rfl) ?_
  refine lv_bipush (v := 6) hx hb d_PL_init_6 (by decide) ?_
  refine lv_imul hx hb d_PL_init_8 ?_
  refine va_newa (atype := .int) (ty := .int) (a0 := ((x1 * 6).toNatClampNeg, .inl (fun _ => 0))) hx hb (hta _ k_arr_int) rfl hK hP hD hS hA (fun _ => rfl) hw.1 rfl (by have h9 := hw.2.1; show _ * 4 ≤ _; omega) (Nat.le_of_ble_eq_true rfl) (by have h9 := hw.2.1; show 0 + _ ≤ 3456; omega) d_PL_init_9 (fun q_1 cA H hK9 hP hD hS => ?_)
  rw [newA_cI hK9] at hP hD
  have hP : va_P D CL [(o0_q, .inr (2, [.null, .int 0, .int 0])), (q_1, .inl (cI, ((x1 * 6).toNatClampNeg), .inl (fun _ => 0)))] H := hP
  have hD : va_D A [(o0_q, .inr (2, [.null, .int 0, .int 0])), (q_1, .inl (cI, ((x1 * 6).toNatClampNeg), .inl (fun _ => 0)))] := hD
  refine W.widen (k := 1) (n := 3456) (by decide) (by have h9 := hw.2.1; omega) ?_
  have hw := hw.2.2
  refine va_putF (D := D) (ci := 2) (v := .ref q_1) (ty := .array .int) (C := R_PL) (T := F_PL) (N := 3) hx hb hta lay_PL t_PL t_PL_ok n_PL hown hK hP hD hS 0 rfl rfl 0 (by decide) (hta _ k_PL_9) (fun _ h9 => h9) rfl hin rfl (by decide +kernel) rfl rfl (Nat.le_of_ble_eq_true rfl) d_PL_init_11 (fun H locs hP hD hS => ?_)
  have hP : va_P D CL [(o0_q, .inr (2, [.ref q_1, .int 0, .int 0])), (q_1, .inl (cI, ((x1 * 6).toNatClampNeg), .inl (fun _ => 0)))] H := hP
  have hD : va_D A [(o0_q, .inr (2, [.ref q_1, .int 0, .int 0])), (q_1, .inl (cI, ((x1 * 6).toNatClampNeg), .inl (fun _ => 0)))] := hD
  exact retV cx hQ d_PL_init_14 (0, 0, q_1, (x1 * 6).toNatClampNeg, fun _ => 0) hw (hP.sub [0, 1] rfl) (hD.sub [0, 1] (by decide) rfl) hS
def w_PL_add (o0_count : Int32) (o0_byteLength : Int32) (o0_fields_n : Nat) (o0_fields : Nat → Int32) (x1 : Int32) (x2 : Int32) (x3 : Int32) (x4 : Int32) (x5 : Int32) (x6 : Int32) (post : Int32 → Int32 → (Nat → Int32) → Prop) : Prop := ((o0_count * 6) < 0 → post o0_count o0_byteLength o0_fields) ∧ (¬ (o0_count * 6) < 0 → (((o0_count * 6) + 6) ≤ (nI o0_fields_n) → vp_in (o0_count * 6) o0_fields_n ∧ (vp_in ((o0_count * 6) + 1) o0_fields_n ∧ (vp_in ((o0_count * 6) + 2) o0_fields_n ∧ (vp_in ((o0_count * 6) + 3) o0_fields_n ∧ (vp_in ((o0_count * 6) + 4) o0_fields_n ∧ (vp_in ((o0_count * 6) + 5) o0_fields_n ∧ (w_DF_bytesOf x1 (fun r_1 => post (o0_count + 1) (o0_byteLength + r_1) (upd (upd (upd (upd (upd (upd o0_fields (o0_count * 6).toNatClampNeg x1) ((o0_count * 6) + 1).toNatClampNeg x2) ((o0_count * 6) + 2).toNatClampNeg x3) ((o0_count * 6) + 3).toNatClampNeg x4) ((o0_count * 6) + 4).toNatClampNeg x5) ((o0_count * 6) + 5).toNatClampNeg x6))))))))) ∧ (¬ ((o0_count * 6) + 6) ≤ (nI o0_fields_n) → post o0_count o0_byteLength o0_fields))
def rm_PL_add : Room := { frames := 1, cells := 0, slots := 0, locals := 20 }
set_option maxHeartbeats 4000000 in
set_option maxRecDepth 100000 in
theorem c_PL_add (l : Launch) (D : va_G) (cI cZ cL : ClassId) (sz : Nat) (o0_q : Nat) (o0_fields_q : Nat) (o0_count : Int32) (o0_byteLength : Int32) (o0_fields_n : Nat) (o0_fields : Nat → Int32) (x1 : Int32) (x2 : Int32) (x3 : Int32) (x4 : Int32) (x5 : Int32) (x6 : Int32) {post : Int32 → Int32 → (Nat → Int32) → Prop} (hw : w_PL_add o0_count o0_byteLength o0_fields_n o0_fields x1 x2 x3 x4 x5 x6 post) : Met l y_PL_add (Cond.code y_PL_add b_PL_add 8 (none) :: AW) rm_PL_add (va_Pc [.ref o0_q, .int x1, .int x2, .int x3, .int x4, .int x5, .int x6] (ST D cI cZ cL [(o0_q, .inr (2, [.ref o0_fields_q, .int o0_count, .int o0_byteLength])), (o0_fields_q, .inl (cI, o0_fields_n, .inl o0_fields))] sz)) (va_Qv (fun (u : Int32 × Int32 × (Nat → Int32)) => post u.1 u.2.1 u.2.2) (fun u t => EN D [(o0_q, .inr (2, [.ref o0_fields_q, .int u.1, .int u.2.1])), (o0_fields_q, .inl (cI, o0_fields_n, .inl u.2.2))] (va_A [(o0_q, .inr (2, [.ref o0_fields_q, .int o0_count, .int o0_byteLength])), (o0_fields_q, .inl (cI, o0_fields_n, .inl o0_fields))] sz) t) (va_A [(o0_q, .inr (2, [.ref o0_fields_q, .int o0_count, .int o0_byteLength])), (o0_fields_q, .inl (cI, o0_fields_n, .inl o0_fields))] sz)) 0 0 (va_A [(o0_q, .inr (2, [.ref o0_fields_q, .int o0_count, .int o0_byteLength])), (o0_fields_q, .inl (cI, o0_fields_n, .inl o0_fields))] sz) := by
  refine ofM (own := R_PL) (fun A => (va_Qv (fun (u : Int32 × Int32 × (Nat → Int32)) => post u.1 u.2.1 u.2.2) (fun u t => EN D [(o0_q, .inr (2, [.ref o0_fields_q, .int u.1, .int u.2.1])), (o0_fields_q, .inl (cI, o0_fields_n, .inl u.2.2))] A t) A)) (by decide) rfl (Nat.le_of_ble_eq_true rfl) ?_
  intro p e s m args below meth c A ls Q cx hQ hA hl hP hD hS hinit
  obtain ⟨hx, hb, hml, hrt, hown, hta, hlk, hK, hN⟩ := id cx
  have hl : lv_has ls 8 [(0, .ref o0_q), (1, .int x1), (2, .int x2), (3, .int x3), (4, .int x4), (5, .int x5), (6, .int x6)] := hl
  have h00 : va_P D CL [(o0_q, .inr (2, [.ref o0_fields_q, .int o0_count, .int o0_byteLength])), (o0_fields_q, .inl (cI, o0_fields_n, .inl o0_fields))] s.heap := hP
  unfold w_PL_add at hw
  obtain ⟨H, eH⟩ : ∃ H, H = s.heap := ⟨_, rfl⟩
  obtain ⟨locs, eL⟩ : ∃ locs : List Loc, locs = [] := ⟨_, rfl⟩
  have hS : va_S A s.heap H locs := by rw [eH, eL]; exact hS
  have hP : va_P D CL [(o0_q, .inr (2, [.ref o0_fields_q, .int o0_count, .int o0_byteLength])), (o0_fields_q, .inl (cI, o0_fields_n, .inl o0_fields))] H := by rw [eH]; exact hP
  suffices hgo : W p l e rm_PL_add s m args below meth c H locs 0 0 Q (F0 m 0 ls []) by rw [eH, eL] at hgo; exact hgo
  clear eH eL h00
  refine lv_aload_n hx hb d_PL_add_0 rfl (lv_at hl 0 rfl) ?_
  refine va_get (D := D) (ci := 2) (v := .int o0_count) (C := R_PL) (T := F_PL) (N := 3) hx hb hta lay_PL hown hK hP 0 rfl rfl 1 (by decide) (hta _ k_PL_15) (fun _ h9 => h9) rfl d_PL_add_1 ?_
  refine lv_bipush (v := 6) hx hb d_PL_add_4 (by decide) ?_
  refine lv_imul hx hb d_PL_add_6 ?_
  refine lv_istore (lv' := [(7, .int (o0_count * 6)), (0, .ref o0_q), (1, .int x1), (2, .int x2), (3, .int x3), (4, .int x4), (5, .int x5), (6, .int x6)]) hx hb d_PL_add_7 hl (by decide) rfl (fun ls hl => ?_)
  refine lv_iload hx hb d_PL_add_9 (lv_at hl 0 rfl) ?_
  refine lv_if_lt (tgt := 27) hx hb d_PL_add_11 (by decide) (fun hc_1 => ?_) (fun hc_1 => ?_)
  · have hw := hw.1 hc_1
    exact retV cx hQ d_PL_add_27 (o0_count, o0_byteLength, o0_fields) hw (hP.sub [0, 1] rfl) (hD.sub [0, 1] (by decide) rfl) hS
  · have hw := hw.2 hc_1
    refine lv_iload hx hb d_PL_add_14 (lv_at hl 0 rfl) ?_
    refine lv_bipush (v := 6) hx hb d_PL_add_16 (by decide) ?_
    refine lv_iadd hx hb d_PL_add_18 ?_
    refine lv_aload_n hx hb d_PL_add_19 rfl (lv_at hl 1 rfl) ?_
    refine va_get (D := D) (ci := 2) (v := .ref o0_fields_q) (C := R_PL) (T := F_PL) (N := 3) hx hb hta lay_PL hown hK hP 0 rfl rfl 0 (by decide) (hta _ k_PL_9) (fun _ h9 => h9) rfl d_PL_add_20 ?_
    refine va_alen (v := nI o0_fields_n) hx hb hK hP 1 0 rfl rfl rfl d_PL_add_23 ?_
    refine lv_icmp_le (tgt := 28) hx hb d_PL_add_24 (by decide) (fun hc_2 => ?_) (fun hc_2 => ?_)
    · have hw := hw.1 hc_2
      refine lv_aload_n hx hb d_PL_add_28 rfl (lv_at hl 1 rfl) ?_
      refine va_get (D := D) (ci := 2) (v := .ref o0_fields_q) (C := R_PL) (T := F_PL) (N := 3) hx hb hta lay_PL hown hK hP 0 rfl rfl 0 (by decide) (hta _ k_PL_9) (fun _ h9 => h9) rfl d_PL_add_29 ?_
      refine lv_iload hx hb d_PL_add_32 (lv_at hl 0 rfl) ?_
      refine lv_iload_n hx hb d_PL_add_34 rfl (lv_at hl 2 rfl) ?_
      refine va_iast hx hb hK hP hD hS 1 0 rfl rfl hw.1 d_PL_add_35 (fun H locs hP hD hS => ?_)
      have hw := hw.2
      have hP : va_P D CL [(o0_q, .inr (2, [.ref o0_fields_q, .int o0_count, .int o0_byteLength])), (o0_fields_q, .inl (cI, o0_fields_n, .inl (upd o0_fields (o0_count * 6).toNatClampNeg x1)))] H := hP
      have hD : va_D A [(o0_q, .inr (2, [.ref o0_fields_q, .int o0_count, .int o0_byteLength])), (o0_fields_q, .inl (cI, o0_fields_n, .inl (upd o0_fields (o0_count * 6).toNatClampNeg x1)))] := hD
      refine lv_aload_n hx hb d_PL_add_36 rfl (lv_at hl 1 rfl) ?_
      refine va_get (D := D) (ci := 2) (v := .ref o0_fields_q) (C := R_PL) (T := F_PL) (N := 3) hx hb hta lay_PL hown hK hP 0 rfl rfl 0 (by decide) (hta _ k_PL_9) (fun _ h9 => h9) rfl d_PL_add_37 ?_
      refine lv_iload hx hb d_PL_add_40 (lv_at hl 0 rfl) ?_
      refine lv_iconst (v := 1) hx hb d_PL_add_42 (by decide) ?_
      refine lv_iadd hx hb d_PL_add_43 ?_
      refine lv_iload_n hx hb d_PL_add_44 rfl (lv_at hl 3 rfl) ?_
      refine va_iast hx hb hK hP hD hS 1 0 rfl rfl hw.1 d_PL_add_45 (fun H locs hP hD hS => ?_)
      have hw := hw.2
      have hP : va_P D CL [(o0_q, .inr (2, [.ref o0_fields_q, .int o0_count, .int o0_byteLength])), (o0_fields_q, .inl (cI, o0_fields_n, .inl (upd (upd o0_fields (o0_count * 6).toNatClampNeg x1) ((o0_count * 6) + 1).toNatClampNeg x2)))] H := hP
      have hD : va_D A [(o0_q, .inr (2, [.ref o0_fields_q, .int o0_count, .int o0_byteLength])), (o0_fields_q, .inl (cI, o0_fields_n, .inl (upd (upd o0_fields (o0_count * 6).toNatClampNeg x1) ((o0_count * 6) + 1).toNatClampNeg x2)))] := hD
      refine lv_aload_n hx hb d_PL_add_46 rfl (lv_at hl 1 rfl) ?_
      refine va_get (D := D) (ci := 2) (v := .ref o0_fields_q) (C := R_PL) (T := F_PL) (N := 3) hx hb hta lay_PL hown hK hP 0 rfl rfl 0 (by decide) (hta _ k_PL_9) (fun _ h9 => h9) rfl d_PL_add_47 ?_
      refine lv_iload hx hb d_PL_add_50 (lv_at hl 0 rfl) ?_
      refine lv_iconst (v := 2) hx hb d_PL_add_52 (by decide) ?_
      refine lv_iadd hx hb d_PL_add_53 ?_
      refine lv_iload_n hx hb d_PL_add_54 rfl (lv_at hl 4 rfl) ?_
      refine va_iast hx hb hK hP hD hS 1 0 rfl rfl hw.1 d_PL_add_55 (fun H locs hP hD hS => ?_)
      have hw := hw.2
      have hP : va_P D CL [(o0_q, .inr (2, [.ref o0_fields_q, .int o0_count, .int o0_byteLength])), (o0_fields_q, .inl (cI, o0_fields_n, .inl (upd (upd (upd o0_fields (o0_count * 6).toNatClampNeg x1) ((o0_count * 6) + 1).toNatClampNeg x2) ((o0_count * 6) + 2).toNatClampNeg x3)))] H := hP
      have hD : va_D A [(o0_q, .inr (2, [.ref o0_fields_q, .int o0_count, .int o0_byteLength])), (o0_fields_q, .inl (cI, o0_fields_n, .inl (upd (upd (upd o0_fields (o0_count * 6).toNatClampNeg x1) ((o0_count * 6) + 1).toNatClampNeg x2) ((o0_count * 6) + 2).toNatClampNeg x3)))] := hD
      refine lv_aload_n hx hb d_PL_add_56 rfl (lv_at hl 1 rfl) ?_
      refine va_get (D := D) (ci := 2) (v := .ref o0_fields_q) (C := R_PL) (T := F_PL) (N := 3) hx hb hta lay_PL hown hK hP 0 rfl rfl 0 (by decide) (hta _ k_PL_9) (fun _ h9 => h9) rfl d_PL_add_57 ?_
      refine lv_iload hx hb d_PL_add_60 (lv_at hl 0 rfl) ?_
      refine lv_iconst (v := 3) hx hb d_PL_add_62 (by decide) ?_
      refine lv_iadd hx hb d_PL_add_63 ?_
      refine lv_iload hx hb d_PL_add_64 (lv_at hl 5 rfl) ?_
      refine va_iast hx hb hK hP hD hS 1 0 rfl rfl hw.1 d_PL_add_66 (fun H locs hP hD hS => ?_)
      have hw := hw.2
      have hP : va_P D CL [(o0_q, .inr (2, [.ref o0_fields_q, .int o0_count, .int o0_byteLength])), (o0_fields_q, .inl (cI, o0_fields_n, .inl (upd (upd (upd (upd o0_fields (o0_count * 6).toNatClampNeg x1) ((o0_count * 6) + 1).toNatClampNeg x2) ((o0_count * 6) + 2).toNatClampNeg x3) ((o0_count * 6) + 3).toNatClampNeg x4)))] H := hP
      have hD : va_D A [(o0_q, .inr (2, [.ref o0_fields_q, .int o0_count, .int o0_byteLength])), (o0_fields_q, .inl (cI, o0_fields_n, .inl (upd (upd (upd (upd o0_fields (o0_count * 6).toNatClampNeg x1) ((o0_count * 6) + 1).toNatClampNeg x2) ((o0_count * 6) + 2).toNatClampNeg x3) ((o0_count * 6) + 3).toNatClampNeg x4)))] := hD
      refine lv_aload_n hx hb d_PL_add_67 rfl (lv_at hl 1 rfl) ?_
      refine va_get (D := D) (ci := 2) (v := .ref o0_fields_q) (C := R_PL) (T := F_PL) (N := 3) hx hb hta lay_PL hown hK hP 0 rfl rfl 0 (by decide) (hta _ k_PL_9) (fun _ h9 => h9) rfl d_PL_add_68 ?_
      refine lv_iload hx hb d_PL_add_71 (lv_at hl 0 rfl) ?_
      refine lv_iconst (v := 4) hx hb d_PL_add_73 (by decide) ?_
      refine lv_iadd hx hb d_PL_add_74 ?_
      refine lv_iload hx hb d_PL_add_75 (lv_at hl 6 rfl) ?_
      refine va_iast hx hb hK hP hD hS 1 0 rfl rfl hw.1 d_PL_add_77 (fun H locs hP hD hS => ?_)
      have hw := hw.2
      have hP : va_P D CL [(o0_q, .inr (2, [.ref o0_fields_q, .int o0_count, .int o0_byteLength])), (o0_fields_q, .inl (cI, o0_fields_n, .inl (upd (upd (upd (upd (upd o0_fields (o0_count * 6).toNatClampNeg x1) ((o0_count * 6) + 1).toNatClampNeg x2) ((o0_count * 6) + 2).toNatClampNeg x3) ((o0_count * 6) + 3).toNatClampNeg x4) ((o0_count * 6) + 4).toNatClampNeg x5)))] H := hP
      have hD : va_D A [(o0_q, .inr (2, [.ref o0_fields_q, .int o0_count, .int o0_byteLength])), (o0_fields_q, .inl (cI, o0_fields_n, .inl (upd (upd (upd (upd (upd o0_fields (o0_count * 6).toNatClampNeg x1) ((o0_count * 6) + 1).toNatClampNeg x2) ((o0_count * 6) + 2).toNatClampNeg x3) ((o0_count * 6) + 3).toNatClampNeg x4) ((o0_count * 6) + 4).toNatClampNeg x5)))] := hD
      refine lv_aload_n hx hb d_PL_add_78 rfl (lv_at hl 1 rfl) ?_
      refine va_get (D := D) (ci := 2) (v := .ref o0_fields_q) (C := R_PL) (T := F_PL) (N := 3) hx hb hta lay_PL hown hK hP 0 rfl rfl 0 (by decide) (hta _ k_PL_9) (fun _ h9 => h9) rfl d_PL_add_79 ?_
      refine lv_iload hx hb d_PL_add_82 (lv_at hl 0 rfl) ?_
      refine lv_iconst (v := 5) hx hb d_PL_add_84 (by decide) ?_
      refine lv_iadd hx hb d_PL_add_85 ?_
      refine lv_iload hx hb d_PL_add_86 (lv_at hl 7 rfl) ?_
      refine va_iast hx hb hK hP hD hS 1 0 rfl rfl hw.1 d_PL_add_88 (fun H locs hP hD hS => ?_)
      have hw := hw.2
      have hP : va_P D CL [(o0_q, .inr (2, [.ref o0_fields_q, .int o0_count, .int o0_byteLength])), (o0_fields_q, .inl (cI, o0_fields_n, .inl (upd (upd (upd (upd (upd (upd o0_fields (o0_count * 6).toNatClampNeg x1) ((o0_count * 6) + 1).toNatClampNeg x2) ((o0_count * 6) + 2).toNatClampNeg x3) ((o0_count * 6) + 3).toNatClampNeg x4) ((o0_count * 6) + 4).toNatClampNeg x5) ((o0_count * 6) + 5).toNatClampNeg x6)))] H := hP
      have hD : va_D A [(o0_q, .inr (2, [.ref o0_fields_q, .int o0_count, .int o0_byteLength])), (o0_fields_q, .inl (cI, o0_fields_n, .inl (upd (upd (upd (upd (upd (upd o0_fields (o0_count * 6).toNatClampNeg x1) ((o0_count * 6) + 1).toNatClampNeg x2) ((o0_count * 6) + 2).toNatClampNeg x3) ((o0_count * 6) + 3).toNatClampNeg x4) ((o0_count * 6) + 4).toNatClampNeg x5) ((o0_count * 6) + 5).toNatClampNeg x6)))] := hD
      refine lv_aload_n hx hb d_PL_add_89 rfl (lv_at hl 1 rfl) ?_
      refine lv_dup hx hb d_PL_add_90 rfl ?_
      refine va_get (D := D) (ci := 2) (v := .int o0_count) (C := R_PL) (T := F_PL) (N := 3) hx hb hta lay_PL hown hK hP 0 rfl rfl 1 (by decide) (hta _ k_PL_15) (fun _ h9 => h9) rfl d_PL_add_91 ?_
      refine lv_iconst (v := 1) hx hb d_PL_add_94 (by decide) ?_
      refine lv_iadd hx hb d_PL_add_95 ?_
      refine va_put (D := D) (ci := 2) (v := .int (o0_count + 1)) (ty := .int) (C := R_PL) (T := F_PL) (N := 3) hx hb hta lay_PL t_PL t_PL_ok n_PL hown hK hP hD hS 0 rfl rfl 1 (by decide) (hta _ k_PL_15) (fun _ h9 => h9) rfl (by decide +kernel) rfl rfl (Nat.le_of_ble_eq_true rfl) d_PL_add_96 (fun H locs hP hD hS => ?_)
      have hP : va_P D CL [(o0_q, .inr (2, [.ref o0_fields_q, .int (o0_count + 1), .int o0_byteLength])), (o0_fields_q, .inl (cI, o0_fields_n, .inl (upd (upd (upd (upd (upd (upd o0_fields (o0_count * 6).toNatClampNeg x1) ((o0_count * 6) + 1).toNatClampNeg x2) ((o0_count * 6) + 2).toNatClampNeg x3) ((o0_count * 6) + 3).toNatClampNeg x4) ((o0_count * 6) + 4).toNatClampNeg x5) ((o0_count * 6) + 5).toNatClampNeg x6)))] H := hP
      have hD : va_D A [(o0_q, .inr (2, [.ref o0_fields_q, .int (o0_count + 1), .int o0_byteLength])), (o0_fields_q, .inl (cI, o0_fields_n, .inl (upd (upd (upd (upd (upd (upd o0_fields (o0_count * 6).toNatClampNeg x1) ((o0_count * 6) + 1).toNatClampNeg x2) ((o0_count * 6) + 2).toNatClampNeg x3) ((o0_count * 6) + 3).toNatClampNeg x4) ((o0_count * 6) + 4).toNatClampNeg x5) ((o0_count * 6) + 5).toNatClampNeg x6)))] := hD
      refine lv_aload_n hx hb d_PL_add_99 rfl (lv_at hl 1 rfl) ?_
      refine lv_dup hx hb d_PL_add_100 rfl ?_
      refine va_get (D := D) (ci := 2) (v := .int o0_byteLength) (C := R_PL) (T := F_PL) (N := 3) hx hb hta lay_PL hown hK hP 0 rfl rfl 2 (by decide) (hta _ k_PL_19) (fun _ h9 => h9) rfl d_PL_add_101 ?_
      refine lv_iload_n hx hb d_PL_add_104 rfl (lv_at hl 2 rfl) ?_
      refine goR (xSN (As := [.int x1]) (rest := [.int o0_byteLength, .ref o0_q]) (wc := []) (A := A) cx (c_DF_bytesOf l D cI cZ cL H.size x1 hw) sn_PL_22 md_DF_bytesOf ⟨rfl, rfl, Nat.le_of_ble_eq_true rfl, Nat.le_of_ble_eq_true rfl⟩ (hP.sub [] rfl) (hD.sub [] (by decide) rfl) rfl hl.1 (Nat.le_of_ble_eq_true rfl) d_PL_add_105 ⟨Nat.le_of_ble_eq_true rfl, Nat.le_of_ble_eq_true rfl⟩ rfl) (fun r_1 hw => ?_)
      try dsimp only at hw
      refine lv_iadd hx hb d_PL_add_108 ?_
      refine va_put (D := D) (ci := 2) (v := .int (o0_byteLength + r_1)) (ty := .int) (C := R_PL) (T := F_PL) (N := 3) hx hb hta lay_PL t_PL t_PL_ok n_PL hown hK hP hD hS 0 rfl rfl 2 (by decide) (hta _ k_PL_19) (fun _ h9 => h9) rfl (by decide +kernel) rfl rfl (Nat.le_of_ble_eq_true rfl) d_PL_add_109 (fun H locs hP hD hS => ?_)
      have hP : va_P D CL [(o0_q, .inr (2, [.ref o0_fields_q, .int (o0_count + 1), .int (o0_byteLength + r_1)])), (o0_fields_q, .inl (cI, o0_fields_n, .inl (upd (upd (upd (upd (upd (upd o0_fields (o0_count * 6).toNatClampNeg x1) ((o0_count * 6) + 1).toNatClampNeg x2) ((o0_count * 6) + 2).toNatClampNeg x3) ((o0_count * 6) + 3).toNatClampNeg x4) ((o0_count * 6) + 4).toNatClampNeg x5) ((o0_count * 6) + 5).toNatClampNeg x6)))] H := hP
      have hD : va_D A [(o0_q, .inr (2, [.ref o0_fields_q, .int (o0_count + 1), .int (o0_byteLength + r_1)])), (o0_fields_q, .inl (cI, o0_fields_n, .inl (upd (upd (upd (upd (upd (upd o0_fields (o0_count * 6).toNatClampNeg x1) ((o0_count * 6) + 1).toNatClampNeg x2) ((o0_count * 6) + 2).toNatClampNeg x3) ((o0_count * 6) + 3).toNatClampNeg x4) ((o0_count * 6) + 4).toNatClampNeg x5) ((o0_count * 6) + 5).toNatClampNeg x6)))] := hD
      exact retV cx hQ d_PL_add_112 (o0_count + 1, o0_byteLength + r_1, upd (upd (upd (upd (upd (upd o0_fields (o0_count * 6).toNatClampNeg x1) ((o0_count * 6) + 1).toNatClampNeg x2) ((o0_count * 6) + 2).toNatClampNeg x3) ((o0_count * 6) + 3).toNatClampNeg x4) ((o0_count * 6) + 4).toNatClampNeg x5) ((o0_count * 6) + 5).toNatClampNeg x6) hw (hP.sub [0, 1] rfl) (hD.sub [0, 1] (by decide) rfl) hS
    · have hw := hw.2 hc_2
      exact retV cx hQ d_PL_add_27 (o0_count, o0_byteLength, o0_fields) hw (hP.sub [0, 1] rfl) (hD.sub [0, 1] (by decide) rfl) hS
def w_PL_field (o0_count : Int32) (o0_byteLength : Int32) (o0_fields_n : Nat) (o0_fields : Nat → Int32) (x1 : Int32) (x2 : Int32) (post : Int32 → Prop) : Prop := (((x1 * 6) + x2) < 0 → post (-1)) ∧ (¬ ((x1 * 6) + x2) < 0 → ((nI o0_fields_n) ≤ ((x1 * 6) + x2) → post (-1)) ∧ (¬ (nI o0_fields_n) ≤ ((x1 * 6) + x2) → vp_in ((x1 * 6) + x2) o0_fields_n ∧ (post (o0_fields ((x1 * 6) + x2).toNatClampNeg))))
def rm_PL_field : Room := { frames := 0, cells := 0, slots := 0, locals := 0 }
set_option maxHeartbeats 4000000 in
set_option maxRecDepth 100000 in
theorem c_PL_field (l : Launch) (D : va_G) (cI cZ cL : ClassId) (sz : Nat) (o0_q : Nat) (o0_fields_q : Nat) (o0_count : Int32) (o0_byteLength : Int32) (o0_fields_n : Nat) (o0_fields : Nat → Int32) (x1 : Int32) (x2 : Int32) {post : Int32 → Prop} (hw : w_PL_field o0_count o0_byteLength o0_fields_n o0_fields x1 x2 post) : Met l y_PL_field (Cond.code y_PL_field b_PL_field 4 (some .int) :: AW) rm_PL_field (va_Pc [.ref o0_q, .int x1, .int x2] (ST D cI cZ cL [(o0_q, .inr (2, [.ref o0_fields_q, .int o0_count, .int o0_byteLength])), (o0_fields_q, .inl (cI, o0_fields_n, .inl o0_fields))] sz)) (vp_Si post) 0 0 (fun _ => False) := by
  refine ofR (own := R_PL) (vp_Si post) (by decide) rfl (Nat.le_of_ble_eq_true rfl) ?_
  intro p e s m args below meth c A ls Q cx hQ hl hP hD
  obtain ⟨hx, hb, hml, hrt, hown, hta, hlk, hK, hN⟩ := id cx
  have hl : lv_has ls 4 [(0, .ref o0_q), (1, .int x1), (2, .int x2)] := hl
  unfold w_PL_field at hw
  refine lv_iload_n hx hb d_PL_field_0 rfl (lv_at hl 1 rfl) ?_
  refine lv_bipush (v := 6) hx hb d_PL_field_1 (by decide) ?_
  refine lv_imul hx hb d_PL_field_3 ?_
  refine lv_iload_n hx hb d_PL_field_4 rfl (lv_at hl 2 rfl) ?_
  refine lv_iadd hx hb d_PL_field_5 ?_
  refine lv_istore_n (lv' := [(3, .int ((x1 * 6) + x2)), (0, .ref o0_q), (1, .int x1), (2, .int x2)]) hx hb d_PL_field_6 rfl hl (by decide) rfl (fun ls hl => ?_)
  refine lv_iload_n hx hb d_PL_field_7 rfl (lv_at hl 0 rfl) ?_
  refine lv_if_lt (tgt := 29) hx hb d_PL_field_8 (by decide) (fun hc_1 => ?_) (fun hc_1 => ?_)
  · have hw := hw.1 hc_1
    refine lv_iconst (v := (-1)) hx hb d_PL_field_29 (by decide) ?_
    exact retIr cx hQ d_PL_field_30 hw
  · have hw := hw.2 hc_1
    refine lv_iload_n hx hb d_PL_field_11 rfl (lv_at hl 0 rfl) ?_
    refine lv_aload_n hx hb d_PL_field_12 rfl (lv_at hl 1 rfl) ?_
    refine va_get (D := D) (ci := 2) (v := .ref o0_fields_q) (C := R_PL) (T := F_PL) (N := 3) hx hb hta lay_PL hown hK hP 0 rfl rfl 0 (by decide) (hta _ k_PL_9) (fun _ h9 => h9) rfl d_PL_field_13 ?_
    refine va_alen (v := nI o0_fields_n) hx hb hK hP 1 0 rfl rfl rfl d_PL_field_16 ?_
    refine lv_icmp_ge (tgt := 29) hx hb d_PL_field_17 (by decide) (fun hc_2 => ?_) (fun hc_2 => ?_)
    · have hw := hw.1 hc_2
      refine lv_iconst (v := (-1)) hx hb d_PL_field_29 (by decide) ?_
      exact retIr cx hQ d_PL_field_30 hw
    · have hw := hw.2 hc_2
      refine lv_aload_n hx hb d_PL_field_20 rfl (lv_at hl 1 rfl) ?_
      refine va_get (D := D) (ci := 2) (v := .ref o0_fields_q) (C := R_PL) (T := F_PL) (N := 3) hx hb hta lay_PL hown hK hP 0 rfl rfl 0 (by decide) (hta _ k_PL_9) (fun _ h9 => h9) rfl d_PL_field_21 ?_
      refine lv_iload_n hx hb d_PL_field_24 rfl (lv_at hl 0 rfl) ?_
      refine va_iald hx hb hK hP 1 0 rfl rfl hw.1 d_PL_field_25 ?_
      have hw := hw.2
      refine lv_goto (tgt := 30) hx hb d_PL_field_26 (by decide) ?_
      exact retIr cx hQ d_PL_field_30 hw
def w_PL_writeTo_20 (o0_count : Int32) (o0_byteLength : Int32) (o0_fields_n : Nat) (o0_fields : Nat → Int32) (o1_bytes_n : Nat) (v2_4 : Int32) (r_7 : Int32) (k_67 : Int32 → Int32 → (Nat → Int32) → Prop) : Nat → Int32 → Int32 → (Nat → Int32) → Prop
  | 0, _, _, _ => False
  | n + 1, v4_11, g_o1_q_1_12, f_o1_bytes_q_13 => w_DF_bytesOf r_7 (fun r_14 => (r_14 ≤ v4_11 → k_67 v4_11 g_o1_q_1_12 f_o1_bytes_q_13) ∧ (¬ r_14 ≤ v4_11 → (¬ r_7 = 2 → w_PL_field o0_count o0_byteLength o0_fields_n o0_fields v2_4 v4_11 (fun r_15 => w_BR_add g_o1_q_1_12 o1_bytes_n f_o1_bytes_q_13 (r_15 + 0) (fun (g_16 : Int32) (f_17 : Nat → Int32) => w_PL_writeTo_20 o0_count o0_byteLength o0_fields_n o0_fields o1_bytes_n v2_4 r_7 k_67 n (v4_11 + 1) g_16 f_17))) ∧ (r_7 = 2 → (¬ v4_11 = 4 → w_PL_field o0_count o0_byteLength o0_fields_n o0_fields v2_4 v4_11 (fun r_18 => w_BR_add g_o1_q_1_12 o1_bytes_n f_o1_bytes_q_13 (r_18 + 0) (fun (g_19 : Int32) (f_20 : Nat → Int32) => w_PL_writeTo_20 o0_count o0_byteLength o0_fields_n o0_fields o1_bytes_n v2_4 r_7 k_67 n (v4_11 + 1) g_19 f_20))) ∧ (v4_11 = 4 → w_PL_field o0_count o0_byteLength o0_fields_n o0_fields v2_4 v4_11 (fun r_21 => w_BR_add g_o1_q_1_12 o1_bytes_n f_o1_bytes_q_13 (r_21 + 4) (fun (g_22 : Int32) (f_23 : Nat → Int32) => w_PL_writeTo_20 o0_count o0_byteLength o0_fields_n o0_fields o1_bytes_n v2_4 r_7 k_67 n (v4_11 + 1) g_22 f_23))))))
def w_PL_writeTo_2 (o0_count : Int32) (o0_byteLength : Int32) (o0_fields_n : Nat) (o0_fields : Nat → Int32) (o1_bytes_n : Nat) (k_73 : Int32 → Int32 → (Nat → Int32) → Prop) : Nat → Int32 → Int32 → (Nat → Int32) → Prop
  | 0, _, _, _ => False
  | n + 1, v2_4, g_o1_q_1_5, f_o1_bytes_q_6 => (o0_count ≤ v2_4 → k_73 v2_4 g_o1_q_1_5 f_o1_bytes_q_6) ∧ (¬ o0_count ≤ v2_4 → w_PL_field o0_count o0_byteLength o0_fields_n o0_fields v2_4 0 (fun r_7 => ∃ n_20 : Nat, w_PL_writeTo_20 o0_count o0_byteLength o0_fields_n o0_fields o1_bytes_n v2_4 r_7 (fun (v4_11_24 : Int32) (g_o1_q_1_12_25 : Int32) (f_o1_bytes_q_13_26 : Nat → Int32) => w_PL_writeTo_2 o0_count o0_byteLength o0_fields_n o0_fields o1_bytes_n k_73 n (v2_4 + 1) g_o1_q_1_12_25 f_o1_bytes_q_13_26) n_20 0 g_o1_q_1_5 f_o1_bytes_q_6))
def w_PL_writeTo (o0_count : Int32) (o0_byteLength : Int32) (o0_fields_n : Nat) (o0_fields : Nat → Int32) (o1_count : Int32) (o1_bytes_n : Nat) (o1_bytes : Nat → Int32) (post : Int32 → (Nat → Int32) → Prop) : Prop := ∃ n_2 : Nat, w_PL_writeTo_2 o0_count o0_byteLength o0_fields_n o0_fields o1_bytes_n (fun (v2_4_27 : Int32) (g_o1_q_1_5_28 : Int32) (f_o1_bytes_q_6_29 : Nat → Int32) => post g_o1_q_1_5_28 f_o1_bytes_q_6_29) n_2 0 o1_count o1_bytes
def rm_PL_writeTo : Room := { frames := 1, cells := 0, slots := 0, locals := 23 }
set_option maxHeartbeats 4000000 in
set_option maxRecDepth 100000 in
theorem c_PL_writeTo (l : Launch) (D : va_G) (cI cZ cL : ClassId) (sz : Nat) (o0_q : Nat) (o0_fields_q : Nat) (o1_q : Nat) (o1_bytes_q : Nat) (o0_count : Int32) (o0_byteLength : Int32) (o0_fields_n : Nat) (o0_fields : Nat → Int32) (o1_count : Int32) (o1_bytes_n : Nat) (o1_bytes : Nat → Int32) {post : Int32 → (Nat → Int32) → Prop} (hw : w_PL_writeTo o0_count o0_byteLength o0_fields_n o0_fields o1_count o1_bytes_n o1_bytes post) : Met l y_PL_writeTo (Cond.code y_PL_writeTo b_PL_writeTo 6 (none) :: AW) rm_PL_writeTo (va_Pc [.ref o0_q, .ref o1_q] (ST D cI cZ cL [(o0_q, .inr (2, [.ref o0_fields_q, .int o0_count, .int o0_byteLength])), (o0_fields_q, .inl (cI, o0_fields_n, .inl o0_fields)), (o1_q, .inr (1, [.ref o1_bytes_q, .int o1_count])), (o1_bytes_q, .inl (cI, o1_bytes_n, .inl o1_bytes))] sz)) (va_Qv (fun (u : Int32 × (Nat → Int32)) => post u.1 u.2) (fun u t => EN D [(o0_q, .inr (2, [.ref o0_fields_q, .int o0_count, .int o0_byteLength])), (o0_fields_q, .inl (cI, o0_fields_n, .inl o0_fields)), (o1_q, .inr (1, [.ref o1_bytes_q, .int u.1])), (o1_bytes_q, .inl (cI, o1_bytes_n, .inl u.2))] (va_A [(o0_q, .inr (2, [.ref o0_fields_q, .int o0_count, .int o0_byteLength])), (o0_fields_q, .inl (cI, o0_fields_n, .inl o0_fields)), (o1_q, .inr (1, [.ref o1_bytes_q, .int o1_count])), (o1_bytes_q, .inl (cI, o1_bytes_n, .inl o1_bytes))] sz) t) (va_A [(o0_q, .inr (2, [.ref o0_fields_q, .int o0_count, .int o0_byteLength])), (o0_fields_q, .inl (cI, o0_fields_n, .inl o0_fields)), (o1_q, .inr (1, [.ref o1_bytes_q, .int o1_count])), (o1_bytes_q, .inl (cI, o1_bytes_n, .inl o1_bytes))] sz)) 0 0 (va_A [(o0_q, .inr (2, [.ref o0_fields_q, .int o0_count, .int o0_byteLength])), (o0_fields_q, .inl (cI, o0_fields_n, .inl o0_fields)), (o1_q, .inr (1, [.ref o1_bytes_q, .int o1_count])), (o1_bytes_q, .inl (cI, o1_bytes_n, .inl o1_bytes))] sz) := by
  refine ofM (own := R_PL) (fun A => (va_Qv (fun (u : Int32 × (Nat → Int32)) => post u.1 u.2) (fun u t => EN D [(o0_q, .inr (2, [.ref o0_fields_q, .int o0_count, .int o0_byteLength])), (o0_fields_q, .inl (cI, o0_fields_n, .inl o0_fields)), (o1_q, .inr (1, [.ref o1_bytes_q, .int u.1])), (o1_bytes_q, .inl (cI, o1_bytes_n, .inl u.2))] A t) A)) (by decide) rfl (Nat.le_of_ble_eq_true rfl) ?_
  intro p e s m args below meth c A ls Q cx hQ hA hl hP hD hS hinit
  obtain ⟨hx, hb, hml, hrt, hown, hta, hlk, hK, hN⟩ := id cx
  have hl : lv_has ls 6 [(0, .ref o0_q), (1, .ref o1_q)] := hl
  have h00 : va_P D CL [(o0_q, .inr (2, [.ref o0_fields_q, .int o0_count, .int o0_byteLength])), (o0_fields_q, .inl (cI, o0_fields_n, .inl o0_fields)), (o1_q, .inr (1, [.ref o1_bytes_q, .int o1_count])), (o1_bytes_q, .inl (cI, o1_bytes_n, .inl o1_bytes))] s.heap := hP
  unfold w_PL_writeTo at hw
  obtain ⟨H, eH⟩ : ∃ H, H = s.heap := ⟨_, rfl⟩
  obtain ⟨locs, eL⟩ : ∃ locs : List Loc, locs = [] := ⟨_, rfl⟩
  have hS : va_S A s.heap H locs := by rw [eH, eL]; exact hS
  have hP : va_P D CL [(o0_q, .inr (2, [.ref o0_fields_q, .int o0_count, .int o0_byteLength])), (o0_fields_q, .inl (cI, o0_fields_n, .inl o0_fields)), (o1_q, .inr (1, [.ref o1_bytes_q, .int o1_count])), (o1_bytes_q, .inl (cI, o1_bytes_n, .inl o1_bytes))] H := by rw [eH]; exact hP
  suffices hgo : W p l e rm_PL_writeTo s m args below meth c H locs 0 0 Q (F0 m 0 ls []) by rw [eH, eL] at hgo; exact hgo
  clear eH eL h00
  refine lv_iconst (v := 0) hx hb d_PL_writeTo_0 (by decide) ?_
  refine lv_istore_n (lv' := [(2, .int 0), (0, .ref o0_q), (1, .ref o1_q)]) hx hb d_PL_writeTo_1 rfl hl (by decide) rfl (fun ls hl => ?_)
  have L2 : ∀ (k_73 : Int32 → Int32 → (Nat → Int32) → Prop) (hk_73 : ∀ (v2_4 : Int32) (g_o1_q_1_5 : Int32) (f_o1_bytes_q_6 : Nat → Int32) (H : Heap) (locs : List Loc) (ls : Array Slot), lv_has ls 6 [(2, .int v2_4), (0, .ref o0_q), (1, .ref o1_q)] → va_P D CL [(o0_q, .inr (2, [.ref o0_fields_q, .int o0_count, .int o0_byteLength])), (o0_fields_q, .inl (cI, o0_fields_n, .inl o0_fields)), (o1_q, .inr (1, [.ref o1_bytes_q, .int g_o1_q_1_5])), (o1_bytes_q, .inl (cI, o1_bytes_n, .inl f_o1_bytes_q_6))] H → va_D A [(o0_q, .inr (2, [.ref o0_fields_q, .int o0_count, .int o0_byteLength])), (o0_fields_q, .inl (cI, o0_fields_n, .inl o0_fields)), (o1_q, .inr (1, [.ref o1_bytes_q, .int g_o1_q_1_5])), (o1_bytes_q, .inl (cI, o1_bytes_n, .inl f_o1_bytes_q_6))] → va_S A s.heap H locs → k_73 v2_4 g_o1_q_1_5 f_o1_bytes_q_6 → W p l e rm_PL_writeTo s m args below meth c H locs 0 0 Q (F0 m 73 ls [])), ∀ (n : Nat) (v2_4 : Int32) (g_o1_q_1_5 : Int32) (f_o1_bytes_q_6 : Nat → Int32) (H : Heap) (locs : List Loc) (ls : Array Slot), lv_has ls 6 [(2, .int v2_4), (0, .ref o0_q), (1, .ref o1_q)] → va_P D CL [(o0_q, .inr (2, [.ref o0_fields_q, .int o0_count, .int o0_byteLength])), (o0_fields_q, .inl (cI, o0_fields_n, .inl o0_fields)), (o1_q, .inr (1, [.ref o1_bytes_q, .int g_o1_q_1_5])), (o1_bytes_q, .inl (cI, o1_bytes_n, .inl f_o1_bytes_q_6))] H → va_D A [(o0_q, .inr (2, [.ref o0_fields_q, .int o0_count, .int o0_byteLength])), (o0_fields_q, .inl (cI, o0_fields_n, .inl o0_fields)), (o1_q, .inr (1, [.ref o1_bytes_q, .int g_o1_q_1_5])), (o1_bytes_q, .inl (cI, o1_bytes_n, .inl f_o1_bytes_q_6))] → va_S A s.heap H locs → w_PL_writeTo_2 o0_count o0_byteLength o0_fields_n o0_fields o1_bytes_n k_73 n v2_4 g_o1_q_1_5 f_o1_bytes_q_6 → W p l e rm_PL_writeTo s m args below meth c H locs 0 0 Q (F0 m 2 ls []) := by
    intro k_73 hk_73 n
    induction n with
    | zero => intro v2_4 g_o1_q_1_5 f_o1_bytes_q_6 H locs ls hl hP hD hS hw; exact hw.elim
    | succ n ih =>
      intro v2_4 g_o1_q_1_5 f_o1_bytes_q_6 H locs ls hl hP hD hS hw
      rw [w_PL_writeTo_2] at hw
      refine lv_iload_n hx hb d_PL_writeTo_2 rfl (lv_at hl 0 rfl) ?_
      refine lv_aload_n hx hb d_PL_writeTo_3 rfl (lv_at hl 1 rfl) ?_
      refine va_get (D := D) (ci := 2) (v := .int o0_count) (C := R_PL) (T := F_PL) (N := 3) hx hb hta lay_PL hown hK hP 0 rfl rfl 1 (by decide) (hta _ k_PL_15) (fun _ h9 => h9) rfl d_PL_writeTo_4 ?_
      refine lv_icmp_ge (tgt := 73) hx hb d_PL_writeTo_7 (by decide) (fun hc_21 => ?_) (fun hc_21 => ?_)
      · have hw := hw.1 hc_21
        exact hk_73 v2_4 g_o1_q_1_5 f_o1_bytes_q_6 _ _ _ (lv_sub hl [0, 1, 2] rfl) (hP.sub [0, 1, 2, 3] rfl) (hD.sub [0, 1, 2, 3] (by decide) rfl) hS hw
      · have hw := hw.2 hc_21
        refine lv_aload_n hx hb d_PL_writeTo_10 rfl (lv_at hl 1 rfl) ?_
        refine lv_iload_n hx hb d_PL_writeTo_11 rfl (lv_at hl 0 rfl) ?_
        refine lv_iconst (v := 0) hx hb d_PL_writeTo_12 (by decide) ?_
        refine goR (xV (C := R_PL) (ci := 2) (As := [.int v2_4, .int 0]) (rest := []) (wc := [(o0_q, .inr (2, [.ref o0_fields_q, .int o0_count, .int o0_byteLength])), (o0_fields_q, .inl (cI, o0_fields_n, .inl o0_fields))]) (A := A) cx (c_PL_field l D cI cZ cL H.size o0_q o0_fields_q o0_count o0_byteLength o0_fields_n o0_fields v2_4 0 hw) vw_PL_26 md_PL_field ⟨rfl, rfl, Nat.le_of_ble_eq_true rfl, Nat.le_of_ble_eq_true rfl⟩ (hP.sub [0, 1] rfl) (hD.sub [0, 1] (by decide) rfl) 0 rfl rfl rfl hl.1 (Nat.le_of_ble_eq_true rfl) d_PL_writeTo_13 ⟨Nat.le_of_ble_eq_true rfl, Nat.le_of_ble_eq_true rfl⟩ rfl) (fun r_7 hw => ?_)
        try dsimp only at hw
        refine lv_istore_n (lv' := [(3, .int r_7), (2, .int v2_4), (0, .ref o0_q), (1, .ref o1_q)]) hx hb d_PL_writeTo_16 rfl hl (by decide) rfl (fun ls hl => ?_)
        refine lv_iconst (v := 0) hx hb d_PL_writeTo_17 (by decide) ?_
        refine lv_istore (lv' := [(4, .int 0), (3, .int r_7), (2, .int v2_4), (0, .ref o0_q), (1, .ref o1_q)]) hx hb d_PL_writeTo_18 hl (by decide) rfl (fun ls hl => ?_)
        have L20 : ∀ (k_67 : Int32 → Int32 → (Nat → Int32) → Prop) (hk_67 : ∀ (v4_11 : Int32) (g_o1_q_1_12 : Int32) (f_o1_bytes_q_13 : Nat → Int32) (H : Heap) (locs : List Loc) (ls : Array Slot), lv_has ls 6 [(4, .int v4_11), (3, .int r_7), (2, .int v2_4), (0, .ref o0_q), (1, .ref o1_q)] → va_P D CL [(o0_q, .inr (2, [.ref o0_fields_q, .int o0_count, .int o0_byteLength])), (o0_fields_q, .inl (cI, o0_fields_n, .inl o0_fields)), (o1_q, .inr (1, [.ref o1_bytes_q, .int g_o1_q_1_12])), (o1_bytes_q, .inl (cI, o1_bytes_n, .inl f_o1_bytes_q_13))] H → va_D A [(o0_q, .inr (2, [.ref o0_fields_q, .int o0_count, .int o0_byteLength])), (o0_fields_q, .inl (cI, o0_fields_n, .inl o0_fields)), (o1_q, .inr (1, [.ref o1_bytes_q, .int g_o1_q_1_12])), (o1_bytes_q, .inl (cI, o1_bytes_n, .inl f_o1_bytes_q_13))] → va_S A s.heap H locs → k_67 v4_11 g_o1_q_1_12 f_o1_bytes_q_13 → W p l e rm_PL_writeTo s m args below meth c H locs 0 0 Q (F0 m 67 ls [])), ∀ (n : Nat) (v4_11 : Int32) (g_o1_q_1_12 : Int32) (f_o1_bytes_q_13 : Nat → Int32) (H : Heap) (locs : List Loc) (ls : Array Slot), lv_has ls 6 [(4, .int v4_11), (3, .int r_7), (2, .int v2_4), (0, .ref o0_q), (1, .ref o1_q)] → va_P D CL [(o0_q, .inr (2, [.ref o0_fields_q, .int o0_count, .int o0_byteLength])), (o0_fields_q, .inl (cI, o0_fields_n, .inl o0_fields)), (o1_q, .inr (1, [.ref o1_bytes_q, .int g_o1_q_1_12])), (o1_bytes_q, .inl (cI, o1_bytes_n, .inl f_o1_bytes_q_13))] H → va_D A [(o0_q, .inr (2, [.ref o0_fields_q, .int o0_count, .int o0_byteLength])), (o0_fields_q, .inl (cI, o0_fields_n, .inl o0_fields)), (o1_q, .inr (1, [.ref o1_bytes_q, .int g_o1_q_1_12])), (o1_bytes_q, .inl (cI, o1_bytes_n, .inl f_o1_bytes_q_13))] → va_S A s.heap H locs → w_PL_writeTo_20 o0_count o0_byteLength o0_fields_n o0_fields o1_bytes_n v2_4 r_7 k_67 n v4_11 g_o1_q_1_12 f_o1_bytes_q_13 → W p l e rm_PL_writeTo s m args below meth c H locs 0 0 Q (F0 m 20 ls []) := by
          intro k_67 hk_67 n
          induction n with
          | zero => intro v4_11 g_o1_q_1_12 f_o1_bytes_q_13 H locs ls hl hP hD hS hw; exact hw.elim
          | succ n ih =>
            intro v4_11 g_o1_q_1_12 f_o1_bytes_q_13 H locs ls hl hP hD hS hw
            rw [w_PL_writeTo_20] at hw
            refine lv_iload hx hb d_PL_writeTo_20 (lv_at hl 0 rfl) ?_
            refine lv_iload_n hx hb d_PL_writeTo_22 rfl (lv_at hl 1 rfl) ?_
            refine goR (xSN (As := [.int r_7]) (rest := [.int v4_11]) (wc := []) (A := A) cx (c_DF_bytesOf l D cI cZ cL H.size r_7 hw) sn_PL_22 md_DF_bytesOf ⟨rfl, rfl, Nat.le_of_ble_eq_true rfl, Nat.le_of_ble_eq_true rfl⟩ (hP.sub [] rfl) (hD.sub [] (by decide) rfl) rfl hl.1 (Nat.le_of_ble_eq_true rfl) d_PL_writeTo_23 ⟨Nat.le_of_ble_eq_true rfl, Nat.le_of_ble_eq_true rfl⟩ rfl) (fun r_14 hw => ?_)
            try dsimp only at hw
            refine lv_icmp_ge (tgt := 67) hx hb d_PL_writeTo_26 (by decide) (fun hc_28 => ?_) (fun hc_28 => ?_)
            · have hw := hw.1 hc_28
              exact hk_67 v4_11 g_o1_q_1_12 f_o1_bytes_q_13 _ _ _ (lv_sub hl [0, 1, 2, 3, 4] rfl) (hP.sub [0, 1, 2, 3] rfl) (hD.sub [0, 1, 2, 3] (by decide) rfl) hS hw
            · have hw := hw.2 hc_28
              refine lv_iload_n hx hb d_PL_writeTo_29 rfl (lv_at hl 1 rfl) ?_
              refine lv_iconst (v := 2) hx hb d_PL_writeTo_30 (by decide) ?_
              refine lv_icmp_ne (tgt := 44) hx hb d_PL_writeTo_31 (by decide) (fun hc_29 => ?_) (fun hc_29 => ?_)
              · have hw := hw.1 hc_29
                refine lv_iconst (v := 0) hx hb d_PL_writeTo_44 (by decide) ?_
                refine lv_istore (lv' := [(5, .int 0), (4, .int v4_11), (3, .int r_7), (2, .int v2_4), (0, .ref o0_q), (1, .ref o1_q)]) hx hb d_PL_writeTo_45 hl (by decide) rfl (fun ls hl => ?_)
                refine lv_aload_n hx hb d_PL_writeTo_47 rfl (lv_at hl 5 rfl) ?_
                refine lv_aload_n hx hb d_PL_writeTo_48 rfl (lv_at hl 4 rfl) ?_
                refine lv_iload_n hx hb d_PL_writeTo_49 rfl (lv_at hl 3 rfl) ?_
                refine lv_iload hx hb d_PL_writeTo_50 (lv_at hl 1 rfl) ?_
                refine goR (xV (C := R_PL) (ci := 2) (As := [.int v2_4, .int v4_11]) (rest := [.ref o1_q]) (wc := [(o0_q, .inr (2, [.ref o0_fields_q, .int o0_count, .int o0_byteLength])), (o0_fields_q, .inl (cI, o0_fields_n, .inl o0_fields))]) (A := A) cx (c_PL_field l D cI cZ cL H.size o0_q o0_fields_q o0_count o0_byteLength o0_fields_n o0_fields v2_4 v4_11 hw) vw_PL_26 md_PL_field ⟨rfl, rfl, Nat.le_of_ble_eq_true rfl, Nat.le_of_ble_eq_true rfl⟩ (hP.sub [0, 1] rfl) (hD.sub [0, 1] (by decide) rfl) 0 rfl rfl rfl hl.1 (Nat.le_of_ble_eq_true rfl) d_PL_writeTo_52 ⟨Nat.le_of_ble_eq_true rfl, Nat.le_of_ble_eq_true rfl⟩ rfl) (fun r_15 hw => ?_)
                try dsimp only at hw
                refine lv_iload hx hb d_PL_writeTo_55 (lv_at hl 0 rfl) ?_
                refine lv_iadd hx hb d_PL_writeTo_57 ?_
                refine goV (wr := [(o0_q, .inr (2, [.ref o0_fields_q, .int o0_count, .int o0_byteLength])), (o0_fields_q, .inl (cI, o0_fields_n, .inl o0_fields))]) (xV (C := R_BR) (ci := 1) (As := [.int (r_15 + 0)]) (rest := []) (wc := [(o1_q, .inr (1, [.ref o1_bytes_q, .int g_o1_q_1_12])), (o1_bytes_q, .inl (cI, o1_bytes_n, .inl f_o1_bytes_q_13))]) (A := A) cx (c_BR_add l D cI cZ cL H.size o1_q o1_bytes_q g_o1_q_1_12 o1_bytes_n f_o1_bytes_q_13 (r_15 + 0) hw) vw_PL_30 md_BR_add ⟨rfl, rfl, Nat.le_of_ble_eq_true rfl, Nat.le_of_ble_eq_true rfl⟩ (hP.sub [2, 3] rfl) (hD.sub [2, 3] (by decide) rfl) 0 rfl rfl rfl hl.1 (Nat.le_of_ble_eq_true rfl) d_PL_writeTo_58 ⟨Nat.le_of_ble_eq_true rfl, Nat.le_of_ble_eq_true rfl⟩ rfl) hP hD hS hA [2, 3] [0, 1] rfl rfl (by decide) (by decide) (fun u H locs hw hP hD hS => ?_)
                obtain ⟨g_16, f_17⟩ := u
                try dsimp only at hw
                have hP : va_P D CL [(o0_q, .inr (2, [.ref o0_fields_q, .int o0_count, .int o0_byteLength])), (o0_fields_q, .inl (cI, o0_fields_n, .inl o0_fields)), (o1_q, .inr (1, [.ref o1_bytes_q, .int g_16])), (o1_bytes_q, .inl (cI, o1_bytes_n, .inl f_17))] H := hP
                have hD : va_D A [(o0_q, .inr (2, [.ref o0_fields_q, .int o0_count, .int o0_byteLength])), (o0_fields_q, .inl (cI, o0_fields_n, .inl o0_fields)), (o1_q, .inr (1, [.ref o1_bytes_q, .int g_16])), (o1_bytes_q, .inl (cI, o1_bytes_n, .inl f_17))] := hD
                refine lv_iinc (v := v4_11 + 1) (lv' := [(4, .int (v4_11 + 1)), (5, .int 0), (3, .int r_7), (2, .int v2_4), (0, .ref o0_q), (1, .ref o1_q)]) hx hb d_PL_writeTo_61 hl (k := 1) rfl rfl (by decide) rfl (fun ls hl => ?_)
                refine lv_goto (tgt := 20) hx hb d_PL_writeTo_64 (by decide) ?_
                exact ih (v4_11 + 1) g_16 f_17 _ _ _ (lv_sub hl [0, 2, 3, 4, 5] rfl) (hP.sub [0, 1, 2, 3] rfl) (hD.sub [0, 1, 2, 3] (by decide) rfl) hS hw
              · have hw := hw.2 hc_29
                refine lv_iload hx hb d_PL_writeTo_34 (lv_at hl 0 rfl) ?_
                refine lv_iconst (v := 4) hx hb d_PL_writeTo_36 (by decide) ?_
                refine lv_icmp_ne (tgt := 44) hx hb d_PL_writeTo_37 (by decide) (fun hc_30 => ?_) (fun hc_30 => ?_)
                · have hw := hw.1 hc_30
                  refine lv_iconst (v := 0) hx hb d_PL_writeTo_44 (by decide) ?_
                  refine lv_istore (lv' := [(5, .int 0), (4, .int v4_11), (3, .int r_7), (2, .int v2_4), (0, .ref o0_q), (1, .ref o1_q)]) hx hb d_PL_writeTo_45 hl (by decide) rfl (fun ls hl => ?_)
                  refine lv_aload_n hx hb d_PL_writeTo_47 rfl (lv_at hl 5 rfl) ?_
                  refine lv_aload_n hx hb d_PL_writeTo_48 rfl (lv_at hl 4 rfl) ?_
                  refine lv_iload_n hx hb d_PL_writeTo_49 rfl (lv_at hl 3 rfl) ?_
                  refine lv_iload hx hb d_PL_writeTo_50 (lv_at hl 1 rfl) ?_
                  refine goR (xV (C := R_PL) (ci := 2) (As := [.int v2_4, .int v4_11]) (rest := [.ref o1_q]) (wc := [(o0_q, .inr (2, [.ref o0_fields_q, .int o0_count, .int o0_byteLength])), (o0_fields_q, .inl (cI, o0_fields_n, .inl o0_fields))]) (A := A) cx (c_PL_field l D cI cZ cL H.size o0_q o0_fields_q o0_count o0_byteLength o0_fields_n o0_fields v2_4 v4_11 hw) vw_PL_26 md_PL_field ⟨rfl, rfl, Nat.le_of_ble_eq_true rfl, Nat.le_of_ble_eq_true rfl⟩ (hP.sub [0, 1] rfl) (hD.sub [0, 1] (by decide) rfl) 0 rfl rfl rfl hl.1 (Nat.le_of_ble_eq_true rfl) d_PL_writeTo_52 ⟨Nat.le_of_ble_eq_true rfl, Nat.le_of_ble_eq_true rfl⟩ rfl) (fun r_18 hw => ?_)
                  try dsimp only at hw
                  refine lv_iload hx hb d_PL_writeTo_55 (lv_at hl 0 rfl) ?_
                  refine lv_iadd hx hb d_PL_writeTo_57 ?_
                  refine goV (wr := [(o0_q, .inr (2, [.ref o0_fields_q, .int o0_count, .int o0_byteLength])), (o0_fields_q, .inl (cI, o0_fields_n, .inl o0_fields))]) (xV (C := R_BR) (ci := 1) (As := [.int (r_18 + 0)]) (rest := []) (wc := [(o1_q, .inr (1, [.ref o1_bytes_q, .int g_o1_q_1_12])), (o1_bytes_q, .inl (cI, o1_bytes_n, .inl f_o1_bytes_q_13))]) (A := A) cx (c_BR_add l D cI cZ cL H.size o1_q o1_bytes_q g_o1_q_1_12 o1_bytes_n f_o1_bytes_q_13 (r_18 + 0) hw) vw_PL_30 md_BR_add ⟨rfl, rfl, Nat.le_of_ble_eq_true rfl, Nat.le_of_ble_eq_true rfl⟩ (hP.sub [2, 3] rfl) (hD.sub [2, 3] (by decide) rfl) 0 rfl rfl rfl hl.1 (Nat.le_of_ble_eq_true rfl) d_PL_writeTo_58 ⟨Nat.le_of_ble_eq_true rfl, Nat.le_of_ble_eq_true rfl⟩ rfl) hP hD hS hA [2, 3] [0, 1] rfl rfl (by decide) (by decide) (fun u H locs hw hP hD hS => ?_)
                  obtain ⟨g_19, f_20⟩ := u
                  try dsimp only at hw
                  have hP : va_P D CL [(o0_q, .inr (2, [.ref o0_fields_q, .int o0_count, .int o0_byteLength])), (o0_fields_q, .inl (cI, o0_fields_n, .inl o0_fields)), (o1_q, .inr (1, [.ref o1_bytes_q, .int g_19])), (o1_bytes_q, .inl (cI, o1_bytes_n, .inl f_20))] H := hP
                  have hD : va_D A [(o0_q, .inr (2, [.ref o0_fields_q, .int o0_count, .int o0_byteLength])), (o0_fields_q, .inl (cI, o0_fields_n, .inl o0_fields)), (o1_q, .inr (1, [.ref o1_bytes_q, .int g_19])), (o1_bytes_q, .inl (cI, o1_bytes_n, .inl f_20))] := hD
                  refine lv_iinc (v := v4_11 + 1) (lv' := [(4, .int (v4_11 + 1)), (5, .int 0), (3, .int r_7), (2, .int v2_4), (0, .ref o0_q), (1, .ref o1_q)]) hx hb d_PL_writeTo_61 hl (k := 1) rfl rfl (by decide) rfl (fun ls hl => ?_)
                  refine lv_goto (tgt := 20) hx hb d_PL_writeTo_64 (by decide) ?_
                  exact ih (v4_11 + 1) g_19 f_20 _ _ _ (lv_sub hl [0, 2, 3, 4, 5] rfl) (hP.sub [0, 1, 2, 3] rfl) (hD.sub [0, 1, 2, 3] (by decide) rfl) hS hw
                · have hw := hw.2 hc_30
                  refine lv_iconst (v := 4) hx hb d_PL_writeTo_40 (by decide) ?_
                  refine lv_goto (tgt := 45) hx hb d_PL_writeTo_41 (by decide) ?_
                  refine lv_istore (lv' := [(5, .int 4), (4, .int v4_11), (3, .int r_7), (2, .int v2_4), (0, .ref o0_q), (1, .ref o1_q)]) hx hb d_PL_writeTo_45 hl (by decide) rfl (fun ls hl => ?_)
                  refine lv_aload_n hx hb d_PL_writeTo_47 rfl (lv_at hl 5 rfl) ?_
                  refine lv_aload_n hx hb d_PL_writeTo_48 rfl (lv_at hl 4 rfl) ?_
                  refine lv_iload_n hx hb d_PL_writeTo_49 rfl (lv_at hl 3 rfl) ?_
                  refine lv_iload hx hb d_PL_writeTo_50 (lv_at hl 1 rfl) ?_
                  refine goR (xV (C := R_PL) (ci := 2) (As := [.int v2_4, .int v4_11]) (rest := [.ref o1_q]) (wc := [(o0_q, .inr (2, [.ref o0_fields_q, .int o0_count, .int o0_byteLength])), (o0_fields_q, .inl (cI, o0_fields_n, .inl o0_fields))]) (A := A) cx (c_PL_field l D cI cZ cL H.size o0_q o0_fields_q o0_count o0_byteLength o0_fields_n o0_fields v2_4 v4_11 hw) vw_PL_26 md_PL_field ⟨rfl, rfl, Nat.le_of_ble_eq_true rfl, Nat.le_of_ble_eq_true rfl⟩ (hP.sub [0, 1] rfl) (hD.sub [0, 1] (by decide) rfl) 0 rfl rfl rfl hl.1 (Nat.le_of_ble_eq_true rfl) d_PL_writeTo_52 ⟨Nat.le_of_ble_eq_true rfl, Nat.le_of_ble_eq_true rfl⟩ rfl) (fun r_21 hw => ?_)
                  try dsimp only at hw
                  refine lv_iload hx hb d_PL_writeTo_55 (lv_at hl 0 rfl) ?_
                  refine lv_iadd hx hb d_PL_writeTo_57 ?_
                  refine goV (wr := [(o0_q, .inr (2, [.ref o0_fields_q, .int o0_count, .int o0_byteLength])), (o0_fields_q, .inl (cI, o0_fields_n, .inl o0_fields))]) (xV (C := R_BR) (ci := 1) (As := [.int (r_21 + 4)]) (rest := []) (wc := [(o1_q, .inr (1, [.ref o1_bytes_q, .int g_o1_q_1_12])), (o1_bytes_q, .inl (cI, o1_bytes_n, .inl f_o1_bytes_q_13))]) (A := A) cx (c_BR_add l D cI cZ cL H.size o1_q o1_bytes_q g_o1_q_1_12 o1_bytes_n f_o1_bytes_q_13 (r_21 + 4) hw) vw_PL_30 md_BR_add ⟨rfl, rfl, Nat.le_of_ble_eq_true rfl, Nat.le_of_ble_eq_true rfl⟩ (hP.sub [2, 3] rfl) (hD.sub [2, 3] (by decide) rfl) 0 rfl rfl rfl hl.1 (Nat.le_of_ble_eq_true rfl) d_PL_writeTo_58 ⟨Nat.le_of_ble_eq_true rfl, Nat.le_of_ble_eq_true rfl⟩ rfl) hP hD hS hA [2, 3] [0, 1] rfl rfl (by decide) (by decide) (fun u H locs hw hP hD hS => ?_)
                  obtain ⟨g_22, f_23⟩ := u
                  try dsimp only at hw
                  have hP : va_P D CL [(o0_q, .inr (2, [.ref o0_fields_q, .int o0_count, .int o0_byteLength])), (o0_fields_q, .inl (cI, o0_fields_n, .inl o0_fields)), (o1_q, .inr (1, [.ref o1_bytes_q, .int g_22])), (o1_bytes_q, .inl (cI, o1_bytes_n, .inl f_23))] H := hP
                  have hD : va_D A [(o0_q, .inr (2, [.ref o0_fields_q, .int o0_count, .int o0_byteLength])), (o0_fields_q, .inl (cI, o0_fields_n, .inl o0_fields)), (o1_q, .inr (1, [.ref o1_bytes_q, .int g_22])), (o1_bytes_q, .inl (cI, o1_bytes_n, .inl f_23))] := hD
                  refine lv_iinc (v := v4_11 + 1) (lv' := [(4, .int (v4_11 + 1)), (5, .int 4), (3, .int r_7), (2, .int v2_4), (0, .ref o0_q), (1, .ref o1_q)]) hx hb d_PL_writeTo_61 hl (k := 1) rfl rfl (by decide) rfl (fun ls hl => ?_)
                  refine lv_goto (tgt := 20) hx hb d_PL_writeTo_64 (by decide) ?_
                  exact ih (v4_11 + 1) g_22 f_23 _ _ _ (lv_sub hl [0, 2, 3, 4, 5] rfl) (hP.sub [0, 1, 2, 3] rfl) (hD.sub [0, 1, 2, 3] (by decide) rfl) hS hw
        obtain ⟨n_20, hw⟩ := hw
        refine L20 _ (fun v4_11_24 g_o1_q_1_12_25 f_o1_bytes_q_13_26 H locs ls hl hP hD hS hw => ?_) n_20 0 g_o1_q_1_5 f_o1_bytes_q_6 _ _ _ (lv_sub hl [0, 1, 2, 3, 4] rfl) (hP.sub [0, 1, 2, 3] rfl) (hD.sub [0, 1, 2, 3] (by decide) rfl) hS hw
        have hl : lv_has ls 6 [(4, .int v4_11_24), (3, .int r_7), (2, .int v2_4), (0, .ref o0_q), (1, .ref o1_q)] := hl
        have hP : va_P D CL [(o0_q, .inr (2, [.ref o0_fields_q, .int o0_count, .int o0_byteLength])), (o0_fields_q, .inl (cI, o0_fields_n, .inl o0_fields)), (o1_q, .inr (1, [.ref o1_bytes_q, .int g_o1_q_1_12_25])), (o1_bytes_q, .inl (cI, o1_bytes_n, .inl f_o1_bytes_q_13_26))] H := hP
        have hD : va_D A [(o0_q, .inr (2, [.ref o0_fields_q, .int o0_count, .int o0_byteLength])), (o0_fields_q, .inl (cI, o0_fields_n, .inl o0_fields)), (o1_q, .inr (1, [.ref o1_bytes_q, .int g_o1_q_1_12_25])), (o1_bytes_q, .inl (cI, o1_bytes_n, .inl f_o1_bytes_q_13_26))] := hD
        try dsimp only at hw
        refine lv_iinc (v := v2_4 + 1) (lv' := [(2, .int (v2_4 + 1)), (4, .int v4_11_24), (3, .int r_7), (0, .ref o0_q), (1, .ref o1_q)]) hx hb d_PL_writeTo_67 hl (k := 2) rfl rfl (by decide) rfl (fun ls hl => ?_)
        refine lv_goto (tgt := 2) hx hb d_PL_writeTo_70 (by decide) ?_
        exact ih (v2_4 + 1) g_o1_q_1_12_25 f_o1_bytes_q_13_26 _ _ _ (lv_sub hl [0, 3, 4] rfl) (hP.sub [0, 1, 2, 3] rfl) (hD.sub [0, 1, 2, 3] (by decide) rfl) hS hw
  obtain ⟨n_2, hw⟩ := hw
  refine L2 _ (fun v2_4_27 g_o1_q_1_5_28 f_o1_bytes_q_6_29 H locs ls hl hP hD hS hw => ?_) n_2 0 o1_count o1_bytes _ _ _ (lv_sub hl [0, 1, 2] rfl) (hP.sub [0, 1, 2, 3] rfl) (hD.sub [0, 1, 2, 3] (by decide) rfl) hS hw
  have hl : lv_has ls 6 [(2, .int v2_4_27), (0, .ref o0_q), (1, .ref o1_q)] := hl
  have hP : va_P D CL [(o0_q, .inr (2, [.ref o0_fields_q, .int o0_count, .int o0_byteLength])), (o0_fields_q, .inl (cI, o0_fields_n, .inl o0_fields)), (o1_q, .inr (1, [.ref o1_bytes_q, .int g_o1_q_1_5_28])), (o1_bytes_q, .inl (cI, o1_bytes_n, .inl f_o1_bytes_q_6_29))] H := hP
  have hD : va_D A [(o0_q, .inr (2, [.ref o0_fields_q, .int o0_count, .int o0_byteLength])), (o0_fields_q, .inl (cI, o0_fields_n, .inl o0_fields)), (o1_q, .inr (1, [.ref o1_bytes_q, .int g_o1_q_1_5_28])), (o1_bytes_q, .inl (cI, o1_bytes_n, .inl f_o1_bytes_q_6_29))] := hD
  try dsimp only at hw
  exact retV cx hQ d_PL_writeTo_73 (g_o1_q_1_5_28, f_o1_bytes_q_6_29) hw (hP.sub [0, 1, 2, 3] rfl) (hD.sub [0, 1, 2, 3] (by decide) rfl) hS
def w_PL_drop (o0_count : Int32) (o0_byteLength : Int32) (o0_fields_n : Nat) (o0_fields : Nat → Int32) (post : Int32 → Int32 → Prop) : Prop := post 0 0
def rm_PL_drop : Room := { frames := 0, cells := 0, slots := 0, locals := 0 }
set_option maxHeartbeats 4000000 in
set_option maxRecDepth 100000 in
theorem c_PL_drop (l : Launch) (D : va_G) (cI cZ cL : ClassId) (sz : Nat) (o0_q : Nat) (o0_fields_q : Nat) (o0_count : Int32) (o0_byteLength : Int32) (o0_fields_n : Nat) (o0_fields : Nat → Int32) {post : Int32 → Int32 → Prop} (hw : w_PL_drop o0_count o0_byteLength o0_fields_n o0_fields post) : Met l y_PL_drop (Cond.code y_PL_drop b_PL_drop 1 (none) :: AW) rm_PL_drop (va_Pc [.ref o0_q] (ST D cI cZ cL [(o0_q, .inr (2, [.ref o0_fields_q, .int o0_count, .int o0_byteLength])), (o0_fields_q, .inl (cI, o0_fields_n, .inl o0_fields))] sz)) (va_Qv (fun (u : Int32 × Int32) => post u.1 u.2) (fun u t => EN D [(o0_q, .inr (2, [.ref o0_fields_q, .int u.1, .int u.2])), (o0_fields_q, .inl (cI, o0_fields_n, .inl o0_fields))] (va_A [(o0_q, .inr (2, [.ref o0_fields_q, .int o0_count, .int o0_byteLength])), (o0_fields_q, .inl (cI, o0_fields_n, .inl o0_fields))] sz) t) (va_A [(o0_q, .inr (2, [.ref o0_fields_q, .int o0_count, .int o0_byteLength])), (o0_fields_q, .inl (cI, o0_fields_n, .inl o0_fields))] sz)) 0 0 (va_A [(o0_q, .inr (2, [.ref o0_fields_q, .int o0_count, .int o0_byteLength])), (o0_fields_q, .inl (cI, o0_fields_n, .inl o0_fields))] sz) := by
  refine ofM (own := R_PL) (fun A => (va_Qv (fun (u : Int32 × Int32) => post u.1 u.2) (fun u t => EN D [(o0_q, .inr (2, [.ref o0_fields_q, .int u.1, .int u.2])), (o0_fields_q, .inl (cI, o0_fields_n, .inl o0_fields))] A t) A)) (by decide) rfl (Nat.le_of_ble_eq_true rfl) ?_
  intro p e s m args below meth c A ls Q cx hQ hA hl hP hD hS hinit
  obtain ⟨hx, hb, hml, hrt, hown, hta, hlk, hK, hN⟩ := id cx
  have hl : lv_has ls 1 [(0, .ref o0_q)] := hl
  have h00 : va_P D CL [(o0_q, .inr (2, [.ref o0_fields_q, .int o0_count, .int o0_byteLength])), (o0_fields_q, .inl (cI, o0_fields_n, .inl o0_fields))] s.heap := hP
  unfold w_PL_drop at hw
  obtain ⟨H, eH⟩ : ∃ H, H = s.heap := ⟨_, rfl⟩
  obtain ⟨locs, eL⟩ : ∃ locs : List Loc, locs = [] := ⟨_, rfl⟩
  have hS : va_S A s.heap H locs := by rw [eH, eL]; exact hS
  have hP : va_P D CL [(o0_q, .inr (2, [.ref o0_fields_q, .int o0_count, .int o0_byteLength])), (o0_fields_q, .inl (cI, o0_fields_n, .inl o0_fields))] H := by rw [eH]; exact hP
  suffices hgo : W p l e rm_PL_drop s m args below meth c H locs 0 0 Q (F0 m 0 ls []) by rw [eH, eL] at hgo; exact hgo
  clear eH eL h00
  refine lv_aload_n hx hb d_PL_drop_0 rfl (lv_at hl 0 rfl) ?_
  refine lv_iconst (v := 0) hx hb d_PL_drop_1 (by decide) ?_
  refine va_put (D := D) (ci := 2) (v := .int 0) (ty := .int) (C := R_PL) (T := F_PL) (N := 3) hx hb hta lay_PL t_PL t_PL_ok n_PL hown hK hP hD hS 0 rfl rfl 1 (by decide) (hta _ k_PL_15) (fun _ h9 => h9) rfl (by decide +kernel) rfl rfl (Nat.le_of_ble_eq_true rfl) d_PL_drop_2 (fun H locs hP hD hS => ?_)
  have hP : va_P D CL [(o0_q, .inr (2, [.ref o0_fields_q, .int 0, .int o0_byteLength])), (o0_fields_q, .inl (cI, o0_fields_n, .inl o0_fields))] H := hP
  have hD : va_D A [(o0_q, .inr (2, [.ref o0_fields_q, .int 0, .int o0_byteLength])), (o0_fields_q, .inl (cI, o0_fields_n, .inl o0_fields))] := hD
  refine lv_aload_n hx hb d_PL_drop_5 rfl (lv_at hl 0 rfl) ?_
  refine lv_iconst (v := 0) hx hb d_PL_drop_6 (by decide) ?_
  refine va_put (D := D) (ci := 2) (v := .int 0) (ty := .int) (C := R_PL) (T := F_PL) (N := 3) hx hb hta lay_PL t_PL t_PL_ok n_PL hown hK hP hD hS 0 rfl rfl 2 (by decide) (hta _ k_PL_19) (fun _ h9 => h9) rfl (by decide +kernel) rfl rfl (Nat.le_of_ble_eq_true rfl) d_PL_drop_7 (fun H locs hP hD hS => ?_)
  have hP : va_P D CL [(o0_q, .inr (2, [.ref o0_fields_q, .int 0, .int 0])), (o0_fields_q, .inl (cI, o0_fields_n, .inl o0_fields))] H := hP
  have hD : va_D A [(o0_q, .inr (2, [.ref o0_fields_q, .int 0, .int 0])), (o0_fields_q, .inl (cI, o0_fields_n, .inl o0_fields))] := hD
  exact retV cx hQ d_PL_drop_10 (0, 0) hw (hP.sub [0, 1] rfl) (hD.sub [0, 1] (by decide) rfl) hS
