def w_DR_drawRectangle (o0_width : Int32) (o0_height : Int32) (o0_values_n : Nat) (o0_values : Nat → Int32) (x1 : Int32) (x2 : Int32) (x3 : Int32) (x4 : Int32) (x5 : Int32) (post : Int32 → (Nat → Int32) → Prop) : Prop := w_PI_holds o0_width o0_height o0_values_n o0_values x1 x2 x3 x4 (fun r_1 => (¬ r_1 = 0 → w_PI_paintRectangle o0_width o0_height o0_values_n o0_values x1 x2 x3 x4 x5 (fun (r_2 : Int32) (f_3 : Nat → Int32) => narrow .boolean (.int 1) = .int 1 ∧ post 1 f_3)) ∧ (r_1 = 0 → narrow .boolean (.int 0) = .int 0 ∧ post 0 o0_values))
def rm_DR_drawRectangle : Room := { frames := 3, cells := 0, slots := 0, locals := 75 }
set_option maxHeartbeats 4000000 in
set_option maxRecDepth 100000 in
theorem c_DR_drawRectangle (l : Launch) (D : va_G) (cI cZ cL : ClassId) (sz : Nat) (o0_q : Nat) (o0_values_q : Nat) (o0_width : Int32) (o0_height : Int32) (o0_values_n : Nat) (o0_values : Nat → Int32) (x1 : Int32) (x2 : Int32) (x3 : Int32) (x4 : Int32) (x5 : Int32) {post : Int32 → (Nat → Int32) → Prop} (hw : w_DR_drawRectangle o0_width o0_height o0_values_n o0_values x1 x2 x3 x4 x5 post) : Met l y_DR_drawRectangle (Cond.code y_DR_drawRectangle b_DR_drawRectangle 6 (some .boolean) :: AW) rm_DR_drawRectangle (va_Pc [.ref o0_q, .int x1, .int x2, .int x3, .int x4, .int x5] (ST D cI cZ cL [(o0_q, .inr (0, [.int o0_width, .int o0_height, .ref o0_values_q])), (o0_values_q, .inl (cI, o0_values_n, .inl o0_values))] sz)) (va_Qi (fun (r : Int32) (u : (Nat → Int32)) => post r u) (fun u t => EN D [(o0_q, .inr (0, [.int o0_width, .int o0_height, .ref o0_values_q])), (o0_values_q, .inl (cI, o0_values_n, .inl u))] (va_A [(o0_q, .inr (0, [.int o0_width, .int o0_height, .ref o0_values_q])), (o0_values_q, .inl (cI, o0_values_n, .inl o0_values))] sz) t) (va_A [(o0_q, .inr (0, [.int o0_width, .int o0_height, .ref o0_values_q])), (o0_values_q, .inl (cI, o0_values_n, .inl o0_values))] sz)) 0 0 (va_A [(o0_q, .inr (0, [.int o0_width, .int o0_height, .ref o0_values_q])), (o0_values_q, .inl (cI, o0_values_n, .inl o0_values))] sz) := by
  refine ofM (own := R_DR) (fun A => (va_Qi (fun (r : Int32) (u : (Nat → Int32)) => post r u) (fun u t => EN D [(o0_q, .inr (0, [.int o0_width, .int o0_height, .ref o0_values_q])), (o0_values_q, .inl (cI, o0_values_n, .inl u))] A t) A)) (by decide) rfl (Nat.le_of_ble_eq_true rfl) ?_
  intro p e s m args below meth c A ls Q cx hQ hA hl hP hD hS hinit
  obtain ⟨hx, hb, hml, hrt, hown, hta, hlk, hK, hN⟩ := id cx
  have hl : lv_has ls 6 [(0, .ref o0_q), (1, .int x1), (2, .int x2), (3, .int x3), (4, .int x4), (5, .int x5)] := hl
  have h00 : va_P D CL [(o0_q, .inr (0, [.int o0_width, .int o0_height, .ref o0_values_q])), (o0_values_q, .inl (cI, o0_values_n, .inl o0_values))] s.heap := hP
  unfold w_DR_drawRectangle at hw
  obtain ⟨H, eH⟩ : ∃ H, H = s.heap := ⟨_, rfl⟩
  obtain ⟨locs, eL⟩ : ∃ locs : List Loc, locs = [] := ⟨_, rfl⟩
  have hS : va_S A s.heap H locs := by rw [eH, eL]; exact hS
  have hP : va_P D CL [(o0_q, .inr (0, [.int o0_width, .int o0_height, .ref o0_values_q])), (o0_values_q, .inl (cI, o0_values_n, .inl o0_values))] H := by rw [eH]; exact hP
  suffices hgo : W p l e rm_DR_drawRectangle s m args below meth c H locs 0 0 Q (F0 m 0 ls []) by rw [eH, eL] at hgo; exact hgo
  clear eH eL h00
  refine lv_aload_n hx hb d_DR_drawRectangle_0 rfl (lv_at hl 0 rfl) ?_
  refine lv_iload_n hx hb d_DR_drawRectangle_1 rfl (lv_at hl 1 rfl) ?_
  refine lv_iload_n hx hb d_DR_drawRectangle_2 rfl (lv_at hl 2 rfl) ?_
  refine lv_iload_n hx hb d_DR_drawRectangle_3 rfl (lv_at hl 3 rfl) ?_
  refine lv_iload hx hb d_DR_drawRectangle_4 (lv_at hl 4 rfl) ?_
  refine goR (xV (C := R_PI) (ci := 0) (As := [.int x1, .int x2, .int x3, .int x4]) (rest := []) (wc := [(o0_q, .inr (0, [.int o0_width, .int o0_height, .ref o0_values_q])), (o0_values_q, .inl (cI, o0_values_n, .inl o0_values))]) (A := A) cx (c_PI_holds l D cI cZ cL H.size o0_q o0_values_q o0_width o0_height o0_values_n o0_values x1 x2 x3 x4 hw) vw_DR_61 md_PI_holds ⟨rfl, rfl, Nat.le_of_ble_eq_true rfl, Nat.le_of_ble_eq_true rfl⟩ (hP.sub [0, 1] rfl) (hD.sub [0, 1] (by decide) rfl) 0 rfl rfl rfl hl.1 (Nat.le_of_ble_eq_true rfl) d_DR_drawRectangle_6 ⟨Nat.le_of_ble_eq_true rfl, Nat.le_of_ble_eq_true rfl⟩ rfl) (fun r_1 hw => ?_)
  try dsimp only at hw
  refine lv_if_ne (tgt := 14) hx hb d_DR_drawRectangle_9 (by decide) (fun hc_1 => ?_) (fun hc_1 => ?_)
  · have hw := hw.1 hc_1
    refine lv_aload_n hx hb d_DR_drawRectangle_14 rfl (lv_at hl 0 rfl) ?_
    refine lv_iload_n hx hb d_DR_drawRectangle_15 rfl (lv_at hl 1 rfl) ?_
    refine lv_iload_n hx hb d_DR_drawRectangle_16 rfl (lv_at hl 2 rfl) ?_
    refine lv_iload_n hx hb d_DR_drawRectangle_17 rfl (lv_at hl 3 rfl) ?_
    refine lv_iload hx hb d_DR_drawRectangle_18 (lv_at hl 4 rfl) ?_
    refine lv_iload hx hb d_DR_drawRectangle_20 (lv_at hl 5 rfl) ?_
    refine goI (wr := []) (xV (C := R_PI) (ci := 0) (As := [.int x1, .int x2, .int x3, .int x4, .int x5]) (rest := []) (wc := [(o0_q, .inr (0, [.int o0_width, .int o0_height, .ref o0_values_q])), (o0_values_q, .inl (cI, o0_values_n, .inl o0_values))]) (A := A) cx (c_PI_paintRectangle l D cI cZ cL H.size o0_q o0_values_q o0_width o0_height o0_values_n o0_values x1 x2 x3 x4 x5 hw) vw_DR_65 md_PI_paintRectangle ⟨rfl, rfl, Nat.le_of_ble_eq_true rfl, Nat.le_of_ble_eq_true rfl⟩ (hP.sub [0, 1] rfl) (hD.sub [0, 1] (by decide) rfl) 0 rfl rfl rfl hl.1 (Nat.le_of_ble_eq_true rfl) d_DR_drawRectangle_22 ⟨Nat.le_of_ble_eq_true rfl, Nat.le_of_ble_eq_true rfl⟩ rfl) hP hD hS hA [0, 1] [] rfl rfl (by decide) (by decide) (fun r_2 f_3 H locs hw hP hD hS => ?_)
    try dsimp only at hw
    have hP : va_P D CL [(o0_q, .inr (0, [.int o0_width, .int o0_height, .ref o0_values_q])), (o0_values_q, .inl (cI, o0_values_n, .inl f_3))] H := hP
    have hD : va_D A [(o0_q, .inr (0, [.int o0_width, .int o0_height, .ref o0_values_q])), (o0_values_q, .inl (cI, o0_values_n, .inl f_3))] := hD
    refine lv_pop hx hb d_DR_drawRectangle_25 rfl ?_
    refine lv_iconst (v := 1) hx hb d_DR_drawRectangle_26 (by decide) ?_
    exact retZ cx hQ d_DR_drawRectangle_27 f_3 hw (hP.sub [0, 1] rfl) (hD.sub [0, 1] (by decide) rfl) hS
  · have hw := hw.2 hc_1
    refine lv_iconst (v := 0) hx hb d_DR_drawRectangle_12 (by decide) ?_
    exact retZ cx hQ d_DR_drawRectangle_13 o0_values hw (hP.sub [0, 1] rfl) (hD.sub [0, 1] (by decide) rfl) hS
def w_DR_drawCopy (o0_width : Int32) (o0_height : Int32) (o0_values_n : Nat) (o0_values : Nat → Int32) (x1 : Int32) (x2 : Int32) (x3 : Int32) (x4 : Int32) (x5 : Int32) (post : Int32 → (Nat → Int32) → Prop) : Prop := (4 < x4 → narrow .boolean (.int 0) = .int 0 ∧ post 0 o0_values) ∧ (¬ 4 < x4 → (x5 < 1 → narrow .boolean (.int 0) = .int 0 ∧ post 0 o0_values) ∧ (¬ x5 < 1 → (x5 ≤ 4 → w_PI_holds o0_width o0_height o0_values_n o0_values x1 x2 x3 1 (fun r_1 => (r_1 = 0 → narrow .boolean (.int 0) = .int 0 ∧ post 0 o0_values) ∧ (¬ r_1 = 0 → w_PI_holds o0_width o0_height o0_values_n o0_values (x1 + x4) (x2 - x5) x3 1 (fun r_2 => (¬ r_2 = 0 → w_PI_paintCopy o0_width o0_height o0_values_n o0_values x1 x2 x3 x4 x5 (fun (f_3 : Nat → Int32) => narrow .boolean (.int 1) = .int 1 ∧ post 1 f_3)) ∧ (r_2 = 0 → narrow .boolean (.int 0) = .int 0 ∧ post 0 o0_values))))) ∧ (¬ x5 ≤ 4 → narrow .boolean (.int 0) = .int 0 ∧ post 0 o0_values)))
def rm_DR_drawCopy : Room := { frames := 3, cells := 0, slots := 0, locals := 73 }
set_option maxHeartbeats 4000000 in
set_option maxRecDepth 100000 in
theorem c_DR_drawCopy (l : Launch) (D : va_G) (cI cZ cL : ClassId) (sz : Nat) (o0_q : Nat) (o0_values_q : Nat) (o0_width : Int32) (o0_height : Int32) (o0_values_n : Nat) (o0_values : Nat → Int32) (x1 : Int32) (x2 : Int32) (x3 : Int32) (x4 : Int32) (x5 : Int32) {post : Int32 → (Nat → Int32) → Prop} (hw : w_DR_drawCopy o0_width o0_height o0_values_n o0_values x1 x2 x3 x4 x5 post) : Met l y_DR_drawCopy (Cond.code y_DR_drawCopy b_DR_drawCopy 6 (some .boolean) :: AW) rm_DR_drawCopy (va_Pc [.ref o0_q, .int x1, .int x2, .int x3, .int x4, .int x5] (ST D cI cZ cL [(o0_q, .inr (0, [.int o0_width, .int o0_height, .ref o0_values_q])), (o0_values_q, .inl (cI, o0_values_n, .inl o0_values))] sz)) (va_Qi (fun (r : Int32) (u : (Nat → Int32)) => post r u) (fun u t => EN D [(o0_q, .inr (0, [.int o0_width, .int o0_height, .ref o0_values_q])), (o0_values_q, .inl (cI, o0_values_n, .inl u))] (va_A [(o0_q, .inr (0, [.int o0_width, .int o0_height, .ref o0_values_q])), (o0_values_q, .inl (cI, o0_values_n, .inl o0_values))] sz) t) (va_A [(o0_q, .inr (0, [.int o0_width, .int o0_height, .ref o0_values_q])), (o0_values_q, .inl (cI, o0_values_n, .inl o0_values))] sz)) 0 0 (va_A [(o0_q, .inr (0, [.int o0_width, .int o0_height, .ref o0_values_q])), (o0_values_q, .inl (cI, o0_values_n, .inl o0_values))] sz) := by
  refine ofM (own := R_DR) (fun A => (va_Qi (fun (r : Int32) (u : (Nat → Int32)) => post r u) (fun u t => EN D [(o0_q, .inr (0, [.int o0_width, .int o0_height, .ref o0_values_q])), (o0_values_q, .inl (cI, o0_values_n, .inl u))] A t) A)) (by decide) rfl (Nat.le_of_ble_eq_true rfl) ?_
  intro p e s m args below meth c A ls Q cx hQ hA hl hP hD hS hinit
  obtain ⟨hx, hb, hml, hrt, hown, hta, hlk, hK, hN⟩ := id cx
  have hl : lv_has ls 6 [(0, .ref o0_q), (1, .int x1), (2, .int x2), (3, .int x3), (4, .int x4), (5, .int x5)] := hl
  have h00 : va_P D CL [(o0_q, .inr (0, [.int o0_width, .int o0_height, .ref o0_values_q])), (o0_values_q, .inl (cI, o0_values_n, .inl o0_values))] s.heap := hP
  unfold w_DR_drawCopy at hw
  obtain ⟨H, eH⟩ : ∃ H, H = s.heap := ⟨_, rfl⟩
  obtain ⟨locs, eL⟩ : ∃ locs : List Loc, locs = [] := ⟨_, rfl⟩
  have hS : va_S A s.heap H locs := by rw [eH, eL]; exact hS
  have hP : va_P D CL [(o0_q, .inr (0, [.int o0_width, .int o0_height, .ref o0_values_q])), (o0_values_q, .inl (cI, o0_values_n, .inl o0_values))] H := by rw [eH]; exact hP
  suffices hgo : W p l e rm_DR_drawCopy s m args below meth c H locs 0 0 Q (F0 m 0 ls []) by rw [eH, eL] at hgo; exact hgo
  clear eH eL h00
  refine lv_iload hx hb d_DR_drawCopy_0 (lv_at hl 4 rfl) ?_
  refine lv_iconst (v := 4) hx hb d_DR_drawCopy_2 (by decide) ?_
  refine lv_icmp_gt (tgt := 18) hx hb d_DR_drawCopy_3 (by decide) (fun hc_1 => ?_) (fun hc_1 => ?_)
  · have hw := hw.1 hc_1
    refine lv_iconst (v := 0) hx hb d_DR_drawCopy_18 (by decide) ?_
    exact retZ cx hQ d_DR_drawCopy_19 o0_values hw (hP.sub [0, 1] rfl) (hD.sub [0, 1] (by decide) rfl) hS
  · have hw := hw.2 hc_1
    refine lv_iload hx hb d_DR_drawCopy_6 (lv_at hl 5 rfl) ?_
    refine lv_iconst (v := 1) hx hb d_DR_drawCopy_8 (by decide) ?_
    refine lv_icmp_lt (tgt := 18) hx hb d_DR_drawCopy_9 (by decide) (fun hc_2 => ?_) (fun hc_2 => ?_)
    · have hw := hw.1 hc_2
      refine lv_iconst (v := 0) hx hb d_DR_drawCopy_18 (by decide) ?_
      exact retZ cx hQ d_DR_drawCopy_19 o0_values hw (hP.sub [0, 1] rfl) (hD.sub [0, 1] (by decide) rfl) hS
    · have hw := hw.2 hc_2
      refine lv_iload hx hb d_DR_drawCopy_12 (lv_at hl 5 rfl) ?_
      refine lv_iconst (v := 4) hx hb d_DR_drawCopy_14 (by decide) ?_
      refine lv_icmp_le (tgt := 20) hx hb d_DR_drawCopy_15 (by decide) (fun hc_3 => ?_) (fun hc_3 => ?_)
      · have hw := hw.1 hc_3
        refine lv_aload_n hx hb d_DR_drawCopy_20 rfl (lv_at hl 0 rfl) ?_
        refine lv_iload_n hx hb d_DR_drawCopy_21 rfl (lv_at hl 1 rfl) ?_
        refine lv_iload_n hx hb d_DR_drawCopy_22 rfl (lv_at hl 2 rfl) ?_
        refine lv_iload_n hx hb d_DR_drawCopy_23 rfl (lv_at hl 3 rfl) ?_
        refine lv_iconst (v := 1) hx hb d_DR_drawCopy_24 (by decide) ?_
        refine goR (xV (C := R_PI) (ci := 0) (As := [.int x1, .int x2, .int x3, .int 1]) (rest := []) (wc := [(o0_q, .inr (0, [.int o0_width, .int o0_height, .ref o0_values_q])), (o0_values_q, .inl (cI, o0_values_n, .inl o0_values))]) (A := A) cx (c_PI_holds l D cI cZ cL H.size o0_q o0_values_q o0_width o0_height o0_values_n o0_values x1 x2 x3 1 hw) vw_DR_61 md_PI_holds ⟨rfl, rfl, Nat.le_of_ble_eq_true rfl, Nat.le_of_ble_eq_true rfl⟩ (hP.sub [0, 1] rfl) (hD.sub [0, 1] (by decide) rfl) 0 rfl rfl rfl hl.1 (Nat.le_of_ble_eq_true rfl) d_DR_drawCopy_25 ⟨Nat.le_of_ble_eq_true rfl, Nat.le_of_ble_eq_true rfl⟩ rfl) (fun r_1 hw => ?_)
        try dsimp only at hw
        refine lv_if_eq (tgt := 48) hx hb d_DR_drawCopy_28 (by decide) (fun hc_4 => ?_) (fun hc_4 => ?_)
        · have hw := hw.1 hc_4
          refine lv_iconst (v := 0) hx hb d_DR_drawCopy_48 (by decide) ?_
          exact retZ cx hQ d_DR_drawCopy_49 o0_values hw (hP.sub [0, 1] rfl) (hD.sub [0, 1] (by decide) rfl) hS
        · have hw := hw.2 hc_4
          refine lv_aload_n hx hb d_DR_drawCopy_31 rfl (lv_at hl 0 rfl) ?_
          refine lv_iload_n hx hb d_DR_drawCopy_32 rfl (lv_at hl 1 rfl) ?_
          refine lv_iload hx hb d_DR_drawCopy_33 (lv_at hl 4 rfl) ?_
          refine lv_iadd hx hb d_DR_drawCopy_35 ?_
          refine lv_iload_n hx hb d_DR_drawCopy_36 rfl (lv_at hl 2 rfl) ?_
          refine lv_iload hx hb d_DR_drawCopy_37 (lv_at hl 5 rfl) ?_
          refine lv_isub hx hb d_DR_drawCopy_39 ?_
          refine lv_iload_n hx hb d_DR_drawCopy_40 rfl (lv_at hl 3 rfl) ?_
          refine lv_iconst (v := 1) hx hb d_DR_drawCopy_41 (by decide) ?_
          refine goR (xV (C := R_PI) (ci := 0) (As := [.int (x1 + x4), .int (x2 - x5), .int x3, .int 1]) (rest := []) (wc := [(o0_q, .inr (0, [.int o0_width, .int o0_height, .ref o0_values_q])), (o0_values_q, .inl (cI, o0_values_n, .inl o0_values))]) (A := A) cx (c_PI_holds l D cI cZ cL H.size o0_q o0_values_q o0_width o0_height o0_values_n o0_values (x1 + x4) (x2 - x5) x3 1 hw) vw_DR_61 md_PI_holds ⟨rfl, rfl, Nat.le_of_ble_eq_true rfl, Nat.le_of_ble_eq_true rfl⟩ (hP.sub [0, 1] rfl) (hD.sub [0, 1] (by decide) rfl) 0 rfl rfl rfl hl.1 (Nat.le_of_ble_eq_true rfl) d_DR_drawCopy_42 ⟨Nat.le_of_ble_eq_true rfl, Nat.le_of_ble_eq_true rfl⟩ rfl) (fun r_2 hw => ?_)
          try dsimp only at hw
          refine lv_if_ne (tgt := 50) hx hb d_DR_drawCopy_45 (by decide) (fun hc_5 => ?_) (fun hc_5 => ?_)
          · have hw := hw.1 hc_5
            refine lv_aload_n hx hb d_DR_drawCopy_50 rfl (lv_at hl 0 rfl) ?_
            refine lv_iload_n hx hb d_DR_drawCopy_51 rfl (lv_at hl 1 rfl) ?_
            refine lv_iload_n hx hb d_DR_drawCopy_52 rfl (lv_at hl 2 rfl) ?_
            refine lv_iload_n hx hb d_DR_drawCopy_53 rfl (lv_at hl 3 rfl) ?_
            refine lv_iload hx hb d_DR_drawCopy_54 (lv_at hl 4 rfl) ?_
            refine lv_iload hx hb d_DR_drawCopy_56 (lv_at hl 5 rfl) ?_
            refine goV (wr := []) (xV (C := R_PI) (ci := 0) (As := [.int x1, .int x2, .int x3, .int x4, .int x5]) (rest := []) (wc := [(o0_q, .inr (0, [.int o0_width, .int o0_height, .ref o0_values_q])), (o0_values_q, .inl (cI, o0_values_n, .inl o0_values))]) (A := A) cx (c_PI_paintCopy l D cI cZ cL H.size o0_q o0_values_q o0_width o0_height o0_values_n o0_values x1 x2 x3 x4 x5 hw) vw_DR_69 md_PI_paintCopy ⟨rfl, rfl, Nat.le_of_ble_eq_true rfl, Nat.le_of_ble_eq_true rfl⟩ (hP.sub [0, 1] rfl) (hD.sub [0, 1] (by decide) rfl) 0 rfl rfl rfl hl.1 (Nat.le_of_ble_eq_true rfl) d_DR_drawCopy_58 ⟨Nat.le_of_ble_eq_true rfl, Nat.le_of_ble_eq_true rfl⟩ rfl) hP hD hS hA [0, 1] [] rfl rfl (by decide) (by decide) (fun f_3 H locs hw hP hD hS => ?_)
            try dsimp only at hw
            have hP : va_P D CL [(o0_q, .inr (0, [.int o0_width, .int o0_height, .ref o0_values_q])), (o0_values_q, .inl (cI, o0_values_n, .inl f_3))] H := hP
            have hD : va_D A [(o0_q, .inr (0, [.int o0_width, .int o0_height, .ref o0_values_q])), (o0_values_q, .inl (cI, o0_values_n, .inl f_3))] := hD
            refine lv_iconst (v := 1) hx hb d_DR_drawCopy_61 (by decide) ?_
            exact retZ cx hQ d_DR_drawCopy_62 f_3 hw (hP.sub [0, 1] rfl) (hD.sub [0, 1] (by decide) rfl) hS
          · have hw := hw.2 hc_5
            refine lv_iconst (v := 0) hx hb d_DR_drawCopy_48 (by decide) ?_
            exact retZ cx hQ d_DR_drawCopy_49 o0_values hw (hP.sub [0, 1] rfl) (hD.sub [0, 1] (by decide) rfl) hS
      · have hw := hw.2 hc_3
        refine lv_iconst (v := 0) hx hb d_DR_drawCopy_18 (by decide) ?_
        exact retZ cx hQ d_DR_drawCopy_19 o0_values hw (hP.sub [0, 1] rfl) (hD.sub [0, 1] (by decide) rfl) hS
def w_DR_drawPart (o0_count : Int32) (o0_bytes_n : Nat) (o0_bytes : Nat → Int32) (o2_width : Int32) (o2_height : Int32) (o2_values_n : Nat) (o2_values : Nat → Int32) (x1 : Int32) (post : Int32 → (Nat → Int32) → Prop) : Prop := w_BR_get o0_count o0_bytes_n o0_bytes x1 (fun r_1 => w_BR_get o0_count o0_bytes_n o0_bytes (x1 + 1) (fun r_2 => w_BR_get o0_count o0_bytes_n o0_bytes (x1 + 2) (fun r_3 => w_BR_get o0_count o0_bytes_n o0_bytes (x1 + 3) (fun r_4 => w_BR_get o0_count o0_bytes_n o0_bytes (x1 + 4) (fun r_5 => (¬ r_1 = 1 → (¬ r_1 = 2 → w_DR_drawRectangle o2_width o2_height o2_values_n o2_values r_2 r_3 r_4 1 r_5 (fun (r_6 : Int32) (f_7 : Nat → Int32) => narrow .boolean (.int r_6) = .int r_6 ∧ post r_6 f_7)) ∧ (r_1 = 2 → w_BR_get o0_count o0_bytes_n o0_bytes (x1 + 5) (fun r_8 => w_DR_drawCopy o2_width o2_height o2_values_n o2_values r_2 r_3 r_4 (r_5 - 4) r_8 (fun (r_9 : Int32) (f_10 : Nat → Int32) => narrow .boolean (.int r_9) = .int r_9 ∧ post r_9 f_10)))) ∧ (r_1 = 1 → w_BR_get o0_count o0_bytes_n o0_bytes (x1 + 5) (fun r_11 => w_DR_drawRectangle o2_width o2_height o2_values_n o2_values r_2 r_3 r_4 r_5 r_11 (fun (r_12 : Int32) (f_13 : Nat → Int32) => narrow .boolean (.int r_12) = .int r_12 ∧ post r_12 f_13))))))))
def rm_DR_drawPart : Room := { frames := 4, cells := 0, slots := 0, locals := 100 }
set_option maxHeartbeats 4000000 in
set_option maxRecDepth 100000 in
theorem c_DR_drawPart (l : Launch) (D : va_G) (cI cZ cL : ClassId) (sz : Nat) (o0_q : Nat) (o0_bytes_q : Nat) (o2_q : Nat) (o2_values_q : Nat) (o0_count : Int32) (o0_bytes_n : Nat) (o0_bytes : Nat → Int32) (o2_width : Int32) (o2_height : Int32) (o2_values_n : Nat) (o2_values : Nat → Int32) (x1 : Int32) {post : Int32 → (Nat → Int32) → Prop} (hw : w_DR_drawPart o0_count o0_bytes_n o0_bytes o2_width o2_height o2_values_n o2_values x1 post) : Met l y_DR_drawPart (Cond.code y_DR_drawPart b_DR_drawPart 8 (some .boolean) :: AW) rm_DR_drawPart (va_Pc [.ref o0_q, .int x1, .ref o2_q] (ST D cI cZ cL [(o0_q, .inr (1, [.ref o0_bytes_q, .int o0_count])), (o0_bytes_q, .inl (cI, o0_bytes_n, .inl o0_bytes)), (o2_q, .inr (0, [.int o2_width, .int o2_height, .ref o2_values_q])), (o2_values_q, .inl (cI, o2_values_n, .inl o2_values))] sz)) (va_Qi (fun (r : Int32) (u : (Nat → Int32)) => post r u) (fun u t => EN D [(o0_q, .inr (1, [.ref o0_bytes_q, .int o0_count])), (o0_bytes_q, .inl (cI, o0_bytes_n, .inl o0_bytes)), (o2_q, .inr (0, [.int o2_width, .int o2_height, .ref o2_values_q])), (o2_values_q, .inl (cI, o2_values_n, .inl u))] (va_A [(o0_q, .inr (1, [.ref o0_bytes_q, .int o0_count])), (o0_bytes_q, .inl (cI, o0_bytes_n, .inl o0_bytes)), (o2_q, .inr (0, [.int o2_width, .int o2_height, .ref o2_values_q])), (o2_values_q, .inl (cI, o2_values_n, .inl o2_values))] sz) t) (va_A [(o0_q, .inr (1, [.ref o0_bytes_q, .int o0_count])), (o0_bytes_q, .inl (cI, o0_bytes_n, .inl o0_bytes)), (o2_q, .inr (0, [.int o2_width, .int o2_height, .ref o2_values_q])), (o2_values_q, .inl (cI, o2_values_n, .inl o2_values))] sz)) 0 0 (va_A [(o0_q, .inr (1, [.ref o0_bytes_q, .int o0_count])), (o0_bytes_q, .inl (cI, o0_bytes_n, .inl o0_bytes)), (o2_q, .inr (0, [.int o2_width, .int o2_height, .ref o2_values_q])), (o2_values_q, .inl (cI, o2_values_n, .inl o2_values))] sz) := by
  refine ofM (own := R_DR) (fun A => (va_Qi (fun (r : Int32) (u : (Nat → Int32)) => post r u) (fun u t => EN D [(o0_q, .inr (1, [.ref o0_bytes_q, .int o0_count])), (o0_bytes_q, .inl (cI, o0_bytes_n, .inl o0_bytes)), (o2_q, .inr (0, [.int o2_width, .int o2_height, .ref o2_values_q])), (o2_values_q, .inl (cI, o2_values_n, .inl u))] A t) A)) (by decide) rfl (Nat.le_of_ble_eq_true rfl) ?_
  intro p e s m args below meth c A ls Q cx hQ hA hl hP hD hS hinit
  obtain ⟨hx, hb, hml, hrt, hown, hta, hlk, hK, hN⟩ := id cx
  have hl : lv_has ls 8 [(0, .ref o0_q), (1, .int x1), (2, .ref o2_q)] := hl
  have h00 : va_P D CL [(o0_q, .inr (1, [.ref o0_bytes_q, .int o0_count])), (o0_bytes_q, .inl (cI, o0_bytes_n, .inl o0_bytes)), (o2_q, .inr (0, [.int o2_width, .int o2_height, .ref o2_values_q])), (o2_values_q, .inl (cI, o2_values_n, .inl o2_values))] s.heap := hP
  unfold w_DR_drawPart at hw
  obtain ⟨H, eH⟩ : ∃ H, H = s.heap := ⟨_, rfl⟩
  obtain ⟨locs, eL⟩ : ∃ locs : List Loc, locs = [] := ⟨_, rfl⟩
  have hS : va_S A s.heap H locs := by rw [eH, eL]; exact hS
  have hP : va_P D CL [(o0_q, .inr (1, [.ref o0_bytes_q, .int o0_count])), (o0_bytes_q, .inl (cI, o0_bytes_n, .inl o0_bytes)), (o2_q, .inr (0, [.int o2_width, .int o2_height, .ref o2_values_q])), (o2_values_q, .inl (cI, o2_values_n, .inl o2_values))] H := by rw [eH]; exact hP
  suffices hgo : W p l e rm_DR_drawPart s m args below meth c H locs 0 0 Q (F0 m 0 ls []) by rw [eH, eL] at hgo; exact hgo
  clear eH eL h00
  refine lv_aload_n hx hb d_DR_drawPart_0 rfl (lv_at hl 0 rfl) ?_
  refine lv_iload_n hx hb d_DR_drawPart_1 rfl (lv_at hl 1 rfl) ?_
  refine goR (xV (C := R_BR) (ci := 1) (As := [.int x1]) (rest := []) (wc := [(o0_q, .inr (1, [.ref o0_bytes_q, .int o0_count])), (o0_bytes_q, .inl (cI, o0_bytes_n, .inl o0_bytes))]) (A := A) cx (c_BR_get l D cI cZ cL H.size o0_q o0_bytes_q o0_count o0_bytes_n o0_bytes x1 hw) vw_DR_9 md_BR_get ⟨rfl, rfl, Nat.le_of_ble_eq_true rfl, Nat.le_of_ble_eq_true rfl⟩ (hP.sub [0, 1] rfl) (hD.sub [0, 1] (by decide) rfl) 0 rfl rfl rfl hl.1 (Nat.le_of_ble_eq_true rfl) d_DR_drawPart_2 ⟨Nat.le_of_ble_eq_true rfl, Nat.le_of_ble_eq_true rfl⟩ rfl) (fun r_1 hw => ?_)
  try dsimp only at hw
  refine lv_istore_n (lv' := [(3, .int r_1), (0, .ref o0_q), (1, .int x1), (2, .ref o2_q)]) hx hb d_DR_drawPart_5 rfl hl (by decide) rfl (fun ls hl => ?_)
  refine lv_aload_n hx hb d_DR_drawPart_6 rfl (lv_at hl 1 rfl) ?_
  refine lv_iload_n hx hb d_DR_drawPart_7 rfl (lv_at hl 2 rfl) ?_
  refine lv_iconst (v := 1) hx hb d_DR_drawPart_8 (by decide) ?_
  refine lv_iadd hx hb d_DR_drawPart_9 ?_
  refine goR (xV (C := R_BR) (ci := 1) (As := [.int (x1 + 1)]) (rest := []) (wc := [(o0_q, .inr (1, [.ref o0_bytes_q, .int o0_count])), (o0_bytes_q, .inl (cI, o0_bytes_n, .inl o0_bytes))]) (A := A) cx (c_BR_get l D cI cZ cL H.size o0_q o0_bytes_q o0_count o0_bytes_n o0_bytes (x1 + 1) hw) vw_DR_9 md_BR_get ⟨rfl, rfl, Nat.le_of_ble_eq_true rfl, Nat.le_of_ble_eq_true rfl⟩ (hP.sub [0, 1] rfl) (hD.sub [0, 1] (by decide) rfl) 0 rfl rfl rfl hl.1 (Nat.le_of_ble_eq_true rfl) d_DR_drawPart_10 ⟨Nat.le_of_ble_eq_true rfl, Nat.le_of_ble_eq_true rfl⟩ rfl) (fun r_2 hw => ?_)
  try dsimp only at hw
  refine lv_istore (lv' := [(4, .int r_2), (3, .int r_1), (0, .ref o0_q), (1, .int x1), (2, .ref o2_q)]) hx hb d_DR_drawPart_13 hl (by decide) rfl (fun ls hl => ?_)
  refine lv_aload_n hx hb d_DR_drawPart_15 rfl (lv_at hl 2 rfl) ?_
  refine lv_iload_n hx hb d_DR_drawPart_16 rfl (lv_at hl 3 rfl) ?_
  refine lv_iconst (v := 2) hx hb d_DR_drawPart_17 (by decide) ?_
  refine lv_iadd hx hb d_DR_drawPart_18 ?_
  refine goR (xV (C := R_BR) (ci := 1) (As := [.int (x1 + 2)]) (rest := []) (wc := [(o0_q, .inr (1, [.ref o0_bytes_q, .int o0_count])), (o0_bytes_q, .inl (cI, o0_bytes_n, .inl o0_bytes))]) (A := A) cx (c_BR_get l D cI cZ cL H.size o0_q o0_bytes_q o0_count o0_bytes_n o0_bytes (x1 + 2) hw) vw_DR_9 md_BR_get ⟨rfl, rfl, Nat.le_of_ble_eq_true rfl, Nat.le_of_ble_eq_true rfl⟩ (hP.sub [0, 1] rfl) (hD.sub [0, 1] (by decide) rfl) 0 rfl rfl rfl hl.1 (Nat.le_of_ble_eq_true rfl) d_DR_drawPart_19 ⟨Nat.le_of_ble_eq_true rfl, Nat.le_of_ble_eq_true rfl⟩ rfl) (fun r_3 hw => ?_)
  try dsimp only at hw
  refine lv_istore (lv' := [(5, .int r_3), (4, .int r_2), (3, .int r_1), (0, .ref o0_q), (1, .int x1), (2, .ref o2_q)]) hx hb d_DR_drawPart_22 hl (by decide) rfl (fun ls hl => ?_)
  refine lv_aload_n hx hb d_DR_drawPart_24 rfl (lv_at hl 3 rfl) ?_
  refine lv_iload_n hx hb d_DR_drawPart_25 rfl (lv_at hl 4 rfl) ?_
  refine lv_iconst (v := 3) hx hb d_DR_drawPart_26 (by decide) ?_
  refine lv_iadd hx hb d_DR_drawPart_27 ?_
  refine goR (xV (C := R_BR) (ci := 1) (As := [.int (x1 + 3)]) (rest := []) (wc := [(o0_q, .inr (1, [.ref o0_bytes_q, .int o0_count])), (o0_bytes_q, .inl (cI, o0_bytes_n, .inl o0_bytes))]) (A := A) cx (c_BR_get l D cI cZ cL H.size o0_q o0_bytes_q o0_count o0_bytes_n o0_bytes (x1 + 3) hw) vw_DR_9 md_BR_get ⟨rfl, rfl, Nat.le_of_ble_eq_true rfl, Nat.le_of_ble_eq_true rfl⟩ (hP.sub [0, 1] rfl) (hD.sub [0, 1] (by decide) rfl) 0 rfl rfl rfl hl.1 (Nat.le_of_ble_eq_true rfl) d_DR_drawPart_28 ⟨Nat.le_of_ble_eq_true rfl, Nat.le_of_ble_eq_true rfl⟩ rfl) (fun r_4 hw => ?_)
  try dsimp only at hw
  refine lv_istore (lv' := [(6, .int r_4), (5, .int r_3), (4, .int r_2), (3, .int r_1), (0, .ref o0_q), (1, .int x1), (2, .ref o2_q)]) hx hb d_DR_drawPart_31 hl (by decide) rfl (fun ls hl => ?_)
  refine lv_aload_n hx hb d_DR_drawPart_33 rfl (lv_at hl 4 rfl) ?_
  refine lv_iload_n hx hb d_DR_drawPart_34 rfl (lv_at hl 5 rfl) ?_
  refine lv_iconst (v := 4) hx hb d_DR_drawPart_35 (by decide) ?_
  refine lv_iadd hx hb d_DR_drawPart_36 ?_
  refine goR (xV (C := R_BR) (ci := 1) (As := [.int (x1 + 4)]) (rest := []) (wc := [(o0_q, .inr (1, [.ref o0_bytes_q, .int o0_count])), (o0_bytes_q, .inl (cI, o0_bytes_n, .inl o0_bytes))]) (A := A) cx (c_BR_get l D cI cZ cL H.size o0_q o0_bytes_q o0_count o0_bytes_n o0_bytes (x1 + 4) hw) vw_DR_9 md_BR_get ⟨rfl, rfl, Nat.le_of_ble_eq_true rfl, Nat.le_of_ble_eq_true rfl⟩ (hP.sub [0, 1] rfl) (hD.sub [0, 1] (by decide) rfl) 0 rfl rfl rfl hl.1 (Nat.le_of_ble_eq_true rfl) d_DR_drawPart_37 ⟨Nat.le_of_ble_eq_true rfl, Nat.le_of_ble_eq_true rfl⟩ rfl) (fun r_5 hw => ?_)
  try dsimp only at hw
  refine lv_istore (lv' := [(7, .int r_5), (6, .int r_4), (5, .int r_3), (4, .int r_2), (3, .int r_1), (0, .ref o0_q), (1, .int x1), (2, .ref o2_q)]) hx hb d_DR_drawPart_40 hl (by decide) rfl (fun ls hl => ?_)
  refine lv_iload_n hx hb d_DR_drawPart_42 rfl (lv_at hl 4 rfl) ?_
  refine lv_iconst (v := 1) hx hb d_DR_drawPart_43 (by decide) ?_
  refine lv_icmp_ne (tgt := 67) hx hb d_DR_drawPart_44 (by decide) (fun hc_1 => ?_) (fun hc_1 => ?_)
  · have hw := hw.1 hc_1
    refine lv_iload_n hx hb d_DR_drawPart_67 rfl (lv_at hl 4 rfl) ?_
    refine lv_iconst (v := 2) hx hb d_DR_drawPart_68 (by decide) ?_
    refine lv_icmp_ne (tgt := 94) hx hb d_DR_drawPart_69 (by decide) (fun hc_2 => ?_) (fun hc_2 => ?_)
    · have hw := hw.1 hc_2
      refine lv_aload_n hx hb d_DR_drawPart_94 rfl (lv_at hl 7 rfl) ?_
      refine lv_iload hx hb d_DR_drawPart_95 (lv_at hl 3 rfl) ?_
      refine lv_iload hx hb d_DR_drawPart_97 (lv_at hl 2 rfl) ?_
      refine lv_iload hx hb d_DR_drawPart_99 (lv_at hl 1 rfl) ?_
      refine lv_iconst (v := 1) hx hb d_DR_drawPart_101 (by decide) ?_
      refine lv_iload hx hb d_DR_drawPart_102 (lv_at hl 0 rfl) ?_
      refine goI (wr := [(o0_q, .inr (1, [.ref o0_bytes_q, .int o0_count])), (o0_bytes_q, .inl (cI, o0_bytes_n, .inl o0_bytes))]) (xS (As := [.ref o2_q, .int r_2, .int r_3, .int r_4, .int 1, .int r_5]) (rest := []) (wc := [(o2_q, .inr (0, [.int o2_width, .int o2_height, .ref o2_values_q])), (o2_values_q, .inl (cI, o2_values_n, .inl o2_values))]) (A := A) cx (c_DR_drawRectangle l D cI cZ cL H.size o2_q o2_values_q o2_width o2_height o2_values_n o2_values r_2 r_3 r_4 1 r_5 hw) sw_DR_54 md_DR_drawRectangle ⟨rfl, rfl, Nat.le_of_ble_eq_true rfl, Nat.le_of_ble_eq_true rfl⟩ (hP.sub [2, 3] rfl) (hD.sub [2, 3] (by decide) rfl) rfl hl.1 (Nat.le_of_ble_eq_true rfl) d_DR_drawPart_104 ⟨Nat.le_of_ble_eq_true rfl, Nat.le_of_ble_eq_true rfl⟩ rfl) hP hD hS hA [2, 3] [0, 1] rfl rfl (by decide) (by decide) (fun r_6 f_7 H locs hw hP hD hS => ?_)
      try dsimp only at hw
      have hP : va_P D CL [(o0_q, .inr (1, [.ref o0_bytes_q, .int o0_count])), (o0_bytes_q, .inl (cI, o0_bytes_n, .inl o0_bytes)), (o2_q, .inr (0, [.int o2_width, .int o2_height, .ref o2_values_q])), (o2_values_q, .inl (cI, o2_values_n, .inl f_7))] H := hP
      have hD : va_D A [(o0_q, .inr (1, [.ref o0_bytes_q, .int o0_count])), (o0_bytes_q, .inl (cI, o0_bytes_n, .inl o0_bytes)), (o2_q, .inr (0, [.int o2_width, .int o2_height, .ref o2_values_q])), (o2_values_q, .inl (cI, o2_values_n, .inl f_7))] := hD
      exact retZ cx hQ d_DR_drawPart_107 f_7 hw (hP.sub [0, 1, 2, 3] rfl) (hD.sub [0, 1, 2, 3] (by decide) rfl) hS
    · have hw := hw.2 hc_2
      refine lv_aload_n hx hb d_DR_drawPart_72 rfl (lv_at hl 7 rfl) ?_
      refine lv_iload hx hb d_DR_drawPart_73 (lv_at hl 3 rfl) ?_
      refine lv_iload hx hb d_DR_drawPart_75 (lv_at hl 2 rfl) ?_
      refine lv_iload hx hb d_DR_drawPart_77 (lv_at hl 1 rfl) ?_
      refine lv_iload hx hb d_DR_drawPart_79 (lv_at hl 0 rfl) ?_
      refine lv_iconst (v := 4) hx hb d_DR_drawPart_81 (by decide) ?_
      refine lv_isub hx hb d_DR_drawPart_82 ?_
      refine lv_aload_n hx hb d_DR_drawPart_83 rfl (lv_at hl 5 rfl) ?_
      refine lv_iload_n hx hb d_DR_drawPart_84 rfl (lv_at hl 6 rfl) ?_
      refine lv_iconst (v := 5) hx hb d_DR_drawPart_85 (by decide) ?_
      refine lv_iadd hx hb d_DR_drawPart_86 ?_
      refine goR (xV (C := R_BR) (ci := 1) (As := [.int (x1 + 5)]) (rest := [.int (r_5 - 4), .int r_4, .int r_3, .int r_2, .ref o2_q]) (wc := [(o0_q, .inr (1, [.ref o0_bytes_q, .int o0_count])), (o0_bytes_q, .inl (cI, o0_bytes_n, .inl o0_bytes))]) (A := A) cx (c_BR_get l D cI cZ cL H.size o0_q o0_bytes_q o0_count o0_bytes_n o0_bytes (x1 + 5) hw) vw_DR_9 md_BR_get ⟨rfl, rfl, Nat.le_of_ble_eq_true rfl, Nat.le_of_ble_eq_true rfl⟩ (hP.sub [0, 1] rfl) (hD.sub [0, 1] (by decide) rfl) 0 rfl rfl rfl hl.1 (Nat.le_of_ble_eq_true rfl) d_DR_drawPart_87 ⟨Nat.le_of_ble_eq_true rfl, Nat.le_of_ble_eq_true rfl⟩ rfl) (fun r_8 hw => ?_)
      try dsimp only at hw
      refine goI (wr := [(o0_q, .inr (1, [.ref o0_bytes_q, .int o0_count])), (o0_bytes_q, .inl (cI, o0_bytes_n, .inl o0_bytes))]) (xS (As := [.ref o2_q, .int r_2, .int r_3, .int r_4, .int (r_5 - 4), .int r_8]) (rest := []) (wc := [(o2_q, .inr (0, [.int o2_width, .int o2_height, .ref o2_values_q])), (o2_values_q, .inl (cI, o2_values_n, .inl o2_values))]) (A := A) cx (c_DR_drawCopy l D cI cZ cL H.size o2_q o2_values_q o2_width o2_height o2_values_n o2_values r_2 r_3 r_4 (r_5 - 4) r_8 hw) sw_DR_58 md_DR_drawCopy ⟨rfl, rfl, Nat.le_of_ble_eq_true rfl, Nat.le_of_ble_eq_true rfl⟩ (hP.sub [2, 3] rfl) (hD.sub [2, 3] (by decide) rfl) rfl hl.1 (Nat.le_of_ble_eq_true rfl) d_DR_drawPart_90 ⟨Nat.le_of_ble_eq_true rfl, Nat.le_of_ble_eq_true rfl⟩ rfl) hP hD hS hA [2, 3] [0, 1] rfl rfl (by decide) (by decide) (fun r_9 f_10 H locs hw hP hD hS => ?_)
      try dsimp only at hw
      have hP : va_P D CL [(o0_q, .inr (1, [.ref o0_bytes_q, .int o0_count])), (o0_bytes_q, .inl (cI, o0_bytes_n, .inl o0_bytes)), (o2_q, .inr (0, [.int o2_width, .int o2_height, .ref o2_values_q])), (o2_values_q, .inl (cI, o2_values_n, .inl f_10))] H := hP
      have hD : va_D A [(o0_q, .inr (1, [.ref o0_bytes_q, .int o0_count])), (o0_bytes_q, .inl (cI, o0_bytes_n, .inl o0_bytes)), (o2_q, .inr (0, [.int o2_width, .int o2_height, .ref o2_values_q])), (o2_values_q, .inl (cI, o2_values_n, .inl f_10))] := hD
      exact retZ cx hQ d_DR_drawPart_93 f_10 hw (hP.sub [0, 1, 2, 3] rfl) (hD.sub [0, 1, 2, 3] (by decide) rfl) hS
  · have hw := hw.2 hc_1
    refine lv_aload_n hx hb d_DR_drawPart_47 rfl (lv_at hl 7 rfl) ?_
    refine lv_iload hx hb d_DR_drawPart_48 (lv_at hl 3 rfl) ?_
    refine lv_iload hx hb d_DR_drawPart_50 (lv_at hl 2 rfl) ?_
    refine lv_iload hx hb d_DR_drawPart_52 (lv_at hl 1 rfl) ?_
    refine lv_iload hx hb d_DR_drawPart_54 (lv_at hl 0 rfl) ?_
    refine lv_aload_n hx hb d_DR_drawPart_56 rfl (lv_at hl 5 rfl) ?_
    refine lv_iload_n hx hb d_DR_drawPart_57 rfl (lv_at hl 6 rfl) ?_
    refine lv_iconst (v := 5) hx hb d_DR_drawPart_58 (by decide) ?_
    refine lv_iadd hx hb d_DR_drawPart_59 ?_
    refine goR (xV (C := R_BR) (ci := 1) (As := [.int (x1 + 5)]) (rest := [.int r_5, .int r_4, .int r_3, .int r_2, .ref o2_q]) (wc := [(o0_q, .inr (1, [.ref o0_bytes_q, .int o0_count])), (o0_bytes_q, .inl (cI, o0_bytes_n, .inl o0_bytes))]) (A := A) cx (c_BR_get l D cI cZ cL H.size o0_q o0_bytes_q o0_count o0_bytes_n o0_bytes (x1 + 5) hw) vw_DR_9 md_BR_get ⟨rfl, rfl, Nat.le_of_ble_eq_true rfl, Nat.le_of_ble_eq_true rfl⟩ (hP.sub [0, 1] rfl) (hD.sub [0, 1] (by decide) rfl) 0 rfl rfl rfl hl.1 (Nat.le_of_ble_eq_true rfl) d_DR_drawPart_60 ⟨Nat.le_of_ble_eq_true rfl, Nat.le_of_ble_eq_true rfl⟩ rfl) (fun r_11 hw => ?_)
    try dsimp only at hw
    refine goI (wr := [(o0_q, .inr (1, [.ref o0_bytes_q, .int o0_count])), (o0_bytes_q, .inl (cI, o0_bytes_n, .inl o0_bytes))]) (xS (As := [.ref o2_q, .int r_2, .int r_3, .int r_4, .int r_5, .int r_11]) (rest := []) (wc := [(o2_q, .inr (0, [.int o2_width, .int o2_height, .ref o2_values_q])), (o2_values_q, .inl (cI, o2_values_n, .inl o2_values))]) (A := A) cx (c_DR_drawRectangle l D cI cZ cL H.size o2_q o2_values_q o2_width o2_height o2_values_n o2_values r_2 r_3 r_4 r_5 r_11 hw) sw_DR_54 md_DR_drawRectangle ⟨rfl, rfl, Nat.le_of_ble_eq_true rfl, Nat.le_of_ble_eq_true rfl⟩ (hP.sub [2, 3] rfl) (hD.sub [2, 3] (by decide) rfl) rfl hl.1 (Nat.le_of_ble_eq_true rfl) d_DR_drawPart_63 ⟨Nat.le_of_ble_eq_true rfl, Nat.le_of_ble_eq_true rfl⟩ rfl) hP hD hS hA [2, 3] [0, 1] rfl rfl (by decide) (by decide) (fun r_12 f_13 H locs hw hP hD hS => ?_)
    try dsimp only at hw
    have hP : va_P D CL [(o0_q, .inr (1, [.ref o0_bytes_q, .int o0_count])), (o0_bytes_q, .inl (cI, o0_bytes_n, .inl o0_bytes)), (o2_q, .inr (0, [.int o2_width, .int o2_height, .ref o2_values_q])), (o2_values_q, .inl (cI, o2_values_n, .inl f_13))] H := hP
    have hD : va_D A [(o0_q, .inr (1, [.ref o0_bytes_q, .int o0_count])), (o0_bytes_q, .inl (cI, o0_bytes_n, .inl o0_bytes)), (o2_q, .inr (0, [.int o2_width, .int o2_height, .ref o2_values_q])), (o2_values_q, .inl (cI, o2_values_n, .inl f_13))] := hD
    exact retZ cx hQ d_DR_drawPart_66 f_13 hw (hP.sub [0, 1, 2, 3] rfl) (hD.sub [0, 1, 2, 3] (by decide) rfl) hS
def w_DR_readParts_4 (o0_count : Int32) (o0_bytes_n : Nat) (o0_bytes : Nat → Int32) (o1_width : Int32) (o1_height : Int32) (o1_values_n : Nat) (k_92 : Int32 → Int32 → (Nat → Int32) → Prop) (k_76 : Int32 → Int32 → (Nat → Int32) → Prop) (k_23 : Int32 → Int32 → (Nat → Int32) → Prop) : Nat → Int32 → Int32 → (Nat → Int32) → Prop
  | 0, _, _, _ => False
  | n + 1, v3_4, v2_5, f_o1_values_q_6 => (4000 ≤ v3_4 → k_92 v3_4 v2_5 f_o1_values_q_6) ∧ (¬ 4000 ≤ v3_4 → w_BR_get o0_count o0_bytes_n o0_bytes v2_5 (fun r_7 => (¬ r_7 = 0 → w_DF_bytesOf r_7 (fun r_8 => (r_8 = 0 → k_76 v3_4 v2_5 f_o1_values_q_6) ∧ (¬ r_8 = 0 → ((o0_count - v2_5) < r_8 → k_76 v3_4 v2_5 f_o1_values_q_6) ∧ (¬ (o0_count - v2_5) < r_8 → w_DR_drawPart o0_count o0_bytes_n o0_bytes o1_width o1_height o1_values_n f_o1_values_q_6 v2_5 (fun (r_9 : Int32) (f_10 : Nat → Int32) => (¬ r_9 = 0 → w_DR_readParts_4 o0_count o0_bytes_n o0_bytes o1_width o1_height o1_values_n k_92 k_76 k_23 n (v3_4 + 1) (v2_5 + r_8) f_10) ∧ (r_9 = 0 → k_76 v3_4 v2_5 f_10)))))) ∧ (r_7 = 0 → k_23 v3_4 v2_5 f_o1_values_q_6)))
def w_DR_readParts (o0_count : Int32) (o0_bytes_n : Nat) (o0_bytes : Nat → Int32) (o1_width : Int32) (o1_height : Int32) (o1_values_n : Nat) (o1_values : Nat → Int32) (post : Int32 → (Nat → Int32) → Prop) : Prop := ∃ n_4 : Nat, w_DR_readParts_4 o0_count o0_bytes_n o0_bytes o1_width o1_height o1_values_n (fun (v3_4_11 : Int32) (v2_5_12 : Int32) (f_o1_values_q_6_13 : Nat → Int32) => w_DF_refusedAt v2_5_12 (fun r_14 => post r_14 f_o1_values_q_6_13)) (fun (v3_4_15 : Int32) (v2_5_16 : Int32) (f_o1_values_q_6_17 : Nat → Int32) => w_DF_refusedAt v2_5_16 (fun r_18 => post r_18 f_o1_values_q_6_17)) (fun (v3_4_19 : Int32) (v2_5_20 : Int32) (f_o1_values_q_6_21 : Nat → Int32) => (¬ (v2_5_20 + 1) = o0_count → w_DF_refusedAt (v2_5_20 + 1) (fun r_22 => post r_22 f_o1_values_q_6_21)) ∧ ((v2_5_20 + 1) = o0_count → post v3_4_19 f_o1_values_q_6_21)) n_4 0 2 o1_values
def rm_DR_readParts : Room := { frames := 5, cells := 0, slots := 0, locals := 127 }
set_option maxHeartbeats 4000000 in
set_option maxRecDepth 100000 in
theorem c_DR_readParts (l : Launch) (D : va_G) (cI cZ cL : ClassId) (sz : Nat) (o0_q : Nat) (o0_bytes_q : Nat) (o1_q : Nat) (o1_values_q : Nat) (o0_count : Int32) (o0_bytes_n : Nat) (o0_bytes : Nat → Int32) (o1_width : Int32) (o1_height : Int32) (o1_values_n : Nat) (o1_values : Nat → Int32) {post : Int32 → (Nat → Int32) → Prop} (hw : w_DR_readParts o0_count o0_bytes_n o0_bytes o1_width o1_height o1_values_n o1_values post) : Met l y_DR_readParts (Cond.code y_DR_readParts b_DR_readParts 6 (some .int) :: AW) rm_DR_readParts (va_Pc [.ref o0_q, .ref o1_q] (ST D cI cZ cL [(o0_q, .inr (1, [.ref o0_bytes_q, .int o0_count])), (o0_bytes_q, .inl (cI, o0_bytes_n, .inl o0_bytes)), (o1_q, .inr (0, [.int o1_width, .int o1_height, .ref o1_values_q])), (o1_values_q, .inl (cI, o1_values_n, .inl o1_values))] sz)) (va_Qi (fun (r : Int32) (u : (Nat → Int32)) => post r u) (fun u t => EN D [(o0_q, .inr (1, [.ref o0_bytes_q, .int o0_count])), (o0_bytes_q, .inl (cI, o0_bytes_n, .inl o0_bytes)), (o1_q, .inr (0, [.int o1_width, .int o1_height, .ref o1_values_q])), (o1_values_q, .inl (cI, o1_values_n, .inl u))] (va_A [(o0_q, .inr (1, [.ref o0_bytes_q, .int o0_count])), (o0_bytes_q, .inl (cI, o0_bytes_n, .inl o0_bytes)), (o1_q, .inr (0, [.int o1_width, .int o1_height, .ref o1_values_q])), (o1_values_q, .inl (cI, o1_values_n, .inl o1_values))] sz) t) (va_A [(o0_q, .inr (1, [.ref o0_bytes_q, .int o0_count])), (o0_bytes_q, .inl (cI, o0_bytes_n, .inl o0_bytes)), (o1_q, .inr (0, [.int o1_width, .int o1_height, .ref o1_values_q])), (o1_values_q, .inl (cI, o1_values_n, .inl o1_values))] sz)) 0 0 (va_A [(o0_q, .inr (1, [.ref o0_bytes_q, .int o0_count])), (o0_bytes_q, .inl (cI, o0_bytes_n, .inl o0_bytes)), (o1_q, .inr (0, [.int o1_width, .int o1_height, .ref o1_values_q])), (o1_values_q, .inl (cI, o1_values_n, .inl o1_values))] sz) := by
  refine ofM (own := R_DR) (fun A => (va_Qi (fun (r : Int32) (u : (Nat → Int32)) => post r u) (fun u t => EN D [(o0_q, .inr (1, [.ref o0_bytes_q, .int o0_count])), (o0_bytes_q, .inl (cI, o0_bytes_n, .inl o0_bytes)), (o1_q, .inr (0, [.int o1_width, .int o1_height, .ref o1_values_q])), (o1_values_q, .inl (cI, o1_values_n, .inl u))] A t) A)) (by decide) rfl (Nat.le_of_ble_eq_true rfl) ?_
  intro p e s m args below meth c A ls Q cx hQ hA hl hP hD hS hinit
  obtain ⟨hx, hb, hml, hrt, hown, hta, hlk, hK, hN⟩ := id cx
  have hl : lv_has ls 6 [(0, .ref o0_q), (1, .ref o1_q)] := hl
  have h00 : va_P D CL [(o0_q, .inr (1, [.ref o0_bytes_q, .int o0_count])), (o0_bytes_q, .inl (cI, o0_bytes_n, .inl o0_bytes)), (o1_q, .inr (0, [.int o1_width, .int o1_height, .ref o1_values_q])), (o1_values_q, .inl (cI, o1_values_n, .inl o1_values))] s.heap := hP
  unfold w_DR_readParts at hw
  obtain ⟨H, eH⟩ : ∃ H, H = s.heap := ⟨_, rfl⟩
  obtain ⟨locs, eL⟩ : ∃ locs : List Loc, locs = [] := ⟨_, rfl⟩
  have hS : va_S A s.heap H locs := by rw [eH, eL]; exact hS
  have hP : va_P D CL [(o0_q, .inr (1, [.ref o0_bytes_q, .int o0_count])), (o0_bytes_q, .inl (cI, o0_bytes_n, .inl o0_bytes)), (o1_q, .inr (0, [.int o1_width, .int o1_height, .ref o1_values_q])), (o1_values_q, .inl (cI, o1_values_n, .inl o1_values))] H := by rw [eH]; exact hP
  suffices hgo : W p l e rm_DR_readParts s m args below meth c H locs 0 0 Q (F0 m 0 ls []) by rw [eH, eL] at hgo; exact hgo
  clear eH eL h00
  refine lv_iconst (v := 2) hx hb d_DR_readParts_0 (by decide) ?_
  refine lv_istore_n (lv' := [(2, .int 2), (0, .ref o0_q), (1, .ref o1_q)]) hx hb d_DR_readParts_1 rfl hl (by decide) rfl (fun ls hl => ?_)
  refine lv_iconst (v := 0) hx hb d_DR_readParts_2 (by decide) ?_
  refine lv_istore_n (lv' := [(3, .int 0), (2, .int 2), (0, .ref o0_q), (1, .ref o1_q)]) hx hb d_DR_readParts_3 rfl hl (by decide) rfl (fun ls hl => ?_)
  have L4 : ∀ (k_92 : Int32 → Int32 → (Nat → Int32) → Prop) (hk_92 : ∀ (v3_4 : Int32) (v2_5 : Int32) (f_o1_values_q_6 : Nat → Int32) (H : Heap) (locs : List Loc) (ls : Array Slot), lv_has ls 6 [(3, .int v3_4), (2, .int v2_5), (0, .ref o0_q), (1, .ref o1_q)] → va_P D CL [(o0_q, .inr (1, [.ref o0_bytes_q, .int o0_count])), (o0_bytes_q, .inl (cI, o0_bytes_n, .inl o0_bytes)), (o1_q, .inr (0, [.int o1_width, .int o1_height, .ref o1_values_q])), (o1_values_q, .inl (cI, o1_values_n, .inl f_o1_values_q_6))] H → va_D A [(o0_q, .inr (1, [.ref o0_bytes_q, .int o0_count])), (o0_bytes_q, .inl (cI, o0_bytes_n, .inl o0_bytes)), (o1_q, .inr (0, [.int o1_width, .int o1_height, .ref o1_values_q])), (o1_values_q, .inl (cI, o1_values_n, .inl f_o1_values_q_6))] → va_S A s.heap H locs → k_92 v3_4 v2_5 f_o1_values_q_6 → W p l e rm_DR_readParts s m args below meth c H locs 0 0 Q (F0 m 92 ls [])), ∀ (k_76 : Int32 → Int32 → (Nat → Int32) → Prop) (hk_76 : ∀ (v3_4 : Int32) (v2_5 : Int32) (f_o1_values_q_6 : Nat → Int32) (H : Heap) (locs : List Loc) (ls : Array Slot), lv_has ls 6 [(3, .int v3_4), (2, .int v2_5), (0, .ref o0_q), (1, .ref o1_q)] → va_P D CL [(o0_q, .inr (1, [.ref o0_bytes_q, .int o0_count])), (o0_bytes_q, .inl (cI, o0_bytes_n, .inl o0_bytes)), (o1_q, .inr (0, [.int o1_width, .int o1_height, .ref o1_values_q])), (o1_values_q, .inl (cI, o1_values_n, .inl f_o1_values_q_6))] H → va_D A [(o0_q, .inr (1, [.ref o0_bytes_q, .int o0_count])), (o0_bytes_q, .inl (cI, o0_bytes_n, .inl o0_bytes)), (o1_q, .inr (0, [.int o1_width, .int o1_height, .ref o1_values_q])), (o1_values_q, .inl (cI, o1_values_n, .inl f_o1_values_q_6))] → va_S A s.heap H locs → k_76 v3_4 v2_5 f_o1_values_q_6 → W p l e rm_DR_readParts s m args below meth c H locs 0 0 Q (F0 m 76 ls [])), ∀ (k_23 : Int32 → Int32 → (Nat → Int32) → Prop) (hk_23 : ∀ (v3_4 : Int32) (v2_5 : Int32) (f_o1_values_q_6 : Nat → Int32) (H : Heap) (locs : List Loc) (ls : Array Slot), lv_has ls 6 [(3, .int v3_4), (2, .int v2_5), (0, .ref o0_q), (1, .ref o1_q)] → va_P D CL [(o0_q, .inr (1, [.ref o0_bytes_q, .int o0_count])), (o0_bytes_q, .inl (cI, o0_bytes_n, .inl o0_bytes)), (o1_q, .inr (0, [.int o1_width, .int o1_height, .ref o1_values_q])), (o1_values_q, .inl (cI, o1_values_n, .inl f_o1_values_q_6))] H → va_D A [(o0_q, .inr (1, [.ref o0_bytes_q, .int o0_count])), (o0_bytes_q, .inl (cI, o0_bytes_n, .inl o0_bytes)), (o1_q, .inr (0, [.int o1_width, .int o1_height, .ref o1_values_q])), (o1_values_q, .inl (cI, o1_values_n, .inl f_o1_values_q_6))] → va_S A s.heap H locs → k_23 v3_4 v2_5 f_o1_values_q_6 → W p l e rm_DR_readParts s m args below meth c H locs 0 0 Q (F0 m 23 ls [])), ∀ (n : Nat) (v3_4 : Int32) (v2_5 : Int32) (f_o1_values_q_6 : Nat → Int32) (H : Heap) (locs : List Loc) (ls : Array Slot), lv_has ls 6 [(3, .int v3_4), (2, .int v2_5), (0, .ref o0_q), (1, .ref o1_q)] → va_P D CL [(o0_q, .inr (1, [.ref o0_bytes_q, .int o0_count])), (o0_bytes_q, .inl (cI, o0_bytes_n, .inl o0_bytes)), (o1_q, .inr (0, [.int o1_width, .int o1_height, .ref o1_values_q])), (o1_values_q, .inl (cI, o1_values_n, .inl f_o1_values_q_6))] H → va_D A [(o0_q, .inr (1, [.ref o0_bytes_q, .int o0_count])), (o0_bytes_q, .inl (cI, o0_bytes_n, .inl o0_bytes)), (o1_q, .inr (0, [.int o1_width, .int o1_height, .ref o1_values_q])), (o1_values_q, .inl (cI, o1_values_n, .inl f_o1_values_q_6))] → va_S A s.heap H locs → w_DR_readParts_4 o0_count o0_bytes_n o0_bytes o1_width o1_height o1_values_n k_92 k_76 k_23 n v3_4 v2_5 f_o1_values_q_6 → W p l e rm_DR_readParts s m args below meth c H locs 0 0 Q (F0 m 4 ls []) := by
    intro k_92 hk_92 k_76 hk_76 k_23 hk_23 n
    induction n with
    | zero => intro v3_4 v2_5 f_o1_values_q_6 H locs ls hl hP hD hS hw; exact hw.elim
    | succ n ih =>
      intro v3_4 v2_5 f_o1_values_q_6 H locs ls hl hP hD hS hw
      rw [w_DR_readParts_4] at hw
      refine lv_iload_n hx hb d_DR_readParts_4 rfl (lv_at hl 0 rfl) ?_
      refine lv_sipush (v := 4000) hx hb d_DR_readParts_5 (by decide) ?_
      refine lv_icmp_ge (tgt := 92) hx hb d_DR_readParts_8 (by decide) (fun hc_11 => ?_) (fun hc_11 => ?_)
      · have hw := hw.1 hc_11
        exact hk_92 v3_4 v2_5 f_o1_values_q_6 _ _ _ (lv_sub hl [0, 1, 2, 3] rfl) (hP.sub [0, 1, 2, 3] rfl) (hD.sub [0, 1, 2, 3] (by decide) rfl) hS hw
      · have hw := hw.2 hc_11
        refine lv_aload_n hx hb d_DR_readParts_11 rfl (lv_at hl 2 rfl) ?_
        refine lv_iload_n hx hb d_DR_readParts_12 rfl (lv_at hl 1 rfl) ?_
        refine goR (xV (C := R_BR) (ci := 1) (As := [.int v2_5]) (rest := []) (wc := [(o0_q, .inr (1, [.ref o0_bytes_q, .int o0_count])), (o0_bytes_q, .inl (cI, o0_bytes_n, .inl o0_bytes))]) (A := A) cx (c_BR_get l D cI cZ cL H.size o0_q o0_bytes_q o0_count o0_bytes_n o0_bytes v2_5 hw) vw_DR_9 md_BR_get ⟨rfl, rfl, Nat.le_of_ble_eq_true rfl, Nat.le_of_ble_eq_true rfl⟩ (hP.sub [0, 1] rfl) (hD.sub [0, 1] (by decide) rfl) 0 rfl rfl rfl hl.1 (Nat.le_of_ble_eq_true rfl) d_DR_readParts_13 ⟨Nat.le_of_ble_eq_true rfl, Nat.le_of_ble_eq_true rfl⟩ rfl) (fun r_7 hw => ?_)
        try dsimp only at hw
        refine lv_istore (lv' := [(4, .int r_7), (3, .int v3_4), (2, .int v2_5), (0, .ref o0_q), (1, .ref o1_q)]) hx hb d_DR_readParts_16 hl (by decide) rfl (fun ls hl => ?_)
        refine lv_iload hx hb d_DR_readParts_18 (lv_at hl 0 rfl) ?_
        refine lv_if_ne (tgt := 44) hx hb d_DR_readParts_20 (by decide) (fun hc_12 => ?_) (fun hc_12 => ?_)
        · have hw := hw.1 hc_12
          refine lv_iload hx hb d_DR_readParts_44 (lv_at hl 0 rfl) ?_
          refine goR (xSN (As := [.int r_7]) (rest := []) (wc := []) (A := A) cx (c_DF_bytesOf l D cI cZ cL H.size r_7 hw) sn_DR_47 md_DF_bytesOf ⟨rfl, rfl, Nat.le_of_ble_eq_true rfl, Nat.le_of_ble_eq_true rfl⟩ (hP.sub [] rfl) (hD.sub [] (by decide) rfl) rfl hl.1 (Nat.le_of_ble_eq_true rfl) d_DR_readParts_46 ⟨Nat.le_of_ble_eq_true rfl, Nat.le_of_ble_eq_true rfl⟩ rfl) (fun r_8 hw => ?_)
          try dsimp only at hw
          refine lv_istore (lv' := [(5, .int r_8), (4, .int r_7), (3, .int v3_4), (2, .int v2_5), (0, .ref o0_q), (1, .ref o1_q)]) hx hb d_DR_readParts_49 hl (by decide) rfl (fun ls hl => ?_)
          refine lv_iload hx hb d_DR_readParts_51 (lv_at hl 0 rfl) ?_
          refine lv_if_eq (tgt := 76) hx hb d_DR_readParts_53 (by decide) (fun hc_13 => ?_) (fun hc_13 => ?_)
          · have hw := hw.1 hc_13
            exact hk_76 v3_4 v2_5 f_o1_values_q_6 _ _ _ (lv_sub hl [2, 3, 4, 5] rfl) (hP.sub [0, 1, 2, 3] rfl) (hD.sub [0, 1, 2, 3] (by decide) rfl) hS hw
          · have hw := hw.2 hc_13
            refine lv_iload hx hb d_DR_readParts_56 (lv_at hl 0 rfl) ?_
            refine lv_aload_n hx hb d_DR_readParts_58 rfl (lv_at hl 4 rfl) ?_
            refine va_getN (D := D) (ci := 1) (v := .int o0_count) (C := R_BR) (T := F_BR) (N := 2) hx hb hta lay_BR hown hK hP 0 rfl rfl 1 (by decide) (va_Nw.use rfl (hN _ kn_DR_37 rfl)) (fun _ h9 => h9) rfl d_DR_readParts_59 ?_
            refine lv_iload_n hx hb d_DR_readParts_62 rfl (lv_at hl 3 rfl) ?_
            refine lv_isub hx hb d_DR_readParts_63 ?_
            refine lv_icmp_gt (tgt := 76) hx hb d_DR_readParts_64 (by decide) (fun hc_14 => ?_) (fun hc_14 => ?_)
            · have hw := hw.1 hc_14
              exact hk_76 v3_4 v2_5 f_o1_values_q_6 _ _ _ (lv_sub hl [2, 3, 4, 5] rfl) (hP.sub [0, 1, 2, 3] rfl) (hD.sub [0, 1, 2, 3] (by decide) rfl) hS hw
            · have hw := hw.2 hc_14
              refine lv_aload_n hx hb d_DR_readParts_67 rfl (lv_at hl 4 rfl) ?_
              refine lv_iload_n hx hb d_DR_readParts_68 rfl (lv_at hl 3 rfl) ?_
              refine lv_aload_n hx hb d_DR_readParts_69 rfl (lv_at hl 5 rfl) ?_
              refine goI (wr := []) (xS (As := [.ref o0_q, .int v2_5, .ref o1_q]) (rest := []) (wc := [(o0_q, .inr (1, [.ref o0_bytes_q, .int o0_count])), (o0_bytes_q, .inl (cI, o0_bytes_n, .inl o0_bytes)), (o1_q, .inr (0, [.int o1_width, .int o1_height, .ref o1_values_q])), (o1_values_q, .inl (cI, o1_values_n, .inl f_o1_values_q_6))]) (A := A) cx (c_DR_drawPart l D cI cZ cL H.size o0_q o0_bytes_q o1_q o1_values_q o0_count o0_bytes_n o0_bytes o1_width o1_height o1_values_n f_o1_values_q_6 v2_5 hw) sw_DR_50 md_DR_drawPart ⟨rfl, rfl, Nat.le_of_ble_eq_true rfl, Nat.le_of_ble_eq_true rfl⟩ (hP.sub [0, 1, 2, 3] rfl) (hD.sub [0, 1, 2, 3] (by decide) rfl) rfl hl.1 (Nat.le_of_ble_eq_true rfl) d_DR_readParts_70 ⟨Nat.le_of_ble_eq_true rfl, Nat.le_of_ble_eq_true rfl⟩ rfl) hP hD hS hA [0, 1, 2, 3] [] rfl rfl (by decide) (by decide) (fun r_9 f_10 H locs hw hP hD hS => ?_)
              try dsimp only at hw
              have hP : va_P D CL [(o0_q, .inr (1, [.ref o0_bytes_q, .int o0_count])), (o0_bytes_q, .inl (cI, o0_bytes_n, .inl o0_bytes)), (o1_q, .inr (0, [.int o1_width, .int o1_height, .ref o1_values_q])), (o1_values_q, .inl (cI, o1_values_n, .inl f_10))] H := hP
              have hD : va_D A [(o0_q, .inr (1, [.ref o0_bytes_q, .int o0_count])), (o0_bytes_q, .inl (cI, o0_bytes_n, .inl o0_bytes)), (o1_q, .inr (0, [.int o1_width, .int o1_height, .ref o1_values_q])), (o1_values_q, .inl (cI, o1_values_n, .inl f_10))] := hD
              refine lv_if_ne (tgt := 81) hx hb d_DR_readParts_73 (by decide) (fun hc_15 => ?_) (fun hc_15 => ?_)
              · have hw := hw.1 hc_15
                refine lv_iload_n hx hb d_DR_readParts_81 rfl (lv_at hl 3 rfl) ?_
                refine lv_iload hx hb d_DR_readParts_82 (lv_at hl 0 rfl) ?_
                refine lv_iadd hx hb d_DR_readParts_84 ?_
                refine lv_istore_n (lv' := [(2, .int (v2_5 + r_8)), (5, .int r_8), (4, .int r_7), (3, .int v3_4), (0, .ref o0_q), (1, .ref o1_q)]) hx hb d_DR_readParts_85 rfl hl (by decide) rfl (fun ls hl => ?_)
                refine lv_iinc (v := v3_4 + 1) (lv' := [(3, .int (v3_4 + 1)), (2, .int (v2_5 + r_8)), (5, .int r_8), (4, .int r_7), (0, .ref o0_q), (1, .ref o1_q)]) hx hb d_DR_readParts_86 hl (k := 3) rfl rfl (by decide) rfl (fun ls hl => ?_)
                refine lv_goto (tgt := 4) hx hb d_DR_readParts_89 (by decide) ?_
                exact ih (v3_4 + 1) (v2_5 + r_8) f_10 _ _ _ (lv_sub hl [0, 1, 4, 5] rfl) (hP.sub [0, 1, 2, 3] rfl) (hD.sub [0, 1, 2, 3] (by decide) rfl) hS hw
              · have hw := hw.2 hc_15
                exact hk_76 v3_4 v2_5 f_10 _ _ _ (lv_sub hl [2, 3, 4, 5] rfl) (hP.sub [0, 1, 2, 3] rfl) (hD.sub [0, 1, 2, 3] (by decide) rfl) hS hw
        · have hw := hw.2 hc_12
          exact hk_23 v3_4 v2_5 f_o1_values_q_6 _ _ _ (lv_sub hl [1, 2, 3, 4] rfl) (hP.sub [0, 1, 2, 3] rfl) (hD.sub [0, 1, 2, 3] (by decide) rfl) hS hw
  obtain ⟨n_4, hw⟩ := hw
  refine L4 _ (fun v3_4_11 v2_5_12 f_o1_values_q_6_13 H locs ls hl hP hD hS hw => ?_) _ (fun v3_4_15 v2_5_16 f_o1_values_q_6_17 H locs ls hl hP hD hS hw => ?_) _ (fun v3_4_19 v2_5_20 f_o1_values_q_6_21 H locs ls hl hP hD hS hw => ?_) n_4 0 2 o1_values _ _ _ (lv_sub hl [0, 1, 2, 3] rfl) (hP.sub [0, 1, 2, 3] rfl) (hD.sub [0, 1, 2, 3] (by decide) rfl) hS hw
  · have hl : lv_has ls 6 [(3, .int v3_4_11), (2, .int v2_5_12), (0, .ref o0_q), (1, .ref o1_q)] := hl
    have hP : va_P D CL [(o0_q, .inr (1, [.ref o0_bytes_q, .int o0_count])), (o0_bytes_q, .inl (cI, o0_bytes_n, .inl o0_bytes)), (o1_q, .inr (0, [.int o1_width, .int o1_height, .ref o1_values_q])), (o1_values_q, .inl (cI, o1_values_n, .inl f_o1_values_q_6_13))] H := hP
    have hD : va_D A [(o0_q, .inr (1, [.ref o0_bytes_q, .int o0_count])), (o0_bytes_q, .inl (cI, o0_bytes_n, .inl o0_bytes)), (o1_q, .inr (0, [.int o1_width, .int o1_height, .ref o1_values_q])), (o1_values_q, .inl (cI, o1_values_n, .inl f_o1_values_q_6_13))] := hD
    try dsimp only at hw
    refine lv_iload_n hx hb d_DR_readParts_92 rfl (lv_at hl 1 rfl) ?_
    refine goR (xSN (As := [.int v2_5_12]) (rest := []) (wc := []) (A := A) cx (c_DF_refusedAt l D cI cZ cL H.size v2_5_12 hw) sn_DR_21 md_DF_refusedAt ⟨rfl, rfl, Nat.le_of_ble_eq_true rfl, Nat.le_of_ble_eq_true rfl⟩ (hP.sub [] rfl) (hD.sub [] (by decide) rfl) rfl hl.1 (Nat.le_of_ble_eq_true rfl) d_DR_readParts_93 ⟨Nat.le_of_ble_eq_true rfl, Nat.le_of_ble_eq_true rfl⟩ rfl) (fun r_14 hw => ?_)
    try dsimp only at hw
    exact retI cx hQ d_DR_readParts_96 f_o1_values_q_6_13 hw (hP.sub [0, 1, 2, 3] rfl) (hD.sub [0, 1, 2, 3] (by decide) rfl) hS
  · have hl : lv_has ls 6 [(3, .int v3_4_15), (2, .int v2_5_16), (0, .ref o0_q), (1, .ref o1_q)] := hl
    have hP : va_P D CL [(o0_q, .inr (1, [.ref o0_bytes_q, .int o0_count])), (o0_bytes_q, .inl (cI, o0_bytes_n, .inl o0_bytes)), (o1_q, .inr (0, [.int o1_width, .int o1_height, .ref o1_values_q])), (o1_values_q, .inl (cI, o1_values_n, .inl f_o1_values_q_6_17))] H := hP
    have hD : va_D A [(o0_q, .inr (1, [.ref o0_bytes_q, .int o0_count])), (o0_bytes_q, .inl (cI, o0_bytes_n, .inl o0_bytes)), (o1_q, .inr (0, [.int o1_width, .int o1_height, .ref o1_values_q])), (o1_values_q, .inl (cI, o1_values_n, .inl f_o1_values_q_6_17))] := hD
    try dsimp only at hw
    refine lv_iload_n hx hb d_DR_readParts_76 rfl (lv_at hl 1 rfl) ?_
    refine goR (xSN (As := [.int v2_5_16]) (rest := []) (wc := []) (A := A) cx (c_DF_refusedAt l D cI cZ cL H.size v2_5_16 hw) sn_DR_21 md_DF_refusedAt ⟨rfl, rfl, Nat.le_of_ble_eq_true rfl, Nat.le_of_ble_eq_true rfl⟩ (hP.sub [] rfl) (hD.sub [] (by decide) rfl) rfl hl.1 (Nat.le_of_ble_eq_true rfl) d_DR_readParts_77 ⟨Nat.le_of_ble_eq_true rfl, Nat.le_of_ble_eq_true rfl⟩ rfl) (fun r_18 hw => ?_)
    try dsimp only at hw
    exact retI cx hQ d_DR_readParts_80 f_o1_values_q_6_17 hw (hP.sub [0, 1, 2, 3] rfl) (hD.sub [0, 1, 2, 3] (by decide) rfl) hS
  · have hl : lv_has ls 6 [(3, .int v3_4_19), (2, .int v2_5_20), (0, .ref o0_q), (1, .ref o1_q)] := hl
    have hP : va_P D CL [(o0_q, .inr (1, [.ref o0_bytes_q, .int o0_count])), (o0_bytes_q, .inl (cI, o0_bytes_n, .inl o0_bytes)), (o1_q, .inr (0, [.int o1_width, .int o1_height, .ref o1_values_q])), (o1_values_q, .inl (cI, o1_values_n, .inl f_o1_values_q_6_21))] H := hP
    have hD : va_D A [(o0_q, .inr (1, [.ref o0_bytes_q, .int o0_count])), (o0_bytes_q, .inl (cI, o0_bytes_n, .inl o0_bytes)), (o1_q, .inr (0, [.int o1_width, .int o1_height, .ref o1_values_q])), (o1_values_q, .inl (cI, o1_values_n, .inl f_o1_values_q_6_21))] := hD
    try dsimp only at hw
    refine lv_iload_n hx hb d_DR_readParts_23 rfl (lv_at hl 1 rfl) ?_
    refine lv_iconst (v := 1) hx hb d_DR_readParts_24 (by decide) ?_
    refine lv_iadd hx hb d_DR_readParts_25 ?_
    refine lv_aload_n hx hb d_DR_readParts_26 rfl (lv_at hl 2 rfl) ?_
    refine va_getN (D := D) (ci := 1) (v := .int o0_count) (C := R_BR) (T := F_BR) (N := 2) hx hb hta lay_BR hown hK hP 0 rfl rfl 1 (by decide) (va_Nw.use rfl (hN _ kn_DR_37 rfl)) (fun _ h9 => h9) rfl d_DR_readParts_27 ?_
    refine lv_icmp_ne (tgt := 37) hx hb d_DR_readParts_30 (by decide) (fun hc_16 => ?_) (fun hc_16 => ?_)
    · have hw := hw.1 hc_16
      refine lv_iload_n hx hb d_DR_readParts_37 rfl (lv_at hl 1 rfl) ?_
      refine lv_iconst (v := 1) hx hb d_DR_readParts_38 (by decide) ?_
      refine lv_iadd hx hb d_DR_readParts_39 ?_
      refine goR (xSN (As := [.int (v2_5_20 + 1)]) (rest := []) (wc := []) (A := A) cx (c_DF_refusedAt l D cI cZ cL H.size (v2_5_20 + 1) hw) sn_DR_21 md_DF_refusedAt ⟨rfl, rfl, Nat.le_of_ble_eq_true rfl, Nat.le_of_ble_eq_true rfl⟩ (hP.sub [] rfl) (hD.sub [] (by decide) rfl) rfl hl.1 (Nat.le_of_ble_eq_true rfl) d_DR_readParts_40 ⟨Nat.le_of_ble_eq_true rfl, Nat.le_of_ble_eq_true rfl⟩ rfl) (fun r_22 hw => ?_)
      try dsimp only at hw
      exact retI cx hQ d_DR_readParts_43 f_o1_values_q_6_21 hw (hP.sub [0, 1, 2, 3] rfl) (hD.sub [0, 1, 2, 3] (by decide) rfl) hS
    · have hw := hw.2 hc_16
      refine lv_iload_n hx hb d_DR_readParts_33 rfl (lv_at hl 0 rfl) ?_
      refine lv_goto (tgt := 43) hx hb d_DR_readParts_34 (by decide) ?_
      exact retI cx hQ d_DR_readParts_43 f_o1_values_q_6_21 hw (hP.sub [0, 1, 2, 3] rfl) (hD.sub [0, 1, 2, 3] (by decide) rfl) hS
def w_DR_readPlain_30 (o0_count : Int32) (o0_bytes_n : Nat) (o0_bytes : Nat → Int32) (o1_values_n : Nat) (k_58 : Int32 → (Nat → Int32) → Prop) : Nat → Int32 → (Nat → Int32) → Prop
  | 0, _, _ => False
  | n + 1, v3_3, f_o1_values_q_4 => ((nI o1_values_n) ≤ v3_3 → k_58 v3_3 f_o1_values_q_4) ∧ (¬ (nI o1_values_n) ≤ v3_3 → w_BR_get o0_count o0_bytes_n o0_bytes (v3_3 + 1) (fun r_5 => vp_in v3_3 o1_values_n ∧ (w_DR_readPlain_30 o0_count o0_bytes_n o0_bytes o1_values_n k_58 n (v3_3 + 1) (upd f_o1_values_q_4 v3_3.toNatClampNeg r_5))))
def w_DR_readPlain (o0_count : Int32) (o0_bytes_n : Nat) (o0_bytes : Nat → Int32) (o1_width : Int32) (o1_height : Int32) (o1_values_n : Nat) (o1_values : Nat → Int32) (post : Int32 → (Nat → Int32) → Prop) : Prop := (o0_count = (1 + (nI o1_values_n)) → ∃ n_30 : Nat, w_DR_readPlain_30 o0_count o0_bytes_n o0_bytes o1_values_n (fun (v3_3_6 : Int32) (f_o1_values_q_4_7 : Nat → Int32) => post 0 f_o1_values_q_4_7) n_30 0 o1_values) ∧ (¬ o0_count = (1 + (nI o1_values_n)) → ∀ m_8 : Int32, m_8 = (if (1 + (nI o1_values_n)) < o0_count then (1 + (nI o1_values_n)) else o0_count) → w_DF_refusedAt m_8 (fun r_9 => post r_9 o1_values))
def rm_DR_readPlain : Room := { frames := 1, cells := 0, slots := 0, locals := 21 }
set_option maxHeartbeats 4000000 in
set_option maxRecDepth 100000 in
theorem c_DR_readPlain (l : Launch) (D : va_G) (cI cZ cL : ClassId) (sz : Nat) (o0_q : Nat) (o0_bytes_q : Nat) (o1_q : Nat) (o1_values_q : Nat) (o0_count : Int32) (o0_bytes_n : Nat) (o0_bytes : Nat → Int32) (o1_width : Int32) (o1_height : Int32) (o1_values_n : Nat) (o1_values : Nat → Int32) {post : Int32 → (Nat → Int32) → Prop} (hw : w_DR_readPlain o0_count o0_bytes_n o0_bytes o1_width o1_height o1_values_n o1_values post) : Met l y_DR_readPlain (Cond.code y_DR_readPlain b_DR_readPlain 4 (some .int) :: AW) rm_DR_readPlain (va_Pc [.ref o0_q, .ref o1_q] (ST D cI cZ cL [(o0_q, .inr (1, [.ref o0_bytes_q, .int o0_count])), (o0_bytes_q, .inl (cI, o0_bytes_n, .inl o0_bytes)), (o1_q, .inr (0, [.int o1_width, .int o1_height, .ref o1_values_q])), (o1_values_q, .inl (cI, o1_values_n, .inl o1_values))] sz)) (va_Qi (fun (r : Int32) (u : (Nat → Int32)) => post r u) (fun u t => EN D [(o0_q, .inr (1, [.ref o0_bytes_q, .int o0_count])), (o0_bytes_q, .inl (cI, o0_bytes_n, .inl o0_bytes)), (o1_q, .inr (0, [.int o1_width, .int o1_height, .ref o1_values_q])), (o1_values_q, .inl (cI, o1_values_n, .inl u))] (va_A [(o0_q, .inr (1, [.ref o0_bytes_q, .int o0_count])), (o0_bytes_q, .inl (cI, o0_bytes_n, .inl o0_bytes)), (o1_q, .inr (0, [.int o1_width, .int o1_height, .ref o1_values_q])), (o1_values_q, .inl (cI, o1_values_n, .inl o1_values))] sz) t) (va_A [(o0_q, .inr (1, [.ref o0_bytes_q, .int o0_count])), (o0_bytes_q, .inl (cI, o0_bytes_n, .inl o0_bytes)), (o1_q, .inr (0, [.int o1_width, .int o1_height, .ref o1_values_q])), (o1_values_q, .inl (cI, o1_values_n, .inl o1_values))] sz)) 0 0 (va_A [(o0_q, .inr (1, [.ref o0_bytes_q, .int o0_count])), (o0_bytes_q, .inl (cI, o0_bytes_n, .inl o0_bytes)), (o1_q, .inr (0, [.int o1_width, .int o1_height, .ref o1_values_q])), (o1_values_q, .inl (cI, o1_values_n, .inl o1_values))] sz) := by
  refine ofM (own := R_DR) (fun A => (va_Qi (fun (r : Int32) (u : (Nat → Int32)) => post r u) (fun u t => EN D [(o0_q, .inr (1, [.ref o0_bytes_q, .int o0_count])), (o0_bytes_q, .inl (cI, o0_bytes_n, .inl o0_bytes)), (o1_q, .inr (0, [.int o1_width, .int o1_height, .ref o1_values_q])), (o1_values_q, .inl (cI, o1_values_n, .inl u))] A t) A)) (by decide) rfl (Nat.le_of_ble_eq_true rfl) ?_
  intro p e s m args below meth c A ls Q cx hQ hA hl hP hD hS hinit
  obtain ⟨hx, hb, hml, hrt, hown, hta, hlk, hK, hN⟩ := id cx
  have hl : lv_has ls 4 [(0, .ref o0_q), (1, .ref o1_q)] := hl
  have h00 : va_P D CL [(o0_q, .inr (1, [.ref o0_bytes_q, .int o0_count])), (o0_bytes_q, .inl (cI, o0_bytes_n, .inl o0_bytes)), (o1_q, .inr (0, [.int o1_width, .int o1_height, .ref o1_values_q])), (o1_values_q, .inl (cI, o1_values_n, .inl o1_values))] s.heap := hP
  unfold w_DR_readPlain at hw
  obtain ⟨H, eH⟩ : ∃ H, H = s.heap := ⟨_, rfl⟩
  obtain ⟨locs, eL⟩ : ∃ locs : List Loc, locs = [] := ⟨_, rfl⟩
  have hS : va_S A s.heap H locs := by rw [eH, eL]; exact hS
  have hP : va_P D CL [(o0_q, .inr (1, [.ref o0_bytes_q, .int o0_count])), (o0_bytes_q, .inl (cI, o0_bytes_n, .inl o0_bytes)), (o1_q, .inr (0, [.int o1_width, .int o1_height, .ref o1_values_q])), (o1_values_q, .inl (cI, o1_values_n, .inl o1_values))] H := by rw [eH]; exact hP
  suffices hgo : W p l e rm_DR_readPlain s m args below meth c H locs 0 0 Q (F0 m 0 ls []) by rw [eH, eL] at hgo; exact hgo
  clear eH eL h00
  refine lv_iconst (v := 1) hx hb d_DR_readPlain_0 (by decide) ?_
  refine lv_aload_n hx hb d_DR_readPlain_1 rfl (lv_at hl 1 rfl) ?_
  refine va_getN (D := D) (ci := 0) (v := .ref o1_values_q) (C := R_PI) (T := F_PI) (N := 3) hx hb hta lay_PI hown hK hP 2 rfl rfl 2 (by decide) (va_Nw.use rfl (hN _ kn_DR_33 rfl)) (fun _ h9 => h9) rfl d_DR_readPlain_2 ?_
  refine va_alen (v := nI o1_values_n) hx hb hK hP 3 0 rfl rfl rfl d_DR_readPlain_5 ?_
  refine lv_iadd hx hb d_DR_readPlain_6 ?_
  refine lv_istore_n (lv' := [(2, .int (1 + (nI o1_values_n))), (0, .ref o0_q), (1, .ref o1_q)]) hx hb d_DR_readPlain_7 rfl hl (by decide) rfl (fun ls hl => ?_)
  refine lv_aload_n hx hb d_DR_readPlain_8 rfl (lv_at hl 1 rfl) ?_
  refine va_getN (D := D) (ci := 1) (v := .int o0_count) (C := R_BR) (T := F_BR) (N := 2) hx hb hta lay_BR hown hK hP 0 rfl rfl 1 (by decide) (va_Nw.use rfl (hN _ kn_DR_37 rfl)) (fun _ h9 => h9) rfl d_DR_readPlain_9 ?_
  refine lv_iload_n hx hb d_DR_readPlain_12 rfl (lv_at hl 0 rfl) ?_
  refine lv_icmp_eq (tgt := 28) hx hb d_DR_readPlain_13 (by decide) (fun hc_1 => ?_) (fun hc_1 => ?_)
  · have hw := hw.1 hc_1
    refine lv_iconst (v := 0) hx hb d_DR_readPlain_28 (by decide) ?_
    refine lv_istore_n (lv' := [(3, .int 0), (2, .int (1 + (nI o1_values_n))), (0, .ref o0_q), (1, .ref o1_q)]) hx hb d_DR_readPlain_29 rfl hl (by decide) rfl (fun ls hl => ?_)
    have L30 : ∀ (k_58 : Int32 → (Nat → Int32) → Prop) (hk_58 : ∀ (v3_3 : Int32) (f_o1_values_q_4 : Nat → Int32) (H : Heap) (locs : List Loc) (ls : Array Slot), lv_has ls 4 [(3, .int v3_3), (2, .int (1 + (nI o1_values_n))), (0, .ref o0_q), (1, .ref o1_q)] → va_P D CL [(o0_q, .inr (1, [.ref o0_bytes_q, .int o0_count])), (o0_bytes_q, .inl (cI, o0_bytes_n, .inl o0_bytes)), (o1_q, .inr (0, [.int o1_width, .int o1_height, .ref o1_values_q])), (o1_values_q, .inl (cI, o1_values_n, .inl f_o1_values_q_4))] H → va_D A [(o0_q, .inr (1, [.ref o0_bytes_q, .int o0_count])), (o0_bytes_q, .inl (cI, o0_bytes_n, .inl o0_bytes)), (o1_q, .inr (0, [.int o1_width, .int o1_height, .ref o1_values_q])), (o1_values_q, .inl (cI, o1_values_n, .inl f_o1_values_q_4))] → va_S A s.heap H locs → k_58 v3_3 f_o1_values_q_4 → W p l e rm_DR_readPlain s m args below meth c H locs 0 0 Q (F0 m 58 ls [])), ∀ (n : Nat) (v3_3 : Int32) (f_o1_values_q_4 : Nat → Int32) (H : Heap) (locs : List Loc) (ls : Array Slot), lv_has ls 4 [(3, .int v3_3), (2, .int (1 + (nI o1_values_n))), (0, .ref o0_q), (1, .ref o1_q)] → va_P D CL [(o0_q, .inr (1, [.ref o0_bytes_q, .int o0_count])), (o0_bytes_q, .inl (cI, o0_bytes_n, .inl o0_bytes)), (o1_q, .inr (0, [.int o1_width, .int o1_height, .ref o1_values_q])), (o1_values_q, .inl (cI, o1_values_n, .inl f_o1_values_q_4))] H → va_D A [(o0_q, .inr (1, [.ref o0_bytes_q, .int o0_count])), (o0_bytes_q, .inl (cI, o0_bytes_n, .inl o0_bytes)), (o1_q, .inr (0, [.int o1_width, .int o1_height, .ref o1_values_q])), (o1_values_q, .inl (cI, o1_values_n, .inl f_o1_values_q_4))] → va_S A s.heap H locs → w_DR_readPlain_30 o0_count o0_bytes_n o0_bytes o1_values_n k_58 n v3_3 f_o1_values_q_4 → W p l e rm_DR_readPlain s m args below meth c H locs 0 0 Q (F0 m 30 ls []) := by
      intro k_58 hk_58 n
      induction n with
      | zero => intro v3_3 f_o1_values_q_4 H locs ls hl hP hD hS hw; exact hw.elim
      | succ n ih =>
        intro v3_3 f_o1_values_q_4 H locs ls hl hP hD hS hw
        rw [w_DR_readPlain_30] at hw
        refine lv_iload_n hx hb d_DR_readPlain_30 rfl (lv_at hl 0 rfl) ?_
        refine lv_aload_n hx hb d_DR_readPlain_31 rfl (lv_at hl 3 rfl) ?_
        refine va_getN (D := D) (ci := 0) (v := .ref o1_values_q) (C := R_PI) (T := F_PI) (N := 3) hx hb hta lay_PI hown hK hP 2 rfl rfl 2 (by decide) (va_Nw.use rfl (hN _ kn_DR_33 rfl)) (fun _ h9 => h9) rfl d_DR_readPlain_32 ?_
        refine va_alen (v := nI o1_values_n) hx hb hK hP 3 0 rfl rfl rfl d_DR_readPlain_35 ?_
        refine lv_icmp_ge (tgt := 58) hx hb d_DR_readPlain_36 (by decide) (fun hc_4 => ?_) (fun hc_4 => ?_)
        · have hw := hw.1 hc_4
          exact hk_58 v3_3 f_o1_values_q_4 _ _ _ (lv_sub hl [0, 1, 2, 3] rfl) (hP.sub [0, 1, 2, 3] rfl) (hD.sub [0, 1, 2, 3] (by decide) rfl) hS hw
        · have hw := hw.2 hc_4
          refine lv_aload_n hx hb d_DR_readPlain_39 rfl (lv_at hl 3 rfl) ?_
          refine va_getN (D := D) (ci := 0) (v := .ref o1_values_q) (C := R_PI) (T := F_PI) (N := 3) hx hb hta lay_PI hown hK hP 2 rfl rfl 2 (by decide) (va_Nw.use rfl (hN _ kn_DR_33 rfl)) (fun _ h9 => h9) rfl d_DR_readPlain_40 ?_
          refine lv_iload_n hx hb d_DR_readPlain_43 rfl (lv_at hl 0 rfl) ?_
          refine lv_aload_n hx hb d_DR_readPlain_44 rfl (lv_at hl 2 rfl) ?_
          refine lv_iload_n hx hb d_DR_readPlain_45 rfl (lv_at hl 0 rfl) ?_
          refine lv_iconst (v := 1) hx hb d_DR_readPlain_46 (by decide) ?_
          refine lv_iadd hx hb d_DR_readPlain_47 ?_
          refine goR (xV (C := R_BR) (ci := 1) (As := [.int (v3_3 + 1)]) (rest := [.int v3_3, .ref o1_values_q]) (wc := [(o0_q, .inr (1, [.ref o0_bytes_q, .int o0_count])), (o0_bytes_q, .inl (cI, o0_bytes_n, .inl o0_bytes))]) (A := A) cx (c_BR_get l D cI cZ cL H.size o0_q o0_bytes_q o0_count o0_bytes_n o0_bytes (v3_3 + 1) hw) vw_DR_9 md_BR_get ⟨rfl, rfl, Nat.le_of_ble_eq_true rfl, Nat.le_of_ble_eq_true rfl⟩ (hP.sub [0, 1] rfl) (hD.sub [0, 1] (by decide) rfl) 0 rfl rfl rfl hl.1 (Nat.le_of_ble_eq_true rfl) d_DR_readPlain_48 ⟨Nat.le_of_ble_eq_true rfl, Nat.le_of_ble_eq_true rfl⟩ rfl) (fun r_5 hw => ?_)
          try dsimp only at hw
          refine va_iast hx hb hK hP hD hS 3 0 rfl rfl hw.1 d_DR_readPlain_51 (fun H locs hP hD hS => ?_)
          have hw := hw.2
          have hP : va_P D CL [(o0_q, .inr (1, [.ref o0_bytes_q, .int o0_count])), (o0_bytes_q, .inl (cI, o0_bytes_n, .inl o0_bytes)), (o1_q, .inr (0, [.int o1_width, .int o1_height, .ref o1_values_q])), (o1_values_q, .inl (cI, o1_values_n, .inl (upd f_o1_values_q_4 v3_3.toNatClampNeg r_5)))] H := hP
          have hD : va_D A [(o0_q, .inr (1, [.ref o0_bytes_q, .int o0_count])), (o0_bytes_q, .inl (cI, o0_bytes_n, .inl o0_bytes)), (o1_q, .inr (0, [.int o1_width, .int o1_height, .ref o1_values_q])), (o1_values_q, .inl (cI, o1_values_n, .inl (upd f_o1_values_q_4 v3_3.toNatClampNeg r_5)))] := hD
          refine lv_iinc (v := v3_3 + 1) (lv' := [(3, .int (v3_3 + 1)), (2, .int (1 + (nI o1_values_n))), (0, .ref o0_q), (1, .ref o1_q)]) hx hb d_DR_readPlain_52 hl (k := 0) rfl rfl (by decide) rfl (fun ls hl => ?_)
          refine lv_goto (tgt := 30) hx hb d_DR_readPlain_55 (by decide) ?_
          exact ih (v3_3 + 1) (upd f_o1_values_q_4 v3_3.toNatClampNeg r_5) _ _ _ (lv_sub hl [0, 1, 2, 3] rfl) (hP.sub [0, 1, 2, 3] rfl) (hD.sub [0, 1, 2, 3] (by decide) rfl) hS hw
    obtain ⟨n_30, hw⟩ := hw
    refine L30 _ (fun v3_3_6 f_o1_values_q_4_7 H locs ls hl hP hD hS hw => ?_) n_30 0 o1_values _ _ _ (lv_sub hl [0, 1, 2, 3] rfl) (hP.sub [0, 1, 2, 3] rfl) (hD.sub [0, 1, 2, 3] (by decide) rfl) hS hw
    have hl : lv_has ls 4 [(3, .int v3_3_6), (2, .int (1 + (nI o1_values_n))), (0, .ref o0_q), (1, .ref o1_q)] := hl
    have hP : va_P D CL [(o0_q, .inr (1, [.ref o0_bytes_q, .int o0_count])), (o0_bytes_q, .inl (cI, o0_bytes_n, .inl o0_bytes)), (o1_q, .inr (0, [.int o1_width, .int o1_height, .ref o1_values_q])), (o1_values_q, .inl (cI, o1_values_n, .inl f_o1_values_q_4_7))] H := hP
    have hD : va_D A [(o0_q, .inr (1, [.ref o0_bytes_q, .int o0_count])), (o0_bytes_q, .inl (cI, o0_bytes_n, .inl o0_bytes)), (o1_q, .inr (0, [.int o1_width, .int o1_height, .ref o1_values_q])), (o1_values_q, .inl (cI, o1_values_n, .inl f_o1_values_q_4_7))] := hD
    try dsimp only at hw
    refine lv_iconst (v := 0) hx hb d_DR_readPlain_58 (by decide) ?_
    exact retI cx hQ d_DR_readPlain_59 f_o1_values_q_4_7 hw (hP.sub [0, 1, 2, 3] rfl) (hD.sub [0, 1, 2, 3] (by decide) rfl) hS
  · have hw := hw.2 hc_1
    refine lv_aload_n hx hb d_DR_readPlain_16 rfl (lv_at hl 1 rfl) ?_
    refine va_getN (D := D) (ci := 1) (v := .int o0_count) (C := R_BR) (T := F_BR) (N := 2) hx hb hta lay_BR hown hK hP 0 rfl rfl 1 (by decide) (va_Nw.use rfl (hN _ kn_DR_37 rfl)) (fun _ h9 => h9) rfl d_DR_readPlain_17 ?_
    refine lv_iload_n hx hb d_DR_readPlain_20 rfl (lv_at hl 0 rfl) ?_
    refine va_mmin hx hb (by rw [hml]; exact hl.1.symm) hown (hta _ k_DR_41) (hta _ k_minS) (hta _ k_mathI) (hta _ k_minC) (Nat.le_of_ble_eq_true rfl) (Nat.le_of_ble_eq_true rfl) (Nat.le_of_ble_eq_true rfl) (Nat.le_of_ble_eq_true rfl) d_DR_readPlain_21 ?_
    refine lv_topi (fun m_8 em_8 => ?_)
    have hw := hw m_8 em_8
    refine goR (xSN (As := [.int m_8]) (rest := []) (wc := []) (A := A) cx (c_DF_refusedAt l D cI cZ cL H.size m_8 hw) sn_DR_21 md_DF_refusedAt ⟨rfl, rfl, Nat.le_of_ble_eq_true rfl, Nat.le_of_ble_eq_true rfl⟩ (hP.sub [] rfl) (hD.sub [] (by decide) rfl) rfl hl.1 (Nat.le_of_ble_eq_true rfl) d_DR_readPlain_24 ⟨Nat.le_of_ble_eq_true rfl, Nat.le_of_ble_eq_true rfl⟩ rfl) (fun r_9 hw => ?_)
    try dsimp only at hw
    exact retI cx hQ d_DR_readPlain_27 o1_values hw (hP.sub [0, 1, 2, 3] rfl) (hD.sub [0, 1, 2, 3] (by decide) rfl) hS
def w_DR_readDrawing (o0_count : Int32) (o0_bytes_n : Nat) (o0_bytes : Nat → Int32) (o1_width : Int32) (o1_height : Int32) (o1_values_n : Nat) (o1_values : Nat → Int32) (post : Int32 → (Nat → Int32) → Prop) : Prop := w_BR_get o0_count o0_bytes_n o0_bytes 0 (fun r_1 => (¬ r_1 = 0 → (r_1 = 1 → w_BR_get o0_count o0_bytes_n o0_bytes 1 (fun r_2 => (¬ r_2 = (-1) → w_PI_paintAll o1_width o1_height o1_values_n o1_values r_2 (fun (f_3 : Nat → Int32) => w_DR_readParts o0_count o0_bytes_n o0_bytes o1_width o1_height o1_values_n f_3 (fun (r_4 : Int32) (f_5 : Nat → Int32) => post r_4 f_5))) ∧ (r_2 = (-1) → w_DF_refusedAt 1 (fun r_6 => post r_6 o1_values)))) ∧ (¬ r_1 = 1 → w_DF_refusedAt 0 (fun r_7 => post r_7 o1_values))) ∧ (r_1 = 0 → w_DR_readPlain o0_count o0_bytes_n o0_bytes o1_width o1_height o1_values_n o1_values (fun (r_8 : Int32) (f_9 : Nat → Int32) => post r_8 f_9)))
def rm_DR_readDrawing : Room := { frames := 6, cells := 0, slots := 0, locals := 152 }
set_option maxHeartbeats 4000000 in
set_option maxRecDepth 100000 in
theorem c_DR_readDrawing (l : Launch) (D : va_G) (cI cZ cL : ClassId) (sz : Nat) (o0_q : Nat) (o0_bytes_q : Nat) (o1_q : Nat) (o1_values_q : Nat) (o0_count : Int32) (o0_bytes_n : Nat) (o0_bytes : Nat → Int32) (o1_width : Int32) (o1_height : Int32) (o1_values_n : Nat) (o1_values : Nat → Int32) {post : Int32 → (Nat → Int32) → Prop} (hw : w_DR_readDrawing o0_count o0_bytes_n o0_bytes o1_width o1_height o1_values_n o1_values post) : Met l y_DR_readDrawing (Cond.code y_DR_readDrawing b_DR_readDrawing 4 (some .int) :: AW) rm_DR_readDrawing (va_Pc [.ref o0_q, .ref o1_q] (ST D cI cZ cL [(o0_q, .inr (1, [.ref o0_bytes_q, .int o0_count])), (o0_bytes_q, .inl (cI, o0_bytes_n, .inl o0_bytes)), (o1_q, .inr (0, [.int o1_width, .int o1_height, .ref o1_values_q])), (o1_values_q, .inl (cI, o1_values_n, .inl o1_values))] sz)) (va_Qi (fun (r : Int32) (u : (Nat → Int32)) => post r u) (fun u t => EN D [(o0_q, .inr (1, [.ref o0_bytes_q, .int o0_count])), (o0_bytes_q, .inl (cI, o0_bytes_n, .inl o0_bytes)), (o1_q, .inr (0, [.int o1_width, .int o1_height, .ref o1_values_q])), (o1_values_q, .inl (cI, o1_values_n, .inl u))] (va_A [(o0_q, .inr (1, [.ref o0_bytes_q, .int o0_count])), (o0_bytes_q, .inl (cI, o0_bytes_n, .inl o0_bytes)), (o1_q, .inr (0, [.int o1_width, .int o1_height, .ref o1_values_q])), (o1_values_q, .inl (cI, o1_values_n, .inl o1_values))] sz) t) (va_A [(o0_q, .inr (1, [.ref o0_bytes_q, .int o0_count])), (o0_bytes_q, .inl (cI, o0_bytes_n, .inl o0_bytes)), (o1_q, .inr (0, [.int o1_width, .int o1_height, .ref o1_values_q])), (o1_values_q, .inl (cI, o1_values_n, .inl o1_values))] sz)) 0 0 (va_A [(o0_q, .inr (1, [.ref o0_bytes_q, .int o0_count])), (o0_bytes_q, .inl (cI, o0_bytes_n, .inl o0_bytes)), (o1_q, .inr (0, [.int o1_width, .int o1_height, .ref o1_values_q])), (o1_values_q, .inl (cI, o1_values_n, .inl o1_values))] sz) := by
  refine ofM (own := R_DR) (fun A => (va_Qi (fun (r : Int32) (u : (Nat → Int32)) => post r u) (fun u t => EN D [(o0_q, .inr (1, [.ref o0_bytes_q, .int o0_count])), (o0_bytes_q, .inl (cI, o0_bytes_n, .inl o0_bytes)), (o1_q, .inr (0, [.int o1_width, .int o1_height, .ref o1_values_q])), (o1_values_q, .inl (cI, o1_values_n, .inl u))] A t) A)) (by decide) rfl (Nat.le_of_ble_eq_true rfl) ?_
  intro p e s m args below meth c A ls Q cx hQ hA hl hP hD hS hinit
  obtain ⟨hx, hb, hml, hrt, hown, hta, hlk, hK, hN⟩ := id cx
  have hl : lv_has ls 4 [(0, .ref o0_q), (1, .ref o1_q)] := hl
  have h00 : va_P D CL [(o0_q, .inr (1, [.ref o0_bytes_q, .int o0_count])), (o0_bytes_q, .inl (cI, o0_bytes_n, .inl o0_bytes)), (o1_q, .inr (0, [.int o1_width, .int o1_height, .ref o1_values_q])), (o1_values_q, .inl (cI, o1_values_n, .inl o1_values))] s.heap := hP
  unfold w_DR_readDrawing at hw
  obtain ⟨H, eH⟩ : ∃ H, H = s.heap := ⟨_, rfl⟩
  obtain ⟨locs, eL⟩ : ∃ locs : List Loc, locs = [] := ⟨_, rfl⟩
  have hS : va_S A s.heap H locs := by rw [eH, eL]; exact hS
  have hP : va_P D CL [(o0_q, .inr (1, [.ref o0_bytes_q, .int o0_count])), (o0_bytes_q, .inl (cI, o0_bytes_n, .inl o0_bytes)), (o1_q, .inr (0, [.int o1_width, .int o1_height, .ref o1_values_q])), (o1_values_q, .inl (cI, o1_values_n, .inl o1_values))] H := by rw [eH]; exact hP
  suffices hgo : W p l e rm_DR_readDrawing s m args below meth c H locs 0 0 Q (F0 m 0 ls []) by rw [eH, eL] at hgo; exact hgo
  clear eH eL h00
  refine lv_aload_n hx hb d_DR_readDrawing_0 rfl (lv_at hl 0 rfl) ?_
  refine lv_iconst (v := 0) hx hb d_DR_readDrawing_1 (by decide) ?_
  refine goR (xV (C := R_BR) (ci := 1) (As := [.int 0]) (rest := []) (wc := [(o0_q, .inr (1, [.ref o0_bytes_q, .int o0_count])), (o0_bytes_q, .inl (cI, o0_bytes_n, .inl o0_bytes))]) (A := A) cx (c_BR_get l D cI cZ cL H.size o0_q o0_bytes_q o0_count o0_bytes_n o0_bytes 0 hw) vw_DR_9 md_BR_get ⟨rfl, rfl, Nat.le_of_ble_eq_true rfl, Nat.le_of_ble_eq_true rfl⟩ (hP.sub [0, 1] rfl) (hD.sub [0, 1] (by decide) rfl) 0 rfl rfl rfl hl.1 (Nat.le_of_ble_eq_true rfl) d_DR_readDrawing_2 ⟨Nat.le_of_ble_eq_true rfl, Nat.le_of_ble_eq_true rfl⟩ rfl) (fun r_1 hw => ?_)
  try dsimp only at hw
  refine lv_istore_n (lv' := [(2, .int r_1), (0, .ref o0_q), (1, .ref o1_q)]) hx hb d_DR_readDrawing_5 rfl hl (by decide) rfl (fun ls hl => ?_)
  refine lv_iload_n hx hb d_DR_readDrawing_6 rfl (lv_at hl 0 rfl) ?_
  refine lv_if_ne (tgt := 16) hx hb d_DR_readDrawing_7 (by decide) (fun hc_1 => ?_) (fun hc_1 => ?_)
  · have hw := hw.1 hc_1
    refine lv_iload_n hx hb d_DR_readDrawing_16 rfl (lv_at hl 0 rfl) ?_
    refine lv_iconst (v := 1) hx hb d_DR_readDrawing_17 (by decide) ?_
    refine lv_icmp_eq (tgt := 26) hx hb d_DR_readDrawing_18 (by decide) (fun hc_2 => ?_) (fun hc_2 => ?_)
    · have hw := hw.1 hc_2
      refine lv_aload_n hx hb d_DR_readDrawing_26 rfl (lv_at hl 1 rfl) ?_
      refine lv_iconst (v := 1) hx hb d_DR_readDrawing_27 (by decide) ?_
      refine goR (xV (C := R_BR) (ci := 1) (As := [.int 1]) (rest := []) (wc := [(o0_q, .inr (1, [.ref o0_bytes_q, .int o0_count])), (o0_bytes_q, .inl (cI, o0_bytes_n, .inl o0_bytes))]) (A := A) cx (c_BR_get l D cI cZ cL H.size o0_q o0_bytes_q o0_count o0_bytes_n o0_bytes 1 hw) vw_DR_9 md_BR_get ⟨rfl, rfl, Nat.le_of_ble_eq_true rfl, Nat.le_of_ble_eq_true rfl⟩ (hP.sub [0, 1] rfl) (hD.sub [0, 1] (by decide) rfl) 0 rfl rfl rfl hl.1 (Nat.le_of_ble_eq_true rfl) d_DR_readDrawing_28 ⟨Nat.le_of_ble_eq_true rfl, Nat.le_of_ble_eq_true rfl⟩ rfl) (fun r_2 hw => ?_)
      try dsimp only at hw
      refine lv_istore_n (lv' := [(3, .int r_2), (2, .int r_1), (0, .ref o0_q), (1, .ref o1_q)]) hx hb d_DR_readDrawing_31 rfl hl (by decide) rfl (fun ls hl => ?_)
      refine lv_iload_n hx hb d_DR_readDrawing_32 rfl (lv_at hl 0 rfl) ?_
      refine lv_iconst (v := (-1)) hx hb d_DR_readDrawing_33 (by decide) ?_
      refine lv_icmp_ne (tgt := 42) hx hb d_DR_readDrawing_34 (by decide) (fun hc_3 => ?_) (fun hc_3 => ?_)
      · have hw := hw.1 hc_3
        refine lv_aload_n hx hb d_DR_readDrawing_42 rfl (lv_at hl 3 rfl) ?_
        refine lv_iload_n hx hb d_DR_readDrawing_43 rfl (lv_at hl 0 rfl) ?_
        refine goV (wr := [(o0_q, .inr (1, [.ref o0_bytes_q, .int o0_count])), (o0_bytes_q, .inl (cI, o0_bytes_n, .inl o0_bytes))]) (xV (C := R_PI) (ci := 0) (As := [.int r_2]) (rest := []) (wc := [(o1_q, .inr (0, [.int o1_width, .int o1_height, .ref o1_values_q])), (o1_values_q, .inl (cI, o1_values_n, .inl o1_values))]) (A := A) cx (c_PI_paintAll l D cI cZ cL H.size o1_q o1_values_q o1_width o1_height o1_values_n o1_values r_2 hw) vw_DR_24 md_PI_paintAll ⟨rfl, rfl, Nat.le_of_ble_eq_true rfl, Nat.le_of_ble_eq_true rfl⟩ (hP.sub [2, 3] rfl) (hD.sub [2, 3] (by decide) rfl) 0 rfl rfl rfl hl.1 (Nat.le_of_ble_eq_true rfl) d_DR_readDrawing_44 ⟨Nat.le_of_ble_eq_true rfl, Nat.le_of_ble_eq_true rfl⟩ rfl) hP hD hS hA [2, 3] [0, 1] rfl rfl (by decide) (by decide) (fun f_3 H locs hw hP hD hS => ?_)
        try dsimp only at hw
        have hP : va_P D CL [(o0_q, .inr (1, [.ref o0_bytes_q, .int o0_count])), (o0_bytes_q, .inl (cI, o0_bytes_n, .inl o0_bytes)), (o1_q, .inr (0, [.int o1_width, .int o1_height, .ref o1_values_q])), (o1_values_q, .inl (cI, o1_values_n, .inl f_3))] H := hP
        have hD : va_D A [(o0_q, .inr (1, [.ref o0_bytes_q, .int o0_count])), (o0_bytes_q, .inl (cI, o0_bytes_n, .inl o0_bytes)), (o1_q, .inr (0, [.int o1_width, .int o1_height, .ref o1_values_q])), (o1_values_q, .inl (cI, o1_values_n, .inl f_3))] := hD
        refine lv_aload_n hx hb d_DR_readDrawing_47 rfl (lv_at hl 2 rfl) ?_
        refine lv_aload_n hx hb d_DR_readDrawing_48 rfl (lv_at hl 3 rfl) ?_
        refine goI (wr := []) (xS (As := [.ref o0_q, .ref o1_q]) (rest := []) (wc := [(o0_q, .inr (1, [.ref o0_bytes_q, .int o0_count])), (o0_bytes_q, .inl (cI, o0_bytes_n, .inl o0_bytes)), (o1_q, .inr (0, [.int o1_width, .int o1_height, .ref o1_values_q])), (o1_values_q, .inl (cI, o1_values_n, .inl f_3))]) (A := A) cx (c_DR_readParts l D cI cZ cL H.size o0_q o0_bytes_q o1_q o1_values_q o0_count o0_bytes_n o0_bytes o1_width o1_height o1_values_n f_3 hw) sw_DR_30 md_DR_readParts ⟨rfl, rfl, Nat.le_of_ble_eq_true rfl, Nat.le_of_ble_eq_true rfl⟩ (hP.sub [0, 1, 2, 3] rfl) (hD.sub [0, 1, 2, 3] (by decide) rfl) rfl hl.1 (Nat.le_of_ble_eq_true rfl) d_DR_readDrawing_49 ⟨Nat.le_of_ble_eq_true rfl, Nat.le_of_ble_eq_true rfl⟩ rfl) hP hD hS hA [0, 1, 2, 3] [] rfl rfl (by decide) (by decide) (fun r_4 f_5 H locs hw hP hD hS => ?_)
        try dsimp only at hw
        have hP : va_P D CL [(o0_q, .inr (1, [.ref o0_bytes_q, .int o0_count])), (o0_bytes_q, .inl (cI, o0_bytes_n, .inl o0_bytes)), (o1_q, .inr (0, [.int o1_width, .int o1_height, .ref o1_values_q])), (o1_values_q, .inl (cI, o1_values_n, .inl f_5))] H := hP
        have hD : va_D A [(o0_q, .inr (1, [.ref o0_bytes_q, .int o0_count])), (o0_bytes_q, .inl (cI, o0_bytes_n, .inl o0_bytes)), (o1_q, .inr (0, [.int o1_width, .int o1_height, .ref o1_values_q])), (o1_values_q, .inl (cI, o1_values_n, .inl f_5))] := hD
        exact retI cx hQ d_DR_readDrawing_52 f_5 hw (hP.sub [0, 1, 2, 3] rfl) (hD.sub [0, 1, 2, 3] (by decide) rfl) hS
      · have hw := hw.2 hc_3
        refine lv_iconst (v := 1) hx hb d_DR_readDrawing_37 (by decide) ?_
        refine goR (xSN (As := [.int 1]) (rest := []) (wc := []) (A := A) cx (c_DF_refusedAt l D cI cZ cL H.size 1 hw) sn_DR_21 md_DF_refusedAt ⟨rfl, rfl, Nat.le_of_ble_eq_true rfl, Nat.le_of_ble_eq_true rfl⟩ (hP.sub [] rfl) (hD.sub [] (by decide) rfl) rfl hl.1 (Nat.le_of_ble_eq_true rfl) d_DR_readDrawing_38 ⟨Nat.le_of_ble_eq_true rfl, Nat.le_of_ble_eq_true rfl⟩ rfl) (fun r_6 hw => ?_)
        try dsimp only at hw
        exact retI cx hQ d_DR_readDrawing_41 o1_values hw (hP.sub [0, 1, 2, 3] rfl) (hD.sub [0, 1, 2, 3] (by decide) rfl) hS
    · have hw := hw.2 hc_2
      refine lv_iconst (v := 0) hx hb d_DR_readDrawing_21 (by decide) ?_
      refine goR (xSN (As := [.int 0]) (rest := []) (wc := []) (A := A) cx (c_DF_refusedAt l D cI cZ cL H.size 0 hw) sn_DR_21 md_DF_refusedAt ⟨rfl, rfl, Nat.le_of_ble_eq_true rfl, Nat.le_of_ble_eq_true rfl⟩ (hP.sub [] rfl) (hD.sub [] (by decide) rfl) rfl hl.1 (Nat.le_of_ble_eq_true rfl) d_DR_readDrawing_22 ⟨Nat.le_of_ble_eq_true rfl, Nat.le_of_ble_eq_true rfl⟩ rfl) (fun r_7 hw => ?_)
      try dsimp only at hw
      exact retI cx hQ d_DR_readDrawing_25 o1_values hw (hP.sub [0, 1, 2, 3] rfl) (hD.sub [0, 1, 2, 3] (by decide) rfl) hS
  · have hw := hw.2 hc_1
    refine lv_aload_n hx hb d_DR_readDrawing_10 rfl (lv_at hl 1 rfl) ?_
    refine lv_aload_n hx hb d_DR_readDrawing_11 rfl (lv_at hl 2 rfl) ?_
    refine goI (wr := []) (xS (As := [.ref o0_q, .ref o1_q]) (rest := []) (wc := [(o0_q, .inr (1, [.ref o0_bytes_q, .int o0_count])), (o0_bytes_q, .inl (cI, o0_bytes_n, .inl o0_bytes)), (o1_q, .inr (0, [.int o1_width, .int o1_height, .ref o1_values_q])), (o1_values_q, .inl (cI, o1_values_n, .inl o1_values))]) (A := A) cx (c_DR_readPlain l D cI cZ cL H.size o0_q o0_bytes_q o1_q o1_values_q o0_count o0_bytes_n o0_bytes o1_width o1_height o1_values_n o1_values hw) sw_DR_15 md_DR_readPlain ⟨rfl, rfl, Nat.le_of_ble_eq_true rfl, Nat.le_of_ble_eq_true rfl⟩ (hP.sub [0, 1, 2, 3] rfl) (hD.sub [0, 1, 2, 3] (by decide) rfl) rfl hl.1 (Nat.le_of_ble_eq_true rfl) d_DR_readDrawing_12 ⟨Nat.le_of_ble_eq_true rfl, Nat.le_of_ble_eq_true rfl⟩ rfl) hP hD hS hA [0, 1, 2, 3] [] rfl rfl (by decide) (by decide) (fun r_8 f_9 H locs hw hP hD hS => ?_)
    try dsimp only at hw
    have hP : va_P D CL [(o0_q, .inr (1, [.ref o0_bytes_q, .int o0_count])), (o0_bytes_q, .inl (cI, o0_bytes_n, .inl o0_bytes)), (o1_q, .inr (0, [.int o1_width, .int o1_height, .ref o1_values_q])), (o1_values_q, .inl (cI, o1_values_n, .inl f_9))] H := hP
    have hD : va_D A [(o0_q, .inr (1, [.ref o0_bytes_q, .int o0_count])), (o0_bytes_q, .inl (cI, o0_bytes_n, .inl o0_bytes)), (o1_q, .inr (0, [.int o1_width, .int o1_height, .ref o1_values_q])), (o1_values_q, .inl (cI, o1_values_n, .inl f_9))] := hD
    exact retI cx hQ d_DR_readDrawing_15 f_9 hw (hP.sub [0, 1, 2, 3] rfl) (hD.sub [0, 1, 2, 3] (by decide) rfl) hS
def w_CH_differing_3 (x2 : Int32) (x3 : Int32) (o0_width : Int32) (o0_height : Int32) (o0_values_n : Nat) (o0_values : Nat → Int32) (o1_width : Int32) (o1_height : Int32) (o1_values_n : Nat) (o1_values : Nat → Int32) (k_41 : Int32 → Prop) : Nat → Int32 → Prop
  | 0, _ => False
  | n + 1, v4_2 => (o0_width ≤ (x2 + v4_2) → k_41 v4_2) ∧ (¬ o0_width ≤ (x2 + v4_2) → w_PI_value o0_width o0_height o0_values_n o0_values (x2 + v4_2) x3 (fun r_3 => w_PI_value o1_width o1_height o1_values_n o1_values (x2 + v4_2) x3 (fun r_4 => (r_3 = r_4 → k_41 v4_2) ∧ (¬ r_3 = r_4 → w_CH_differing_3 x2 x3 o0_width o0_height o0_values_n o0_values o1_width o1_height o1_values_n o1_values k_41 n (v4_2 + 1)))))
def w_CH_differing (o0_width : Int32) (o0_height : Int32) (o0_values_n : Nat) (o0_values : Nat → Int32) (o1_width : Int32) (o1_height : Int32) (o1_values_n : Nat) (o1_values : Nat → Int32) (x2 : Int32) (x3 : Int32) (post : Int32 → Prop) : Prop := ∃ n_3 : Nat, w_CH_differing_3 x2 x3 o0_width o0_height o0_values_n o0_values o1_width o1_height o1_values_n o1_values (fun (v4_2_5 : Int32) => post v4_2_5) n_3 0
def rm_CH_differing : Room := { frames := 2, cells := 0, slots := 0, locals := 44 }
set_option maxHeartbeats 4000000 in
set_option maxRecDepth 100000 in
theorem c_CH_differing (l : Launch) (D : va_G) (cI cZ cL : ClassId) (sz : Nat) (o0_q : Nat) (o0_values_q : Nat) (o1_q : Nat) (o1_values_q : Nat) (o0_width : Int32) (o0_height : Int32) (o0_values_n : Nat) (o0_values : Nat → Int32) (o1_width : Int32) (o1_height : Int32) (o1_values_n : Nat) (o1_values : Nat → Int32) (x2 : Int32) (x3 : Int32) {post : Int32 → Prop} (hw : w_CH_differing o0_width o0_height o0_values_n o0_values o1_width o1_height o1_values_n o1_values x2 x3 post) : Met l y_CH_differing (Cond.code y_CH_differing b_CH_differing 5 (some .int) :: AW) rm_CH_differing (va_Pc [.ref o0_q, .ref o1_q, .int x2, .int x3] (ST D cI cZ cL [(o0_q, .inr (0, [.int o0_width, .int o0_height, .ref o0_values_q])), (o0_values_q, .inl (cI, o0_values_n, .inl o0_values)), (o1_q, .inr (0, [.int o1_width, .int o1_height, .ref o1_values_q])), (o1_values_q, .inl (cI, o1_values_n, .inl o1_values))] sz)) (vp_Si post) 0 0 (fun _ => False) := by
  refine ofR (own := R_CH) (vp_Si post) (by decide) rfl (Nat.le_of_ble_eq_true rfl) ?_
  intro p e s m args below meth c A ls Q cx hQ hl hP hD
  obtain ⟨hx, hb, hml, hrt, hown, hta, hlk, hK, hN⟩ := id cx
  have hl : lv_has ls 5 [(0, .ref o0_q), (1, .ref o1_q), (2, .int x2), (3, .int x3)] := hl
  unfold w_CH_differing at hw
  refine lv_iconst (v := 0) hx hb d_CH_differing_0 (by decide) ?_
  refine lv_istore (lv' := [(4, .int 0), (0, .ref o0_q), (1, .ref o1_q), (2, .int x2), (3, .int x3)]) hx hb d_CH_differing_1 hl (by decide) rfl (fun ls hl => ?_)
  have L3 : ∀ (k_41 : Int32 → Prop) (hk_41 : ∀ (v4_2 : Int32) (ls : Array Slot), lv_has ls 5 [(4, .int v4_2), (0, .ref o0_q), (1, .ref o1_q), (2, .int x2), (3, .int x3)] → k_41 v4_2 → W p l e rm_CH_differing s m args below meth c s.heap [] 0 0 Q (F0 m 41 ls [])), ∀ (n : Nat) (v4_2 : Int32) (ls : Array Slot), lv_has ls 5 [(4, .int v4_2), (0, .ref o0_q), (1, .ref o1_q), (2, .int x2), (3, .int x3)] → w_CH_differing_3 x2 x3 o0_width o0_height o0_values_n o0_values o1_width o1_height o1_values_n o1_values k_41 n v4_2 → W p l e rm_CH_differing s m args below meth c s.heap [] 0 0 Q (F0 m 3 ls []) := by
    intro k_41 hk_41 n
    induction n with
    | zero => intro v4_2 ls hl hw; exact hw.elim
    | succ n ih =>
      intro v4_2 ls hl hw
      rw [w_CH_differing_3] at hw
      refine lv_iload_n hx hb d_CH_differing_3 rfl (lv_at hl 3 rfl) ?_
      refine lv_iload hx hb d_CH_differing_4 (lv_at hl 0 rfl) ?_
      refine lv_iadd hx hb d_CH_differing_6 ?_
      refine lv_aload_n hx hb d_CH_differing_7 rfl (lv_at hl 1 rfl) ?_
      refine va_getN (D := D) (ci := 0) (v := .int o0_width) (C := R_PI) (T := F_PI) (N := 3) hx hb hta lay_PI hown hK hP 0 rfl rfl 0 (by decide) (va_Nw.use rfl (hN _ kn_CH_20 rfl)) (fun _ h9 => h9) rfl d_CH_differing_8 ?_
      refine lv_icmp_ge (tgt := 41) hx hb d_CH_differing_11 (by decide) (fun hc_5 => ?_) (fun hc_5 => ?_)
      · have hw := hw.1 hc_5
        exact hk_41 v4_2 _ (lv_sub hl [0, 1, 2, 3, 4] rfl) hw
      · have hw := hw.2 hc_5
        refine lv_aload_n hx hb d_CH_differing_14 rfl (lv_at hl 1 rfl) ?_
        refine lv_iload_n hx hb d_CH_differing_15 rfl (lv_at hl 3 rfl) ?_
        refine lv_iload hx hb d_CH_differing_16 (lv_at hl 0 rfl) ?_
        refine lv_iadd hx hb d_CH_differing_18 ?_
        refine lv_iload_n hx hb d_CH_differing_19 rfl (lv_at hl 4 rfl) ?_
        refine goR (xV (C := R_PI) (ci := 0) (As := [.int (x2 + v4_2), .int x3]) (rest := []) (wc := [(o0_q, .inr (0, [.int o0_width, .int o0_height, .ref o0_values_q])), (o0_values_q, .inl (cI, o0_values_n, .inl o0_values))]) (A := A) cx (c_PI_value l D cI cZ cL s.heap.size o0_q o0_values_q o0_width o0_height o0_values_n o0_values (x2 + v4_2) x3 hw) vw_CH_37 md_PI_value ⟨rfl, rfl, Nat.le_of_ble_eq_true rfl, Nat.le_of_ble_eq_true rfl⟩ (hP.sub [0, 1] rfl) (hD.sub [0, 1] (by decide) rfl) 0 rfl rfl rfl hl.1 (Nat.le_of_ble_eq_true rfl) d_CH_differing_20 ⟨Nat.le_of_ble_eq_true rfl, Nat.le_of_ble_eq_true rfl⟩ rfl) (fun r_3 hw => ?_)
        try dsimp only at hw
        refine lv_aload_n hx hb d_CH_differing_23 rfl (lv_at hl 2 rfl) ?_
        refine lv_iload_n hx hb d_CH_differing_24 rfl (lv_at hl 3 rfl) ?_
        refine lv_iload hx hb d_CH_differing_25 (lv_at hl 0 rfl) ?_
        refine lv_iadd hx hb d_CH_differing_27 ?_
        refine lv_iload_n hx hb d_CH_differing_28 rfl (lv_at hl 4 rfl) ?_
        refine goR (xV (C := R_PI) (ci := 0) (As := [.int (x2 + v4_2), .int x3]) (rest := [.int r_3]) (wc := [(o1_q, .inr (0, [.int o1_width, .int o1_height, .ref o1_values_q])), (o1_values_q, .inl (cI, o1_values_n, .inl o1_values))]) (A := A) cx (c_PI_value l D cI cZ cL s.heap.size o1_q o1_values_q o1_width o1_height o1_values_n o1_values (x2 + v4_2) x3 hw) vw_CH_37 md_PI_value ⟨rfl, rfl, Nat.le_of_ble_eq_true rfl, Nat.le_of_ble_eq_true rfl⟩ (hP.sub [2, 3] rfl) (hD.sub [2, 3] (by decide) rfl) 0 rfl rfl rfl hl.1 (Nat.le_of_ble_eq_true rfl) d_CH_differing_29 ⟨Nat.le_of_ble_eq_true rfl, Nat.le_of_ble_eq_true rfl⟩ rfl) (fun r_4 hw => ?_)
        try dsimp only at hw
        refine lv_icmp_eq (tgt := 41) hx hb d_CH_differing_32 (by decide) (fun hc_6 => ?_) (fun hc_6 => ?_)
        · have hw := hw.1 hc_6
          exact hk_41 v4_2 _ (lv_sub hl [0, 1, 2, 3, 4] rfl) hw
        · have hw := hw.2 hc_6
          refine lv_iinc (v := v4_2 + 1) (lv' := [(4, .int (v4_2 + 1)), (0, .ref o0_q), (1, .ref o1_q), (2, .int x2), (3, .int x3)]) hx hb d_CH_differing_35 hl (k := 0) rfl rfl (by decide) rfl (fun ls hl => ?_)
          refine lv_goto (tgt := 3) hx hb d_CH_differing_38 (by decide) ?_
          exact ih (v4_2 + 1) _ (lv_sub hl [0, 1, 2, 3, 4] rfl) hw
  obtain ⟨n_3, hw⟩ := hw
  refine L3 _ (fun v4_2_5 ls hl hw => ?_) n_3 0 _ (lv_sub hl [0, 1, 2, 3, 4] rfl) hw
  have hl : lv_has ls 5 [(4, .int v4_2_5), (0, .ref o0_q), (1, .ref o1_q), (2, .int x2), (3, .int x3)] := hl
  try dsimp only at hw
  refine lv_iload hx hb d_CH_differing_41 (lv_at hl 0 rfl) ?_
  exact retIr cx hQ d_CH_differing_43 hw
def w_CH_writeRun_21 (x1 : Int32) (x2 : Int32) (x3 : Int32) (o0_width : Int32) (o0_height : Int32) (o0_values_n : Nat) (o0_values : Nat → Int32) (o4_bytes_n : Nat) (k_47 : Int32 → Int32 → (Nat → Int32) → Prop) : Nat → Int32 → Int32 → (Nat → Int32) → Prop
  | 0, _, _, _ => False
  | n + 1, v5_10, g_o4_q_1_11, f_o4_bytes_q_12 => (x3 ≤ v5_10 → k_47 v5_10 g_o4_q_1_11 f_o4_bytes_q_12) ∧ (¬ x3 ≤ v5_10 → w_PI_value o0_width o0_height o0_values_n o0_values (x1 + v5_10) x2 (fun r_13 => w_BR_add g_o4_q_1_11 o4_bytes_n f_o4_bytes_q_12 r_13 (fun (g_14 : Int32) (f_15 : Nat → Int32) => w_CH_writeRun_21 x1 x2 x3 o0_width o0_height o0_values_n o0_values o4_bytes_n k_47 n (v5_10 + 1) g_14 f_15)))
def w_CH_writeRun (o0_width : Int32) (o0_height : Int32) (o0_values_n : Nat) (o0_values : Nat → Int32) (o4_count : Int32) (o4_bytes_n : Nat) (o4_bytes : Nat → Int32) (x1 : Int32) (x2 : Int32) (x3 : Int32) (post : Int32 → (Nat → Int32) → Prop) : Prop := w_BR_add o4_count o4_bytes_n o4_bytes x1 (fun (g_1 : Int32) (f_2 : Nat → Int32) => w_BR_add g_1 o4_bytes_n f_2 x2 (fun (g_3 : Int32) (f_4 : Nat → Int32) => w_BR_add g_3 o4_bytes_n f_4 x3 (fun (g_5 : Int32) (f_6 : Nat → Int32) => ∃ n_21 : Nat, w_CH_writeRun_21 x1 x2 x3 o0_width o0_height o0_values_n o0_values o4_bytes_n (fun (v5_10_16 : Int32) (g_o4_q_1_11_17 : Int32) (f_o4_bytes_q_12_18 : Nat → Int32) => post g_o4_q_1_11_17 f_o4_bytes_q_12_18) n_21 0 g_5 f_6)))
def rm_CH_writeRun : Room := { frames := 2, cells := 0, slots := 0, locals := 44 }
set_option maxHeartbeats 4000000 in
set_option maxRecDepth 100000 in
theorem c_CH_writeRun (l : Launch) (D : va_G) (cI cZ cL : ClassId) (sz : Nat) (o0_q : Nat) (o0_values_q : Nat) (o4_q : Nat) (o4_bytes_q : Nat) (o0_width : Int32) (o0_height : Int32) (o0_values_n : Nat) (o0_values : Nat → Int32) (o4_count : Int32) (o4_bytes_n : Nat) (o4_bytes : Nat → Int32) (x1 : Int32) (x2 : Int32) (x3 : Int32) {post : Int32 → (Nat → Int32) → Prop} (hw : w_CH_writeRun o0_width o0_height o0_values_n o0_values o4_count o4_bytes_n o4_bytes x1 x2 x3 post) : Met l y_CH_writeRun (Cond.code y_CH_writeRun b_CH_writeRun 6 (none) :: AW) rm_CH_writeRun (va_Pc [.ref o0_q, .int x1, .int x2, .int x3, .ref o4_q] (ST D cI cZ cL [(o0_q, .inr (0, [.int o0_width, .int o0_height, .ref o0_values_q])), (o0_values_q, .inl (cI, o0_values_n, .inl o0_values)), (o4_q, .inr (1, [.ref o4_bytes_q, .int o4_count])), (o4_bytes_q, .inl (cI, o4_bytes_n, .inl o4_bytes))] sz)) (va_Qv (fun (u : Int32 × (Nat → Int32)) => post u.1 u.2) (fun u t => EN D [(o0_q, .inr (0, [.int o0_width, .int o0_height, .ref o0_values_q])), (o0_values_q, .inl (cI, o0_values_n, .inl o0_values)), (o4_q, .inr (1, [.ref o4_bytes_q, .int u.1])), (o4_bytes_q, .inl (cI, o4_bytes_n, .inl u.2))] (va_A [(o0_q, .inr (0, [.int o0_width, .int o0_height, .ref o0_values_q])), (o0_values_q, .inl (cI, o0_values_n, .inl o0_values)), (o4_q, .inr (1, [.ref o4_bytes_q, .int o4_count])), (o4_bytes_q, .inl (cI, o4_bytes_n, .inl o4_bytes))] sz) t) (va_A [(o0_q, .inr (0, [.int o0_width, .int o0_height, .ref o0_values_q])), (o0_values_q, .inl (cI, o0_values_n, .inl o0_values)), (o4_q, .inr (1, [.ref o4_bytes_q, .int o4_count])), (o4_bytes_q, .inl (cI, o4_bytes_n, .inl o4_bytes))] sz)) 0 0 (va_A [(o0_q, .inr (0, [.int o0_width, .int o0_height, .ref o0_values_q])), (o0_values_q, .inl (cI, o0_values_n, .inl o0_values)), (o4_q, .inr (1, [.ref o4_bytes_q, .int o4_count])), (o4_bytes_q, .inl (cI, o4_bytes_n, .inl o4_bytes))] sz) := by
  refine ofM (own := R_CH) (fun A => (va_Qv (fun (u : Int32 × (Nat → Int32)) => post u.1 u.2) (fun u t => EN D [(o0_q, .inr (0, [.int o0_width, .int o0_height, .ref o0_values_q])), (o0_values_q, .inl (cI, o0_values_n, .inl o0_values)), (o4_q, .inr (1, [.ref o4_bytes_q, .int u.1])), (o4_bytes_q, .inl (cI, o4_bytes_n, .inl u.2))] A t) A)) (by decide) rfl (Nat.le_of_ble_eq_true rfl) ?_
  intro p e s m args below meth c A ls Q cx hQ hA hl hP hD hS hinit
  obtain ⟨hx, hb, hml, hrt, hown, hta, hlk, hK, hN⟩ := id cx
  have hl : lv_has ls 6 [(0, .ref o0_q), (1, .int x1), (2, .int x2), (3, .int x3), (4, .ref o4_q)] := hl
  have h00 : va_P D CL [(o0_q, .inr (0, [.int o0_width, .int o0_height, .ref o0_values_q])), (o0_values_q, .inl (cI, o0_values_n, .inl o0_values)), (o4_q, .inr (1, [.ref o4_bytes_q, .int o4_count])), (o4_bytes_q, .inl (cI, o4_bytes_n, .inl o4_bytes))] s.heap := hP
  unfold w_CH_writeRun at hw
  obtain ⟨H, eH⟩ : ∃ H, H = s.heap := ⟨_, rfl⟩
  obtain ⟨locs, eL⟩ : ∃ locs : List Loc, locs = [] := ⟨_, rfl⟩
  have hS : va_S A s.heap H locs := by rw [eH, eL]; exact hS
  have hP : va_P D CL [(o0_q, .inr (0, [.int o0_width, .int o0_height, .ref o0_values_q])), (o0_values_q, .inl (cI, o0_values_n, .inl o0_values)), (o4_q, .inr (1, [.ref o4_bytes_q, .int o4_count])), (o4_bytes_q, .inl (cI, o4_bytes_n, .inl o4_bytes))] H := by rw [eH]; exact hP
  suffices hgo : W p l e rm_CH_writeRun s m args below meth c H locs 0 0 Q (F0 m 0 ls []) by rw [eH, eL] at hgo; exact hgo
  clear eH eL h00
  refine lv_aload hx hb d_CH_writeRun_0 (lv_at hl 4 rfl) ?_
  refine lv_iload_n hx hb d_CH_writeRun_2 rfl (lv_at hl 1 rfl) ?_
  refine goV (wr := [(o0_q, .inr (0, [.int o0_width, .int o0_height, .ref o0_values_q])), (o0_values_q, .inl (cI, o0_values_n, .inl o0_values))]) (xV (C := R_BR) (ci := 1) (As := [.int x1]) (rest := []) (wc := [(o4_q, .inr (1, [.ref o4_bytes_q, .int o4_count])), (o4_bytes_q, .inl (cI, o4_bytes_n, .inl o4_bytes))]) (A := A) cx (c_BR_add l D cI cZ cL H.size o4_q o4_bytes_q o4_count o4_bytes_n o4_bytes x1 hw) vw_CH_33 md_BR_add ⟨rfl, rfl, Nat.le_of_ble_eq_true rfl, Nat.le_of_ble_eq_true rfl⟩ (hP.sub [2, 3] rfl) (hD.sub [2, 3] (by decide) rfl) 0 rfl rfl rfl hl.1 (Nat.le_of_ble_eq_true rfl) d_CH_writeRun_3 ⟨Nat.le_of_ble_eq_true rfl, Nat.le_of_ble_eq_true rfl⟩ rfl) hP hD hS hA [2, 3] [0, 1] rfl rfl (by decide) (by decide) (fun u H locs hw hP hD hS => ?_)
  obtain ⟨g_1, f_2⟩ := u
  try dsimp only at hw
  have hP : va_P D CL [(o0_q, .inr (0, [.int o0_width, .int o0_height, .ref o0_values_q])), (o0_values_q, .inl (cI, o0_values_n, .inl o0_values)), (o4_q, .inr (1, [.ref o4_bytes_q, .int g_1])), (o4_bytes_q, .inl (cI, o4_bytes_n, .inl f_2))] H := hP
  have hD : va_D A [(o0_q, .inr (0, [.int o0_width, .int o0_height, .ref o0_values_q])), (o0_values_q, .inl (cI, o0_values_n, .inl o0_values)), (o4_q, .inr (1, [.ref o4_bytes_q, .int g_1])), (o4_bytes_q, .inl (cI, o4_bytes_n, .inl f_2))] := hD
  refine lv_aload hx hb d_CH_writeRun_6 (lv_at hl 4 rfl) ?_
  refine lv_iload_n hx hb d_CH_writeRun_8 rfl (lv_at hl 2 rfl) ?_
  refine goV (wr := [(o0_q, .inr (0, [.int o0_width, .int o0_height, .ref o0_values_q])), (o0_values_q, .inl (cI, o0_values_n, .inl o0_values))]) (xV (C := R_BR) (ci := 1) (As := [.int x2]) (rest := []) (wc := [(o4_q, .inr (1, [.ref o4_bytes_q, .int g_1])), (o4_bytes_q, .inl (cI, o4_bytes_n, .inl f_2))]) (A := A) cx (c_BR_add l D cI cZ cL H.size o4_q o4_bytes_q g_1 o4_bytes_n f_2 x2 hw) vw_CH_33 md_BR_add ⟨rfl, rfl, Nat.le_of_ble_eq_true rfl, Nat.le_of_ble_eq_true rfl⟩ (hP.sub [2, 3] rfl) (hD.sub [2, 3] (by decide) rfl) 0 rfl rfl rfl hl.1 (Nat.le_of_ble_eq_true rfl) d_CH_writeRun_9 ⟨Nat.le_of_ble_eq_true rfl, Nat.le_of_ble_eq_true rfl⟩ rfl) hP hD hS hA [2, 3] [0, 1] rfl rfl (by decide) (by decide) (fun u H locs hw hP hD hS => ?_)
  obtain ⟨g_3, f_4⟩ := u
  try dsimp only at hw
  have hP : va_P D CL [(o0_q, .inr (0, [.int o0_width, .int o0_height, .ref o0_values_q])), (o0_values_q, .inl (cI, o0_values_n, .inl o0_values)), (o4_q, .inr (1, [.ref o4_bytes_q, .int g_3])), (o4_bytes_q, .inl (cI, o4_bytes_n, .inl f_4))] H := hP
  have hD : va_D A [(o0_q, .inr (0, [.int o0_width, .int o0_height, .ref o0_values_q])), (o0_values_q, .inl (cI, o0_values_n, .inl o0_values)), (o4_q, .inr (1, [.ref o4_bytes_q, .int g_3])), (o4_bytes_q, .inl (cI, o4_bytes_n, .inl f_4))] := hD
  refine lv_aload hx hb d_CH_writeRun_12 (lv_at hl 4 rfl) ?_
  refine lv_iload_n hx hb d_CH_writeRun_14 rfl (lv_at hl 3 rfl) ?_
  refine goV (wr := [(o0_q, .inr (0, [.int o0_width, .int o0_height, .ref o0_values_q])), (o0_values_q, .inl (cI, o0_values_n, .inl o0_values))]) (xV (C := R_BR) (ci := 1) (As := [.int x3]) (rest := []) (wc := [(o4_q, .inr (1, [.ref o4_bytes_q, .int g_3])), (o4_bytes_q, .inl (cI, o4_bytes_n, .inl f_4))]) (A := A) cx (c_BR_add l D cI cZ cL H.size o4_q o4_bytes_q g_3 o4_bytes_n f_4 x3 hw) vw_CH_33 md_BR_add ⟨rfl, rfl, Nat.le_of_ble_eq_true rfl, Nat.le_of_ble_eq_true rfl⟩ (hP.sub [2, 3] rfl) (hD.sub [2, 3] (by decide) rfl) 0 rfl rfl rfl hl.1 (Nat.le_of_ble_eq_true rfl) d_CH_writeRun_15 ⟨Nat.le_of_ble_eq_true rfl, Nat.le_of_ble_eq_true rfl⟩ rfl) hP hD hS hA [2, 3] [0, 1] rfl rfl (by decide) (by decide) (fun u H locs hw hP hD hS => ?_)
  obtain ⟨g_5, f_6⟩ := u
  try dsimp only at hw
  have hP : va_P D CL [(o0_q, .inr (0, [.int o0_width, .int o0_height, .ref o0_values_q])), (o0_values_q, .inl (cI, o0_values_n, .inl o0_values)), (o4_q, .inr (1, [.ref o4_bytes_q, .int g_5])), (o4_bytes_q, .inl (cI, o4_bytes_n, .inl f_6))] H := hP
  have hD : va_D A [(o0_q, .inr (0, [.int o0_width, .int o0_height, .ref o0_values_q])), (o0_values_q, .inl (cI, o0_values_n, .inl o0_values)), (o4_q, .inr (1, [.ref o4_bytes_q, .int g_5])), (o4_bytes_q, .inl (cI, o4_bytes_n, .inl f_6))] := hD
  refine lv_iconst (v := 0) hx hb d_CH_writeRun_18 (by decide) ?_
  refine lv_istore (lv' := [(5, .int 0), (0, .ref o0_q), (1, .int x1), (2, .int x2), (3, .int x3), (4, .ref o4_q)]) hx hb d_CH_writeRun_19 hl (by decide) rfl (fun ls hl => ?_)
  have L21 : ∀ (k_47 : Int32 → Int32 → (Nat → Int32) → Prop) (hk_47 : ∀ (v5_10 : Int32) (g_o4_q_1_11 : Int32) (f_o4_bytes_q_12 : Nat → Int32) (H : Heap) (locs : List Loc) (ls : Array Slot), lv_has ls 6 [(5, .int v5_10), (0, .ref o0_q), (1, .int x1), (2, .int x2), (3, .int x3), (4, .ref o4_q)] → va_P D CL [(o0_q, .inr (0, [.int o0_width, .int o0_height, .ref o0_values_q])), (o0_values_q, .inl (cI, o0_values_n, .inl o0_values)), (o4_q, .inr (1, [.ref o4_bytes_q, .int g_o4_q_1_11])), (o4_bytes_q, .inl (cI, o4_bytes_n, .inl f_o4_bytes_q_12))] H → va_D A [(o0_q, .inr (0, [.int o0_width, .int o0_height, .ref o0_values_q])), (o0_values_q, .inl (cI, o0_values_n, .inl o0_values)), (o4_q, .inr (1, [.ref o4_bytes_q, .int g_o4_q_1_11])), (o4_bytes_q, .inl (cI, o4_bytes_n, .inl f_o4_bytes_q_12))] → va_S A s.heap H locs → k_47 v5_10 g_o4_q_1_11 f_o4_bytes_q_12 → W p l e rm_CH_writeRun s m args below meth c H locs 0 0 Q (F0 m 47 ls [])), ∀ (n : Nat) (v5_10 : Int32) (g_o4_q_1_11 : Int32) (f_o4_bytes_q_12 : Nat → Int32) (H : Heap) (locs : List Loc) (ls : Array Slot), lv_has ls 6 [(5, .int v5_10), (0, .ref o0_q), (1, .int x1), (2, .int x2), (3, .int x3), (4, .ref o4_q)] → va_P D CL [(o0_q, .inr (0, [.int o0_width, .int o0_height, .ref o0_values_q])), (o0_values_q, .inl (cI, o0_values_n, .inl o0_values)), (o4_q, .inr (1, [.ref o4_bytes_q, .int g_o4_q_1_11])), (o4_bytes_q, .inl (cI, o4_bytes_n, .inl f_o4_bytes_q_12))] H → va_D A [(o0_q, .inr (0, [.int o0_width, .int o0_height, .ref o0_values_q])), (o0_values_q, .inl (cI, o0_values_n, .inl o0_values)), (o4_q, .inr (1, [.ref o4_bytes_q, .int g_o4_q_1_11])), (o4_bytes_q, .inl (cI, o4_bytes_n, .inl f_o4_bytes_q_12))] → va_S A s.heap H locs → w_CH_writeRun_21 x1 x2 x3 o0_width o0_height o0_values_n o0_values o4_bytes_n k_47 n v5_10 g_o4_q_1_11 f_o4_bytes_q_12 → W p l e rm_CH_writeRun s m args below meth c H locs 0 0 Q (F0 m 21 ls []) := by
    intro k_47 hk_47 n
    induction n with
    | zero => intro v5_10 g_o4_q_1_11 f_o4_bytes_q_12 H locs ls hl hP hD hS hw; exact hw.elim
    | succ n ih =>
      intro v5_10 g_o4_q_1_11 f_o4_bytes_q_12 H locs ls hl hP hD hS hw
      rw [w_CH_writeRun_21] at hw
      refine lv_iload hx hb d_CH_writeRun_21 (lv_at hl 0 rfl) ?_
      refine lv_iload_n hx hb d_CH_writeRun_23 rfl (lv_at hl 4 rfl) ?_
      refine lv_icmp_ge (tgt := 47) hx hb d_CH_writeRun_24 (by decide) (fun hc_3 => ?_) (fun hc_3 => ?_)
      · have hw := hw.1 hc_3
        exact hk_47 v5_10 g_o4_q_1_11 f_o4_bytes_q_12 _ _ _ (lv_sub hl [0, 1, 2, 3, 4, 5] rfl) (hP.sub [0, 1, 2, 3] rfl) (hD.sub [0, 1, 2, 3] (by decide) rfl) hS hw
      · have hw := hw.2 hc_3
        refine lv_aload hx hb d_CH_writeRun_27 (lv_at hl 5 rfl) ?_
        refine lv_aload_n hx hb d_CH_writeRun_29 rfl (lv_at hl 1 rfl) ?_
        refine lv_iload_n hx hb d_CH_writeRun_30 rfl (lv_at hl 2 rfl) ?_
        refine lv_iload hx hb d_CH_writeRun_31 (lv_at hl 0 rfl) ?_
        refine lv_iadd hx hb d_CH_writeRun_33 ?_
        refine lv_iload_n hx hb d_CH_writeRun_34 rfl (lv_at hl 3 rfl) ?_
        refine goR (xV (C := R_PI) (ci := 0) (As := [.int (x1 + v5_10), .int x2]) (rest := [.ref o4_q]) (wc := [(o0_q, .inr (0, [.int o0_width, .int o0_height, .ref o0_values_q])), (o0_values_q, .inl (cI, o0_values_n, .inl o0_values))]) (A := A) cx (c_PI_value l D cI cZ cL H.size o0_q o0_values_q o0_width o0_height o0_values_n o0_values (x1 + v5_10) x2 hw) vw_CH_37 md_PI_value ⟨rfl, rfl, Nat.le_of_ble_eq_true rfl, Nat.le_of_ble_eq_true rfl⟩ (hP.sub [0, 1] rfl) (hD.sub [0, 1] (by decide) rfl) 0 rfl rfl rfl hl.1 (Nat.le_of_ble_eq_true rfl) d_CH_writeRun_35 ⟨Nat.le_of_ble_eq_true rfl, Nat.le_of_ble_eq_true rfl⟩ rfl) (fun r_13 hw => ?_)
        try dsimp only at hw
        refine goV (wr := [(o0_q, .inr (0, [.int o0_width, .int o0_height, .ref o0_values_q])), (o0_values_q, .inl (cI, o0_values_n, .inl o0_values))]) (xV (C := R_BR) (ci := 1) (As := [.int r_13]) (rest := []) (wc := [(o4_q, .inr (1, [.ref o4_bytes_q, .int g_o4_q_1_11])), (o4_bytes_q, .inl (cI, o4_bytes_n, .inl f_o4_bytes_q_12))]) (A := A) cx (c_BR_add l D cI cZ cL H.size o4_q o4_bytes_q g_o4_q_1_11 o4_bytes_n f_o4_bytes_q_12 r_13 hw) vw_CH_33 md_BR_add ⟨rfl, rfl, Nat.le_of_ble_eq_true rfl, Nat.le_of_ble_eq_true rfl⟩ (hP.sub [2, 3] rfl) (hD.sub [2, 3] (by decide) rfl) 0 rfl rfl rfl hl.1 (Nat.le_of_ble_eq_true rfl) d_CH_writeRun_38 ⟨Nat.le_of_ble_eq_true rfl, Nat.le_of_ble_eq_true rfl⟩ rfl) hP hD hS hA [2, 3] [0, 1] rfl rfl (by decide) (by decide) (fun u H locs hw hP hD hS => ?_)
        obtain ⟨g_14, f_15⟩ := u
        try dsimp only at hw
        have hP : va_P D CL [(o0_q, .inr (0, [.int o0_width, .int o0_height, .ref o0_values_q])), (o0_values_q, .inl (cI, o0_values_n, .inl o0_values)), (o4_q, .inr (1, [.ref o4_bytes_q, .int g_14])), (o4_bytes_q, .inl (cI, o4_bytes_n, .inl f_15))] H := hP
        have hD : va_D A [(o0_q, .inr (0, [.int o0_width, .int o0_height, .ref o0_values_q])), (o0_values_q, .inl (cI, o0_values_n, .inl o0_values)), (o4_q, .inr (1, [.ref o4_bytes_q, .int g_14])), (o4_bytes_q, .inl (cI, o4_bytes_n, .inl f_15))] := hD
        refine lv_iinc (v := v5_10 + 1) (lv' := [(5, .int (v5_10 + 1)), (0, .ref o0_q), (1, .int x1), (2, .int x2), (3, .int x3), (4, .ref o4_q)]) hx hb d_CH_writeRun_41 hl (k := 0) rfl rfl (by decide) rfl (fun ls hl => ?_)
        refine lv_goto (tgt := 21) hx hb d_CH_writeRun_44 (by decide) ?_
        exact ih (v5_10 + 1) g_14 f_15 _ _ _ (lv_sub hl [0, 1, 2, 3, 4, 5] rfl) (hP.sub [0, 1, 2, 3] rfl) (hD.sub [0, 1, 2, 3] (by decide) rfl) hS hw
  obtain ⟨n_21, hw⟩ := hw
  refine L21 _ (fun v5_10_16 g_o4_q_1_11_17 f_o4_bytes_q_12_18 H locs ls hl hP hD hS hw => ?_) n_21 0 g_5 f_6 _ _ _ (lv_sub hl [0, 1, 2, 3, 4, 5] rfl) (hP.sub [0, 1, 2, 3] rfl) (hD.sub [0, 1, 2, 3] (by decide) rfl) hS hw
  have hl : lv_has ls 6 [(5, .int v5_10_16), (0, .ref o0_q), (1, .int x1), (2, .int x2), (3, .int x3), (4, .ref o4_q)] := hl
  have hP : va_P D CL [(o0_q, .inr (0, [.int o0_width, .int o0_height, .ref o0_values_q])), (o0_values_q, .inl (cI, o0_values_n, .inl o0_values)), (o4_q, .inr (1, [.ref o4_bytes_q, .int g_o4_q_1_11_17])), (o4_bytes_q, .inl (cI, o4_bytes_n, .inl f_o4_bytes_q_12_18))] H := hP
  have hD : va_D A [(o0_q, .inr (0, [.int o0_width, .int o0_height, .ref o0_values_q])), (o0_values_q, .inl (cI, o0_values_n, .inl o0_values)), (o4_q, .inr (1, [.ref o4_bytes_q, .int g_o4_q_1_11_17])), (o4_bytes_q, .inl (cI, o4_bytes_n, .inl f_o4_bytes_q_12_18))] := hD
  try dsimp only at hw
  exact retV cx hQ d_CH_writeRun_47 (g_o4_q_1_11_17, f_o4_bytes_q_12_18) hw (hP.sub [0, 1, 2, 3] rfl) (hD.sub [0, 1, 2, 3] (by decide) rfl) hS
def w_CH_write_17 (o0_width : Int32) (o0_height : Int32) (o0_values_n : Nat) (o0_values : Nat → Int32) (o1_width : Int32) (o1_height : Int32) (o1_values_n : Nat) (o1_values : Nat → Int32) (o2_bytes_n : Nat) (v3_5 : Int32) (k_64 : Int32 → Int32 → (Nat → Int32) → Prop) : Nat → Int32 → Int32 → (Nat → Int32) → Prop
  | 0, _, _, _ => False
  | n + 1, v4_11, g_o2_q_1_12, f_o2_bytes_q_13 => (o0_width ≤ v4_11 → k_64 v4_11 g_o2_q_1_12 f_o2_bytes_q_13) ∧ (¬ o0_width ≤ v4_11 → w_CH_differing o0_width o0_height o0_values_n o0_values o1_width o1_height o1_values_n o1_values v4_11 v3_5 (fun r_14 => (r_14 ≤ 0 → w_CH_write_17 o0_width o0_height o0_values_n o0_values o1_width o1_height o1_values_n o1_values o2_bytes_n v3_5 k_64 n (v4_11 + 1) g_o2_q_1_12 f_o2_bytes_q_13) ∧ (¬ r_14 ≤ 0 → w_CH_writeRun o1_width o1_height o1_values_n o1_values g_o2_q_1_12 o2_bytes_n f_o2_bytes_q_13 v4_11 v3_5 r_14 (fun (g_15 : Int32) (f_16 : Nat → Int32) => w_CH_write_17 o0_width o0_height o0_values_n o0_values o1_width o1_height o1_values_n o1_values o2_bytes_n v3_5 k_64 n ((v4_11 + r_14) + 1) g_15 f_16))))
def w_CH_write_6 (o0_width : Int32) (o0_height : Int32) (o0_values_n : Nat) (o0_values : Nat → Int32) (o1_width : Int32) (o1_height : Int32) (o1_values_n : Nat) (o1_values : Nat → Int32) (o2_bytes_n : Nat) (k_70 : Int32 → Int32 → (Nat → Int32) → Prop) : Nat → Int32 → Int32 → (Nat → Int32) → Prop
  | 0, _, _, _ => False
  | n + 1, v3_5, g_o2_q_1_6, f_o2_bytes_q_7 => (o0_height ≤ v3_5 → k_70 v3_5 g_o2_q_1_6 f_o2_bytes_q_7) ∧ (¬ o0_height ≤ v3_5 → ∃ n_17 : Nat, w_CH_write_17 o0_width o0_height o0_values_n o0_values o1_width o1_height o1_values_n o1_values o2_bytes_n v3_5 (fun (v4_11_17 : Int32) (g_o2_q_1_12_18 : Int32) (f_o2_bytes_q_13_19 : Nat → Int32) => w_CH_write_6 o0_width o0_height o0_values_n o0_values o1_width o1_height o1_values_n o1_values o2_bytes_n k_70 n (v3_5 + 1) g_o2_q_1_12_18 f_o2_bytes_q_13_19) n_17 0 g_o2_q_1_6 f_o2_bytes_q_7)
def w_CH_write (o0_width : Int32) (o0_height : Int32) (o0_values_n : Nat) (o0_values : Nat → Int32) (o1_width : Int32) (o1_height : Int32) (o1_values_n : Nat) (o1_values : Nat → Int32) (o2_count : Int32) (o2_bytes_n : Nat) (o2_bytes : Nat → Int32) (post : Int32 → (Nat → Int32) → Prop) : Prop := w_BR_drop o2_count o2_bytes_n o2_bytes (fun (g_1 : Int32) => ∃ n_6 : Nat, w_CH_write_6 o0_width o0_height o0_values_n o0_values o1_width o1_height o1_values_n o1_values o2_bytes_n (fun (v3_5_20 : Int32) (g_o2_q_1_6_21 : Int32) (f_o2_bytes_q_7_22 : Nat → Int32) => w_BR_add g_o2_q_1_6_21 o2_bytes_n f_o2_bytes_q_7_22 255 (fun (g_23 : Int32) (f_24 : Nat → Int32) => post g_23 f_24)) n_6 0 g_1 o2_bytes)
def rm_CH_write : Room := { frames := 3, cells := 0, slots := 0, locals := 69 }
set_option maxHeartbeats 4000000 in
set_option maxRecDepth 100000 in
theorem c_CH_write (l : Launch) (D : va_G) (cI cZ cL : ClassId) (sz : Nat) (o0_q : Nat) (o0_values_q : Nat) (o1_q : Nat) (o1_values_q : Nat) (o2_q : Nat) (o2_bytes_q : Nat) (o0_width : Int32) (o0_height : Int32) (o0_values_n : Nat) (o0_values : Nat → Int32) (o1_width : Int32) (o1_height : Int32) (o1_values_n : Nat) (o1_values : Nat → Int32) (o2_count : Int32) (o2_bytes_n : Nat) (o2_bytes : Nat → Int32) {post : Int32 → (Nat → Int32) → Prop} (hw : w_CH_write o0_width o0_height o0_values_n o0_values o1_width o1_height o1_values_n o1_values o2_count o2_bytes_n o2_bytes post) : Met l y_CH_write (Cond.code y_CH_write b_CH_write 6 (none) :: AW) rm_CH_write (va_Pc [.ref o0_q, .ref o1_q, .ref o2_q] (ST D cI cZ cL [(o0_q, .inr (0, [.int o0_width, .int o0_height, .ref o0_values_q])), (o0_values_q, .inl (cI, o0_values_n, .inl o0_values)), (o1_q, .inr (0, [.int o1_width, .int o1_height, .ref o1_values_q])), (o1_values_q, .inl (cI, o1_values_n, .inl o1_values)), (o2_q, .inr (1, [.ref o2_bytes_q, .int o2_count])), (o2_bytes_q, .inl (cI, o2_bytes_n, .inl o2_bytes))] sz)) (va_Qv (fun (u : Int32 × (Nat → Int32)) => post u.1 u.2) (fun u t => EN D [(o0_q, .inr (0, [.int o0_width, .int o0_height, .ref o0_values_q])), (o0_values_q, .inl (cI, o0_values_n, .inl o0_values)), (o1_q, .inr (0, [.int o1_width, .int o1_height, .ref o1_values_q])), (o1_values_q, .inl (cI, o1_values_n, .inl o1_values)), (o2_q, .inr (1, [.ref o2_bytes_q, .int u.1])), (o2_bytes_q, .inl (cI, o2_bytes_n, .inl u.2))] (va_A [(o0_q, .inr (0, [.int o0_width, .int o0_height, .ref o0_values_q])), (o0_values_q, .inl (cI, o0_values_n, .inl o0_values)), (o1_q, .inr (0, [.int o1_width, .int o1_height, .ref o1_values_q])), (o1_values_q, .inl (cI, o1_values_n, .inl o1_values)), (o2_q, .inr (1, [.ref o2_bytes_q, .int o2_count])), (o2_bytes_q, .inl (cI, o2_bytes_n, .inl o2_bytes))] sz) t) (va_A [(o0_q, .inr (0, [.int o0_width, .int o0_height, .ref o0_values_q])), (o0_values_q, .inl (cI, o0_values_n, .inl o0_values)), (o1_q, .inr (0, [.int o1_width, .int o1_height, .ref o1_values_q])), (o1_values_q, .inl (cI, o1_values_n, .inl o1_values)), (o2_q, .inr (1, [.ref o2_bytes_q, .int o2_count])), (o2_bytes_q, .inl (cI, o2_bytes_n, .inl o2_bytes))] sz)) 0 0 (va_A [(o0_q, .inr (0, [.int o0_width, .int o0_height, .ref o0_values_q])), (o0_values_q, .inl (cI, o0_values_n, .inl o0_values)), (o1_q, .inr (0, [.int o1_width, .int o1_height, .ref o1_values_q])), (o1_values_q, .inl (cI, o1_values_n, .inl o1_values)), (o2_q, .inr (1, [.ref o2_bytes_q, .int o2_count])), (o2_bytes_q, .inl (cI, o2_bytes_n, .inl o2_bytes))] sz) := by
  refine ofM (own := R_CH) (fun A => (va_Qv (fun (u : Int32 × (Nat → Int32)) => post u.1 u.2) (fun u t => EN D [(o0_q, .inr (0, [.int o0_width, .int o0_height, .ref o0_values_q])), (o0_values_q, .inl (cI, o0_values_n, .inl o0_values)), (o1_q, .inr (0, [.int o1_width, .int o1_height, .ref o1_values_q])), (o1_values_q, .inl (cI, o1_values_n, .inl o1_values)), (o2_q, .inr (1, [.ref o2_bytes_q, .int u.1])), (o2_bytes_q, .inl (cI, o2_bytes_n, .inl u.2))] A t) A)) (by decide) rfl (Nat.le_of_ble_eq_true rfl) ?_
  intro p e s m args below meth c A ls Q cx hQ hA hl hP hD hS hinit
  obtain ⟨hx, hb, hml, hrt, hown, hta, hlk, hK, hN⟩ := id cx
  have hl : lv_has ls 6 [(0, .ref o0_q), (1, .ref o1_q), (2, .ref o2_q)] := hl
  have h00 : va_P D CL [(o0_q, .inr (0, [.int o0_width, .int o0_height, .ref o0_values_q])), (o0_values_q, .inl (cI, o0_values_n, .inl o0_values)), (o1_q, .inr (0, [.int o1_width, .int o1_height, .ref o1_values_q])), (o1_values_q, .inl (cI, o1_values_n, .inl o1_values)), (o2_q, .inr (1, [.ref o2_bytes_q, .int o2_count])), (o2_bytes_q, .inl (cI, o2_bytes_n, .inl o2_bytes))] s.heap := hP
  unfold w_CH_write at hw
  obtain ⟨H, eH⟩ : ∃ H, H = s.heap := ⟨_, rfl⟩
  obtain ⟨locs, eL⟩ : ∃ locs : List Loc, locs = [] := ⟨_, rfl⟩
  have hS : va_S A s.heap H locs := by rw [eH, eL]; exact hS
  have hP : va_P D CL [(o0_q, .inr (0, [.int o0_width, .int o0_height, .ref o0_values_q])), (o0_values_q, .inl (cI, o0_values_n, .inl o0_values)), (o1_q, .inr (0, [.int o1_width, .int o1_height, .ref o1_values_q])), (o1_values_q, .inl (cI, o1_values_n, .inl o1_values)), (o2_q, .inr (1, [.ref o2_bytes_q, .int o2_count])), (o2_bytes_q, .inl (cI, o2_bytes_n, .inl o2_bytes))] H := by rw [eH]; exact hP
  suffices hgo : W p l e rm_CH_write s m args below meth c H locs 0 0 Q (F0 m 0 ls []) by rw [eH, eL] at hgo; exact hgo
  clear eH eL h00
  refine lv_aload_n hx hb d_CH_write_0 rfl (lv_at hl 2 rfl) ?_
  refine goV (wr := [(o0_q, .inr (0, [.int o0_width, .int o0_height, .ref o0_values_q])), (o0_values_q, .inl (cI, o0_values_n, .inl o0_values)), (o1_q, .inr (0, [.int o1_width, .int o1_height, .ref o1_values_q])), (o1_values_q, .inl (cI, o1_values_n, .inl o1_values))]) (xV (C := R_BR) (ci := 1) (As := []) (rest := []) (wc := [(o2_q, .inr (1, [.ref o2_bytes_q, .int o2_count])), (o2_bytes_q, .inl (cI, o2_bytes_n, .inl o2_bytes))]) (A := A) cx (c_BR_drop l D cI cZ cL H.size o2_q o2_bytes_q o2_count o2_bytes_n o2_bytes hw) vw_CH_9 md_BR_drop ⟨rfl, rfl, Nat.le_of_ble_eq_true rfl, Nat.le_of_ble_eq_true rfl⟩ (hP.sub [4, 5] rfl) (hD.sub [4, 5] (by decide) rfl) 0 rfl rfl rfl hl.1 (Nat.le_of_ble_eq_true rfl) d_CH_write_1 ⟨Nat.le_of_ble_eq_true rfl, Nat.le_of_ble_eq_true rfl⟩ rfl) hP hD hS hA [4, 5] [0, 1, 2, 3] rfl rfl (by decide) (by decide) (fun g_1 H locs hw hP hD hS => ?_)
  try dsimp only at hw
  have hP : va_P D CL [(o0_q, .inr (0, [.int o0_width, .int o0_height, .ref o0_values_q])), (o0_values_q, .inl (cI, o0_values_n, .inl o0_values)), (o1_q, .inr (0, [.int o1_width, .int o1_height, .ref o1_values_q])), (o1_values_q, .inl (cI, o1_values_n, .inl o1_values)), (o2_q, .inr (1, [.ref o2_bytes_q, .int g_1])), (o2_bytes_q, .inl (cI, o2_bytes_n, .inl o2_bytes))] H := hP
  have hD : va_D A [(o0_q, .inr (0, [.int o0_width, .int o0_height, .ref o0_values_q])), (o0_values_q, .inl (cI, o0_values_n, .inl o0_values)), (o1_q, .inr (0, [.int o1_width, .int o1_height, .ref o1_values_q])), (o1_values_q, .inl (cI, o1_values_n, .inl o1_values)), (o2_q, .inr (1, [.ref o2_bytes_q, .int g_1])), (o2_bytes_q, .inl (cI, o2_bytes_n, .inl o2_bytes))] := hD
  refine lv_iconst (v := 0) hx hb d_CH_write_4 (by decide) ?_
  refine lv_istore_n (lv' := [(3, .int 0), (0, .ref o0_q), (1, .ref o1_q), (2, .ref o2_q)]) hx hb d_CH_write_5 rfl hl (by decide) rfl (fun ls hl => ?_)
  have L6 : ∀ (k_70 : Int32 → Int32 → (Nat → Int32) → Prop) (hk_70 : ∀ (v3_5 : Int32) (g_o2_q_1_6 : Int32) (f_o2_bytes_q_7 : Nat → Int32) (H : Heap) (locs : List Loc) (ls : Array Slot), lv_has ls 6 [(3, .int v3_5), (0, .ref o0_q), (1, .ref o1_q), (2, .ref o2_q)] → va_P D CL [(o0_q, .inr (0, [.int o0_width, .int o0_height, .ref o0_values_q])), (o0_values_q, .inl (cI, o0_values_n, .inl o0_values)), (o1_q, .inr (0, [.int o1_width, .int o1_height, .ref o1_values_q])), (o1_values_q, .inl (cI, o1_values_n, .inl o1_values)), (o2_q, .inr (1, [.ref o2_bytes_q, .int g_o2_q_1_6])), (o2_bytes_q, .inl (cI, o2_bytes_n, .inl f_o2_bytes_q_7))] H → va_D A [(o0_q, .inr (0, [.int o0_width, .int o0_height, .ref o0_values_q])), (o0_values_q, .inl (cI, o0_values_n, .inl o0_values)), (o1_q, .inr (0, [.int o1_width, .int o1_height, .ref o1_values_q])), (o1_values_q, .inl (cI, o1_values_n, .inl o1_values)), (o2_q, .inr (1, [.ref o2_bytes_q, .int g_o2_q_1_6])), (o2_bytes_q, .inl (cI, o2_bytes_n, .inl f_o2_bytes_q_7))] → va_S A s.heap H locs → k_70 v3_5 g_o2_q_1_6 f_o2_bytes_q_7 → W p l e rm_CH_write s m args below meth c H locs 0 0 Q (F0 m 70 ls [])), ∀ (n : Nat) (v3_5 : Int32) (g_o2_q_1_6 : Int32) (f_o2_bytes_q_7 : Nat → Int32) (H : Heap) (locs : List Loc) (ls : Array Slot), lv_has ls 6 [(3, .int v3_5), (0, .ref o0_q), (1, .ref o1_q), (2, .ref o2_q)] → va_P D CL [(o0_q, .inr (0, [.int o0_width, .int o0_height, .ref o0_values_q])), (o0_values_q, .inl (cI, o0_values_n, .inl o0_values)), (o1_q, .inr (0, [.int o1_width, .int o1_height, .ref o1_values_q])), (o1_values_q, .inl (cI, o1_values_n, .inl o1_values)), (o2_q, .inr (1, [.ref o2_bytes_q, .int g_o2_q_1_6])), (o2_bytes_q, .inl (cI, o2_bytes_n, .inl f_o2_bytes_q_7))] H → va_D A [(o0_q, .inr (0, [.int o0_width, .int o0_height, .ref o0_values_q])), (o0_values_q, .inl (cI, o0_values_n, .inl o0_values)), (o1_q, .inr (0, [.int o1_width, .int o1_height, .ref o1_values_q])), (o1_values_q, .inl (cI, o1_values_n, .inl o1_values)), (o2_q, .inr (1, [.ref o2_bytes_q, .int g_o2_q_1_6])), (o2_bytes_q, .inl (cI, o2_bytes_n, .inl f_o2_bytes_q_7))] → va_S A s.heap H locs → w_CH_write_6 o0_width o0_height o0_values_n o0_values o1_width o1_height o1_values_n o1_values o2_bytes_n k_70 n v3_5 g_o2_q_1_6 f_o2_bytes_q_7 → W p l e rm_CH_write s m args below meth c H locs 0 0 Q (F0 m 6 ls []) := by
    intro k_70 hk_70 n
    induction n with
    | zero => intro v3_5 g_o2_q_1_6 f_o2_bytes_q_7 H locs ls hl hP hD hS hw; exact hw.elim
    | succ n ih =>
      intro v3_5 g_o2_q_1_6 f_o2_bytes_q_7 H locs ls hl hP hD hS hw
      rw [w_CH_write_6] at hw
      refine lv_iload_n hx hb d_CH_write_6 rfl (lv_at hl 0 rfl) ?_
      refine lv_aload_n hx hb d_CH_write_7 rfl (lv_at hl 1 rfl) ?_
      refine va_getN (D := D) (ci := 0) (v := .int o0_height) (C := R_PI) (T := F_PI) (N := 3) hx hb hta lay_PI hown hK hP 0 rfl rfl 1 (by decide) (va_Nw.use rfl (hN _ kn_CH_14 rfl)) (fun _ h9 => h9) rfl d_CH_write_8 ?_
      refine lv_icmp_ge (tgt := 70) hx hb d_CH_write_11 (by decide) (fun hc_15 => ?_) (fun hc_15 => ?_)
      · have hw := hw.1 hc_15
        exact hk_70 v3_5 g_o2_q_1_6 f_o2_bytes_q_7 _ _ _ (lv_sub hl [0, 1, 2, 3] rfl) (hP.sub [0, 1, 2, 3, 4, 5] rfl) (hD.sub [0, 1, 2, 3, 4, 5] (by decide) rfl) hS hw
      · have hw := hw.2 hc_15
        refine lv_iconst (v := 0) hx hb d_CH_write_14 (by decide) ?_
        refine lv_istore (lv' := [(4, .int 0), (3, .int v3_5), (0, .ref o0_q), (1, .ref o1_q), (2, .ref o2_q)]) hx hb d_CH_write_15 hl (by decide) rfl (fun ls hl => ?_)
        have L17 : ∀ (k_64 : Int32 → Int32 → (Nat → Int32) → Prop) (hk_64 : ∀ (v4_11 : Int32) (g_o2_q_1_12 : Int32) (f_o2_bytes_q_13 : Nat → Int32) (H : Heap) (locs : List Loc) (ls : Array Slot), lv_has ls 6 [(4, .int v4_11), (3, .int v3_5), (0, .ref o0_q), (1, .ref o1_q), (2, .ref o2_q)] → va_P D CL [(o0_q, .inr (0, [.int o0_width, .int o0_height, .ref o0_values_q])), (o0_values_q, .inl (cI, o0_values_n, .inl o0_values)), (o1_q, .inr (0, [.int o1_width, .int o1_height, .ref o1_values_q])), (o1_values_q, .inl (cI, o1_values_n, .inl o1_values)), (o2_q, .inr (1, [.ref o2_bytes_q, .int g_o2_q_1_12])), (o2_bytes_q, .inl (cI, o2_bytes_n, .inl f_o2_bytes_q_13))] H → va_D A [(o0_q, .inr (0, [.int o0_width, .int o0_height, .ref o0_values_q])), (o0_values_q, .inl (cI, o0_values_n, .inl o0_values)), (o1_q, .inr (0, [.int o1_width, .int o1_height, .ref o1_values_q])), (o1_values_q, .inl (cI, o1_values_n, .inl o1_values)), (o2_q, .inr (1, [.ref o2_bytes_q, .int g_o2_q_1_12])), (o2_bytes_q, .inl (cI, o2_bytes_n, .inl f_o2_bytes_q_13))] → va_S A s.heap H locs → k_64 v4_11 g_o2_q_1_12 f_o2_bytes_q_13 → W p l e rm_CH_write s m args below meth c H locs 0 0 Q (F0 m 64 ls [])), ∀ (n : Nat) (v4_11 : Int32) (g_o2_q_1_12 : Int32) (f_o2_bytes_q_13 : Nat → Int32) (H : Heap) (locs : List Loc) (ls : Array Slot), lv_has ls 6 [(4, .int v4_11), (3, .int v3_5), (0, .ref o0_q), (1, .ref o1_q), (2, .ref o2_q)] → va_P D CL [(o0_q, .inr (0, [.int o0_width, .int o0_height, .ref o0_values_q])), (o0_values_q, .inl (cI, o0_values_n, .inl o0_values)), (o1_q, .inr (0, [.int o1_width, .int o1_height, .ref o1_values_q])), (o1_values_q, .inl (cI, o1_values_n, .inl o1_values)), (o2_q, .inr (1, [.ref o2_bytes_q, .int g_o2_q_1_12])), (o2_bytes_q, .inl (cI, o2_bytes_n, .inl f_o2_bytes_q_13))] H → va_D A [(o0_q, .inr (0, [.int o0_width, .int o0_height, .ref o0_values_q])), (o0_values_q, .inl (cI, o0_values_n, .inl o0_values)), (o1_q, .inr (0, [.int o1_width, .int o1_height, .ref o1_values_q])), (o1_values_q, .inl (cI, o1_values_n, .inl o1_values)), (o2_q, .inr (1, [.ref o2_bytes_q, .int g_o2_q_1_12])), (o2_bytes_q, .inl (cI, o2_bytes_n, .inl f_o2_bytes_q_13))] → va_S A s.heap H locs → w_CH_write_17 o0_width o0_height o0_values_n o0_values o1_width o1_height o1_values_n o1_values o2_bytes_n v3_5 k_64 n v4_11 g_o2_q_1_12 f_o2_bytes_q_13 → W p l e rm_CH_write s m args below meth c H locs 0 0 Q (F0 m 17 ls []) := by
          intro k_64 hk_64 n
          induction n with
          | zero => intro v4_11 g_o2_q_1_12 f_o2_bytes_q_13 H locs ls hl hP hD hS hw; exact hw.elim
          | succ n ih =>
            intro v4_11 g_o2_q_1_12 f_o2_bytes_q_13 H locs ls hl hP hD hS hw
            rw [w_CH_write_17] at hw
            refine lv_iload hx hb d_CH_write_17 (lv_at hl 0 rfl) ?_
            refine lv_aload_n hx hb d_CH_write_19 rfl (lv_at hl 2 rfl) ?_
            refine va_getN (D := D) (ci := 0) (v := .int o0_width) (C := R_PI) (T := F_PI) (N := 3) hx hb hta lay_PI hown hK hP 0 rfl rfl 0 (by decide) (va_Nw.use rfl (hN _ kn_CH_20 rfl)) (fun _ h9 => h9) rfl d_CH_write_20 ?_
            refine lv_icmp_ge (tgt := 64) hx hb d_CH_write_23 (by decide) (fun hc_20 => ?_) (fun hc_20 => ?_)
            · have hw := hw.1 hc_20
              exact hk_64 v4_11 g_o2_q_1_12 f_o2_bytes_q_13 _ _ _ (lv_sub hl [0, 1, 2, 3, 4] rfl) (hP.sub [0, 1, 2, 3, 4, 5] rfl) (hD.sub [0, 1, 2, 3, 4, 5] (by decide) rfl) hS hw
            · have hw := hw.2 hc_20
              refine lv_aload_n hx hb d_CH_write_26 rfl (lv_at hl 2 rfl) ?_
              refine lv_aload_n hx hb d_CH_write_27 rfl (lv_at hl 3 rfl) ?_
              refine lv_iload hx hb d_CH_write_28 (lv_at hl 0 rfl) ?_
              refine lv_iload_n hx hb d_CH_write_30 rfl (lv_at hl 1 rfl) ?_
              refine goR (xS (As := [.ref o0_q, .ref o1_q, .int v4_11, .int v3_5]) (rest := []) (wc := [(o0_q, .inr (0, [.int o0_width, .int o0_height, .ref o0_values_q])), (o0_values_q, .inl (cI, o0_values_n, .inl o0_values)), (o1_q, .inr (0, [.int o1_width, .int o1_height, .ref o1_values_q])), (o1_values_q, .inl (cI, o1_values_n, .inl o1_values))]) (A := A) cx (c_CH_differing l D cI cZ cL H.size o0_q o0_values_q o1_q o1_values_q o0_width o0_height o0_values_n o0_values o1_width o1_height o1_values_n o1_values v4_11 v3_5 hw) sw_CH_23 md_CH_differing ⟨rfl, rfl, Nat.le_of_ble_eq_true rfl, Nat.le_of_ble_eq_true rfl⟩ (hP.sub [0, 1, 2, 3] rfl) (hD.sub [0, 1, 2, 3] (by decide) rfl) rfl hl.1 (Nat.le_of_ble_eq_true rfl) d_CH_write_31 ⟨Nat.le_of_ble_eq_true rfl, Nat.le_of_ble_eq_true rfl⟩ rfl) (fun r_14 hw => ?_)
              try dsimp only at hw
              refine lv_istore (lv' := [(5, .int r_14), (4, .int v4_11), (3, .int v3_5), (0, .ref o0_q), (1, .ref o1_q), (2, .ref o2_q)]) hx hb d_CH_write_34 hl (by decide) rfl (fun ls hl => ?_)
              refine lv_iload hx hb d_CH_write_36 (lv_at hl 0 rfl) ?_
              refine lv_if_le (tgt := 58) hx hb d_CH_write_38 (by decide) (fun hc_21 => ?_) (fun hc_21 => ?_)
              · have hw := hw.1 hc_21
                refine lv_iinc (v := v4_11 + 1) (lv' := [(4, .int (v4_11 + 1)), (5, .int r_14), (3, .int v3_5), (0, .ref o0_q), (1, .ref o1_q), (2, .ref o2_q)]) hx hb d_CH_write_58 hl (k := 1) rfl rfl (by decide) rfl (fun ls hl => ?_)
                refine lv_goto (tgt := 17) hx hb d_CH_write_61 (by decide) ?_
                exact ih (v4_11 + 1) g_o2_q_1_12 f_o2_bytes_q_13 _ _ _ (lv_sub hl [0, 2, 3, 4, 5] rfl) (hP.sub [0, 1, 2, 3, 4, 5] rfl) (hD.sub [0, 1, 2, 3, 4, 5] (by decide) rfl) hS hw
              · have hw := hw.2 hc_21
                refine lv_aload_n hx hb d_CH_write_41 rfl (lv_at hl 4 rfl) ?_
                refine lv_iload hx hb d_CH_write_42 (lv_at hl 1 rfl) ?_
                refine lv_iload_n hx hb d_CH_write_44 rfl (lv_at hl 2 rfl) ?_
                refine lv_iload hx hb d_CH_write_45 (lv_at hl 0 rfl) ?_
                refine lv_aload_n hx hb d_CH_write_47 rfl (lv_at hl 5 rfl) ?_
                refine goV (wr := [(o0_q, .inr (0, [.int o0_width, .int o0_height, .ref o0_values_q])), (o0_values_q, .inl (cI, o0_values_n, .inl o0_values))]) (xS (As := [.ref o1_q, .int v4_11, .int v3_5, .int r_14, .ref o2_q]) (rest := []) (wc := [(o1_q, .inr (0, [.int o1_width, .int o1_height, .ref o1_values_q])), (o1_values_q, .inl (cI, o1_values_n, .inl o1_values)), (o2_q, .inr (1, [.ref o2_bytes_q, .int g_o2_q_1_12])), (o2_bytes_q, .inl (cI, o2_bytes_n, .inl f_o2_bytes_q_13))]) (A := A) cx (c_CH_writeRun l D cI cZ cL H.size o1_q o1_values_q o2_q o2_bytes_q o1_width o1_height o1_values_n o1_values g_o2_q_1_12 o2_bytes_n f_o2_bytes_q_13 v4_11 v3_5 r_14 hw) sw_CH_29 md_CH_writeRun ⟨rfl, rfl, Nat.le_of_ble_eq_true rfl, Nat.le_of_ble_eq_true rfl⟩ (hP.sub [2, 3, 4, 5] rfl) (hD.sub [2, 3, 4, 5] (by decide) rfl) rfl hl.1 (Nat.le_of_ble_eq_true rfl) d_CH_write_48 ⟨Nat.le_of_ble_eq_true rfl, Nat.le_of_ble_eq_true rfl⟩ rfl) hP hD hS hA [2, 3, 4, 5] [0, 1] rfl rfl (by decide) (by decide) (fun u H locs hw hP hD hS => ?_)
                obtain ⟨g_15, f_16⟩ := u
                try dsimp only at hw
                have hP : va_P D CL [(o0_q, .inr (0, [.int o0_width, .int o0_height, .ref o0_values_q])), (o0_values_q, .inl (cI, o0_values_n, .inl o0_values)), (o1_q, .inr (0, [.int o1_width, .int o1_height, .ref o1_values_q])), (o1_values_q, .inl (cI, o1_values_n, .inl o1_values)), (o2_q, .inr (1, [.ref o2_bytes_q, .int g_15])), (o2_bytes_q, .inl (cI, o2_bytes_n, .inl f_16))] H := hP
                have hD : va_D A [(o0_q, .inr (0, [.int o0_width, .int o0_height, .ref o0_values_q])), (o0_values_q, .inl (cI, o0_values_n, .inl o0_values)), (o1_q, .inr (0, [.int o1_width, .int o1_height, .ref o1_values_q])), (o1_values_q, .inl (cI, o1_values_n, .inl o1_values)), (o2_q, .inr (1, [.ref o2_bytes_q, .int g_15])), (o2_bytes_q, .inl (cI, o2_bytes_n, .inl f_16))] := hD
                refine lv_iload hx hb d_CH_write_51 (lv_at hl 1 rfl) ?_
                refine lv_iload hx hb d_CH_write_53 (lv_at hl 0 rfl) ?_
                refine lv_iadd hx hb d_CH_write_55 ?_
                refine lv_istore (lv' := [(4, .int (v4_11 + r_14)), (5, .int r_14), (3, .int v3_5), (0, .ref o0_q), (1, .ref o1_q), (2, .ref o2_q)]) hx hb d_CH_write_56 hl (by decide) rfl (fun ls hl => ?_)
                refine lv_iinc (v := (v4_11 + r_14) + 1) (lv' := [(4, .int ((v4_11 + r_14) + 1)), (5, .int r_14), (3, .int v3_5), (0, .ref o0_q), (1, .ref o1_q), (2, .ref o2_q)]) hx hb d_CH_write_58 hl (k := 0) rfl rfl (by decide) rfl (fun ls hl => ?_)
                refine lv_goto (tgt := 17) hx hb d_CH_write_61 (by decide) ?_
                exact ih ((v4_11 + r_14) + 1) g_15 f_16 _ _ _ (lv_sub hl [0, 2, 3, 4, 5] rfl) (hP.sub [0, 1, 2, 3, 4, 5] rfl) (hD.sub [0, 1, 2, 3, 4, 5] (by decide) rfl) hS hw
        obtain ⟨n_17, hw⟩ := hw
        refine L17 _ (fun v4_11_17 g_o2_q_1_12_18 f_o2_bytes_q_13_19 H locs ls hl hP hD hS hw => ?_) n_17 0 g_o2_q_1_6 f_o2_bytes_q_7 _ _ _ (lv_sub hl [0, 1, 2, 3, 4] rfl) (hP.sub [0, 1, 2, 3, 4, 5] rfl) (hD.sub [0, 1, 2, 3, 4, 5] (by decide) rfl) hS hw
        have hl : lv_has ls 6 [(4, .int v4_11_17), (3, .int v3_5), (0, .ref o0_q), (1, .ref o1_q), (2, .ref o2_q)] := hl
        have hP : va_P D CL [(o0_q, .inr (0, [.int o0_width, .int o0_height, .ref o0_values_q])), (o0_values_q, .inl (cI, o0_values_n, .inl o0_values)), (o1_q, .inr (0, [.int o1_width, .int o1_height, .ref o1_values_q])), (o1_values_q, .inl (cI, o1_values_n, .inl o1_values)), (o2_q, .inr (1, [.ref o2_bytes_q, .int g_o2_q_1_12_18])), (o2_bytes_q, .inl (cI, o2_bytes_n, .inl f_o2_bytes_q_13_19))] H := hP
        have hD : va_D A [(o0_q, .inr (0, [.int o0_width, .int o0_height, .ref o0_values_q])), (o0_values_q, .inl (cI, o0_values_n, .inl o0_values)), (o1_q, .inr (0, [.int o1_width, .int o1_height, .ref o1_values_q])), (o1_values_q, .inl (cI, o1_values_n, .inl o1_values)), (o2_q, .inr (1, [.ref o2_bytes_q, .int g_o2_q_1_12_18])), (o2_bytes_q, .inl (cI, o2_bytes_n, .inl f_o2_bytes_q_13_19))] := hD
        try dsimp only at hw
        refine lv_iinc (v := v3_5 + 1) (lv' := [(3, .int (v3_5 + 1)), (4, .int v4_11_17), (0, .ref o0_q), (1, .ref o1_q), (2, .ref o2_q)]) hx hb d_CH_write_64 hl (k := 1) rfl rfl (by decide) rfl (fun ls hl => ?_)
        refine lv_goto (tgt := 6) hx hb d_CH_write_67 (by decide) ?_
        exact ih (v3_5 + 1) g_o2_q_1_12_18 f_o2_bytes_q_13_19 _ _ _ (lv_sub hl [0, 2, 3, 4] rfl) (hP.sub [0, 1, 2, 3, 4, 5] rfl) (hD.sub [0, 1, 2, 3, 4, 5] (by decide) rfl) hS hw
  obtain ⟨n_6, hw⟩ := hw
  refine L6 _ (fun v3_5_20 g_o2_q_1_6_21 f_o2_bytes_q_7_22 H locs ls hl hP hD hS hw => ?_) n_6 0 g_1 o2_bytes _ _ _ (lv_sub hl [0, 1, 2, 3] rfl) (hP.sub [0, 1, 2, 3, 4, 5] rfl) (hD.sub [0, 1, 2, 3, 4, 5] (by decide) rfl) hS hw
  have hl : lv_has ls 6 [(3, .int v3_5_20), (0, .ref o0_q), (1, .ref o1_q), (2, .ref o2_q)] := hl
  have hP : va_P D CL [(o0_q, .inr (0, [.int o0_width, .int o0_height, .ref o0_values_q])), (o0_values_q, .inl (cI, o0_values_n, .inl o0_values)), (o1_q, .inr (0, [.int o1_width, .int o1_height, .ref o1_values_q])), (o1_values_q, .inl (cI, o1_values_n, .inl o1_values)), (o2_q, .inr (1, [.ref o2_bytes_q, .int g_o2_q_1_6_21])), (o2_bytes_q, .inl (cI, o2_bytes_n, .inl f_o2_bytes_q_7_22))] H := hP
  have hD : va_D A [(o0_q, .inr (0, [.int o0_width, .int o0_height, .ref o0_values_q])), (o0_values_q, .inl (cI, o0_values_n, .inl o0_values)), (o1_q, .inr (0, [.int o1_width, .int o1_height, .ref o1_values_q])), (o1_values_q, .inl (cI, o1_values_n, .inl o1_values)), (o2_q, .inr (1, [.ref o2_bytes_q, .int g_o2_q_1_6_21])), (o2_bytes_q, .inl (cI, o2_bytes_n, .inl f_o2_bytes_q_7_22))] := hD
  try dsimp only at hw
  refine lv_aload_n hx hb d_CH_write_70 rfl (lv_at hl 3 rfl) ?_
  refine lv_sipush (v := 255) hx hb d_CH_write_71 (by decide) ?_
  refine goV (wr := [(o0_q, .inr (0, [.int o0_width, .int o0_height, .ref o0_values_q])), (o0_values_q, .inl (cI, o0_values_n, .inl o0_values)), (o1_q, .inr (0, [.int o1_width, .int o1_height, .ref o1_values_q])), (o1_values_q, .inl (cI, o1_values_n, .inl o1_values))]) (xV (C := R_BR) (ci := 1) (As := [.int 255]) (rest := []) (wc := [(o2_q, .inr (1, [.ref o2_bytes_q, .int g_o2_q_1_6_21])), (o2_bytes_q, .inl (cI, o2_bytes_n, .inl f_o2_bytes_q_7_22))]) (A := A) cx (c_BR_add l D cI cZ cL H.size o2_q o2_bytes_q g_o2_q_1_6_21 o2_bytes_n f_o2_bytes_q_7_22 255 hw) vw_CH_33 md_BR_add ⟨rfl, rfl, Nat.le_of_ble_eq_true rfl, Nat.le_of_ble_eq_true rfl⟩ (hP.sub [4, 5] rfl) (hD.sub [4, 5] (by decide) rfl) 0 rfl rfl rfl hl.1 (Nat.le_of_ble_eq_true rfl) d_CH_write_74 ⟨Nat.le_of_ble_eq_true rfl, Nat.le_of_ble_eq_true rfl⟩ rfl) hP hD hS hA [4, 5] [0, 1, 2, 3] rfl rfl (by decide) (by decide) (fun u H locs hw hP hD hS => ?_)
  obtain ⟨g_23, f_24⟩ := u
  try dsimp only at hw
  have hP : va_P D CL [(o0_q, .inr (0, [.int o0_width, .int o0_height, .ref o0_values_q])), (o0_values_q, .inl (cI, o0_values_n, .inl o0_values)), (o1_q, .inr (0, [.int o1_width, .int o1_height, .ref o1_values_q])), (o1_values_q, .inl (cI, o1_values_n, .inl o1_values)), (o2_q, .inr (1, [.ref o2_bytes_q, .int g_23])), (o2_bytes_q, .inl (cI, o2_bytes_n, .inl f_24))] H := hP
  have hD : va_D A [(o0_q, .inr (0, [.int o0_width, .int o0_height, .ref o0_values_q])), (o0_values_q, .inl (cI, o0_values_n, .inl o0_values)), (o1_q, .inr (0, [.int o1_width, .int o1_height, .ref o1_values_q])), (o1_values_q, .inl (cI, o1_values_n, .inl o1_values)), (o2_q, .inr (1, [.ref o2_bytes_q, .int g_23])), (o2_bytes_q, .inl (cI, o2_bytes_n, .inl f_24))] := hD
  exact retV cx hQ d_CH_write_77 (g_23, f_24) hw (hP.sub [0, 1, 2, 3, 4, 5] rfl) (hD.sub [0, 1, 2, 3, 4, 5] (by decide) rfl) hS
def w_CH_readRun_55 (x1 : Int32) (o0_count : Int32) (o0_bytes_n : Nat) (o0_bytes : Nat → Int32) (o2_width : Int32) (o2_height : Int32) (o2_values_n : Nat) (r_1 : Int32) (r_2 : Int32) (r_3 : Int32) (k_89 : Int32 → (Nat → Int32) → Prop) : Nat → Int32 → (Nat → Int32) → Prop
  | 0, _, _ => False
  | n + 1, v6_7, f_o2_values_q_8 => (r_3 ≤ v6_7 → k_89 v6_7 f_o2_values_q_8) ∧ (¬ r_3 ≤ v6_7 → w_BR_get o0_count o0_bytes_n o0_bytes ((x1 + 3) + v6_7) (fun r_9 => w_PI_paint o2_width o2_height o2_values_n f_o2_values_q_8 (r_1 + v6_7) r_2 r_9 (fun (r_10 : Int32) (f_11 : Nat → Int32) => w_CH_readRun_55 x1 o0_count o0_bytes_n o0_bytes o2_width o2_height o2_values_n r_1 r_2 r_3 k_89 n (v6_7 + 1) f_11)))
def w_CH_readRun (o0_count : Int32) (o0_bytes_n : Nat) (o0_bytes : Nat → Int32) (o2_width : Int32) (o2_height : Int32) (o2_values_n : Nat) (o2_values : Nat → Int32) (x1 : Int32) (post : Int32 → (Nat → Int32) → Prop) : Prop := w_BR_get o0_count o0_bytes_n o0_bytes x1 (fun r_1 => w_BR_get o0_count o0_bytes_n o0_bytes (x1 + 1) (fun r_2 => w_BR_get o0_count o0_bytes_n o0_bytes (x1 + 2) (fun r_3 => w_PI_holds o2_width o2_height o2_values_n o2_values r_1 r_2 r_3 1 (fun r_4 => (r_4 = 0 → post 0 o2_values) ∧ (¬ r_4 = 0 → (r_3 ≤ ((o0_count - x1) - 3) → ∃ n_55 : Nat, w_CH_readRun_55 x1 o0_count o0_bytes_n o0_bytes o2_width o2_height o2_values_n r_1 r_2 r_3 (fun (v6_7_12 : Int32) (f_o2_values_q_8_13 : Nat → Int32) => post r_3 f_o2_values_q_8_13) n_55 0 o2_values) ∧ (¬ r_3 ≤ ((o0_count - x1) - 3) → post 0 o2_values))))))
def rm_CH_readRun : Room := { frames := 2, cells := 0, slots := 0, locals := 47 }
set_option maxHeartbeats 4000000 in
set_option maxRecDepth 100000 in
theorem c_CH_readRun (l : Launch) (D : va_G) (cI cZ cL : ClassId) (sz : Nat) (o0_q : Nat) (o0_bytes_q : Nat) (o2_q : Nat) (o2_values_q : Nat) (o0_count : Int32) (o0_bytes_n : Nat) (o0_bytes : Nat → Int32) (o2_width : Int32) (o2_height : Int32) (o2_values_n : Nat) (o2_values : Nat → Int32) (x1 : Int32) {post : Int32 → (Nat → Int32) → Prop} (hw : w_CH_readRun o0_count o0_bytes_n o0_bytes o2_width o2_height o2_values_n o2_values x1 post) : Met l y_CH_readRun (Cond.code y_CH_readRun b_CH_readRun 7 (some .int) :: AW) rm_CH_readRun (va_Pc [.ref o0_q, .int x1, .ref o2_q] (ST D cI cZ cL [(o0_q, .inr (1, [.ref o0_bytes_q, .int o0_count])), (o0_bytes_q, .inl (cI, o0_bytes_n, .inl o0_bytes)), (o2_q, .inr (0, [.int o2_width, .int o2_height, .ref o2_values_q])), (o2_values_q, .inl (cI, o2_values_n, .inl o2_values))] sz)) (va_Qi (fun (r : Int32) (u : (Nat → Int32)) => post r u) (fun u t => EN D [(o0_q, .inr (1, [.ref o0_bytes_q, .int o0_count])), (o0_bytes_q, .inl (cI, o0_bytes_n, .inl o0_bytes)), (o2_q, .inr (0, [.int o2_width, .int o2_height, .ref o2_values_q])), (o2_values_q, .inl (cI, o2_values_n, .inl u))] (va_A [(o0_q, .inr (1, [.ref o0_bytes_q, .int o0_count])), (o0_bytes_q, .inl (cI, o0_bytes_n, .inl o0_bytes)), (o2_q, .inr (0, [.int o2_width, .int o2_height, .ref o2_values_q])), (o2_values_q, .inl (cI, o2_values_n, .inl o2_values))] sz) t) (va_A [(o0_q, .inr (1, [.ref o0_bytes_q, .int o0_count])), (o0_bytes_q, .inl (cI, o0_bytes_n, .inl o0_bytes)), (o2_q, .inr (0, [.int o2_width, .int o2_height, .ref o2_values_q])), (o2_values_q, .inl (cI, o2_values_n, .inl o2_values))] sz)) 0 0 (va_A [(o0_q, .inr (1, [.ref o0_bytes_q, .int o0_count])), (o0_bytes_q, .inl (cI, o0_bytes_n, .inl o0_bytes)), (o2_q, .inr (0, [.int o2_width, .int o2_height, .ref o2_values_q])), (o2_values_q, .inl (cI, o2_values_n, .inl o2_values))] sz) := by
  refine ofM (own := R_CH) (fun A => (va_Qi (fun (r : Int32) (u : (Nat → Int32)) => post r u) (fun u t => EN D [(o0_q, .inr (1, [.ref o0_bytes_q, .int o0_count])), (o0_bytes_q, .inl (cI, o0_bytes_n, .inl o0_bytes)), (o2_q, .inr (0, [.int o2_width, .int o2_height, .ref o2_values_q])), (o2_values_q, .inl (cI, o2_values_n, .inl u))] A t) A)) (by decide) rfl (Nat.le_of_ble_eq_true rfl) ?_
  intro p e s m args below meth c A ls Q cx hQ hA hl hP hD hS hinit
  obtain ⟨hx, hb, hml, hrt, hown, hta, hlk, hK, hN⟩ := id cx
  have hl : lv_has ls 7 [(0, .ref o0_q), (1, .int x1), (2, .ref o2_q)] := hl
  have h00 : va_P D CL [(o0_q, .inr (1, [.ref o0_bytes_q, .int o0_count])), (o0_bytes_q, .inl (cI, o0_bytes_n, .inl o0_bytes)), (o2_q, .inr (0, [.int o2_width, .int o2_height, .ref o2_values_q])), (o2_values_q, .inl (cI, o2_values_n, .inl o2_values))] s.heap := hP
  unfold w_CH_readRun at hw
  obtain ⟨H, eH⟩ : ∃ H, H = s.heap := ⟨_, rfl⟩
  obtain ⟨locs, eL⟩ : ∃ locs : List Loc, locs = [] := ⟨_, rfl⟩
  have hS : va_S A s.heap H locs := by rw [eH, eL]; exact hS
  have hP : va_P D CL [(o0_q, .inr (1, [.ref o0_bytes_q, .int o0_count])), (o0_bytes_q, .inl (cI, o0_bytes_n, .inl o0_bytes)), (o2_q, .inr (0, [.int o2_width, .int o2_height, .ref o2_values_q])), (o2_values_q, .inl (cI, o2_values_n, .inl o2_values))] H := by rw [eH]; exact hP
  suffices hgo : W p l e rm_CH_readRun s m args below meth c H locs 0 0 Q (F0 m 0 ls []) by rw [eH, eL] at hgo; exact hgo
  clear eH eL h00
  refine lv_aload_n hx hb d_CH_readRun_0 rfl (lv_at hl 0 rfl) ?_
  refine lv_iload_n hx hb d_CH_readRun_1 rfl (lv_at hl 1 rfl) ?_
  refine goR (xV (C := R_BR) (ci := 1) (As := [.int x1]) (rest := []) (wc := [(o0_q, .inr (1, [.ref o0_bytes_q, .int o0_count])), (o0_bytes_q, .inl (cI, o0_bytes_n, .inl o0_bytes))]) (A := A) cx (c_BR_get l D cI cZ cL H.size o0_q o0_bytes_q o0_count o0_bytes_n o0_bytes x1 hw) vw_CH_41 md_BR_get ⟨rfl, rfl, Nat.le_of_ble_eq_true rfl, Nat.le_of_ble_eq_true rfl⟩ (hP.sub [0, 1] rfl) (hD.sub [0, 1] (by decide) rfl) 0 rfl rfl rfl hl.1 (Nat.le_of_ble_eq_true rfl) d_CH_readRun_2 ⟨Nat.le_of_ble_eq_true rfl, Nat.le_of_ble_eq_true rfl⟩ rfl) (fun r_1 hw => ?_)
  try dsimp only at hw
  refine lv_istore_n (lv' := [(3, .int r_1), (0, .ref o0_q), (1, .int x1), (2, .ref o2_q)]) hx hb d_CH_readRun_5 rfl hl (by decide) rfl (fun ls hl => ?_)
  refine lv_aload_n hx hb d_CH_readRun_6 rfl (lv_at hl 1 rfl) ?_
  refine lv_iload_n hx hb d_CH_readRun_7 rfl (lv_at hl 2 rfl) ?_
  refine lv_iconst (v := 1) hx hb d_CH_readRun_8 (by decide) ?_
  refine lv_iadd hx hb d_CH_readRun_9 ?_
  refine goR (xV (C := R_BR) (ci := 1) (As := [.int (x1 + 1)]) (rest := []) (wc := [(o0_q, .inr (1, [.ref o0_bytes_q, .int o0_count])), (o0_bytes_q, .inl (cI, o0_bytes_n, .inl o0_bytes))]) (A := A) cx (c_BR_get l D cI cZ cL H.size o0_q o0_bytes_q o0_count o0_bytes_n o0_bytes (x1 + 1) hw) vw_CH_41 md_BR_get ⟨rfl, rfl, Nat.le_of_ble_eq_true rfl, Nat.le_of_ble_eq_true rfl⟩ (hP.sub [0, 1] rfl) (hD.sub [0, 1] (by decide) rfl) 0 rfl rfl rfl hl.1 (Nat.le_of_ble_eq_true rfl) d_CH_readRun_10 ⟨Nat.le_of_ble_eq_true rfl, Nat.le_of_ble_eq_true rfl⟩ rfl) (fun r_2 hw => ?_)
  try dsimp only at hw
  refine lv_istore (lv' := [(4, .int r_2), (3, .int r_1), (0, .ref o0_q), (1, .int x1), (2, .ref o2_q)]) hx hb d_CH_readRun_13 hl (by decide) rfl (fun ls hl => ?_)
  refine lv_aload_n hx hb d_CH_readRun_15 rfl (lv_at hl 2 rfl) ?_
  refine lv_iload_n hx hb d_CH_readRun_16 rfl (lv_at hl 3 rfl) ?_
  refine lv_iconst (v := 2) hx hb d_CH_readRun_17 (by decide) ?_
  refine lv_iadd hx hb d_CH_readRun_18 ?_
  refine goR (xV (C := R_BR) (ci := 1) (As := [.int (x1 + 2)]) (rest := []) (wc := [(o0_q, .inr (1, [.ref o0_bytes_q, .int o0_count])), (o0_bytes_q, .inl (cI, o0_bytes_n, .inl o0_bytes))]) (A := A) cx (c_BR_get l D cI cZ cL H.size o0_q o0_bytes_q o0_count o0_bytes_n o0_bytes (x1 + 2) hw) vw_CH_41 md_BR_get ⟨rfl, rfl, Nat.le_of_ble_eq_true rfl, Nat.le_of_ble_eq_true rfl⟩ (hP.sub [0, 1] rfl) (hD.sub [0, 1] (by decide) rfl) 0 rfl rfl rfl hl.1 (Nat.le_of_ble_eq_true rfl) d_CH_readRun_19 ⟨Nat.le_of_ble_eq_true rfl, Nat.le_of_ble_eq_true rfl⟩ rfl) (fun r_3 hw => ?_)
  try dsimp only at hw
  refine lv_istore (lv' := [(5, .int r_3), (4, .int r_2), (3, .int r_1), (0, .ref o0_q), (1, .int x1), (2, .ref o2_q)]) hx hb d_CH_readRun_22 hl (by decide) rfl (fun ls hl => ?_)
  refine lv_aload_n hx hb d_CH_readRun_24 rfl (lv_at hl 5 rfl) ?_
  refine lv_iload_n hx hb d_CH_readRun_25 rfl (lv_at hl 2 rfl) ?_
  refine lv_iload hx hb d_CH_readRun_26 (lv_at hl 1 rfl) ?_
  refine lv_iload hx hb d_CH_readRun_28 (lv_at hl 0 rfl) ?_
  refine lv_iconst (v := 1) hx hb d_CH_readRun_30 (by decide) ?_
  refine goR (xV (C := R_PI) (ci := 0) (As := [.int r_1, .int r_2, .int r_3, .int 1]) (rest := []) (wc := [(o2_q, .inr (0, [.int o2_width, .int o2_height, .ref o2_values_q])), (o2_values_q, .inl (cI, o2_values_n, .inl o2_values))]) (A := A) cx (c_PI_holds l D cI cZ cL H.size o2_q o2_values_q o2_width o2_height o2_values_n o2_values r_1 r_2 r_3 1 hw) vw_CH_55 md_PI_holds ⟨rfl, rfl, Nat.le_of_ble_eq_true rfl, Nat.le_of_ble_eq_true rfl⟩ (hP.sub [2, 3] rfl) (hD.sub [2, 3] (by decide) rfl) 0 rfl rfl rfl hl.1 (Nat.le_of_ble_eq_true rfl) d_CH_readRun_31 ⟨Nat.le_of_ble_eq_true rfl, Nat.le_of_ble_eq_true rfl⟩ rfl) (fun r_4 hw => ?_)
  try dsimp only at hw
  refine lv_if_eq (tgt := 50) hx hb d_CH_readRun_34 (by decide) (fun hc_1 => ?_) (fun hc_1 => ?_)
  · have hw := hw.1 hc_1
    refine lv_iconst (v := 0) hx hb d_CH_readRun_50 (by decide) ?_
    exact retI cx hQ d_CH_readRun_51 o2_values hw (hP.sub [0, 1, 2, 3] rfl) (hD.sub [0, 1, 2, 3] (by decide) rfl) hS
  · have hw := hw.2 hc_1
    refine lv_iload hx hb d_CH_readRun_37 (lv_at hl 0 rfl) ?_
    refine lv_aload_n hx hb d_CH_readRun_39 rfl (lv_at hl 3 rfl) ?_
    refine va_getN (D := D) (ci := 1) (v := .int o0_count) (C := R_BR) (T := F_BR) (N := 2) hx hb hta lay_BR hown hK hP 0 rfl rfl 1 (by decide) (va_Nw.use rfl (hN _ kn_CH_45 rfl)) (fun _ h9 => h9) rfl d_CH_readRun_40 ?_
    refine lv_iload_n hx hb d_CH_readRun_43 rfl (lv_at hl 4 rfl) ?_
    refine lv_isub hx hb d_CH_readRun_44 ?_
    refine lv_iconst (v := 3) hx hb d_CH_readRun_45 (by decide) ?_
    refine lv_isub hx hb d_CH_readRun_46 ?_
    refine lv_icmp_le (tgt := 52) hx hb d_CH_readRun_47 (by decide) (fun hc_2 => ?_) (fun hc_2 => ?_)
    · have hw := hw.1 hc_2
      refine lv_iconst (v := 0) hx hb d_CH_readRun_52 (by decide) ?_
      refine lv_istore (lv' := [(6, .int 0), (5, .int r_3), (4, .int r_2), (3, .int r_1), (0, .ref o0_q), (1, .int x1), (2, .ref o2_q)]) hx hb d_CH_readRun_53 hl (by decide) rfl (fun ls hl => ?_)
      have L55 : ∀ (k_89 : Int32 → (Nat → Int32) → Prop) (hk_89 : ∀ (v6_7 : Int32) (f_o2_values_q_8 : Nat → Int32) (H : Heap) (locs : List Loc) (ls : Array Slot), lv_has ls 7 [(6, .int v6_7), (5, .int r_3), (4, .int r_2), (3, .int r_1), (0, .ref o0_q), (1, .int x1), (2, .ref o2_q)] → va_P D CL [(o0_q, .inr (1, [.ref o0_bytes_q, .int o0_count])), (o0_bytes_q, .inl (cI, o0_bytes_n, .inl o0_bytes)), (o2_q, .inr (0, [.int o2_width, .int o2_height, .ref o2_values_q])), (o2_values_q, .inl (cI, o2_values_n, .inl f_o2_values_q_8))] H → va_D A [(o0_q, .inr (1, [.ref o0_bytes_q, .int o0_count])), (o0_bytes_q, .inl (cI, o0_bytes_n, .inl o0_bytes)), (o2_q, .inr (0, [.int o2_width, .int o2_height, .ref o2_values_q])), (o2_values_q, .inl (cI, o2_values_n, .inl f_o2_values_q_8))] → va_S A s.heap H locs → k_89 v6_7 f_o2_values_q_8 → W p l e rm_CH_readRun s m args below meth c H locs 0 0 Q (F0 m 89 ls [])), ∀ (n : Nat) (v6_7 : Int32) (f_o2_values_q_8 : Nat → Int32) (H : Heap) (locs : List Loc) (ls : Array Slot), lv_has ls 7 [(6, .int v6_7), (5, .int r_3), (4, .int r_2), (3, .int r_1), (0, .ref o0_q), (1, .int x1), (2, .ref o2_q)] → va_P D CL [(o0_q, .inr (1, [.ref o0_bytes_q, .int o0_count])), (o0_bytes_q, .inl (cI, o0_bytes_n, .inl o0_bytes)), (o2_q, .inr (0, [.int o2_width, .int o2_height, .ref o2_values_q])), (o2_values_q, .inl (cI, o2_values_n, .inl f_o2_values_q_8))] H → va_D A [(o0_q, .inr (1, [.ref o0_bytes_q, .int o0_count])), (o0_bytes_q, .inl (cI, o0_bytes_n, .inl o0_bytes)), (o2_q, .inr (0, [.int o2_width, .int o2_height, .ref o2_values_q])), (o2_values_q, .inl (cI, o2_values_n, .inl f_o2_values_q_8))] → va_S A s.heap H locs → w_CH_readRun_55 x1 o0_count o0_bytes_n o0_bytes o2_width o2_height o2_values_n r_1 r_2 r_3 k_89 n v6_7 f_o2_values_q_8 → W p l e rm_CH_readRun s m args below meth c H locs 0 0 Q (F0 m 55 ls []) := by
        intro k_89 hk_89 n
        induction n with
        | zero => intro v6_7 f_o2_values_q_8 H locs ls hl hP hD hS hw; exact hw.elim
        | succ n ih =>
          intro v6_7 f_o2_values_q_8 H locs ls hl hP hD hS hw
          rw [w_CH_readRun_55] at hw
          refine lv_iload hx hb d_CH_readRun_55 (lv_at hl 0 rfl) ?_
          refine lv_iload hx hb d_CH_readRun_57 (lv_at hl 1 rfl) ?_
          refine lv_icmp_ge (tgt := 89) hx hb d_CH_readRun_59 (by decide) (fun hc_5 => ?_) (fun hc_5 => ?_)
          · have hw := hw.1 hc_5
            exact hk_89 v6_7 f_o2_values_q_8 _ _ _ (lv_sub hl [0, 1, 2, 3, 4, 5, 6] rfl) (hP.sub [0, 1, 2, 3] rfl) (hD.sub [0, 1, 2, 3] (by decide) rfl) hS hw
          · have hw := hw.2 hc_5
            refine lv_aload_n hx hb d_CH_readRun_62 rfl (lv_at hl 6 rfl) ?_
            refine lv_iload_n hx hb d_CH_readRun_63 rfl (lv_at hl 3 rfl) ?_
            refine lv_iload hx hb d_CH_readRun_64 (lv_at hl 0 rfl) ?_
            refine lv_iadd hx hb d_CH_readRun_66 ?_
            refine lv_iload hx hb d_CH_readRun_67 (lv_at hl 2 rfl) ?_
            refine lv_aload_n hx hb d_CH_readRun_69 rfl (lv_at hl 4 rfl) ?_
            refine lv_iload_n hx hb d_CH_readRun_70 rfl (lv_at hl 5 rfl) ?_
            refine lv_iconst (v := 3) hx hb d_CH_readRun_71 (by decide) ?_
            refine lv_iadd hx hb d_CH_readRun_72 ?_
            refine lv_iload hx hb d_CH_readRun_73 (lv_at hl 0 rfl) ?_
            refine lv_iadd hx hb d_CH_readRun_75 ?_
            refine goR (xV (C := R_BR) (ci := 1) (As := [.int ((x1 + 3) + v6_7)]) (rest := [.int r_2, .int (r_1 + v6_7), .ref o2_q]) (wc := [(o0_q, .inr (1, [.ref o0_bytes_q, .int o0_count])), (o0_bytes_q, .inl (cI, o0_bytes_n, .inl o0_bytes))]) (A := A) cx (c_BR_get l D cI cZ cL H.size o0_q o0_bytes_q o0_count o0_bytes_n o0_bytes ((x1 + 3) + v6_7) hw) vw_CH_41 md_BR_get ⟨rfl, rfl, Nat.le_of_ble_eq_true rfl, Nat.le_of_ble_eq_true rfl⟩ (hP.sub [0, 1] rfl) (hD.sub [0, 1] (by decide) rfl) 0 rfl rfl rfl hl.1 (Nat.le_of_ble_eq_true rfl) d_CH_readRun_76 ⟨Nat.le_of_ble_eq_true rfl, Nat.le_of_ble_eq_true rfl⟩ rfl) (fun r_9 hw => ?_)
            try dsimp only at hw
            refine goI (wr := [(o0_q, .inr (1, [.ref o0_bytes_q, .int o0_count])), (o0_bytes_q, .inl (cI, o0_bytes_n, .inl o0_bytes))]) (xV (C := R_PI) (ci := 0) (As := [.int (r_1 + v6_7), .int r_2, .int r_9]) (rest := []) (wc := [(o2_q, .inr (0, [.int o2_width, .int o2_height, .ref o2_values_q])), (o2_values_q, .inl (cI, o2_values_n, .inl f_o2_values_q_8))]) (A := A) cx (c_PI_paint l D cI cZ cL H.size o2_q o2_values_q o2_width o2_height o2_values_n f_o2_values_q_8 (r_1 + v6_7) r_2 r_9 hw) vw_CH_59 md_PI_paint ⟨rfl, rfl, Nat.le_of_ble_eq_true rfl, Nat.le_of_ble_eq_true rfl⟩ (hP.sub [2, 3] rfl) (hD.sub [2, 3] (by decide) rfl) 0 rfl rfl rfl hl.1 (Nat.le_of_ble_eq_true rfl) d_CH_readRun_79 ⟨Nat.le_of_ble_eq_true rfl, Nat.le_of_ble_eq_true rfl⟩ rfl) hP hD hS hA [2, 3] [0, 1] rfl rfl (by decide) (by decide) (fun r_10 f_11 H locs hw hP hD hS => ?_)
            try dsimp only at hw
            have hP : va_P D CL [(o0_q, .inr (1, [.ref o0_bytes_q, .int o0_count])), (o0_bytes_q, .inl (cI, o0_bytes_n, .inl o0_bytes)), (o2_q, .inr (0, [.int o2_width, .int o2_height, .ref o2_values_q])), (o2_values_q, .inl (cI, o2_values_n, .inl f_11))] H := hP
            have hD : va_D A [(o0_q, .inr (1, [.ref o0_bytes_q, .int o0_count])), (o0_bytes_q, .inl (cI, o0_bytes_n, .inl o0_bytes)), (o2_q, .inr (0, [.int o2_width, .int o2_height, .ref o2_values_q])), (o2_values_q, .inl (cI, o2_values_n, .inl f_11))] := hD
            refine lv_pop hx hb d_CH_readRun_82 rfl ?_
            refine lv_iinc (v := v6_7 + 1) (lv' := [(6, .int (v6_7 + 1)), (5, .int r_3), (4, .int r_2), (3, .int r_1), (0, .ref o0_q), (1, .int x1), (2, .ref o2_q)]) hx hb d_CH_readRun_83 hl (k := 0) rfl rfl (by decide) rfl (fun ls hl => ?_)
            refine lv_goto (tgt := 55) hx hb d_CH_readRun_86 (by decide) ?_
            exact ih (v6_7 + 1) f_11 _ _ _ (lv_sub hl [0, 1, 2, 3, 4, 5, 6] rfl) (hP.sub [0, 1, 2, 3] rfl) (hD.sub [0, 1, 2, 3] (by decide) rfl) hS hw
      obtain ⟨n_55, hw⟩ := hw
      refine L55 _ (fun v6_7_12 f_o2_values_q_8_13 H locs ls hl hP hD hS hw => ?_) n_55 0 o2_values _ _ _ (lv_sub hl [0, 1, 2, 3, 4, 5, 6] rfl) (hP.sub [0, 1, 2, 3] rfl) (hD.sub [0, 1, 2, 3] (by decide) rfl) hS hw
      have hl : lv_has ls 7 [(6, .int v6_7_12), (5, .int r_3), (4, .int r_2), (3, .int r_1), (0, .ref o0_q), (1, .int x1), (2, .ref o2_q)] := hl
      have hP : va_P D CL [(o0_q, .inr (1, [.ref o0_bytes_q, .int o0_count])), (o0_bytes_q, .inl (cI, o0_bytes_n, .inl o0_bytes)), (o2_q, .inr (0, [.int o2_width, .int o2_height, .ref o2_values_q])), (o2_values_q, .inl (cI, o2_values_n, .inl f_o2_values_q_8_13))] H := hP
      have hD : va_D A [(o0_q, .inr (1, [.ref o0_bytes_q, .int o0_count])), (o0_bytes_q, .inl (cI, o0_bytes_n, .inl o0_bytes)), (o2_q, .inr (0, [.int o2_width, .int o2_height, .ref o2_values_q])), (o2_values_q, .inl (cI, o2_values_n, .inl f_o2_values_q_8_13))] := hD
      try dsimp only at hw
      refine lv_iload hx hb d_CH_readRun_89 (lv_at hl 1 rfl) ?_
      exact retI cx hQ d_CH_readRun_91 f_o2_values_q_8_13 hw (hP.sub [0, 1, 2, 3] rfl) (hD.sub [0, 1, 2, 3] (by decide) rfl) hS
    · have hw := hw.2 hc_2
      refine lv_iconst (v := 0) hx hb d_CH_readRun_50 (by decide) ?_
      exact retI cx hQ d_CH_readRun_51 o2_values hw (hP.sub [0, 1, 2, 3] rfl) (hD.sub [0, 1, 2, 3] (by decide) rfl) hS
def w_CH_read_7 (o0_count : Int32) (o0_bytes_n : Nat) (o0_bytes : Nat → Int32) (o1_width : Int32) (o1_height : Int32) (o1_values_n : Nat) (k_83 : Int32 → Int32 → Int32 → (Nat → Int32) → Prop) (k_60 : Int32 → Int32 → Int32 → (Nat → Int32) → Prop) (k_26 : Int32 → Int32 → Int32 → (Nat → Int32) → Prop) : Nat → Int32 → Int32 → Int32 → (Nat → Int32) → Prop
  | 0, _, _, _, _ => False
  | n + 1, v4_5, v3_6, v2_7, f_o1_values_q_8 => (4000 ≤ v4_5 → k_83 v4_5 v3_6 v2_7 f_o1_values_q_8) ∧ (¬ 4000 ≤ v4_5 → w_BR_get o0_count o0_bytes_n o0_bytes v2_7 (fun r_9 => (¬ r_9 = 255 → w_CH_readRun o0_count o0_bytes_n o0_bytes o1_width o1_height o1_values_n f_o1_values_q_8 v2_7 (fun (r_10 : Int32) (f_11 : Nat → Int32) => (¬ r_10 = 0 → w_CH_read_7 o0_count o0_bytes_n o0_bytes o1_width o1_height o1_values_n k_83 k_60 k_26 n (v4_5 + 1) (v3_6 + r_10) (v2_7 + (3 + r_10)) f_11) ∧ (r_10 = 0 → k_60 v4_5 v3_6 v2_7 f_11))) ∧ (r_9 = 255 → k_26 v4_5 v3_6 v2_7 f_o1_values_q_8)))
def w_CH_read (o0_count : Int32) (o0_bytes_n : Nat) (o0_bytes : Nat → Int32) (o1_width : Int32) (o1_height : Int32) (o1_values_n : Nat) (o1_values : Nat → Int32) (post : Int32 → (Nat → Int32) → Prop) : Prop := ∃ n_7 : Nat, w_CH_read_7 o0_count o0_bytes_n o0_bytes o1_width o1_height o1_values_n (fun (v4_5_12 : Int32) (v3_6_13 : Int32) (v2_7_14 : Int32) (f_o1_values_q_8_15 : Nat → Int32) => w_DF_refusedAt v2_7_14 (fun r_16 => post r_16 f_o1_values_q_8_15)) (fun (v4_5_17 : Int32) (v3_6_18 : Int32) (v2_7_19 : Int32) (f_o1_values_q_8_20 : Nat → Int32) => w_DF_refusedAt v2_7_19 (fun r_21 => post r_21 f_o1_values_q_8_20)) (fun (v4_5_22 : Int32) (v3_6_23 : Int32) (v2_7_24 : Int32) (f_o1_values_q_8_25 : Nat → Int32) => (¬ (v2_7_24 + 1) = o0_count → w_DF_refusedAt (v2_7_24 + 1) (fun r_26 => post r_26 f_o1_values_q_8_25)) ∧ ((v2_7_24 + 1) = o0_count → post v3_6_23 f_o1_values_q_8_25)) n_7 0 0 0 o1_values
def rm_CH_read : Room := { frames := 3, cells := 0, slots := 0, locals := 73 }
set_option maxHeartbeats 4000000 in
set_option maxRecDepth 100000 in
theorem c_CH_read (l : Launch) (D : va_G) (cI cZ cL : ClassId) (sz : Nat) (o0_q : Nat) (o0_bytes_q : Nat) (o1_q : Nat) (o1_values_q : Nat) (o0_count : Int32) (o0_bytes_n : Nat) (o0_bytes : Nat → Int32) (o1_width : Int32) (o1_height : Int32) (o1_values_n : Nat) (o1_values : Nat → Int32) {post : Int32 → (Nat → Int32) → Prop} (hw : w_CH_read o0_count o0_bytes_n o0_bytes o1_width o1_height o1_values_n o1_values post) : Met l y_CH_read (Cond.code y_CH_read b_CH_read 6 (some .int) :: AW) rm_CH_read (va_Pc [.ref o0_q, .ref o1_q] (ST D cI cZ cL [(o0_q, .inr (1, [.ref o0_bytes_q, .int o0_count])), (o0_bytes_q, .inl (cI, o0_bytes_n, .inl o0_bytes)), (o1_q, .inr (0, [.int o1_width, .int o1_height, .ref o1_values_q])), (o1_values_q, .inl (cI, o1_values_n, .inl o1_values))] sz)) (va_Qi (fun (r : Int32) (u : (Nat → Int32)) => post r u) (fun u t => EN D [(o0_q, .inr (1, [.ref o0_bytes_q, .int o0_count])), (o0_bytes_q, .inl (cI, o0_bytes_n, .inl o0_bytes)), (o1_q, .inr (0, [.int o1_width, .int o1_height, .ref o1_values_q])), (o1_values_q, .inl (cI, o1_values_n, .inl u))] (va_A [(o0_q, .inr (1, [.ref o0_bytes_q, .int o0_count])), (o0_bytes_q, .inl (cI, o0_bytes_n, .inl o0_bytes)), (o1_q, .inr (0, [.int o1_width, .int o1_height, .ref o1_values_q])), (o1_values_q, .inl (cI, o1_values_n, .inl o1_values))] sz) t) (va_A [(o0_q, .inr (1, [.ref o0_bytes_q, .int o0_count])), (o0_bytes_q, .inl (cI, o0_bytes_n, .inl o0_bytes)), (o1_q, .inr (0, [.int o1_width, .int o1_height, .ref o1_values_q])), (o1_values_q, .inl (cI, o1_values_n, .inl o1_values))] sz)) 0 0 (va_A [(o0_q, .inr (1, [.ref o0_bytes_q, .int o0_count])), (o0_bytes_q, .inl (cI, o0_bytes_n, .inl o0_bytes)), (o1_q, .inr (0, [.int o1_width, .int o1_height, .ref o1_values_q])), (o1_values_q, .inl (cI, o1_values_n, .inl o1_values))] sz) := by
  refine ofM (own := R_CH) (fun A => (va_Qi (fun (r : Int32) (u : (Nat → Int32)) => post r u) (fun u t => EN D [(o0_q, .inr (1, [.ref o0_bytes_q, .int o0_count])), (o0_bytes_q, .inl (cI, o0_bytes_n, .inl o0_bytes)), (o1_q, .inr (0, [.int o1_width, .int o1_height, .ref o1_values_q])), (o1_values_q, .inl (cI, o1_values_n, .inl u))] A t) A)) (by decide) rfl (Nat.le_of_ble_eq_true rfl) ?_
  intro p e s m args below meth c A ls Q cx hQ hA hl hP hD hS hinit
  obtain ⟨hx, hb, hml, hrt, hown, hta, hlk, hK, hN⟩ := id cx
  have hl : lv_has ls 6 [(0, .ref o0_q), (1, .ref o1_q)] := hl
  have h00 : va_P D CL [(o0_q, .inr (1, [.ref o0_bytes_q, .int o0_count])), (o0_bytes_q, .inl (cI, o0_bytes_n, .inl o0_bytes)), (o1_q, .inr (0, [.int o1_width, .int o1_height, .ref o1_values_q])), (o1_values_q, .inl (cI, o1_values_n, .inl o1_values))] s.heap := hP
  unfold w_CH_read at hw
  obtain ⟨H, eH⟩ : ∃ H, H = s.heap := ⟨_, rfl⟩
  obtain ⟨locs, eL⟩ : ∃ locs : List Loc, locs = [] := ⟨_, rfl⟩
  have hS : va_S A s.heap H locs := by rw [eH, eL]; exact hS
  have hP : va_P D CL [(o0_q, .inr (1, [.ref o0_bytes_q, .int o0_count])), (o0_bytes_q, .inl (cI, o0_bytes_n, .inl o0_bytes)), (o1_q, .inr (0, [.int o1_width, .int o1_height, .ref o1_values_q])), (o1_values_q, .inl (cI, o1_values_n, .inl o1_values))] H := by rw [eH]; exact hP
  suffices hgo : W p l e rm_CH_read s m args below meth c H locs 0 0 Q (F0 m 0 ls []) by rw [eH, eL] at hgo; exact hgo
  clear eH eL h00
  refine lv_iconst (v := 0) hx hb d_CH_read_0 (by decide) ?_
  refine lv_istore_n (lv' := [(2, .int 0), (0, .ref o0_q), (1, .ref o1_q)]) hx hb d_CH_read_1 rfl hl (by decide) rfl (fun ls hl => ?_)
  refine lv_iconst (v := 0) hx hb d_CH_read_2 (by decide) ?_
  refine lv_istore_n (lv' := [(3, .int 0), (2, .int 0), (0, .ref o0_q), (1, .ref o1_q)]) hx hb d_CH_read_3 rfl hl (by decide) rfl (fun ls hl => ?_)
  refine lv_iconst (v := 0) hx hb d_CH_read_4 (by decide) ?_
  refine lv_istore (lv' := [(4, .int 0), (3, .int 0), (2, .int 0), (0, .ref o0_q), (1, .ref o1_q)]) hx hb d_CH_read_5 hl (by decide) rfl (fun ls hl => ?_)
  have L7 : ∀ (k_83 : Int32 → Int32 → Int32 → (Nat → Int32) → Prop) (hk_83 : ∀ (v4_5 : Int32) (v3_6 : Int32) (v2_7 : Int32) (f_o1_values_q_8 : Nat → Int32) (H : Heap) (locs : List Loc) (ls : Array Slot), lv_has ls 6 [(4, .int v4_5), (3, .int v3_6), (2, .int v2_7), (0, .ref o0_q), (1, .ref o1_q)] → va_P D CL [(o0_q, .inr (1, [.ref o0_bytes_q, .int o0_count])), (o0_bytes_q, .inl (cI, o0_bytes_n, .inl o0_bytes)), (o1_q, .inr (0, [.int o1_width, .int o1_height, .ref o1_values_q])), (o1_values_q, .inl (cI, o1_values_n, .inl f_o1_values_q_8))] H → va_D A [(o0_q, .inr (1, [.ref o0_bytes_q, .int o0_count])), (o0_bytes_q, .inl (cI, o0_bytes_n, .inl o0_bytes)), (o1_q, .inr (0, [.int o1_width, .int o1_height, .ref o1_values_q])), (o1_values_q, .inl (cI, o1_values_n, .inl f_o1_values_q_8))] → va_S A s.heap H locs → k_83 v4_5 v3_6 v2_7 f_o1_values_q_8 → W p l e rm_CH_read s m args below meth c H locs 0 0 Q (F0 m 83 ls [])), ∀ (k_60 : Int32 → Int32 → Int32 → (Nat → Int32) → Prop) (hk_60 : ∀ (v4_5 : Int32) (v3_6 : Int32) (v2_7 : Int32) (f_o1_values_q_8 : Nat → Int32) (H : Heap) (locs : List Loc) (ls : Array Slot), lv_has ls 6 [(4, .int v4_5), (3, .int v3_6), (2, .int v2_7), (0, .ref o0_q), (1, .ref o1_q)] → va_P D CL [(o0_q, .inr (1, [.ref o0_bytes_q, .int o0_count])), (o0_bytes_q, .inl (cI, o0_bytes_n, .inl o0_bytes)), (o1_q, .inr (0, [.int o1_width, .int o1_height, .ref o1_values_q])), (o1_values_q, .inl (cI, o1_values_n, .inl f_o1_values_q_8))] H → va_D A [(o0_q, .inr (1, [.ref o0_bytes_q, .int o0_count])), (o0_bytes_q, .inl (cI, o0_bytes_n, .inl o0_bytes)), (o1_q, .inr (0, [.int o1_width, .int o1_height, .ref o1_values_q])), (o1_values_q, .inl (cI, o1_values_n, .inl f_o1_values_q_8))] → va_S A s.heap H locs → k_60 v4_5 v3_6 v2_7 f_o1_values_q_8 → W p l e rm_CH_read s m args below meth c H locs 0 0 Q (F0 m 60 ls [])), ∀ (k_26 : Int32 → Int32 → Int32 → (Nat → Int32) → Prop) (hk_26 : ∀ (v4_5 : Int32) (v3_6 : Int32) (v2_7 : Int32) (f_o1_values_q_8 : Nat → Int32) (H : Heap) (locs : List Loc) (ls : Array Slot), lv_has ls 6 [(4, .int v4_5), (3, .int v3_6), (2, .int v2_7), (0, .ref o0_q), (1, .ref o1_q)] → va_P D CL [(o0_q, .inr (1, [.ref o0_bytes_q, .int o0_count])), (o0_bytes_q, .inl (cI, o0_bytes_n, .inl o0_bytes)), (o1_q, .inr (0, [.int o1_width, .int o1_height, .ref o1_values_q])), (o1_values_q, .inl (cI, o1_values_n, .inl f_o1_values_q_8))] H → va_D A [(o0_q, .inr (1, [.ref o0_bytes_q, .int o0_count])), (o0_bytes_q, .inl (cI, o0_bytes_n, .inl o0_bytes)), (o1_q, .inr (0, [.int o1_width, .int o1_height, .ref o1_values_q])), (o1_values_q, .inl (cI, o1_values_n, .inl f_o1_values_q_8))] → va_S A s.heap H locs → k_26 v4_5 v3_6 v2_7 f_o1_values_q_8 → W p l e rm_CH_read s m args below meth c H locs 0 0 Q (F0 m 26 ls [])), ∀ (n : Nat) (v4_5 : Int32) (v3_6 : Int32) (v2_7 : Int32) (f_o1_values_q_8 : Nat → Int32) (H : Heap) (locs : List Loc) (ls : Array Slot), lv_has ls 6 [(4, .int v4_5), (3, .int v3_6), (2, .int v2_7), (0, .ref o0_q), (1, .ref o1_q)] → va_P D CL [(o0_q, .inr (1, [.ref o0_bytes_q, .int o0_count])), (o0_bytes_q, .inl (cI, o0_bytes_n, .inl o0_bytes)), (o1_q, .inr (0, [.int o1_width, .int o1_height, .ref o1_values_q])), (o1_values_q, .inl (cI, o1_values_n, .inl f_o1_values_q_8))] H → va_D A [(o0_q, .inr (1, [.ref o0_bytes_q, .int o0_count])), (o0_bytes_q, .inl (cI, o0_bytes_n, .inl o0_bytes)), (o1_q, .inr (0, [.int o1_width, .int o1_height, .ref o1_values_q])), (o1_values_q, .inl (cI, o1_values_n, .inl f_o1_values_q_8))] → va_S A s.heap H locs → w_CH_read_7 o0_count o0_bytes_n o0_bytes o1_width o1_height o1_values_n k_83 k_60 k_26 n v4_5 v3_6 v2_7 f_o1_values_q_8 → W p l e rm_CH_read s m args below meth c H locs 0 0 Q (F0 m 7 ls []) := by
    intro k_83 hk_83 k_60 hk_60 k_26 hk_26 n
    induction n with
    | zero => intro v4_5 v3_6 v2_7 f_o1_values_q_8 H locs ls hl hP hD hS hw; exact hw.elim
    | succ n ih =>
      intro v4_5 v3_6 v2_7 f_o1_values_q_8 H locs ls hl hP hD hS hw
      rw [w_CH_read_7] at hw
      refine lv_iload hx hb d_CH_read_7 (lv_at hl 0 rfl) ?_
      refine lv_sipush (v := 4000) hx hb d_CH_read_9 (by decide) ?_
      refine lv_icmp_ge (tgt := 83) hx hb d_CH_read_12 (by decide) (fun hc_7 => ?_) (fun hc_7 => ?_)
      · have hw := hw.1 hc_7
        exact hk_83 v4_5 v3_6 v2_7 f_o1_values_q_8 _ _ _ (lv_sub hl [0, 1, 2, 3, 4] rfl) (hP.sub [0, 1, 2, 3] rfl) (hD.sub [0, 1, 2, 3] (by decide) rfl) hS hw
      · have hw := hw.2 hc_7
        refine lv_aload_n hx hb d_CH_read_15 rfl (lv_at hl 3 rfl) ?_
        refine lv_iload_n hx hb d_CH_read_16 rfl (lv_at hl 2 rfl) ?_
        refine goR (xV (C := R_BR) (ci := 1) (As := [.int v2_7]) (rest := []) (wc := [(o0_q, .inr (1, [.ref o0_bytes_q, .int o0_count])), (o0_bytes_q, .inl (cI, o0_bytes_n, .inl o0_bytes))]) (A := A) cx (c_BR_get l D cI cZ cL H.size o0_q o0_bytes_q o0_count o0_bytes_n o0_bytes v2_7 hw) vw_CH_41 md_BR_get ⟨rfl, rfl, Nat.le_of_ble_eq_true rfl, Nat.le_of_ble_eq_true rfl⟩ (hP.sub [0, 1] rfl) (hD.sub [0, 1] (by decide) rfl) 0 rfl rfl rfl hl.1 (Nat.le_of_ble_eq_true rfl) d_CH_read_17 ⟨Nat.le_of_ble_eq_true rfl, Nat.le_of_ble_eq_true rfl⟩ rfl) (fun r_9 hw => ?_)
        try dsimp only at hw
        refine lv_sipush (v := 255) hx hb d_CH_read_20 (by decide) ?_
        refine lv_icmp_ne (tgt := 47) hx hb d_CH_read_23 (by decide) (fun hc_8 => ?_) (fun hc_8 => ?_)
        · have hw := hw.1 hc_8
          refine lv_aload_n hx hb d_CH_read_47 rfl (lv_at hl 3 rfl) ?_
          refine lv_iload_n hx hb d_CH_read_48 rfl (lv_at hl 2 rfl) ?_
          refine lv_aload_n hx hb d_CH_read_49 rfl (lv_at hl 4 rfl) ?_
          refine goI (wr := []) (xS (As := [.ref o0_q, .int v2_7, .ref o1_q]) (rest := []) (wc := [(o0_q, .inr (1, [.ref o0_bytes_q, .int o0_count])), (o0_bytes_q, .inl (cI, o0_bytes_n, .inl o0_bytes)), (o1_q, .inr (0, [.int o1_width, .int o1_height, .ref o1_values_q])), (o1_values_q, .inl (cI, o1_values_n, .inl f_o1_values_q_8))]) (A := A) cx (c_CH_readRun l D cI cZ cL H.size o0_q o0_bytes_q o1_q o1_values_q o0_count o0_bytes_n o0_bytes o1_width o1_height o1_values_n f_o1_values_q_8 v2_7 hw) sw_CH_51 md_CH_readRun ⟨rfl, rfl, Nat.le_of_ble_eq_true rfl, Nat.le_of_ble_eq_true rfl⟩ (hP.sub [0, 1, 2, 3] rfl) (hD.sub [0, 1, 2, 3] (by decide) rfl) rfl hl.1 (Nat.le_of_ble_eq_true rfl) d_CH_read_50 ⟨Nat.le_of_ble_eq_true rfl, Nat.le_of_ble_eq_true rfl⟩ rfl) hP hD hS hA [0, 1, 2, 3] [] rfl rfl (by decide) (by decide) (fun r_10 f_11 H locs hw hP hD hS => ?_)
          try dsimp only at hw
          have hP : va_P D CL [(o0_q, .inr (1, [.ref o0_bytes_q, .int o0_count])), (o0_bytes_q, .inl (cI, o0_bytes_n, .inl o0_bytes)), (o1_q, .inr (0, [.int o1_width, .int o1_height, .ref o1_values_q])), (o1_values_q, .inl (cI, o1_values_n, .inl f_11))] H := hP
          have hD : va_D A [(o0_q, .inr (1, [.ref o0_bytes_q, .int o0_count])), (o0_bytes_q, .inl (cI, o0_bytes_n, .inl o0_bytes)), (o1_q, .inr (0, [.int o1_width, .int o1_height, .ref o1_values_q])), (o1_values_q, .inl (cI, o1_values_n, .inl f_11))] := hD
          refine lv_istore (lv' := [(5, .int r_10), (4, .int v4_5), (3, .int v3_6), (2, .int v2_7), (0, .ref o0_q), (1, .ref o1_q)]) hx hb d_CH_read_53 hl (by decide) rfl (fun ls hl => ?_)
          refine lv_iload hx hb d_CH_read_55 (lv_at hl 0 rfl) ?_
          refine lv_if_ne (tgt := 65) hx hb d_CH_read_57 (by decide) (fun hc_9 => ?_) (fun hc_9 => ?_)
          · have hw := hw.1 hc_9
            refine lv_iload_n hx hb d_CH_read_65 rfl (lv_at hl 2 rfl) ?_
            refine lv_iload hx hb d_CH_read_66 (lv_at hl 0 rfl) ?_
            refine lv_iadd hx hb d_CH_read_68 ?_
            refine lv_istore_n (lv' := [(3, .int (v3_6 + r_10)), (5, .int r_10), (4, .int v4_5), (2, .int v2_7), (0, .ref o0_q), (1, .ref o1_q)]) hx hb d_CH_read_69 rfl hl (by decide) rfl (fun ls hl => ?_)
            refine lv_iload_n hx hb d_CH_read_70 rfl (lv_at hl 3 rfl) ?_
            refine lv_iconst (v := 3) hx hb d_CH_read_71 (by decide) ?_
            refine lv_iload hx hb d_CH_read_72 (lv_at hl 1 rfl) ?_
            refine lv_iadd hx hb d_CH_read_74 ?_
            refine lv_iadd hx hb d_CH_read_75 ?_
            refine lv_istore_n (lv' := [(2, .int (v2_7 + (3 + r_10))), (3, .int (v3_6 + r_10)), (5, .int r_10), (4, .int v4_5), (0, .ref o0_q), (1, .ref o1_q)]) hx hb d_CH_read_76 rfl hl (by decide) rfl (fun ls hl => ?_)
            refine lv_iinc (v := v4_5 + 1) (lv' := [(4, .int (v4_5 + 1)), (2, .int (v2_7 + (3 + r_10))), (3, .int (v3_6 + r_10)), (5, .int r_10), (0, .ref o0_q), (1, .ref o1_q)]) hx hb d_CH_read_77 hl (k := 3) rfl rfl (by decide) rfl (fun ls hl => ?_)
            refine lv_goto (tgt := 7) hx hb d_CH_read_80 (by decide) ?_
            exact ih (v4_5 + 1) (v3_6 + r_10) (v2_7 + (3 + r_10)) f_11 _ _ _ (lv_sub hl [0, 2, 1, 4, 5] rfl) (hP.sub [0, 1, 2, 3] rfl) (hD.sub [0, 1, 2, 3] (by decide) rfl) hS hw
          · have hw := hw.2 hc_9
            exact hk_60 v4_5 v3_6 v2_7 f_11 _ _ _ (lv_sub hl [1, 2, 3, 4, 5] rfl) (hP.sub [0, 1, 2, 3] rfl) (hD.sub [0, 1, 2, 3] (by decide) rfl) hS hw
        · have hw := hw.2 hc_8
          exact hk_26 v4_5 v3_6 v2_7 f_o1_values_q_8 _ _ _ (lv_sub hl [0, 1, 2, 3, 4] rfl) (hP.sub [0, 1, 2, 3] rfl) (hD.sub [0, 1, 2, 3] (by decide) rfl) hS hw
  obtain ⟨n_7, hw⟩ := hw
  refine L7 _ (fun v4_5_12 v3_6_13 v2_7_14 f_o1_values_q_8_15 H locs ls hl hP hD hS hw => ?_) _ (fun v4_5_17 v3_6_18 v2_7_19 f_o1_values_q_8_20 H locs ls hl hP hD hS hw => ?_) _ (fun v4_5_22 v3_6_23 v2_7_24 f_o1_values_q_8_25 H locs ls hl hP hD hS hw => ?_) n_7 0 0 0 o1_values _ _ _ (lv_sub hl [0, 1, 2, 3, 4] rfl) (hP.sub [0, 1, 2, 3] rfl) (hD.sub [0, 1, 2, 3] (by decide) rfl) hS hw
  · have hl : lv_has ls 6 [(4, .int v4_5_12), (3, .int v3_6_13), (2, .int v2_7_14), (0, .ref o0_q), (1, .ref o1_q)] := hl
    have hP : va_P D CL [(o0_q, .inr (1, [.ref o0_bytes_q, .int o0_count])), (o0_bytes_q, .inl (cI, o0_bytes_n, .inl o0_bytes)), (o1_q, .inr (0, [.int o1_width, .int o1_height, .ref o1_values_q])), (o1_values_q, .inl (cI, o1_values_n, .inl f_o1_values_q_8_15))] H := hP
    have hD : va_D A [(o0_q, .inr (1, [.ref o0_bytes_q, .int o0_count])), (o0_bytes_q, .inl (cI, o0_bytes_n, .inl o0_bytes)), (o1_q, .inr (0, [.int o1_width, .int o1_height, .ref o1_values_q])), (o1_values_q, .inl (cI, o1_values_n, .inl f_o1_values_q_8_15))] := hD
    try dsimp only at hw
    refine lv_iload_n hx hb d_CH_read_83 rfl (lv_at hl 2 rfl) ?_
    refine goR (xSN (As := [.int v2_7_14]) (rest := []) (wc := []) (A := A) cx (c_DF_refusedAt l D cI cZ cL H.size v2_7_14 hw) sn_CH_48 md_DF_refusedAt ⟨rfl, rfl, Nat.le_of_ble_eq_true rfl, Nat.le_of_ble_eq_true rfl⟩ (hP.sub [] rfl) (hD.sub [] (by decide) rfl) rfl hl.1 (Nat.le_of_ble_eq_true rfl) d_CH_read_84 ⟨Nat.le_of_ble_eq_true rfl, Nat.le_of_ble_eq_true rfl⟩ rfl) (fun r_16 hw => ?_)
    try dsimp only at hw
    exact retI cx hQ d_CH_read_87 f_o1_values_q_8_15 hw (hP.sub [0, 1, 2, 3] rfl) (hD.sub [0, 1, 2, 3] (by decide) rfl) hS
  · have hl : lv_has ls 6 [(4, .int v4_5_17), (3, .int v3_6_18), (2, .int v2_7_19), (0, .ref o0_q), (1, .ref o1_q)] := hl
    have hP : va_P D CL [(o0_q, .inr (1, [.ref o0_bytes_q, .int o0_count])), (o0_bytes_q, .inl (cI, o0_bytes_n, .inl o0_bytes)), (o1_q, .inr (0, [.int o1_width, .int o1_height, .ref o1_values_q])), (o1_values_q, .inl (cI, o1_values_n, .inl f_o1_values_q_8_20))] H := hP
    have hD : va_D A [(o0_q, .inr (1, [.ref o0_bytes_q, .int o0_count])), (o0_bytes_q, .inl (cI, o0_bytes_n, .inl o0_bytes)), (o1_q, .inr (0, [.int o1_width, .int o1_height, .ref o1_values_q])), (o1_values_q, .inl (cI, o1_values_n, .inl f_o1_values_q_8_20))] := hD
    try dsimp only at hw
    refine lv_iload_n hx hb d_CH_read_60 rfl (lv_at hl 2 rfl) ?_
    refine goR (xSN (As := [.int v2_7_19]) (rest := []) (wc := []) (A := A) cx (c_DF_refusedAt l D cI cZ cL H.size v2_7_19 hw) sn_CH_48 md_DF_refusedAt ⟨rfl, rfl, Nat.le_of_ble_eq_true rfl, Nat.le_of_ble_eq_true rfl⟩ (hP.sub [] rfl) (hD.sub [] (by decide) rfl) rfl hl.1 (Nat.le_of_ble_eq_true rfl) d_CH_read_61 ⟨Nat.le_of_ble_eq_true rfl, Nat.le_of_ble_eq_true rfl⟩ rfl) (fun r_21 hw => ?_)
    try dsimp only at hw
    exact retI cx hQ d_CH_read_64 f_o1_values_q_8_20 hw (hP.sub [0, 1, 2, 3] rfl) (hD.sub [0, 1, 2, 3] (by decide) rfl) hS
  · have hl : lv_has ls 6 [(4, .int v4_5_22), (3, .int v3_6_23), (2, .int v2_7_24), (0, .ref o0_q), (1, .ref o1_q)] := hl
    have hP : va_P D CL [(o0_q, .inr (1, [.ref o0_bytes_q, .int o0_count])), (o0_bytes_q, .inl (cI, o0_bytes_n, .inl o0_bytes)), (o1_q, .inr (0, [.int o1_width, .int o1_height, .ref o1_values_q])), (o1_values_q, .inl (cI, o1_values_n, .inl f_o1_values_q_8_25))] H := hP
    have hD : va_D A [(o0_q, .inr (1, [.ref o0_bytes_q, .int o0_count])), (o0_bytes_q, .inl (cI, o0_bytes_n, .inl o0_bytes)), (o1_q, .inr (0, [.int o1_width, .int o1_height, .ref o1_values_q])), (o1_values_q, .inl (cI, o1_values_n, .inl f_o1_values_q_8_25))] := hD
    try dsimp only at hw
    refine lv_iload_n hx hb d_CH_read_26 rfl (lv_at hl 2 rfl) ?_
    refine lv_iconst (v := 1) hx hb d_CH_read_27 (by decide) ?_
    refine lv_iadd hx hb d_CH_read_28 ?_
    refine lv_aload_n hx hb d_CH_read_29 rfl (lv_at hl 3 rfl) ?_
    refine va_getN (D := D) (ci := 1) (v := .int o0_count) (C := R_BR) (T := F_BR) (N := 2) hx hb hta lay_BR hown hK hP 0 rfl rfl 1 (by decide) (va_Nw.use rfl (hN _ kn_CH_45 rfl)) (fun _ h9 => h9) rfl d_CH_read_30 ?_
    refine lv_icmp_ne (tgt := 40) hx hb d_CH_read_33 (by decide) (fun hc_10 => ?_) (fun hc_10 => ?_)
    · have hw := hw.1 hc_10
      refine lv_iload_n hx hb d_CH_read_40 rfl (lv_at hl 2 rfl) ?_
      refine lv_iconst (v := 1) hx hb d_CH_read_41 (by decide) ?_
      refine lv_iadd hx hb d_CH_read_42 ?_
      refine goR (xSN (As := [.int (v2_7_24 + 1)]) (rest := []) (wc := []) (A := A) cx (c_DF_refusedAt l D cI cZ cL H.size (v2_7_24 + 1) hw) sn_CH_48 md_DF_refusedAt ⟨rfl, rfl, Nat.le_of_ble_eq_true rfl, Nat.le_of_ble_eq_true rfl⟩ (hP.sub [] rfl) (hD.sub [] (by decide) rfl) rfl hl.1 (Nat.le_of_ble_eq_true rfl) d_CH_read_43 ⟨Nat.le_of_ble_eq_true rfl, Nat.le_of_ble_eq_true rfl⟩ rfl) (fun r_26 hw => ?_)
      try dsimp only at hw
      exact retI cx hQ d_CH_read_46 f_o1_values_q_8_25 hw (hP.sub [0, 1, 2, 3] rfl) (hD.sub [0, 1, 2, 3] (by decide) rfl) hS
    · have hw := hw.2 hc_10
      refine lv_iload_n hx hb d_CH_read_36 rfl (lv_at hl 1 rfl) ?_
      refine lv_goto (tgt := 46) hx hb d_CH_read_37 (by decide) ?_
      exact retI cx hQ d_CH_read_46 f_o1_values_q_8_25 hw (hP.sub [0, 1, 2, 3] rfl) (hD.sub [0, 1, 2, 3] (by decide) rfl) hS
