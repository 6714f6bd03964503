def w_TE_init (x1 : Int32) (post : Int32 → Nat → (Nat → Int32) → Nat → (Nat → Int32) → Int32 → Int32 → Nat → (Nat → Int32) → Prop) : Prop := ¬ x1 < 0 ∧ x1.toNatClampNeg ≤ 576 ∧ (¬ (256 : Int32) < 0 ∧ (256 : Int32).toNatClampNeg ≤ 256 ∧ (w_PL_init x1 (fun (g_4 : Int32) (g_5 : Int32) (n_7 : Nat) (f_8 : Nat → Int32) => post 0 x1.toNatClampNeg (fun _ => 0) ((256 : Int32).toNatClampNeg) (fun _ => 0) g_4 g_5 n_7 f_8)))
def rm_TE_init : Room := { frames := 2, cells := 4, slots := 4291, locals := 33 }
set_option maxHeartbeats 4000000 in
set_option maxRecDepth 100000 in
theorem c_TE_init (l : Launch) (D : va_G) (cI cZ cL : ClassId) (sz : Nat) (o0_q : Nat) (x1 : Int32) {post : Int32 → Nat → (Nat → Int32) → Nat → (Nat → Int32) → Int32 → Int32 → Nat → (Nat → Int32) → Prop} (hw : w_TE_init x1 post) : Met l y_TE_init (Cond.code y_TE_init b_TE_init 2 (none) :: AW) rm_TE_init (va_Pc [.ref o0_q, .int x1] (ST D cI cZ cL [(o0_q, .inr (3, [.null, .null, .null, .int 0]))] sz)) (va_Qv (fun (u : Int32 × Nat × Nat × (Nat → Int32) × Nat × Nat × (Nat → Int32) × Nat × Int32 × Int32 × Nat × Nat × (Nat → Int32)) => post u.1 u.2.2.1 u.2.2.2.1 u.2.2.2.2.2.1 u.2.2.2.2.2.2.1 u.2.2.2.2.2.2.2.2.1 u.2.2.2.2.2.2.2.2.2.1 u.2.2.2.2.2.2.2.2.2.2.2.1 u.2.2.2.2.2.2.2.2.2.2.2.2) (fun u t => EN D [(o0_q, .inr (3, [.ref u.2.1, .ref u.2.2.2.2.1, .ref u.2.2.2.2.2.2.2.1, .int u.1])), (u.2.1, .inl (cZ, u.2.2.1, .inl u.2.2.2.1)), (u.2.2.2.2.1, .inl (cI, u.2.2.2.2.2.1, .inl u.2.2.2.2.2.2.1)), (u.2.2.2.2.2.2.2.1, .inr (2, [.ref u.2.2.2.2.2.2.2.2.2.2.1, .int u.2.2.2.2.2.2.2.2.1, .int u.2.2.2.2.2.2.2.2.2.1])), (u.2.2.2.2.2.2.2.2.2.2.1, .inl (cI, u.2.2.2.2.2.2.2.2.2.2.2.1, .inl u.2.2.2.2.2.2.2.2.2.2.2.2))] (va_A [(o0_q, .inr (3, [.null, .null, .null, .int 0]))] sz) t) (va_A [(o0_q, .inr (3, [.null, .null, .null, .int 0]))] sz)) 4 4291 (va_A [(o0_q, .inr (3, [.null, .null, .null, .int 0]))] sz) := by
  refine ofM (own := R_TE) (fun A => (va_Qv (fun (u : Int32 × Nat × Nat × (Nat → Int32) × Nat × Nat × (Nat → Int32) × Nat × Int32 × Int32 × Nat × Nat × (Nat → Int32)) => post u.1 u.2.2.1 u.2.2.2.1 u.2.2.2.2.2.1 u.2.2.2.2.2.2.1 u.2.2.2.2.2.2.2.2.1 u.2.2.2.2.2.2.2.2.2.1 u.2.2.2.2.2.2.2.2.2.2.2.1 u.2.2.2.2.2.2.2.2.2.2.2.2) (fun u t => EN D [(o0_q, .inr (3, [.ref u.2.1, .ref u.2.2.2.2.1, .ref u.2.2.2.2.2.2.2.1, .int u.1])), (u.2.1, .inl (cZ, u.2.2.1, .inl u.2.2.2.1)), (u.2.2.2.2.1, .inl (cI, u.2.2.2.2.2.1, .inl u.2.2.2.2.2.2.1)), (u.2.2.2.2.2.2.2.1, .inr (2, [.ref u.2.2.2.2.2.2.2.2.2.2.1, .int u.2.2.2.2.2.2.2.2.1, .int u.2.2.2.2.2.2.2.2.2.1])), (u.2.2.2.2.2.2.2.2.2.2.1, .inl (cI, u.2.2.2.2.2.2.2.2.2.2.2.1, .inl u.2.2.2.2.2.2.2.2.2.2.2.2))] A t) A)) (by decide) rfl (Nat.le_of_ble_eq_true rfl) ?_
  intro p e s m args below meth c A ls Q cx hQ hA hl hP hD hS hinit
  have hin := hinit rfl
  obtain ⟨hx, hb, hml, hrt, hown, hta, hlk, hK, hN⟩ := id cx
  have hl : lv_has ls 2 [(0, .ref o0_q), (1, .int x1)] := hl
  have h00 : va_P D CL [(o0_q, .inr (3, [.null, .null, .null, .int 0]))] s.heap := hP
  unfold w_TE_init at hw
  obtain ⟨H, eH⟩ : ∃ H, H = s.heap := ⟨_, rfl⟩
  obtain ⟨locs, eL⟩ : ∃ locs : List Loc, locs = [] := ⟨_, rfl⟩
  have hS : va_S A s.heap H locs := by rw [eH, eL]; exact hS
  have hP : va_P D CL [(o0_q, .inr (3, [.null, .null, .null, .int 0]))] H := by rw [eH]; exact hP
  suffices hgo : W p l e rm_TE_init s m args below meth c H locs 0 0 Q (F0 m 0 ls []) by rw [eH, eL] at hgo; exact hgo
  clear eH eL h00
  refine lv_aload_n hx hb d_TE_init_0 rfl (lv_at hl 0 rfl) ?_
  refine W.objInit hx hb hown (hta _ k_TE_3) (hta _ k_objI) (hta _ k_objC) rfl (by rw [hml]; exact hl.1) rfl d_TE_init_1 (Nat.le_of_ble_eq_true rfl) (Nat.le_of_ble_eq_true rfl) ?_
  refine W.eq (g2 := F0 m 4 ls []) rfl ?_
  refine lv_aload_n hx hb d_TE_init_4 rfl (lv_at hl 0 rfl) ?_
  refine lv_iload_n hx hb d_TE_init_5 rfl (lv_at hl 1 rfl) ?_
  refine va_newa (atype := .boolean) (ty := .boolean) (a0 := (x1.toNatClampNeg, .inl (fun _ => 0))) hx hb (hta _ k_arr_boolean) rfl hK hP hD hS hA (fun _ => rfl) hw.1 rfl (by have h9 := hw.2.1; show _ * 1 ≤ _; omega) (Nat.le_of_ble_eq_true rfl) (by have h9 := hw.2.1; show 0 + _ ≤ 4291; omega) d_TE_init_6 (fun q_1 cA H hK9 hP hD hS => ?_)
  rw [newA_cZ hK9] at hP hD
  have hP : va_P D CL [(o0_q, .inr (3, [.null, .null, .null, .int 0])), (q_1, .inl (cZ, x1.toNatClampNeg, .inl (fun _ => 0)))] H := hP
  have hD : va_D A [(o0_q, .inr (3, [.null, .null, .null, .int 0])), (q_1, .inl (cZ, x1.toNatClampNeg, .inl (fun _ => 0)))] := hD
  refine W.widen (k := 1) (n := 576) (by decide) (by have h9 := hw.2.1; omega) ?_
  have hw := hw.2.2
  refine va_putF (D := D) (ci := 3) (v := .ref q_1) (ty := .array .boolean) (C := R_TE) (T := F_TE) (N := 4) hx hb hta lay_TE t_TE t_TE_ok n_TE hown hK hP hD hS 0 rfl rfl 0 (by decide) (hta _ k_TE_9) (fun _ h9 => h9) rfl hin rfl (by decide +kernel) rfl rfl (Nat.le_of_ble_eq_true rfl) d_TE_init_8 (fun H locs hP hD hS => ?_)
  have hP : va_P D CL [(o0_q, .inr (3, [.ref q_1, .null, .null, .int 0])), (q_1, .inl (cZ, x1.toNatClampNeg, .inl (fun _ => 0)))] H := hP
  have hD : va_D A [(o0_q, .inr (3, [.ref q_1, .null, .null, .int 0])), (q_1, .inl (cZ, x1.toNatClampNeg, .inl (fun _ => 0)))] := hD
  refine lv_aload_n hx hb d_TE_init_11 rfl (lv_at hl 0 rfl) ?_
  refine lv_sipush (v := 256) hx hb d_TE_init_12 (by decide) ?_
  refine va_newa (atype := .int) (ty := .int) (a0 := ((256 : Int32).toNatClampNeg, .inl (fun _ => 0))) hx hb (hta _ k_arr_int) rfl hK hP hD hS hA (fun _ => rfl) hw.1 rfl (by have h9 := hw.2.1; show _ * 4 ≤ _; omega) (Nat.le_of_ble_eq_true rfl) (by have h9 := hw.2.1; show 576 + _ ≤ 4291; omega) d_TE_init_15 (fun q_2 cA H hK9 hP hD hS => ?_)
  rw [newA_cI hK9] at hP hD
  have hP : va_P D CL [(o0_q, .inr (3, [.ref q_1, .null, .null, .int 0])), (q_1, .inl (cZ, x1.toNatClampNeg, .inl (fun _ => 0))), (q_2, .inl (cI, ((256 : Int32).toNatClampNeg), .inl (fun _ => 0)))] H := hP
  have hD : va_D A [(o0_q, .inr (3, [.ref q_1, .null, .null, .int 0])), (q_1, .inl (cZ, x1.toNatClampNeg, .inl (fun _ => 0))), (q_2, .inl (cI, ((256 : Int32).toNatClampNeg), .inl (fun _ => 0)))] := hD
  refine W.widen (k := 2) (n := 832) (by decide) (by have h9 := hw.2.1; omega) ?_
  have hw := hw.2.2
  refine va_putF (D := D) (ci := 3) (v := .ref q_2) (ty := .array .int) (C := R_TE) (T := F_TE) (N := 4) hx hb hta lay_TE t_TE t_TE_ok n_TE hown hK hP hD hS 0 rfl rfl 1 (by decide) (hta _ k_TE_15) (fun _ h9 => h9) rfl hin rfl (by decide +kernel) rfl rfl (Nat.le_of_ble_eq_true rfl) d_TE_init_17 (fun H locs hP hD hS => ?_)
  have hP : va_P D CL [(o0_q, .inr (3, [.ref q_1, .ref q_2, .null, .int 0])), (q_1, .inl (cZ, x1.toNatClampNeg, .inl (fun _ => 0))), (q_2, .inl (cI, ((256 : Int32).toNatClampNeg), .inl (fun _ => 0)))] H := hP
  have hD : va_D A [(o0_q, .inr (3, [.ref q_1, .ref q_2, .null, .int 0])), (q_1, .inl (cZ, x1.toNatClampNeg, .inl (fun _ => 0))), (q_2, .inl (cI, ((256 : Int32).toNatClampNeg), .inl (fun _ => 0)))] := hD
  refine lv_aload_n hx hb d_TE_init_20 rfl (lv_at hl 0 rfl) ?_
  refine va_new (ci := 2) (fs := [.null, .int 0, .int 0]) (C := R_PL) (T := F_PL) (N := 3) hx hb hta lay_PL t_PL t_PL_ok hown (hta _ nw_TE_19.1) (hta _ nw_TE_19.2.1) (hta _ nw_TE_19.2.2) hK hP hD hS hA rfl df_PL (Nat.le_of_ble_eq_true rfl) (Nat.le_of_ble_eq_true rfl) d_TE_init_21 (fun q_3 H hP hD hS => ?_)
  have hP : va_P D CL [(o0_q, .inr (3, [.ref q_1, .ref q_2, .null, .int 0])), (q_1, .inl (cZ, x1.toNatClampNeg, .inl (fun _ => 0))), (q_2, .inl (cI, ((256 : Int32).toNatClampNeg), .inl (fun _ => 0))), (q_3, .inr (2, [.null, .int 0, .int 0]))] H := hP
  have hD : va_D A [(o0_q, .inr (3, [.ref q_1, .ref q_2, .null, .int 0])), (q_1, .inl (cZ, x1.toNatClampNeg, .inl (fun _ => 0))), (q_2, .inl (cI, ((256 : Int32).toNatClampNeg), .inl (fun _ => 0))), (q_3, .inr (2, [.null, .int 0, .int 0]))] := hD
  refine lv_dup hx hb d_TE_init_24 rfl ?_
  refine lv_iload_n hx hb d_TE_init_25 rfl (lv_at hl 1 rfl) ?_
  refine goV (wr := [(o0_q, .inr (3, [.ref q_1, .ref q_2, .null, .int 0])), (q_1, .inl (cZ, x1.toNatClampNeg, .inl (fun _ => 0))), (q_2, .inl (cI, ((256 : Int32).toNatClampNeg), .inl (fun _ => 0)))]) (xI (As := [.int x1]) (rest := [.ref q_3, .ref o0_q]) (wc := [(q_3, .inr (2, [.null, .int 0, .int 0]))]) (A := A) cx (c_PL_init l D cI cZ cL H.size q_3 x1 hw) iw_TE_21 md_PL_init ⟨rfl, rfl, Nat.le_of_ble_eq_true rfl, Nat.le_of_ble_eq_true rfl⟩ (hP.sub [3] rfl) (hD.sub [3] (by decide) rfl) rfl hl.1 (Nat.le_of_ble_eq_true rfl) d_TE_init_26 ⟨Nat.le_of_ble_eq_true rfl, Nat.le_of_ble_eq_true rfl⟩ rfl) hP hD hS hA [3] [0, 1, 2] rfl rfl (by decide) (by decide) (fun u H locs hw hP hD hS => ?_)
  obtain ⟨g_4, g_5, q_6, n_7, f_8⟩ := u
  try dsimp only at hw
  have hP : va_P D CL [(o0_q, .inr (3, [.ref q_1, .ref q_2, .null, .int 0])), (q_1, .inl (cZ, x1.toNatClampNeg, .inl (fun _ => 0))), (q_2, .inl (cI, ((256 : Int32).toNatClampNeg), .inl (fun _ => 0))), (q_3, .inr (2, [.ref q_6, .int g_4, .int g_5])), (q_6, .inl (cI, n_7, .inl f_8))] H := hP
  have hD : va_D A [(o0_q, .inr (3, [.ref q_1, .ref q_2, .null, .int 0])), (q_1, .inl (cZ, x1.toNatClampNeg, .inl (fun _ => 0))), (q_2, .inl (cI, ((256 : Int32).toNatClampNeg), .inl (fun _ => 0))), (q_3, .inr (2, [.ref q_6, .int g_4, .int g_5])), (q_6, .inl (cI, n_7, .inl f_8))] := hD
  refine va_putF (D := D) (ci := 3) (v := .ref q_3) (ty := .object "DrawingForms$PartList") (C := R_TE) (T := F_TE) (N := 4) hx hb hta lay_TE t_TE t_TE_ok n_TE hown hK hP hD hS 0 rfl rfl 2 (by decide) (hta _ k_TE_24) (fun _ h9 => h9) rfl hin rfl (by decide +kernel) rfl rfl (Nat.le_of_ble_eq_true rfl) d_TE_init_29 (fun H locs hP hD hS => ?_)
  have hP : va_P D CL [(o0_q, .inr (3, [.ref q_1, .ref q_2, .ref q_3, .int 0])), (q_1, .inl (cZ, x1.toNatClampNeg, .inl (fun _ => 0))), (q_2, .inl (cI, ((256 : Int32).toNatClampNeg), .inl (fun _ => 0))), (q_3, .inr (2, [.ref q_6, .int g_4, .int g_5])), (q_6, .inl (cI, n_7, .inl f_8))] H := hP
  have hD : va_D A [(o0_q, .inr (3, [.ref q_1, .ref q_2, .ref q_3, .int 0])), (q_1, .inl (cZ, x1.toNatClampNeg, .inl (fun _ => 0))), (q_2, .inl (cI, ((256 : Int32).toNatClampNeg), .inl (fun _ => 0))), (q_3, .inr (2, [.ref q_6, .int g_4, .int g_5])), (q_6, .inl (cI, n_7, .inl f_8))] := hD
  exact retV cx hQ d_TE_init_32 (0, q_1, x1.toNatClampNeg, fun _ => 0, q_2, (256 : Int32).toNatClampNeg, fun _ => 0, q_3, g_4, g_5, q_6, n_7, f_8) hw (hP.sub [0, 1, 2, 3, 4] rfl) (hD.sub [0, 1, 2, 3, 4] (by decide) rfl) hS
def w_TE_forget (o0_plain : Int32) (o0_open_n : Nat) (o0_open : Nat → Int32) (o0_counts_n : Nat) (o0_counts : Nat → Int32) (o0_found_count : Int32) (o0_found_byteLength : Int32) (o0_found_fields_n : Nat) (o0_found_fields : Nat → Int32) (post : Int32 → Int32 → Int32 → Prop) : Prop := w_PL_drop o0_found_count o0_found_byteLength o0_found_fields_n o0_found_fields (fun (g_1 : Int32) (g_2 : Int32) => post 0 g_1 g_2)
def rm_TE_forget : Room := { frames := 1, cells := 0, slots := 0, locals := 20 }
set_option maxHeartbeats 4000000 in
set_option maxRecDepth 100000 in
theorem c_TE_forget (l : Launch) (D : va_G) (cI cZ cL : ClassId) (sz : Nat) (o0_q : Nat) (o0_open_q : Nat) (o0_counts_q : Nat) (o0_found_q : Nat) (o0_found_fields_q : Nat) (o0_plain : Int32) (o0_open_n : Nat) (o0_open : Nat → Int32) (o0_counts_n : Nat) (o0_counts : Nat → Int32) (o0_found_count : Int32) (o0_found_byteLength : Int32) (o0_found_fields_n : Nat) (o0_found_fields : Nat → Int32) {post : Int32 → Int32 → Int32 → Prop} (hw : w_TE_forget o0_plain o0_open_n o0_open o0_counts_n o0_counts o0_found_count o0_found_byteLength o0_found_fields_n o0_found_fields post) : Met l y_TE_forget (Cond.code y_TE_forget b_TE_forget 1 (none) :: AW) rm_TE_forget (va_Pc [.ref o0_q] (ST D cI cZ cL [(o0_q, .inr (3, [.ref o0_open_q, .ref o0_counts_q, .ref o0_found_q, .int o0_plain])), (o0_open_q, .inl (cZ, o0_open_n, .inl o0_open)), (o0_counts_q, .inl (cI, o0_counts_n, .inl o0_counts)), (o0_found_q, .inr (2, [.ref o0_found_fields_q, .int o0_found_count, .int o0_found_byteLength])), (o0_found_fields_q, .inl (cI, o0_found_fields_n, .inl o0_found_fields))] sz)) (va_Qv (fun (u : Int32 × Int32 × Int32) => post u.1 u.2.1 u.2.2) (fun u t => EN D [(o0_q, .inr (3, [.ref o0_open_q, .ref o0_counts_q, .ref o0_found_q, .int u.1])), (o0_open_q, .inl (cZ, o0_open_n, .inl o0_open)), (o0_counts_q, .inl (cI, o0_counts_n, .inl o0_counts)), (o0_found_q, .inr (2, [.ref o0_found_fields_q, .int u.2.1, .int u.2.2])), (o0_found_fields_q, .inl (cI, o0_found_fields_n, .inl o0_found_fields))] (va_A [(o0_q, .inr (3, [.ref o0_open_q, .ref o0_counts_q, .ref o0_found_q, .int o0_plain])), (o0_open_q, .inl (cZ, o0_open_n, .inl o0_open)), (o0_counts_q, .inl (cI, o0_counts_n, .inl o0_counts)), (o0_found_q, .inr (2, [.ref o0_found_fields_q, .int o0_found_count, .int o0_found_byteLength])), (o0_found_fields_q, .inl (cI, o0_found_fields_n, .inl o0_found_fields))] sz) t) (va_A [(o0_q, .inr (3, [.ref o0_open_q, .ref o0_counts_q, .ref o0_found_q, .int o0_plain])), (o0_open_q, .inl (cZ, o0_open_n, .inl o0_open)), (o0_counts_q, .inl (cI, o0_counts_n, .inl o0_counts)), (o0_found_q, .inr (2, [.ref o0_found_fields_q, .int o0_found_count, .int o0_found_byteLength])), (o0_found_fields_q, .inl (cI, o0_found_fields_n, .inl o0_found_fields))] sz)) 0 0 (va_A [(o0_q, .inr (3, [.ref o0_open_q, .ref o0_counts_q, .ref o0_found_q, .int o0_plain])), (o0_open_q, .inl (cZ, o0_open_n, .inl o0_open)), (o0_counts_q, .inl (cI, o0_counts_n, .inl o0_counts)), (o0_found_q, .inr (2, [.ref o0_found_fields_q, .int o0_found_count, .int o0_found_byteLength])), (o0_found_fields_q, .inl (cI, o0_found_fields_n, .inl o0_found_fields))] sz) := by
  refine ofM (own := R_TE) (fun A => (va_Qv (fun (u : Int32 × Int32 × Int32) => post u.1 u.2.1 u.2.2) (fun u t => EN D [(o0_q, .inr (3, [.ref o0_open_q, .ref o0_counts_q, .ref o0_found_q, .int u.1])), (o0_open_q, .inl (cZ, o0_open_n, .inl o0_open)), (o0_counts_q, .inl (cI, o0_counts_n, .inl o0_counts)), (o0_found_q, .inr (2, [.ref o0_found_fields_q, .int u.2.1, .int u.2.2])), (o0_found_fields_q, .inl (cI, o0_found_fields_n, .inl o0_found_fields))] A t) A)) (by decide) rfl (Nat.le_of_ble_eq_true rfl) ?_
  intro p e s m args below meth c A ls Q cx hQ hA hl hP hD hS hinit
  obtain ⟨hx, hb, hml, hrt, hown, hta, hlk, hK, hN⟩ := id cx
  have hl : lv_has ls 1 [(0, .ref o0_q)] := hl
  have h00 : va_P D CL [(o0_q, .inr (3, [.ref o0_open_q, .ref o0_counts_q, .ref o0_found_q, .int o0_plain])), (o0_open_q, .inl (cZ, o0_open_n, .inl o0_open)), (o0_counts_q, .inl (cI, o0_counts_n, .inl o0_counts)), (o0_found_q, .inr (2, [.ref o0_found_fields_q, .int o0_found_count, .int o0_found_byteLength])), (o0_found_fields_q, .inl (cI, o0_found_fields_n, .inl o0_found_fields))] s.heap := hP
  unfold w_TE_forget at hw
  obtain ⟨H, eH⟩ : ∃ H, H = s.heap := ⟨_, rfl⟩
  obtain ⟨locs, eL⟩ : ∃ locs : List Loc, locs = [] := ⟨_, rfl⟩
  have hS : va_S A s.heap H locs := by rw [eH, eL]; exact hS
  have hP : va_P D CL [(o0_q, .inr (3, [.ref o0_open_q, .ref o0_counts_q, .ref o0_found_q, .int o0_plain])), (o0_open_q, .inl (cZ, o0_open_n, .inl o0_open)), (o0_counts_q, .inl (cI, o0_counts_n, .inl o0_counts)), (o0_found_q, .inr (2, [.ref o0_found_fields_q, .int o0_found_count, .int o0_found_byteLength])), (o0_found_fields_q, .inl (cI, o0_found_fields_n, .inl o0_found_fields))] H := by rw [eH]; exact hP
  suffices hgo : W p l e rm_TE_forget s m args below meth c H locs 0 0 Q (F0 m 0 ls []) by rw [eH, eL] at hgo; exact hgo
  clear eH eL h00
  refine lv_aload_n hx hb d_TE_forget_0 rfl (lv_at hl 0 rfl) ?_
  refine va_get (D := D) (ci := 3) (v := .ref o0_found_q) (C := R_TE) (T := F_TE) (N := 4) hx hb hta lay_TE hown hK hP 0 rfl rfl 2 (by decide) (hta _ k_TE_24) (fun _ h9 => h9) rfl d_TE_forget_1 ?_
  refine goV (wr := [(o0_q, .inr (3, [.ref o0_open_q, .ref o0_counts_q, .ref o0_found_q, .int o0_plain])), (o0_open_q, .inl (cZ, o0_open_n, .inl o0_open)), (o0_counts_q, .inl (cI, o0_counts_n, .inl o0_counts))]) (xV (C := R_PL) (ci := 2) (As := []) (rest := []) (wc := [(o0_found_q, .inr (2, [.ref o0_found_fields_q, .int o0_found_count, .int o0_found_byteLength])), (o0_found_fields_q, .inl (cI, o0_found_fields_n, .inl o0_found_fields))]) (A := A) cx (c_PL_drop l D cI cZ cL H.size o0_found_q o0_found_fields_q o0_found_count o0_found_byteLength o0_found_fields_n o0_found_fields hw) vw_TE_28 md_PL_drop ⟨rfl, rfl, Nat.le_of_ble_eq_true rfl, Nat.le_of_ble_eq_true rfl⟩ (hP.sub [3, 4] rfl) (hD.sub [3, 4] (by decide) rfl) 0 rfl rfl rfl hl.1 (Nat.le_of_ble_eq_true rfl) d_TE_forget_4 ⟨Nat.le_of_ble_eq_true rfl, Nat.le_of_ble_eq_true rfl⟩ rfl) hP hD hS hA [3, 4] [0, 1, 2] rfl rfl (by decide) (by decide) (fun u H locs hw hP hD hS => ?_)
  obtain ⟨g_1, g_2⟩ := u
  try dsimp only at hw
  have hP : va_P D CL [(o0_q, .inr (3, [.ref o0_open_q, .ref o0_counts_q, .ref o0_found_q, .int o0_plain])), (o0_open_q, .inl (cZ, o0_open_n, .inl o0_open)), (o0_counts_q, .inl (cI, o0_counts_n, .inl o0_counts)), (o0_found_q, .inr (2, [.ref o0_found_fields_q, .int g_1, .int g_2])), (o0_found_fields_q, .inl (cI, o0_found_fields_n, .inl o0_found_fields))] H := hP
  have hD : va_D A [(o0_q, .inr (3, [.ref o0_open_q, .ref o0_counts_q, .ref o0_found_q, .int o0_plain])), (o0_open_q, .inl (cZ, o0_open_n, .inl o0_open)), (o0_counts_q, .inl (cI, o0_counts_n, .inl o0_counts)), (o0_found_q, .inr (2, [.ref o0_found_fields_q, .int g_1, .int g_2])), (o0_found_fields_q, .inl (cI, o0_found_fields_n, .inl o0_found_fields))] := hD
  refine lv_aload_n hx hb d_TE_forget_7 rfl (lv_at hl 0 rfl) ?_
  refine lv_iconst (v := 0) hx hb d_TE_forget_8 (by decide) ?_
  refine va_put (D := D) (ci := 3) (v := .int 0) (ty := .boolean) (C := R_TE) (T := F_TE) (N := 4) hx hb hta lay_TE t_TE t_TE_ok n_TE hown hK hP hD hS 0 rfl rfl 3 (by decide) (hta _ k_TE_31) (fun _ h9 => h9) rfl (by decide +kernel) rfl rfl (Nat.le_of_ble_eq_true rfl) d_TE_forget_9 (fun H locs hP hD hS => ?_)
  have hP : va_P D CL [(o0_q, .inr (3, [.ref o0_open_q, .ref o0_counts_q, .ref o0_found_q, .int 0])), (o0_open_q, .inl (cZ, o0_open_n, .inl o0_open)), (o0_counts_q, .inl (cI, o0_counts_n, .inl o0_counts)), (o0_found_q, .inr (2, [.ref o0_found_fields_q, .int g_1, .int g_2])), (o0_found_fields_q, .inl (cI, o0_found_fields_n, .inl o0_found_fields))] H := hP
  have hD : va_D A [(o0_q, .inr (3, [.ref o0_open_q, .ref o0_counts_q, .ref o0_found_q, .int 0])), (o0_open_q, .inl (cZ, o0_open_n, .inl o0_open)), (o0_counts_q, .inl (cI, o0_counts_n, .inl o0_counts)), (o0_found_q, .inr (2, [.ref o0_found_fields_q, .int g_1, .int g_2])), (o0_found_fields_q, .inl (cI, o0_found_fields_n, .inl o0_found_fields))] := hD
  exact retV cx hQ d_TE_forget_12 (0, g_1, g_2) hw (hP.sub [0, 1, 2, 3, 4] rfl) (hD.sub [0, 1, 2, 3, 4] (by decide) rfl) hS
def w_TE_groundOf_10 (o0_counts_n : Nat) (o1_values_n : Nat) (o1_values : Nat → Int32) (k_55 : Int32 → (Nat → Int32) → Prop) : Nat → Int32 → (Nat → Int32) → Prop
  | 0, _, _ => False
  | n + 1, v2_4, f_o0_counts_q_5 => ((nI o1_values_n) ≤ v2_4 → k_55 v2_4 f_o0_counts_q_5) ∧ (¬ (nI o1_values_n) ≤ v2_4 → vp_in v2_4 o1_values_n ∧ (((o1_values v2_4.toNatClampNeg) < 0 → w_TE_groundOf_10 o0_counts_n o1_values_n o1_values k_55 n (v2_4 + 1) f_o0_counts_q_5) ∧ (¬ (o1_values v2_4.toNatClampNeg) < 0 → ((nI o0_counts_n) ≤ (o1_values v2_4.toNatClampNeg) → w_TE_groundOf_10 o0_counts_n o1_values_n o1_values k_55 n (v2_4 + 1) f_o0_counts_q_5) ∧ (¬ (nI o0_counts_n) ≤ (o1_values v2_4.toNatClampNeg) → vp_in (o1_values v2_4.toNatClampNeg) o0_counts_n ∧ (vp_in (o1_values v2_4.toNatClampNeg) o0_counts_n ∧ (w_TE_groundOf_10 o0_counts_n o1_values_n o1_values k_55 n (v2_4 + 1) (upd f_o0_counts_q_5 (o1_values v2_4.toNatClampNeg).toNatClampNeg ((f_o0_counts_q_5 (o1_values v2_4.toNatClampNeg).toNatClampNeg) + 1))))))))
def w_TE_groundOf_62 (o0_counts_n : Nat) (f_o0_counts_q_5_7 : Nat → Int32) (k_100 : Int32 → Int32 → Int32 → Prop) : Nat → Int32 → Int32 → Int32 → Prop
  | 0, _, _, _ => False
  | n + 1, v4_13, v3_14, v2_15 => ((nI o0_counts_n) ≤ v4_13 → k_100 v4_13 v3_14 v2_15) ∧ (¬ (nI o0_counts_n) ≤ v4_13 → vp_in v4_13 o0_counts_n ∧ (((f_o0_counts_q_5_7 v4_13.toNatClampNeg) ≤ v3_14 → w_TE_groundOf_62 o0_counts_n f_o0_counts_q_5_7 k_100 n (v4_13 + 1) v3_14 v2_15) ∧ (¬ (f_o0_counts_q_5_7 v4_13.toNatClampNeg) ≤ v3_14 → vp_in v4_13 o0_counts_n ∧ (w_TE_groundOf_62 o0_counts_n f_o0_counts_q_5_7 k_100 n (v4_13 + 1) (f_o0_counts_q_5_7 v4_13.toNatClampNeg) v4_13))))
def w_TE_groundOf (o0_plain : Int32) (o0_open_n : Nat) (o0_open : Nat → Int32) (o0_counts_n : Nat) (o0_counts : Nat → Int32) (o0_found_count : Int32) (o0_found_byteLength : Int32) (o0_found_fields_n : Nat) (o0_found_fields : Nat → Int32) (o1_width : Int32) (o1_height : Int32) (o1_values_n : Nat) (o1_values : Nat → Int32) (post : Int32 → (Nat → Int32) → Prop) : Prop := w_AR_fill o0_counts_n o0_counts 0 (fun (f_1 : Nat → Int32) => ∃ n_10 : Nat, w_TE_groundOf_10 o0_counts_n o1_values_n o1_values (fun (v2_4_6 : Int32) (f_o0_counts_q_5_7 : Nat → Int32) => ∃ n_62 : Nat, w_TE_groundOf_62 o0_counts_n f_o0_counts_q_5_7 (fun (v4_13_16 : Int32) (v3_14_17 : Int32) (v2_15_18 : Int32) => post v2_15_18 f_o0_counts_q_5_7) n_62 0 0 0) n_10 0 f_1)
def rm_TE_groundOf : Room := { frames := 1, cells := 0, slots := 0, locals := 23 }
set_option maxHeartbeats 4000000 in
set_option maxRecDepth 100000 in
theorem c_TE_groundOf (l : Launch) (D : va_G) (cI cZ cL : ClassId) (sz : Nat) (o0_q : Nat) (o0_open_q : Nat) (o0_counts_q : Nat) (o0_found_q : Nat) (o0_found_fields_q : Nat) (o1_q : Nat) (o1_values_q : Nat) (o0_plain : Int32) (o0_open_n : Nat) (o0_open : Nat → Int32) (o0_counts_n : Nat) (o0_counts : Nat → Int32) (o0_found_count : Int32) (o0_found_byteLength : Int32) (o0_found_fields_n : Nat) (o0_found_fields : Nat → Int32) (o1_width : Int32) (o1_height : Int32) (o1_values_n : Nat) (o1_values : Nat → Int32) {post : Int32 → (Nat → Int32) → Prop} (hw : w_TE_groundOf o0_plain o0_open_n o0_open o0_counts_n o0_counts o0_found_count o0_found_byteLength o0_found_fields_n o0_found_fields o1_width o1_height o1_values_n o1_values post) : Met l y_TE_groundOf (Cond.code y_TE_groundOf b_TE_groundOf 5 (some .int) :: AW) rm_TE_groundOf (va_Pc [.ref o0_q, .ref o1_q] (ST D cI cZ cL [(o0_q, .inr (3, [.ref o0_open_q, .ref o0_counts_q, .ref o0_found_q, .int o0_plain])), (o0_open_q, .inl (cZ, o0_open_n, .inl o0_open)), (o0_counts_q, .inl (cI, o0_counts_n, .inl o0_counts)), (o0_found_q, .inr (2, [.ref o0_found_fields_q, .int o0_found_count, .int o0_found_byteLength])), (o0_found_fields_q, .inl (cI, o0_found_fields_n, .inl o0_found_fields)), (o1_q, .inr (0, [.int o1_width, .int o1_height, .ref o1_values_q])), (o1_values_q, .inl (cI, o1_values_n, .inl o1_values))] sz)) (va_Qi (fun (r : Int32) (u : (Nat → Int32)) => post r u) (fun u t => EN D [(o0_q, .inr (3, [.ref o0_open_q, .ref o0_counts_q, .ref o0_found_q, .int o0_plain])), (o0_open_q, .inl (cZ, o0_open_n, .inl o0_open)), (o0_counts_q, .inl (cI, o0_counts_n, .inl u)), (o0_found_q, .inr (2, [.ref o0_found_fields_q, .int o0_found_count, .int o0_found_byteLength])), (o0_found_fields_q, .inl (cI, o0_found_fields_n, .inl o0_found_fields)), (o1_q, .inr (0, [.int o1_width, .int o1_height, .ref o1_values_q])), (o1_values_q, .inl (cI, o1_values_n, .inl o1_values))] (va_A [(o0_q, .inr (3, [.ref o0_open_q, .ref o0_counts_q, .ref o0_found_q, .int o0_plain])), (o0_open_q, .inl (cZ, o0_open_n, .inl o0_open)), (o0_counts_q, .inl (cI, o0_counts_n, .inl o0_counts)), (o0_found_q, .inr (2, [.ref o0_found_fields_q, .int o0_found_count, .int o0_found_byteLength])), (o0_found_fields_q, .inl (cI, o0_found_fields_n, .inl o0_found_fields)), (o1_q, .inr (0, [.int o1_width, .int o1_height, .ref o1_values_q])), (o1_values_q, .inl (cI, o1_values_n, .inl o1_values))] sz) t) (va_A [(o0_q, .inr (3, [.ref o0_open_q, .ref o0_counts_q, .ref o0_found_q, .int o0_plain])), (o0_open_q, .inl (cZ, o0_open_n, .inl o0_open)), (o0_counts_q, .inl (cI, o0_counts_n, .inl o0_counts)), (o0_found_q, .inr (2, [.ref o0_found_fields_q, .int o0_found_count, .int o0_found_byteLength])), (o0_found_fields_q, .inl (cI, o0_found_fields_n, .inl o0_found_fields)), (o1_q, .inr (0, [.int o1_width, .int o1_height, .ref o1_values_q])), (o1_values_q, .inl (cI, o1_values_n, .inl o1_values))] sz)) 0 0 (va_A [(o0_q, .inr (3, [.ref o0_open_q, .ref o0_counts_q, .ref o0_found_q, .int o0_plain])), (o0_open_q, .inl (cZ, o0_open_n, .inl o0_open)), (o0_counts_q, .inl (cI, o0_counts_n, .inl o0_counts)), (o0_found_q, .inr (2, [.ref o0_found_fields_q, .int o0_found_count, .int o0_found_byteLength])), (o0_found_fields_q, .inl (cI, o0_found_fields_n, .inl o0_found_fields)), (o1_q, .inr (0, [.int o1_width, .int o1_height, .ref o1_values_q])), (o1_values_q, .inl (cI, o1_values_n, .inl o1_values))] sz) := by
  refine ofM (own := R_TE) (fun A => (va_Qi (fun (r : Int32) (u : (Nat → Int32)) => post r u) (fun u t => EN D [(o0_q, .inr (3, [.ref o0_open_q, .ref o0_counts_q, .ref o0_found_q, .int o0_plain])), (o0_open_q, .inl (cZ, o0_open_n, .inl o0_open)), (o0_counts_q, .inl (cI, o0_counts_n, .inl u)), (o0_found_q, .inr (2, [.ref o0_found_fields_q, .int o0_found_count, .int o0_found_byteLength])), (o0_found_fields_q, .inl (cI, o0_found_fields_n, .inl o0_found_fields)), (o1_q, .inr (0, [.int o1_width, .int o1_height, .ref o1_values_q])), (o1_values_q, .inl (cI, o1_values_n, .inl o1_values))] A t) A)) (by decide) rfl (Nat.le_of_ble_eq_true rfl) ?_
  intro p e s m args below meth c A ls Q cx hQ hA hl hP hD hS hinit
  obtain ⟨hx, hb, hml, hrt, hown, hta, hlk, hK, hN⟩ := id cx
  have hl : lv_has ls 5 [(0, .ref o0_q), (1, .ref o1_q)] := hl
  have h00 : va_P D CL [(o0_q, .inr (3, [.ref o0_open_q, .ref o0_counts_q, .ref o0_found_q, .int o0_plain])), (o0_open_q, .inl (cZ, o0_open_n, .inl o0_open)), (o0_counts_q, .inl (cI, o0_counts_n, .inl o0_counts)), (o0_found_q, .inr (2, [.ref o0_found_fields_q, .int o0_found_count, .int o0_found_byteLength])), (o0_found_fields_q, .inl (cI, o0_found_fields_n, .inl o0_found_fields)), (o1_q, .inr (0, [.int o1_width, .int o1_height, .ref o1_values_q])), (o1_values_q, .inl (cI, o1_values_n, .inl o1_values))] s.heap := hP
  unfold w_TE_groundOf at hw
  obtain ⟨H, eH⟩ : ∃ H, H = s.heap := ⟨_, rfl⟩
  obtain ⟨locs, eL⟩ : ∃ locs : List Loc, locs = [] := ⟨_, rfl⟩
  have hS : va_S A s.heap H locs := by rw [eH, eL]; exact hS
  have hP : va_P D CL [(o0_q, .inr (3, [.ref o0_open_q, .ref o0_counts_q, .ref o0_found_q, .int o0_plain])), (o0_open_q, .inl (cZ, o0_open_n, .inl o0_open)), (o0_counts_q, .inl (cI, o0_counts_n, .inl o0_counts)), (o0_found_q, .inr (2, [.ref o0_found_fields_q, .int o0_found_count, .int o0_found_byteLength])), (o0_found_fields_q, .inl (cI, o0_found_fields_n, .inl o0_found_fields)), (o1_q, .inr (0, [.int o1_width, .int o1_height, .ref o1_values_q])), (o1_values_q, .inl (cI, o1_values_n, .inl o1_values))] H := by rw [eH]; exact hP
  suffices hgo : W p l e rm_TE_groundOf s m args below meth c H locs 0 0 Q (F0 m 0 ls []) by rw [eH, eL] at hgo; exact hgo
  clear eH eL h00
  refine lv_aload_n hx hb d_TE_groundOf_0 rfl (lv_at hl 0 rfl) ?_
  refine va_get (D := D) (ci := 3) (v := .ref o0_counts_q) (C := R_TE) (T := F_TE) (N := 4) hx hb hta lay_TE hown hK hP 0 rfl rfl 1 (by decide) (hta _ k_TE_15) (fun _ h9 => h9) rfl d_TE_groundOf_1 ?_
  refine lv_iconst (v := 0) hx hb d_TE_groundOf_4 (by decide) ?_
  refine goV (wr := [(o0_q, .inr (3, [.ref o0_open_q, .ref o0_counts_q, .ref o0_found_q, .int o0_plain])), (o0_open_q, .inl (cZ, o0_open_n, .inl o0_open)), (o0_found_q, .inr (2, [.ref o0_found_fields_q, .int o0_found_count, .int o0_found_byteLength])), (o0_found_fields_q, .inl (cI, o0_found_fields_n, .inl o0_found_fields)), (o1_q, .inr (0, [.int o1_width, .int o1_height, .ref o1_values_q])), (o1_values_q, .inl (cI, o1_values_n, .inl o1_values))]) (xS (As := [.ref o0_counts_q, .int 0]) (rest := []) (wc := [(o0_counts_q, .inl (cI, o0_counts_n, .inl o0_counts))]) (A := A) cx (c_AR_fill l D cI cZ cL H.size o0_counts_q o0_counts_n o0_counts 0 hw) sw_TE_73 md_AR_fill ⟨rfl, rfl, Nat.le_of_ble_eq_true rfl, Nat.le_of_ble_eq_true rfl⟩ (hP.sub [2] rfl) (hD.sub [2] (by decide) rfl) rfl hl.1 (Nat.le_of_ble_eq_true rfl) d_TE_groundOf_5 ⟨Nat.le_of_ble_eq_true rfl, Nat.le_of_ble_eq_true rfl⟩ rfl) hP hD hS hA [2] [0, 1, 3, 4, 5, 6] rfl rfl (by decide) (by decide) (fun f_1 H locs hw hP hD hS => ?_)
  try dsimp only at hw
  have hP : va_P D CL [(o0_q, .inr (3, [.ref o0_open_q, .ref o0_counts_q, .ref o0_found_q, .int o0_plain])), (o0_open_q, .inl (cZ, o0_open_n, .inl o0_open)), (o0_found_q, .inr (2, [.ref o0_found_fields_q, .int o0_found_count, .int o0_found_byteLength])), (o0_found_fields_q, .inl (cI, o0_found_fields_n, .inl o0_found_fields)), (o1_q, .inr (0, [.int o1_width, .int o1_height, .ref o1_values_q])), (o1_values_q, .inl (cI, o1_values_n, .inl o1_values)), (o0_counts_q, .inl (cI, o0_counts_n, .inl f_1))] H := hP
  have hD : va_D A [(o0_q, .inr (3, [.ref o0_open_q, .ref o0_counts_q, .ref o0_found_q, .int o0_plain])), (o0_open_q, .inl (cZ, o0_open_n, .inl o0_open)), (o0_found_q, .inr (2, [.ref o0_found_fields_q, .int o0_found_count, .int o0_found_byteLength])), (o0_found_fields_q, .inl (cI, o0_found_fields_n, .inl o0_found_fields)), (o1_q, .inr (0, [.int o1_width, .int o1_height, .ref o1_values_q])), (o1_values_q, .inl (cI, o1_values_n, .inl o1_values)), (o0_counts_q, .inl (cI, o0_counts_n, .inl f_1))] := hD
  refine lv_iconst (v := 0) hx hb d_TE_groundOf_8 (by decide) ?_
  refine lv_istore_n (lv' := [(2, .int 0), (0, .ref o0_q), (1, .ref o1_q)]) hx hb d_TE_groundOf_9 rfl hl (by decide) rfl (fun ls hl => ?_)
  have L10 : ∀ (k_55 : Int32 → (Nat → Int32) → Prop) (hk_55 : ∀ (v2_4 : Int32) (f_o0_counts_q_5 : Nat → Int32) (H : Heap) (locs : List Loc) (ls : Array Slot), lv_has ls 5 [(2, .int v2_4), (0, .ref o0_q), (1, .ref o1_q)] → va_P D CL [(o0_q, .inr (3, [.ref o0_open_q, .ref o0_counts_q, .ref o0_found_q, .int o0_plain])), (o0_open_q, .inl (cZ, o0_open_n, .inl o0_open)), (o0_found_q, .inr (2, [.ref o0_found_fields_q, .int o0_found_count, .int o0_found_byteLength])), (o0_found_fields_q, .inl (cI, o0_found_fields_n, .inl o0_found_fields)), (o1_q, .inr (0, [.int o1_width, .int o1_height, .ref o1_values_q])), (o1_values_q, .inl (cI, o1_values_n, .inl o1_values)), (o0_counts_q, .inl (cI, o0_counts_n, .inl f_o0_counts_q_5))] H → va_D A [(o0_q, .inr (3, [.ref o0_open_q, .ref o0_counts_q, .ref o0_found_q, .int o0_plain])), (o0_open_q, .inl (cZ, o0_open_n, .inl o0_open)), (o0_found_q, .inr (2, [.ref o0_found_fields_q, .int o0_found_count, .int o0_found_byteLength])), (o0_found_fields_q, .inl (cI, o0_found_fields_n, .inl o0_found_fields)), (o1_q, .inr (0, [.int o1_width, .int o1_height, .ref o1_values_q])), (o1_values_q, .inl (cI, o1_values_n, .inl o1_values)), (o0_counts_q, .inl (cI, o0_counts_n, .inl f_o0_counts_q_5))] → va_S A s.heap H locs → k_55 v2_4 f_o0_counts_q_5 → W p l e rm_TE_groundOf s m args below meth c H locs 0 0 Q (F0 m 55 ls [])), ∀ (n : Nat) (v2_4 : Int32) (f_o0_counts_q_5 : Nat → Int32) (H : Heap) (locs : List Loc) (ls : Array Slot), lv_has ls 5 [(2, .int v2_4), (0, .ref o0_q), (1, .ref o1_q)] → va_P D CL [(o0_q, .inr (3, [.ref o0_open_q, .ref o0_counts_q, .ref o0_found_q, .int o0_plain])), (o0_open_q, .inl (cZ, o0_open_n, .inl o0_open)), (o0_found_q, .inr (2, [.ref o0_found_fields_q, .int o0_found_count, .int o0_found_byteLength])), (o0_found_fields_q, .inl (cI, o0_found_fields_n, .inl o0_found_fields)), (o1_q, .inr (0, [.int o1_width, .int o1_height, .ref o1_values_q])), (o1_values_q, .inl (cI, o1_values_n, .inl o1_values)), (o0_counts_q, .inl (cI, o0_counts_n, .inl f_o0_counts_q_5))] H → va_D A [(o0_q, .inr (3, [.ref o0_open_q, .ref o0_counts_q, .ref o0_found_q, .int o0_plain])), (o0_open_q, .inl (cZ, o0_open_n, .inl o0_open)), (o0_found_q, .inr (2, [.ref o0_found_fields_q, .int o0_found_count, .int o0_found_byteLength])), (o0_found_fields_q, .inl (cI, o0_found_fields_n, .inl o0_found_fields)), (o1_q, .inr (0, [.int o1_width, .int o1_height, .ref o1_values_q])), (o1_values_q, .inl (cI, o1_values_n, .inl o1_values)), (o0_counts_q, .inl (cI, o0_counts_n, .inl f_o0_counts_q_5))] → va_S A s.heap H locs → w_TE_groundOf_10 o0_counts_n o1_values_n o1_values k_55 n v2_4 f_o0_counts_q_5 → W p l e rm_TE_groundOf s m args below meth c H locs 0 0 Q (F0 m 10 ls []) := by
    intro k_55 hk_55 n
    induction n with
    | zero => intro v2_4 f_o0_counts_q_5 H locs ls hl hP hD hS hw; exact hw.elim
    | succ n ih =>
      intro v2_4 f_o0_counts_q_5 H locs ls hl hP hD hS hw
      rw [w_TE_groundOf_10] at hw
      refine lv_iload_n hx hb d_TE_groundOf_10 rfl (lv_at hl 0 rfl) ?_
      refine lv_aload_n hx hb d_TE_groundOf_11 rfl (lv_at hl 2 rfl) ?_
      refine va_getN (D := D) (ci := 0) (v := .ref o1_values_q) (C := R_PI) (T := F_PI) (N := 3) hx hb hta lay_PI hown hK hP 4 rfl rfl 2 (by decide) (va_Nw.use rfl (hN _ kn_TE_54 rfl)) (fun _ h9 => h9) rfl d_TE_groundOf_12 ?_
      refine va_alen (v := nI o1_values_n) hx hb hK hP 5 0 rfl rfl rfl d_TE_groundOf_15 ?_
      refine lv_icmp_ge (tgt := 55) hx hb d_TE_groundOf_16 (by decide) (fun hc_7 => ?_) (fun hc_7 => ?_)
      · have hw := hw.1 hc_7
        exact hk_55 v2_4 f_o0_counts_q_5 _ _ _ (lv_sub hl [0, 1, 2] rfl) (hP.sub [0, 1, 2, 3, 4, 5, 6] rfl) (hD.sub [0, 1, 2, 3, 4, 5, 6] (by decide) rfl) hS hw
      · have hw := hw.2 hc_7
        refine lv_aload_n hx hb d_TE_groundOf_19 rfl (lv_at hl 2 rfl) ?_
        refine va_getN (D := D) (ci := 0) (v := .ref o1_values_q) (C := R_PI) (T := F_PI) (N := 3) hx hb hta lay_PI hown hK hP 4 rfl rfl 2 (by decide) (va_Nw.use rfl (hN _ kn_TE_54 rfl)) (fun _ h9 => h9) rfl d_TE_groundOf_20 ?_
        refine lv_iload_n hx hb d_TE_groundOf_23 rfl (lv_at hl 0 rfl) ?_
        refine va_iald hx hb hK hP 5 0 rfl rfl hw.1 d_TE_groundOf_24 ?_
        have hw := hw.2
        refine lv_istore_n (lv' := [(3, .int (o1_values v2_4.toNatClampNeg)), (2, .int v2_4), (0, .ref o0_q), (1, .ref o1_q)]) hx hb d_TE_groundOf_25 rfl hl (by decide) rfl (fun ls hl => ?_)
        refine lv_iload_n hx hb d_TE_groundOf_26 rfl (lv_at hl 0 rfl) ?_
        refine lv_if_lt (tgt := 49) hx hb d_TE_groundOf_27 (by decide) (fun hc_8 => ?_) (fun hc_8 => ?_)
        · have hw := hw.1 hc_8
          refine lv_iinc (v := v2_4 + 1) (lv' := [(2, .int (v2_4 + 1)), (3, .int (o1_values v2_4.toNatClampNeg)), (0, .ref o0_q), (1, .ref o1_q)]) hx hb d_TE_groundOf_49 hl (k := 1) rfl rfl (by decide) rfl (fun ls hl => ?_)
          refine lv_goto (tgt := 10) hx hb d_TE_groundOf_52 (by decide) ?_
          exact ih (v2_4 + 1) f_o0_counts_q_5 _ _ _ (lv_sub hl [0, 2, 3] rfl) (hP.sub [0, 1, 2, 3, 4, 5, 6] rfl) (hD.sub [0, 1, 2, 3, 4, 5, 6] (by decide) rfl) hS hw
        · have hw := hw.2 hc_8
          refine lv_iload_n hx hb d_TE_groundOf_30 rfl (lv_at hl 0 rfl) ?_
          refine lv_aload_n hx hb d_TE_groundOf_31 rfl (lv_at hl 2 rfl) ?_
          refine va_get (D := D) (ci := 3) (v := .ref o0_counts_q) (C := R_TE) (T := F_TE) (N := 4) hx hb hta lay_TE hown hK hP 0 rfl rfl 1 (by decide) (hta _ k_TE_15) (fun _ h9 => h9) rfl d_TE_groundOf_32 ?_
          refine va_alen (v := nI o0_counts_n) hx hb hK hP 6 0 rfl rfl rfl d_TE_groundOf_35 ?_
          refine lv_icmp_ge (tgt := 49) hx hb d_TE_groundOf_36 (by decide) (fun hc_9 => ?_) (fun hc_9 => ?_)
          · have hw := hw.1 hc_9
            refine lv_iinc (v := v2_4 + 1) (lv' := [(2, .int (v2_4 + 1)), (3, .int (o1_values v2_4.toNatClampNeg)), (0, .ref o0_q), (1, .ref o1_q)]) hx hb d_TE_groundOf_49 hl (k := 1) rfl rfl (by decide) rfl (fun ls hl => ?_)
            refine lv_goto (tgt := 10) hx hb d_TE_groundOf_52 (by decide) ?_
            exact ih (v2_4 + 1) f_o0_counts_q_5 _ _ _ (lv_sub hl [0, 2, 3] rfl) (hP.sub [0, 1, 2, 3, 4, 5, 6] rfl) (hD.sub [0, 1, 2, 3, 4, 5, 6] (by decide) rfl) hS hw
          · have hw := hw.2 hc_9
            refine lv_aload_n hx hb d_TE_groundOf_39 rfl (lv_at hl 2 rfl) ?_
            refine va_get (D := D) (ci := 3) (v := .ref o0_counts_q) (C := R_TE) (T := F_TE) (N := 4) hx hb hta lay_TE hown hK hP 0 rfl rfl 1 (by decide) (hta _ k_TE_15) (fun _ h9 => h9) rfl d_TE_groundOf_40 ?_
            refine lv_iload_n hx hb d_TE_groundOf_43 rfl (lv_at hl 0 rfl) ?_
            refine lv_dup2_11 hx hb d_TE_groundOf_44 rfl rfl ?_
            refine va_iald hx hb hK hP 6 0 rfl rfl hw.1 d_TE_groundOf_45 ?_
            have hw := hw.2
            refine lv_iconst (v := 1) hx hb d_TE_groundOf_46 (by decide) ?_
            refine lv_iadd hx hb d_TE_groundOf_47 ?_
            refine va_iast hx hb hK hP hD hS 6 0 rfl rfl hw.1 d_TE_groundOf_48 (fun H locs hP hD hS => ?_)
            have hw := hw.2
            have hP : va_P D CL [(o0_q, .inr (3, [.ref o0_open_q, .ref o0_counts_q, .ref o0_found_q, .int o0_plain])), (o0_open_q, .inl (cZ, o0_open_n, .inl o0_open)), (o0_found_q, .inr (2, [.ref o0_found_fields_q, .int o0_found_count, .int o0_found_byteLength])), (o0_found_fields_q, .inl (cI, o0_found_fields_n, .inl o0_found_fields)), (o1_q, .inr (0, [.int o1_width, .int o1_height, .ref o1_values_q])), (o1_values_q, .inl (cI, o1_values_n, .inl o1_values)), (o0_counts_q, .inl (cI, o0_counts_n, .inl (upd f_o0_counts_q_5 (o1_values v2_4.toNatClampNeg).toNatClampNeg ((f_o0_counts_q_5 (o1_values v2_4.toNatClampNeg).toNatClampNeg) + 1))))] H := hP
            have hD : va_D A [(o0_q, .inr (3, [.ref o0_open_q, .ref o0_counts_q, .ref o0_found_q, .int o0_plain])), (o0_open_q, .inl (cZ, o0_open_n, .inl o0_open)), (o0_found_q, .inr (2, [.ref o0_found_fields_q, .int o0_found_count, .int o0_found_byteLength])), (o0_found_fields_q, .inl (cI, o0_found_fields_n, .inl o0_found_fields)), (o1_q, .inr (0, [.int o1_width, .int o1_height, .ref o1_values_q])), (o1_values_q, .inl (cI, o1_values_n, .inl o1_values)), (o0_counts_q, .inl (cI, o0_counts_n, .inl (upd f_o0_counts_q_5 (o1_values v2_4.toNatClampNeg).toNatClampNeg ((f_o0_counts_q_5 (o1_values v2_4.toNatClampNeg).toNatClampNeg) + 1))))] := hD
            refine lv_iinc (v := v2_4 + 1) (lv' := [(2, .int (v2_4 + 1)), (3, .int (o1_values v2_4.toNatClampNeg)), (0, .ref o0_q), (1, .ref o1_q)]) hx hb d_TE_groundOf_49 hl (k := 1) rfl rfl (by decide) rfl (fun ls hl => ?_)
            refine lv_goto (tgt := 10) hx hb d_TE_groundOf_52 (by decide) ?_
            exact ih (v2_4 + 1) (upd f_o0_counts_q_5 (o1_values v2_4.toNatClampNeg).toNatClampNeg ((f_o0_counts_q_5 (o1_values v2_4.toNatClampNeg).toNatClampNeg) + 1)) _ _ _ (lv_sub hl [0, 2, 3] rfl) (hP.sub [0, 1, 2, 3, 4, 5, 6] rfl) (hD.sub [0, 1, 2, 3, 4, 5, 6] (by decide) rfl) hS hw
  obtain ⟨n_10, hw⟩ := hw
  refine L10 _ (fun v2_4_6 f_o0_counts_q_5_7 H locs ls hl hP hD hS hw => ?_) n_10 0 f_1 _ _ _ (lv_sub hl [0, 1, 2] rfl) (hP.sub [0, 1, 2, 3, 4, 5, 6] rfl) (hD.sub [0, 1, 2, 3, 4, 5, 6] (by decide) rfl) hS hw
  have hl : lv_has ls 5 [(2, .int v2_4_6), (0, .ref o0_q), (1, .ref o1_q)] := hl
  have hP : va_P D CL [(o0_q, .inr (3, [.ref o0_open_q, .ref o0_counts_q, .ref o0_found_q, .int o0_plain])), (o0_open_q, .inl (cZ, o0_open_n, .inl o0_open)), (o0_found_q, .inr (2, [.ref o0_found_fields_q, .int o0_found_count, .int o0_found_byteLength])), (o0_found_fields_q, .inl (cI, o0_found_fields_n, .inl o0_found_fields)), (o1_q, .inr (0, [.int o1_width, .int o1_height, .ref o1_values_q])), (o1_values_q, .inl (cI, o1_values_n, .inl o1_values)), (o0_counts_q, .inl (cI, o0_counts_n, .inl f_o0_counts_q_5_7))] H := hP
  have hD : va_D A [(o0_q, .inr (3, [.ref o0_open_q, .ref o0_counts_q, .ref o0_found_q, .int o0_plain])), (o0_open_q, .inl (cZ, o0_open_n, .inl o0_open)), (o0_found_q, .inr (2, [.ref o0_found_fields_q, .int o0_found_count, .int o0_found_byteLength])), (o0_found_fields_q, .inl (cI, o0_found_fields_n, .inl o0_found_fields)), (o1_q, .inr (0, [.int o1_width, .int o1_height, .ref o1_values_q])), (o1_values_q, .inl (cI, o1_values_n, .inl o1_values)), (o0_counts_q, .inl (cI, o0_counts_n, .inl f_o0_counts_q_5_7))] := hD
  try dsimp only at hw
  refine lv_iconst (v := 0) hx hb d_TE_groundOf_55 (by decide) ?_
  refine lv_istore_n (lv' := [(2, .int 0), (0, .ref o0_q), (1, .ref o1_q)]) hx hb d_TE_groundOf_56 rfl hl (by decide) rfl (fun ls hl => ?_)
  refine lv_iconst (v := 0) hx hb d_TE_groundOf_57 (by decide) ?_
  refine lv_istore_n (lv' := [(3, .int 0), (2, .int 0), (0, .ref o0_q), (1, .ref o1_q)]) hx hb d_TE_groundOf_58 rfl hl (by decide) rfl (fun ls hl => ?_)
  refine lv_iconst (v := 0) hx hb d_TE_groundOf_59 (by decide) ?_
  refine lv_istore (lv' := [(4, .int 0), (3, .int 0), (2, .int 0), (0, .ref o0_q), (1, .ref o1_q)]) hx hb d_TE_groundOf_60 hl (by decide) rfl (fun ls hl => ?_)
  have L62 : ∀ (k_100 : Int32 → Int32 → Int32 → Prop) (hk_100 : ∀ (v4_13 : Int32) (v3_14 : Int32) (v2_15 : Int32) (H : Heap) (locs : List Loc) (ls : Array Slot), lv_has ls 5 [(4, .int v4_13), (3, .int v3_14), (2, .int v2_15), (0, .ref o0_q), (1, .ref o1_q)] → va_P D CL [(o0_q, .inr (3, [.ref o0_open_q, .ref o0_counts_q, .ref o0_found_q, .int o0_plain])), (o0_open_q, .inl (cZ, o0_open_n, .inl o0_open)), (o0_found_q, .inr (2, [.ref o0_found_fields_q, .int o0_found_count, .int o0_found_byteLength])), (o0_found_fields_q, .inl (cI, o0_found_fields_n, .inl o0_found_fields)), (o1_q, .inr (0, [.int o1_width, .int o1_height, .ref o1_values_q])), (o1_values_q, .inl (cI, o1_values_n, .inl o1_values)), (o0_counts_q, .inl (cI, o0_counts_n, .inl f_o0_counts_q_5_7))] H → va_D A [(o0_q, .inr (3, [.ref o0_open_q, .ref o0_counts_q, .ref o0_found_q, .int o0_plain])), (o0_open_q, .inl (cZ, o0_open_n, .inl o0_open)), (o0_found_q, .inr (2, [.ref o0_found_fields_q, .int o0_found_count, .int o0_found_byteLength])), (o0_found_fields_q, .inl (cI, o0_found_fields_n, .inl o0_found_fields)), (o1_q, .inr (0, [.int o1_width, .int o1_height, .ref o1_values_q])), (o1_values_q, .inl (cI, o1_values_n, .inl o1_values)), (o0_counts_q, .inl (cI, o0_counts_n, .inl f_o0_counts_q_5_7))] → va_S A s.heap H locs → k_100 v4_13 v3_14 v2_15 → W p l e rm_TE_groundOf s m args below meth c H locs 0 0 Q (F0 m 100 ls [])), ∀ (n : Nat) (v4_13 : Int32) (v3_14 : Int32) (v2_15 : Int32) (H : Heap) (locs : List Loc) (ls : Array Slot), lv_has ls 5 [(4, .int v4_13), (3, .int v3_14), (2, .int v2_15), (0, .ref o0_q), (1, .ref o1_q)] → va_P D CL [(o0_q, .inr (3, [.ref o0_open_q, .ref o0_counts_q, .ref o0_found_q, .int o0_plain])), (o0_open_q, .inl (cZ, o0_open_n, .inl o0_open)), (o0_found_q, .inr (2, [.ref o0_found_fields_q, .int o0_found_count, .int o0_found_byteLength])), (o0_found_fields_q, .inl (cI, o0_found_fields_n, .inl o0_found_fields)), (o1_q, .inr (0, [.int o1_width, .int o1_height, .ref o1_values_q])), (o1_values_q, .inl (cI, o1_values_n, .inl o1_values)), (o0_counts_q, .inl (cI, o0_counts_n, .inl f_o0_counts_q_5_7))] H → va_D A [(o0_q, .inr (3, [.ref o0_open_q, .ref o0_counts_q, .ref o0_found_q, .int o0_plain])), (o0_open_q, .inl (cZ, o0_open_n, .inl o0_open)), (o0_found_q, .inr (2, [.ref o0_found_fields_q, .int o0_found_count, .int o0_found_byteLength])), (o0_found_fields_q, .inl (cI, o0_found_fields_n, .inl o0_found_fields)), (o1_q, .inr (0, [.int o1_width, .int o1_height, .ref o1_values_q])), (o1_values_q, .inl (cI, o1_values_n, .inl o1_values)), (o0_counts_q, .inl (cI, o0_counts_n, .inl f_o0_counts_q_5_7))] → va_S A s.heap H locs → w_TE_groundOf_62 o0_counts_n f_o0_counts_q_5_7 k_100 n v4_13 v3_14 v2_15 → W p l e rm_TE_groundOf s m args below meth c H locs 0 0 Q (F0 m 62 ls []) := by
    intro k_100 hk_100 n
    induction n with
    | zero => intro v4_13 v3_14 v2_15 H locs ls hl hP hD hS hw; exact hw.elim
    | succ n ih =>
      intro v4_13 v3_14 v2_15 H locs ls hl hP hD hS hw
      rw [w_TE_groundOf_62] at hw
      refine lv_iload hx hb d_TE_groundOf_62 (lv_at hl 0 rfl) ?_
      refine lv_aload_n hx hb d_TE_groundOf_64 rfl (lv_at hl 3 rfl) ?_
      refine va_get (D := D) (ci := 3) (v := .ref o0_counts_q) (C := R_TE) (T := F_TE) (N := 4) hx hb hta lay_TE hown hK hP 0 rfl rfl 1 (by decide) (hta _ k_TE_15) (fun _ h9 => h9) rfl d_TE_groundOf_65 ?_
      refine va_alen (v := nI o0_counts_n) hx hb hK hP 6 0 rfl rfl rfl d_TE_groundOf_68 ?_
      refine lv_icmp_ge (tgt := 100) hx hb d_TE_groundOf_69 (by decide) (fun hc_16 => ?_) (fun hc_16 => ?_)
      · have hw := hw.1 hc_16
        exact hk_100 v4_13 v3_14 v2_15 _ _ _ (lv_sub hl [0, 1, 2, 3, 4] rfl) (hP.sub [0, 1, 2, 3, 4, 5, 6] rfl) (hD.sub [0, 1, 2, 3, 4, 5, 6] (by decide) rfl) hS hw
      · have hw := hw.2 hc_16
        refine lv_aload_n hx hb d_TE_groundOf_72 rfl (lv_at hl 3 rfl) ?_
        refine va_get (D := D) (ci := 3) (v := .ref o0_counts_q) (C := R_TE) (T := F_TE) (N := 4) hx hb hta lay_TE hown hK hP 0 rfl rfl 1 (by decide) (hta _ k_TE_15) (fun _ h9 => h9) rfl d_TE_groundOf_73 ?_
        refine lv_iload hx hb d_TE_groundOf_76 (lv_at hl 0 rfl) ?_
        refine va_iald hx hb hK hP 6 0 rfl rfl hw.1 d_TE_groundOf_78 ?_
        have hw := hw.2
        refine lv_iload_n hx hb d_TE_groundOf_79 rfl (lv_at hl 1 rfl) ?_
        refine lv_icmp_le (tgt := 94) hx hb d_TE_groundOf_80 (by decide) (fun hc_17 => ?_) (fun hc_17 => ?_)
        · have hw := hw.1 hc_17
          refine lv_iinc (v := v4_13 + 1) (lv' := [(4, .int (v4_13 + 1)), (3, .int v3_14), (2, .int v2_15), (0, .ref o0_q), (1, .ref o1_q)]) hx hb d_TE_groundOf_94 hl (k := 0) rfl rfl (by decide) rfl (fun ls hl => ?_)
          refine lv_goto (tgt := 62) hx hb d_TE_groundOf_97 (by decide) ?_
          exact ih (v4_13 + 1) v3_14 v2_15 _ _ _ (lv_sub hl [0, 1, 2, 3, 4] rfl) (hP.sub [0, 1, 2, 3, 4, 5, 6] rfl) (hD.sub [0, 1, 2, 3, 4, 5, 6] (by decide) rfl) hS hw
        · have hw := hw.2 hc_17
          refine lv_aload_n hx hb d_TE_groundOf_83 rfl (lv_at hl 3 rfl) ?_
          refine va_get (D := D) (ci := 3) (v := .ref o0_counts_q) (C := R_TE) (T := F_TE) (N := 4) hx hb hta lay_TE hown hK hP 0 rfl rfl 1 (by decide) (hta _ k_TE_15) (fun _ h9 => h9) rfl d_TE_groundOf_84 ?_
          refine lv_iload hx hb d_TE_groundOf_87 (lv_at hl 0 rfl) ?_
          refine va_iald hx hb hK hP 6 0 rfl rfl hw.1 d_TE_groundOf_89 ?_
          have hw := hw.2
          refine lv_istore_n (lv' := [(3, .int (f_o0_counts_q_5_7 v4_13.toNatClampNeg)), (4, .int v4_13), (2, .int v2_15), (0, .ref o0_q), (1, .ref o1_q)]) hx hb d_TE_groundOf_90 rfl hl (by decide) rfl (fun ls hl => ?_)
          refine lv_iload hx hb d_TE_groundOf_91 (lv_at hl 1 rfl) ?_
          refine lv_istore_n (lv' := [(2, .int v4_13), (3, .int (f_o0_counts_q_5_7 v4_13.toNatClampNeg)), (4, .int v4_13), (0, .ref o0_q), (1, .ref o1_q)]) hx hb d_TE_groundOf_93 rfl hl (by decide) rfl (fun ls hl => ?_)
          refine lv_iinc (v := v4_13 + 1) (lv' := [(4, .int (v4_13 + 1)), (2, .int v4_13), (3, .int (f_o0_counts_q_5_7 v4_13.toNatClampNeg)), (0, .ref o0_q), (1, .ref o1_q)]) hx hb d_TE_groundOf_94 hl (k := 2) rfl rfl (by decide) rfl (fun ls hl => ?_)
          refine lv_goto (tgt := 62) hx hb d_TE_groundOf_97 (by decide) ?_
          exact ih (v4_13 + 1) (f_o0_counts_q_5_7 v4_13.toNatClampNeg) v4_13 _ _ _ (lv_sub hl [0, 2, 1, 3, 4] rfl) (hP.sub [0, 1, 2, 3, 4, 5, 6] rfl) (hD.sub [0, 1, 2, 3, 4, 5, 6] (by decide) rfl) hS hw
  obtain ⟨n_62, hw⟩ := hw
  refine L62 _ (fun v4_13_16 v3_14_17 v2_15_18 H locs ls hl hP hD hS hw => ?_) n_62 0 0 0 _ _ _ (lv_sub hl [0, 1, 2, 3, 4] rfl) (hP.sub [0, 1, 2, 3, 4, 5, 6] rfl) (hD.sub [0, 1, 2, 3, 4, 5, 6] (by decide) rfl) hS hw
  have hl : lv_has ls 5 [(4, .int v4_13_16), (3, .int v3_14_17), (2, .int v2_15_18), (0, .ref o0_q), (1, .ref o1_q)] := hl
  have hP : va_P D CL [(o0_q, .inr (3, [.ref o0_open_q, .ref o0_counts_q, .ref o0_found_q, .int o0_plain])), (o0_open_q, .inl (cZ, o0_open_n, .inl o0_open)), (o0_found_q, .inr (2, [.ref o0_found_fields_q, .int o0_found_count, .int o0_found_byteLength])), (o0_found_fields_q, .inl (cI, o0_found_fields_n, .inl o0_found_fields)), (o1_q, .inr (0, [.int o1_width, .int o1_height, .ref o1_values_q])), (o1_values_q, .inl (cI, o1_values_n, .inl o1_values)), (o0_counts_q, .inl (cI, o0_counts_n, .inl f_o0_counts_q_5_7))] H := hP
  have hD : va_D A [(o0_q, .inr (3, [.ref o0_open_q, .ref o0_counts_q, .ref o0_found_q, .int o0_plain])), (o0_open_q, .inl (cZ, o0_open_n, .inl o0_open)), (o0_found_q, .inr (2, [.ref o0_found_fields_q, .int o0_found_count, .int o0_found_byteLength])), (o0_found_fields_q, .inl (cI, o0_found_fields_n, .inl o0_found_fields)), (o1_q, .inr (0, [.int o1_width, .int o1_height, .ref o1_values_q])), (o1_values_q, .inl (cI, o1_values_n, .inl o1_values)), (o0_counts_q, .inl (cI, o0_counts_n, .inl f_o0_counts_q_5_7))] := hD
  try dsimp only at hw
  refine lv_iload_n hx hb d_TE_groundOf_100 rfl (lv_at hl 2 rfl) ?_
  exact retI cx hQ d_TE_groundOf_101 f_o0_counts_q_5_7 hw (hP.sub [0, 1, 6, 2, 3, 4, 5] rfl) (hD.sub [0, 1, 6, 2, 3, 4, 5] (by decide) rfl) hS
def w_TE_writePlain_7 (o0_values_n : Nat) (o0_values : Nat → Int32) (o1_bytes_n : Nat) (k_32 : Int32 → Int32 → (Nat → Int32) → Prop) : Nat → Int32 → Int32 → (Nat → Int32) → Prop
  | 0, _, _, _ => False
  | n + 1, v2_6, g_o1_q_1_7, f_o1_bytes_q_8 => ((nI o0_values_n) ≤ v2_6 → k_32 v2_6 g_o1_q_1_7 f_o1_bytes_q_8) ∧ (¬ (nI o0_values_n) ≤ v2_6 → vp_in v2_6 o0_values_n ∧ (w_BR_add g_o1_q_1_7 o1_bytes_n f_o1_bytes_q_8 (o0_values v2_6.toNatClampNeg) (fun (g_9 : Int32) (f_10 : Nat → Int32) => w_TE_writePlain_7 o0_values_n o0_values o1_bytes_n k_32 n (v2_6 + 1) g_9 f_10)))
def w_TE_writePlain (o0_width : Int32) (o0_height : Int32) (o0_values_n : Nat) (o0_values : Nat → Int32) (o1_count : Int32) (o1_bytes_n : Nat) (o1_bytes : Nat → Int32) (post : Int32 → (Nat → Int32) → Prop) : Prop := w_BR_add o1_count o1_bytes_n o1_bytes 0 (fun (g_1 : Int32) (f_2 : Nat → Int32) => ∃ n_7 : Nat, w_TE_writePlain_7 o0_values_n o0_values o1_bytes_n (fun (v2_6_11 : Int32) (g_o1_q_1_7_12 : Int32) (f_o1_bytes_q_8_13 : Nat → Int32) => post g_o1_q_1_7_12 f_o1_bytes_q_8_13) n_7 0 g_1 f_2)
def rm_TE_writePlain : Room := { frames := 1, cells := 0, slots := 0, locals := 21 }
set_option maxHeartbeats 4000000 in
set_option maxRecDepth 100000 in
theorem c_TE_writePlain (l : Launch) (D : va_G) (cI cZ cL : ClassId) (sz : Nat) (o0_q : Nat) (o0_values_q : Nat) (o1_q : Nat) (o1_bytes_q : Nat) (o0_width : Int32) (o0_height : Int32) (o0_values_n : Nat) (o0_values : Nat → Int32) (o1_count : Int32) (o1_bytes_n : Nat) (o1_bytes : Nat → Int32) {post : Int32 → (Nat → Int32) → Prop} (hw : w_TE_writePlain o0_width o0_height o0_values_n o0_values o1_count o1_bytes_n o1_bytes post) : Met l y_TE_writePlain (Cond.code y_TE_writePlain b_TE_writePlain 3 (none) :: AW) rm_TE_writePlain (va_Pc [.ref o0_q, .ref o1_q] (ST D cI cZ cL [(o0_q, .inr (0, [.int o0_width, .int o0_height, .ref o0_values_q])), (o0_values_q, .inl (cI, o0_values_n, .inl o0_values)), (o1_q, .inr (1, [.ref o1_bytes_q, .int o1_count])), (o1_bytes_q, .inl (cI, o1_bytes_n, .inl o1_bytes))] sz)) (va_Qv (fun (u : Int32 × (Nat → Int32)) => post u.1 u.2) (fun u t => EN D [(o0_q, .inr (0, [.int o0_width, .int o0_height, .ref o0_values_q])), (o0_values_q, .inl (cI, o0_values_n, .inl o0_values)), (o1_q, .inr (1, [.ref o1_bytes_q, .int u.1])), (o1_bytes_q, .inl (cI, o1_bytes_n, .inl u.2))] (va_A [(o0_q, .inr (0, [.int o0_width, .int o0_height, .ref o0_values_q])), (o0_values_q, .inl (cI, o0_values_n, .inl o0_values)), (o1_q, .inr (1, [.ref o1_bytes_q, .int o1_count])), (o1_bytes_q, .inl (cI, o1_bytes_n, .inl o1_bytes))] sz) t) (va_A [(o0_q, .inr (0, [.int o0_width, .int o0_height, .ref o0_values_q])), (o0_values_q, .inl (cI, o0_values_n, .inl o0_values)), (o1_q, .inr (1, [.ref o1_bytes_q, .int o1_count])), (o1_bytes_q, .inl (cI, o1_bytes_n, .inl o1_bytes))] sz)) 0 0 (va_A [(o0_q, .inr (0, [.int o0_width, .int o0_height, .ref o0_values_q])), (o0_values_q, .inl (cI, o0_values_n, .inl o0_values)), (o1_q, .inr (1, [.ref o1_bytes_q, .int o1_count])), (o1_bytes_q, .inl (cI, o1_bytes_n, .inl o1_bytes))] sz) := by
  refine ofM (own := R_TE) (fun A => (va_Qv (fun (u : Int32 × (Nat → Int32)) => post u.1 u.2) (fun u t => EN D [(o0_q, .inr (0, [.int o0_width, .int o0_height, .ref o0_values_q])), (o0_values_q, .inl (cI, o0_values_n, .inl o0_values)), (o1_q, .inr (1, [.ref o1_bytes_q, .int u.1])), (o1_bytes_q, .inl (cI, o1_bytes_n, .inl u.2))] A t) A)) (by decide) rfl (Nat.le_of_ble_eq_true rfl) ?_
  intro p e s m args below meth c A ls Q cx hQ hA hl hP hD hS hinit
  obtain ⟨hx, hb, hml, hrt, hown, hta, hlk, hK, hN⟩ := id cx
  have hl : lv_has ls 3 [(0, .ref o0_q), (1, .ref o1_q)] := hl
  have h00 : va_P D CL [(o0_q, .inr (0, [.int o0_width, .int o0_height, .ref o0_values_q])), (o0_values_q, .inl (cI, o0_values_n, .inl o0_values)), (o1_q, .inr (1, [.ref o1_bytes_q, .int o1_count])), (o1_bytes_q, .inl (cI, o1_bytes_n, .inl o1_bytes))] s.heap := hP
  unfold w_TE_writePlain at hw
  obtain ⟨H, eH⟩ : ∃ H, H = s.heap := ⟨_, rfl⟩
  obtain ⟨locs, eL⟩ : ∃ locs : List Loc, locs = [] := ⟨_, rfl⟩
  have hS : va_S A s.heap H locs := by rw [eH, eL]; exact hS
  have hP : va_P D CL [(o0_q, .inr (0, [.int o0_width, .int o0_height, .ref o0_values_q])), (o0_values_q, .inl (cI, o0_values_n, .inl o0_values)), (o1_q, .inr (1, [.ref o1_bytes_q, .int o1_count])), (o1_bytes_q, .inl (cI, o1_bytes_n, .inl o1_bytes))] H := by rw [eH]; exact hP
  suffices hgo : W p l e rm_TE_writePlain s m args below meth c H locs 0 0 Q (F0 m 0 ls []) by rw [eH, eL] at hgo; exact hgo
  clear eH eL h00
  refine lv_aload_n hx hb d_TE_writePlain_0 rfl (lv_at hl 1 rfl) ?_
  refine lv_iconst (v := 0) hx hb d_TE_writePlain_1 (by decide) ?_
  refine goV (wr := [(o0_q, .inr (0, [.int o0_width, .int o0_height, .ref o0_values_q])), (o0_values_q, .inl (cI, o0_values_n, .inl o0_values))]) (xV (C := R_BR) (ci := 1) (As := [.int 0]) (rest := []) (wc := [(o1_q, .inr (1, [.ref o1_bytes_q, .int o1_count])), (o1_bytes_q, .inl (cI, o1_bytes_n, .inl o1_bytes))]) (A := A) cx (c_BR_add l D cI cZ cL H.size o1_q o1_bytes_q o1_count o1_bytes_n o1_bytes 0 hw) vw_TE_66 md_BR_add ⟨rfl, rfl, Nat.le_of_ble_eq_true rfl, Nat.le_of_ble_eq_true rfl⟩ (hP.sub [2, 3] rfl) (hD.sub [2, 3] (by decide) rfl) 0 rfl rfl rfl hl.1 (Nat.le_of_ble_eq_true rfl) d_TE_writePlain_2 ⟨Nat.le_of_ble_eq_true rfl, Nat.le_of_ble_eq_true rfl⟩ rfl) hP hD hS hA [2, 3] [0, 1] rfl rfl (by decide) (by decide) (fun u H locs hw hP hD hS => ?_)
  obtain ⟨g_1, f_2⟩ := u
  try dsimp only at hw
  have hP : va_P D CL [(o0_q, .inr (0, [.int o0_width, .int o0_height, .ref o0_values_q])), (o0_values_q, .inl (cI, o0_values_n, .inl o0_values)), (o1_q, .inr (1, [.ref o1_bytes_q, .int g_1])), (o1_bytes_q, .inl (cI, o1_bytes_n, .inl f_2))] H := hP
  have hD : va_D A [(o0_q, .inr (0, [.int o0_width, .int o0_height, .ref o0_values_q])), (o0_values_q, .inl (cI, o0_values_n, .inl o0_values)), (o1_q, .inr (1, [.ref o1_bytes_q, .int g_1])), (o1_bytes_q, .inl (cI, o1_bytes_n, .inl f_2))] := hD
  refine lv_iconst (v := 0) hx hb d_TE_writePlain_5 (by decide) ?_
  refine lv_istore_n (lv' := [(2, .int 0), (0, .ref o0_q), (1, .ref o1_q)]) hx hb d_TE_writePlain_6 rfl hl (by decide) rfl (fun ls hl => ?_)
  have L7 : ∀ (k_32 : Int32 → Int32 → (Nat → Int32) → Prop) (hk_32 : ∀ (v2_6 : Int32) (g_o1_q_1_7 : Int32) (f_o1_bytes_q_8 : Nat → Int32) (H : Heap) (locs : List Loc) (ls : Array Slot), lv_has ls 3 [(2, .int v2_6), (0, .ref o0_q), (1, .ref o1_q)] → va_P D CL [(o0_q, .inr (0, [.int o0_width, .int o0_height, .ref o0_values_q])), (o0_values_q, .inl (cI, o0_values_n, .inl o0_values)), (o1_q, .inr (1, [.ref o1_bytes_q, .int g_o1_q_1_7])), (o1_bytes_q, .inl (cI, o1_bytes_n, .inl f_o1_bytes_q_8))] H → va_D A [(o0_q, .inr (0, [.int o0_width, .int o0_height, .ref o0_values_q])), (o0_values_q, .inl (cI, o0_values_n, .inl o0_values)), (o1_q, .inr (1, [.ref o1_bytes_q, .int g_o1_q_1_7])), (o1_bytes_q, .inl (cI, o1_bytes_n, .inl f_o1_bytes_q_8))] → va_S A s.heap H locs → k_32 v2_6 g_o1_q_1_7 f_o1_bytes_q_8 → W p l e rm_TE_writePlain s m args below meth c H locs 0 0 Q (F0 m 32 ls [])), ∀ (n : Nat) (v2_6 : Int32) (g_o1_q_1_7 : Int32) (f_o1_bytes_q_8 : Nat → Int32) (H : Heap) (locs : List Loc) (ls : Array Slot), lv_has ls 3 [(2, .int v2_6), (0, .ref o0_q), (1, .ref o1_q)] → va_P D CL [(o0_q, .inr (0, [.int o0_width, .int o0_height, .ref o0_values_q])), (o0_values_q, .inl (cI, o0_values_n, .inl o0_values)), (o1_q, .inr (1, [.ref o1_bytes_q, .int g_o1_q_1_7])), (o1_bytes_q, .inl (cI, o1_bytes_n, .inl f_o1_bytes_q_8))] H → va_D A [(o0_q, .inr (0, [.int o0_width, .int o0_height, .ref o0_values_q])), (o0_values_q, .inl (cI, o0_values_n, .inl o0_values)), (o1_q, .inr (1, [.ref o1_bytes_q, .int g_o1_q_1_7])), (o1_bytes_q, .inl (cI, o1_bytes_n, .inl f_o1_bytes_q_8))] → va_S A s.heap H locs → w_TE_writePlain_7 o0_values_n o0_values o1_bytes_n k_32 n v2_6 g_o1_q_1_7 f_o1_bytes_q_8 → W p l e rm_TE_writePlain s m args below meth c H locs 0 0 Q (F0 m 7 ls []) := by
    intro k_32 hk_32 n
    induction n with
    | zero => intro v2_6 g_o1_q_1_7 f_o1_bytes_q_8 H locs ls hl hP hD hS hw; exact hw.elim
    | succ n ih =>
      intro v2_6 g_o1_q_1_7 f_o1_bytes_q_8 H locs ls hl hP hD hS hw
      rw [w_TE_writePlain_7] at hw
      refine lv_iload_n hx hb d_TE_writePlain_7 rfl (lv_at hl 0 rfl) ?_
      refine lv_aload_n hx hb d_TE_writePlain_8 rfl (lv_at hl 1 rfl) ?_
      refine va_getN (D := D) (ci := 0) (v := .ref o0_values_q) (C := R_PI) (T := F_PI) (N := 3) hx hb hta lay_PI hown hK hP 0 rfl rfl 2 (by decide) (va_Nw.use rfl (hN _ kn_TE_54 rfl)) (fun _ h9 => h9) rfl d_TE_writePlain_9 ?_
      refine va_alen (v := nI o0_values_n) hx hb hK hP 1 0 rfl rfl rfl d_TE_writePlain_12 ?_
      refine lv_icmp_ge (tgt := 32) hx hb d_TE_writePlain_13 (by decide) (fun hc_3 => ?_) (fun hc_3 => ?_)
      · have hw := hw.1 hc_3
        exact hk_32 v2_6 g_o1_q_1_7 f_o1_bytes_q_8 _ _ _ (lv_sub hl [0, 1, 2] rfl) (hP.sub [0, 1, 2, 3] rfl) (hD.sub [0, 1, 2, 3] (by decide) rfl) hS hw
      · have hw := hw.2 hc_3
        refine lv_aload_n hx hb d_TE_writePlain_16 rfl (lv_at hl 2 rfl) ?_
        refine lv_aload_n hx hb d_TE_writePlain_17 rfl (lv_at hl 1 rfl) ?_
        refine va_getN (D := D) (ci := 0) (v := .ref o0_values_q) (C := R_PI) (T := F_PI) (N := 3) hx hb hta lay_PI hown hK hP 0 rfl rfl 2 (by decide) (va_Nw.use rfl (hN _ kn_TE_54 rfl)) (fun _ h9 => h9) rfl d_TE_writePlain_18 ?_
        refine lv_iload_n hx hb d_TE_writePlain_21 rfl (lv_at hl 0 rfl) ?_
        refine va_iald hx hb hK hP 1 0 rfl rfl hw.1 d_TE_writePlain_22 ?_
        have hw := hw.2
        refine goV (wr := [(o0_q, .inr (0, [.int o0_width, .int o0_height, .ref o0_values_q])), (o0_values_q, .inl (cI, o0_values_n, .inl o0_values))]) (xV (C := R_BR) (ci := 1) (As := [.int (o0_values v2_6.toNatClampNeg)]) (rest := []) (wc := [(o1_q, .inr (1, [.ref o1_bytes_q, .int g_o1_q_1_7])), (o1_bytes_q, .inl (cI, o1_bytes_n, .inl f_o1_bytes_q_8))]) (A := A) cx (c_BR_add l D cI cZ cL H.size o1_q o1_bytes_q g_o1_q_1_7 o1_bytes_n f_o1_bytes_q_8 (o0_values v2_6.toNatClampNeg) hw) vw_TE_66 md_BR_add ⟨rfl, rfl, Nat.le_of_ble_eq_true rfl, Nat.le_of_ble_eq_true rfl⟩ (hP.sub [2, 3] rfl) (hD.sub [2, 3] (by decide) rfl) 0 rfl rfl rfl hl.1 (Nat.le_of_ble_eq_true rfl) d_TE_writePlain_23 ⟨Nat.le_of_ble_eq_true rfl, Nat.le_of_ble_eq_true rfl⟩ rfl) hP hD hS hA [2, 3] [0, 1] rfl rfl (by decide) (by decide) (fun u H locs hw hP hD hS => ?_)
        obtain ⟨g_9, f_10⟩ := u
        try dsimp only at hw
        have hP : va_P D CL [(o0_q, .inr (0, [.int o0_width, .int o0_height, .ref o0_values_q])), (o0_values_q, .inl (cI, o0_values_n, .inl o0_values)), (o1_q, .inr (1, [.ref o1_bytes_q, .int g_9])), (o1_bytes_q, .inl (cI, o1_bytes_n, .inl f_10))] H := hP
        have hD : va_D A [(o0_q, .inr (0, [.int o0_width, .int o0_height, .ref o0_values_q])), (o0_values_q, .inl (cI, o0_values_n, .inl o0_values)), (o1_q, .inr (1, [.ref o1_bytes_q, .int g_9])), (o1_bytes_q, .inl (cI, o1_bytes_n, .inl f_10))] := hD
        refine lv_iinc (v := v2_6 + 1) (lv' := [(2, .int (v2_6 + 1)), (0, .ref o0_q), (1, .ref o1_q)]) hx hb d_TE_writePlain_26 hl (k := 0) rfl rfl (by decide) rfl (fun ls hl => ?_)
        refine lv_goto (tgt := 7) hx hb d_TE_writePlain_29 (by decide) ?_
        exact ih (v2_6 + 1) g_9 f_10 _ _ _ (lv_sub hl [0, 1, 2] rfl) (hP.sub [0, 1, 2, 3] rfl) (hD.sub [0, 1, 2, 3] (by decide) rfl) hS hw
  obtain ⟨n_7, hw⟩ := hw
  refine L7 _ (fun v2_6_11 g_o1_q_1_7_12 f_o1_bytes_q_8_13 H locs ls hl hP hD hS hw => ?_) n_7 0 g_1 f_2 _ _ _ (lv_sub hl [0, 1, 2] rfl) (hP.sub [0, 1, 2, 3] rfl) (hD.sub [0, 1, 2, 3] (by decide) rfl) hS hw
  have hl : lv_has ls 3 [(2, .int v2_6_11), (0, .ref o0_q), (1, .ref o1_q)] := hl
  have hP : va_P D CL [(o0_q, .inr (0, [.int o0_width, .int o0_height, .ref o0_values_q])), (o0_values_q, .inl (cI, o0_values_n, .inl o0_values)), (o1_q, .inr (1, [.ref o1_bytes_q, .int g_o1_q_1_7_12])), (o1_bytes_q, .inl (cI, o1_bytes_n, .inl f_o1_bytes_q_8_13))] H := hP
  have hD : va_D A [(o0_q, .inr (0, [.int o0_width, .int o0_height, .ref o0_values_q])), (o0_values_q, .inl (cI, o0_values_n, .inl o0_values)), (o1_q, .inr (1, [.ref o1_bytes_q, .int g_o1_q_1_7_12])), (o1_bytes_q, .inl (cI, o1_bytes_n, .inl f_o1_bytes_q_8_13))] := hD
  try dsimp only at hw
  exact retV cx hQ d_TE_writePlain_32 (g_o1_q_1_7_12, f_o1_bytes_q_8_13) hw (hP.sub [0, 1, 2, 3] rfl) (hD.sub [0, 1, 2, 3] (by decide) rfl) hS
def w_TE_openAllBut_2 (x1 : Int32) (o0_open_n : Nat) (o2_values_n : Nat) (o2_values : Nat → Int32) (k_47 : Int32 → (Nat → Int32) → Prop) : Nat → Int32 → (Nat → Int32) → Prop
  | 0, _, _ => False
  | n + 1, v3_3, f_o0_open_q_4 => ((nI o0_open_n) ≤ v3_3 → k_47 v3_3 f_o0_open_q_4) ∧ (¬ (nI o0_open_n) ≤ v3_3 → ((nI o2_values_n) ≤ v3_3 → k_47 v3_3 f_o0_open_q_4) ∧ (¬ (nI o2_values_n) ≤ v3_3 → vp_in v3_3 o2_values_n ∧ (((o2_values v3_3.toNatClampNeg) = x1 → vp_in v3_3 o0_open_n ∧ (w_TE_openAllBut_2 x1 o0_open_n o2_values_n o2_values k_47 n (v3_3 + 1) (upd f_o0_open_q_4 v3_3.toNatClampNeg (vp_nar .boolean 0)))) ∧ (¬ (o2_values v3_3.toNatClampNeg) = x1 → vp_in v3_3 o0_open_n ∧ (w_TE_openAllBut_2 x1 o0_open_n o2_values_n o2_values k_47 n (v3_3 + 1) (upd f_o0_open_q_4 v3_3.toNatClampNeg (vp_nar .boolean 1)))))))
def w_TE_openAllBut (o0_plain : Int32) (o0_open_n : Nat) (o0_open : Nat → Int32) (o0_counts_n : Nat) (o0_counts : Nat → Int32) (o0_found_count : Int32) (o0_found_byteLength : Int32) (o0_found_fields_n : Nat) (o0_found_fields : Nat → Int32) (o2_width : Int32) (o2_height : Int32) (o2_values_n : Nat) (o2_values : Nat → Int32) (x1 : Int32) (post : (Nat → Int32) → Prop) : Prop := ∃ n_2 : Nat, w_TE_openAllBut_2 x1 o0_open_n o2_values_n o2_values (fun (v3_3_5 : Int32) (f_o0_open_q_4_6 : Nat → Int32) => post f_o0_open_q_4_6) n_2 0 o0_open
def rm_TE_openAllBut : Room := { frames := 0, cells := 0, slots := 0, locals := 0 }
set_option maxHeartbeats 4000000 in
set_option maxRecDepth 100000 in
theorem c_TE_openAllBut (l : Launch) (D : va_G) (cI cZ cL : ClassId) (sz : Nat) (o0_q : Nat) (o0_open_q : Nat) (o0_counts_q : Nat) (o0_found_q : Nat) (o0_found_fields_q : Nat) (o2_q : Nat) (o2_values_q : Nat) (o0_plain : Int32) (o0_open_n : Nat) (o0_open : Nat → Int32) (o0_counts_n : Nat) (o0_counts : Nat → Int32) (o0_found_count : Int32) (o0_found_byteLength : Int32) (o0_found_fields_n : Nat) (o0_found_fields : Nat → Int32) (o2_width : Int32) (o2_height : Int32) (o2_values_n : Nat) (o2_values : Nat → Int32) (x1 : Int32) {post : (Nat → Int32) → Prop} (hw : w_TE_openAllBut o0_plain o0_open_n o0_open o0_counts_n o0_counts o0_found_count o0_found_byteLength o0_found_fields_n o0_found_fields o2_width o2_height o2_values_n o2_values x1 post) : Met l y_TE_openAllBut (Cond.code y_TE_openAllBut b_TE_openAllBut 4 (none) :: AW) rm_TE_openAllBut (va_Pc [.ref o0_q, .int x1, .ref o2_q] (ST D cI cZ cL [(o0_q, .inr (3, [.ref o0_open_q, .ref o0_counts_q, .ref o0_found_q, .int o0_plain])), (o0_open_q, .inl (cZ, o0_open_n, .inl o0_open)), (o0_counts_q, .inl (cI, o0_counts_n, .inl o0_counts)), (o0_found_q, .inr (2, [.ref o0_found_fields_q, .int o0_found_count, .int o0_found_byteLength])), (o0_found_fields_q, .inl (cI, o0_found_fields_n, .inl o0_found_fields)), (o2_q, .inr (0, [.int o2_width, .int o2_height, .ref o2_values_q])), (o2_values_q, .inl (cI, o2_values_n, .inl o2_values))] sz)) (va_Qv (fun (u : (Nat → Int32)) => post u) (fun u t => EN D [(o0_q, .inr (3, [.ref o0_open_q, .ref o0_counts_q, .ref o0_found_q, .int o0_plain])), (o0_open_q, .inl (cZ, o0_open_n, .inl u)), (o0_counts_q, .inl (cI, o0_counts_n, .inl o0_counts)), (o0_found_q, .inr (2, [.ref o0_found_fields_q, .int o0_found_count, .int o0_found_byteLength])), (o0_found_fields_q, .inl (cI, o0_found_fields_n, .inl o0_found_fields)), (o2_q, .inr (0, [.int o2_width, .int o2_height, .ref o2_values_q])), (o2_values_q, .inl (cI, o2_values_n, .inl o2_values))] (va_A [(o0_q, .inr (3, [.ref o0_open_q, .ref o0_counts_q, .ref o0_found_q, .int o0_plain])), (o0_open_q, .inl (cZ, o0_open_n, .inl o0_open)), (o0_counts_q, .inl (cI, o0_counts_n, .inl o0_counts)), (o0_found_q, .inr (2, [.ref o0_found_fields_q, .int o0_found_count, .int o0_found_byteLength])), (o0_found_fields_q, .inl (cI, o0_found_fields_n, .inl o0_found_fields)), (o2_q, .inr (0, [.int o2_width, .int o2_height, .ref o2_values_q])), (o2_values_q, .inl (cI, o2_values_n, .inl o2_values))] sz) t) (va_A [(o0_q, .inr (3, [.ref o0_open_q, .ref o0_counts_q, .ref o0_found_q, .int o0_plain])), (o0_open_q, .inl (cZ, o0_open_n, .inl o0_open)), (o0_counts_q, .inl (cI, o0_counts_n, .inl o0_counts)), (o0_found_q, .inr (2, [.ref o0_found_fields_q, .int o0_found_count, .int o0_found_byteLength])), (o0_found_fields_q, .inl (cI, o0_found_fields_n, .inl o0_found_fields)), (o2_q, .inr (0, [.int o2_width, .int o2_height, .ref o2_values_q])), (o2_values_q, .inl (cI, o2_values_n, .inl o2_values))] sz)) 0 0 (va_A [(o0_q, .inr (3, [.ref o0_open_q, .ref o0_counts_q, .ref o0_found_q, .int o0_plain])), (o0_open_q, .inl (cZ, o0_open_n, .inl o0_open)), (o0_counts_q, .inl (cI, o0_counts_n, .inl o0_counts)), (o0_found_q, .inr (2, [.ref o0_found_fields_q, .int o0_found_count, .int o0_found_byteLength])), (o0_found_fields_q, .inl (cI, o0_found_fields_n, .inl o0_found_fields)), (o2_q, .inr (0, [.int o2_width, .int o2_height, .ref o2_values_q])), (o2_values_q, .inl (cI, o2_values_n, .inl o2_values))] sz) := by
  refine ofM (own := R_TE) (fun A => (va_Qv (fun (u : (Nat → Int32)) => post u) (fun u t => EN D [(o0_q, .inr (3, [.ref o0_open_q, .ref o0_counts_q, .ref o0_found_q, .int o0_plain])), (o0_open_q, .inl (cZ, o0_open_n, .inl u)), (o0_counts_q, .inl (cI, o0_counts_n, .inl o0_counts)), (o0_found_q, .inr (2, [.ref o0_found_fields_q, .int o0_found_count, .int o0_found_byteLength])), (o0_found_fields_q, .inl (cI, o0_found_fields_n, .inl o0_found_fields)), (o2_q, .inr (0, [.int o2_width, .int o2_height, .ref o2_values_q])), (o2_values_q, .inl (cI, o2_values_n, .inl o2_values))] A t) A)) (by decide) rfl (Nat.le_of_ble_eq_true rfl) ?_
  intro p e s m args below meth c A ls Q cx hQ hA hl hP hD hS hinit
  obtain ⟨hx, hb, hml, hrt, hown, hta, hlk, hK, hN⟩ := id cx
  have hl : lv_has ls 4 [(0, .ref o0_q), (1, .int x1), (2, .ref o2_q)] := hl
  have h00 : va_P D CL [(o0_q, .inr (3, [.ref o0_open_q, .ref o0_counts_q, .ref o0_found_q, .int o0_plain])), (o0_open_q, .inl (cZ, o0_open_n, .inl o0_open)), (o0_counts_q, .inl (cI, o0_counts_n, .inl o0_counts)), (o0_found_q, .inr (2, [.ref o0_found_fields_q, .int o0_found_count, .int o0_found_byteLength])), (o0_found_fields_q, .inl (cI, o0_found_fields_n, .inl o0_found_fields)), (o2_q, .inr (0, [.int o2_width, .int o2_height, .ref o2_values_q])), (o2_values_q, .inl (cI, o2_values_n, .inl o2_values))] s.heap := hP
  unfold w_TE_openAllBut at hw
  obtain ⟨H, eH⟩ : ∃ H, H = s.heap := ⟨_, rfl⟩
  obtain ⟨locs, eL⟩ : ∃ locs : List Loc, locs = [] := ⟨_, rfl⟩
  have hS : va_S A s.heap H locs := by rw [eH, eL]; exact hS
  have hP : va_P D CL [(o0_q, .inr (3, [.ref o0_open_q, .ref o0_counts_q, .ref o0_found_q, .int o0_plain])), (o0_open_q, .inl (cZ, o0_open_n, .inl o0_open)), (o0_counts_q, .inl (cI, o0_counts_n, .inl o0_counts)), (o0_found_q, .inr (2, [.ref o0_found_fields_q, .int o0_found_count, .int o0_found_byteLength])), (o0_found_fields_q, .inl (cI, o0_found_fields_n, .inl o0_found_fields)), (o2_q, .inr (0, [.int o2_width, .int o2_height, .ref o2_values_q])), (o2_values_q, .inl (cI, o2_values_n, .inl o2_values))] H := by rw [eH]; exact hP
  suffices hgo : W p l e rm_TE_openAllBut s m args below meth c H locs 0 0 Q (F0 m 0 ls []) by rw [eH, eL] at hgo; exact hgo
  clear eH eL h00
  refine lv_iconst (v := 0) hx hb d_TE_openAllBut_0 (by decide) ?_
  refine lv_istore_n (lv' := [(3, .int 0), (0, .ref o0_q), (1, .int x1), (2, .ref o2_q)]) hx hb d_TE_openAllBut_1 rfl hl (by decide) rfl (fun ls hl => ?_)
  have L2 : ∀ (k_47 : Int32 → (Nat → Int32) → Prop) (hk_47 : ∀ (v3_3 : Int32) (f_o0_open_q_4 : Nat → Int32) (H : Heap) (locs : List Loc) (ls : Array Slot), lv_has ls 4 [(3, .int v3_3), (0, .ref o0_q), (1, .int x1), (2, .ref o2_q)] → va_P D CL [(o0_q, .inr (3, [.ref o0_open_q, .ref o0_counts_q, .ref o0_found_q, .int o0_plain])), (o0_open_q, .inl (cZ, o0_open_n, .inl f_o0_open_q_4)), (o0_counts_q, .inl (cI, o0_counts_n, .inl o0_counts)), (o0_found_q, .inr (2, [.ref o0_found_fields_q, .int o0_found_count, .int o0_found_byteLength])), (o0_found_fields_q, .inl (cI, o0_found_fields_n, .inl o0_found_fields)), (o2_q, .inr (0, [.int o2_width, .int o2_height, .ref o2_values_q])), (o2_values_q, .inl (cI, o2_values_n, .inl o2_values))] H → va_D A [(o0_q, .inr (3, [.ref o0_open_q, .ref o0_counts_q, .ref o0_found_q, .int o0_plain])), (o0_open_q, .inl (cZ, o0_open_n, .inl f_o0_open_q_4)), (o0_counts_q, .inl (cI, o0_counts_n, .inl o0_counts)), (o0_found_q, .inr (2, [.ref o0_found_fields_q, .int o0_found_count, .int o0_found_byteLength])), (o0_found_fields_q, .inl (cI, o0_found_fields_n, .inl o0_found_fields)), (o2_q, .inr (0, [.int o2_width, .int o2_height, .ref o2_values_q])), (o2_values_q, .inl (cI, o2_values_n, .inl o2_values))] → va_S A s.heap H locs → k_47 v3_3 f_o0_open_q_4 → W p l e rm_TE_openAllBut s m args below meth c H locs 0 0 Q (F0 m 47 ls [])), ∀ (n : Nat) (v3_3 : Int32) (f_o0_open_q_4 : Nat → Int32) (H : Heap) (locs : List Loc) (ls : Array Slot), lv_has ls 4 [(3, .int v3_3), (0, .ref o0_q), (1, .int x1), (2, .ref o2_q)] → va_P D CL [(o0_q, .inr (3, [.ref o0_open_q, .ref o0_counts_q, .ref o0_found_q, .int o0_plain])), (o0_open_q, .inl (cZ, o0_open_n, .inl f_o0_open_q_4)), (o0_counts_q, .inl (cI, o0_counts_n, .inl o0_counts)), (o0_found_q, .inr (2, [.ref o0_found_fields_q, .int o0_found_count, .int o0_found_byteLength])), (o0_found_fields_q, .inl (cI, o0_found_fields_n, .inl o0_found_fields)), (o2_q, .inr (0, [.int o2_width, .int o2_height, .ref o2_values_q])), (o2_values_q, .inl (cI, o2_values_n, .inl o2_values))] H → va_D A [(o0_q, .inr (3, [.ref o0_open_q, .ref o0_counts_q, .ref o0_found_q, .int o0_plain])), (o0_open_q, .inl (cZ, o0_open_n, .inl f_o0_open_q_4)), (o0_counts_q, .inl (cI, o0_counts_n, .inl o0_counts)), (o0_found_q, .inr (2, [.ref o0_found_fields_q, .int o0_found_count, .int o0_found_byteLength])), (o0_found_fields_q, .inl (cI, o0_found_fields_n, .inl o0_found_fields)), (o2_q, .inr (0, [.int o2_width, .int o2_height, .ref o2_values_q])), (o2_values_q, .inl (cI, o2_values_n, .inl o2_values))] → va_S A s.heap H locs → w_TE_openAllBut_2 x1 o0_open_n o2_values_n o2_values k_47 n v3_3 f_o0_open_q_4 → W p l e rm_TE_openAllBut s m args below meth c H locs 0 0 Q (F0 m 2 ls []) := by
    intro k_47 hk_47 n
    induction n with
    | zero => intro v3_3 f_o0_open_q_4 H locs ls hl hP hD hS hw; exact hw.elim
    | succ n ih =>
      intro v3_3 f_o0_open_q_4 H locs ls hl hP hD hS hw
      rw [w_TE_openAllBut_2] at hw
      refine lv_iload_n hx hb d_TE_openAllBut_2 rfl (lv_at hl 0 rfl) ?_
      refine lv_aload_n hx hb d_TE_openAllBut_3 rfl (lv_at hl 1 rfl) ?_
      refine va_get (D := D) (ci := 3) (v := .ref o0_open_q) (C := R_TE) (T := F_TE) (N := 4) hx hb hta lay_TE hown hK hP 0 rfl rfl 0 (by decide) (hta _ k_TE_9) (fun _ h9 => h9) rfl d_TE_openAllBut_4 ?_
      refine va_alen (v := nI o0_open_n) hx hb hK hP 1 1 rfl rfl rfl d_TE_openAllBut_7 ?_
      refine lv_icmp_ge (tgt := 47) hx hb d_TE_openAllBut_8 (by decide) (fun hc_7 => ?_) (fun hc_7 => ?_)
      · have hw := hw.1 hc_7
        exact hk_47 v3_3 f_o0_open_q_4 _ _ _ (lv_sub hl [0, 1, 2, 3] rfl) (hP.sub [0, 1, 2, 3, 4, 5, 6] rfl) (hD.sub [0, 1, 2, 3, 4, 5, 6] (by decide) rfl) hS hw
      · have hw := hw.2 hc_7
        refine lv_iload_n hx hb d_TE_openAllBut_11 rfl (lv_at hl 0 rfl) ?_
        refine lv_aload_n hx hb d_TE_openAllBut_12 rfl (lv_at hl 3 rfl) ?_
        refine va_getN (D := D) (ci := 0) (v := .ref o2_values_q) (C := R_PI) (T := F_PI) (N := 3) hx hb hta lay_PI hown hK hP 5 rfl rfl 2 (by decide) (va_Nw.use rfl (hN _ kn_TE_54 rfl)) (fun _ h9 => h9) rfl d_TE_openAllBut_13 ?_
        refine va_alen (v := nI o2_values_n) hx hb hK hP 6 0 rfl rfl rfl d_TE_openAllBut_16 ?_
        refine lv_icmp_ge (tgt := 47) hx hb d_TE_openAllBut_17 (by decide) (fun hc_8 => ?_) (fun hc_8 => ?_)
        · have hw := hw.1 hc_8
          exact hk_47 v3_3 f_o0_open_q_4 _ _ _ (lv_sub hl [0, 1, 2, 3] rfl) (hP.sub [0, 1, 2, 3, 4, 5, 6] rfl) (hD.sub [0, 1, 2, 3, 4, 5, 6] (by decide) rfl) hS hw
        · have hw := hw.2 hc_8
          refine lv_aload_n hx hb d_TE_openAllBut_20 rfl (lv_at hl 1 rfl) ?_
          refine va_get (D := D) (ci := 3) (v := .ref o0_open_q) (C := R_TE) (T := F_TE) (N := 4) hx hb hta lay_TE hown hK hP 0 rfl rfl 0 (by decide) (hta _ k_TE_9) (fun _ h9 => h9) rfl d_TE_openAllBut_21 ?_
          refine lv_iload_n hx hb d_TE_openAllBut_24 rfl (lv_at hl 0 rfl) ?_
          refine lv_aload_n hx hb d_TE_openAllBut_25 rfl (lv_at hl 3 rfl) ?_
          refine va_getN (D := D) (ci := 0) (v := .ref o2_values_q) (C := R_PI) (T := F_PI) (N := 3) hx hb hta lay_PI hown hK hP 5 rfl rfl 2 (by decide) (va_Nw.use rfl (hN _ kn_TE_54 rfl)) (fun _ h9 => h9) rfl d_TE_openAllBut_26 ?_
          refine lv_iload_n hx hb d_TE_openAllBut_29 rfl (lv_at hl 0 rfl) ?_
          refine va_iald hx hb hK hP 6 0 rfl rfl hw.1 d_TE_openAllBut_30 ?_
          have hw := hw.2
          refine lv_iload_n hx hb d_TE_openAllBut_31 rfl (lv_at hl 2 rfl) ?_
          refine lv_icmp_eq (tgt := 39) hx hb d_TE_openAllBut_32 (by decide) (fun hc_9 => ?_) (fun hc_9 => ?_)
          · have hw := hw.1 hc_9
            refine lv_iconst (v := 0) hx hb d_TE_openAllBut_39 (by decide) ?_
            refine va_zast hx hb hK hP hD hS 1 1 rfl rfl hw.1 d_TE_openAllBut_40 (fun H locs hP hD hS => ?_)
            have hw := hw.2
            have hP : va_P D CL [(o0_q, .inr (3, [.ref o0_open_q, .ref o0_counts_q, .ref o0_found_q, .int o0_plain])), (o0_open_q, .inl (cZ, o0_open_n, .inl (upd f_o0_open_q_4 v3_3.toNatClampNeg (vp_nar .boolean 0)))), (o0_counts_q, .inl (cI, o0_counts_n, .inl o0_counts)), (o0_found_q, .inr (2, [.ref o0_found_fields_q, .int o0_found_count, .int o0_found_byteLength])), (o0_found_fields_q, .inl (cI, o0_found_fields_n, .inl o0_found_fields)), (o2_q, .inr (0, [.int o2_width, .int o2_height, .ref o2_values_q])), (o2_values_q, .inl (cI, o2_values_n, .inl o2_values))] H := hP
            have hD : va_D A [(o0_q, .inr (3, [.ref o0_open_q, .ref o0_counts_q, .ref o0_found_q, .int o0_plain])), (o0_open_q, .inl (cZ, o0_open_n, .inl (upd f_o0_open_q_4 v3_3.toNatClampNeg (vp_nar .boolean 0)))), (o0_counts_q, .inl (cI, o0_counts_n, .inl o0_counts)), (o0_found_q, .inr (2, [.ref o0_found_fields_q, .int o0_found_count, .int o0_found_byteLength])), (o0_found_fields_q, .inl (cI, o0_found_fields_n, .inl o0_found_fields)), (o2_q, .inr (0, [.int o2_width, .int o2_height, .ref o2_values_q])), (o2_values_q, .inl (cI, o2_values_n, .inl o2_values))] := hD
            refine lv_iinc (v := v3_3 + 1) (lv' := [(3, .int (v3_3 + 1)), (0, .ref o0_q), (1, .int x1), (2, .ref o2_q)]) hx hb d_TE_openAllBut_41 hl (k := 0) rfl rfl (by decide) rfl (fun ls hl => ?_)
            refine lv_goto (tgt := 2) hx hb d_TE_openAllBut_44 (by decide) ?_
            exact ih (v3_3 + 1) (upd f_o0_open_q_4 v3_3.toNatClampNeg (vp_nar .boolean 0)) _ _ _ (lv_sub hl [0, 1, 2, 3] rfl) (hP.sub [0, 1, 2, 3, 4, 5, 6] rfl) (hD.sub [0, 1, 2, 3, 4, 5, 6] (by decide) rfl) hS hw
          · have hw := hw.2 hc_9
            refine lv_iconst (v := 1) hx hb d_TE_openAllBut_35 (by decide) ?_
            refine lv_goto (tgt := 40) hx hb d_TE_openAllBut_36 (by decide) ?_
            refine va_zast hx hb hK hP hD hS 1 1 rfl rfl hw.1 d_TE_openAllBut_40 (fun H locs hP hD hS => ?_)
            have hw := hw.2
            have hP : va_P D CL [(o0_q, .inr (3, [.ref o0_open_q, .ref o0_counts_q, .ref o0_found_q, .int o0_plain])), (o0_open_q, .inl (cZ, o0_open_n, .inl (upd f_o0_open_q_4 v3_3.toNatClampNeg (vp_nar .boolean 1)))), (o0_counts_q, .inl (cI, o0_counts_n, .inl o0_counts)), (o0_found_q, .inr (2, [.ref o0_found_fields_q, .int o0_found_count, .int o0_found_byteLength])), (o0_found_fields_q, .inl (cI, o0_found_fields_n, .inl o0_found_fields)), (o2_q, .inr (0, [.int o2_width, .int o2_height, .ref o2_values_q])), (o2_values_q, .inl (cI, o2_values_n, .inl o2_values))] H := hP
            have hD : va_D A [(o0_q, .inr (3, [.ref o0_open_q, .ref o0_counts_q, .ref o0_found_q, .int o0_plain])), (o0_open_q, .inl (cZ, o0_open_n, .inl (upd f_o0_open_q_4 v3_3.toNatClampNeg (vp_nar .boolean 1)))), (o0_counts_q, .inl (cI, o0_counts_n, .inl o0_counts)), (o0_found_q, .inr (2, [.ref o0_found_fields_q, .int o0_found_count, .int o0_found_byteLength])), (o0_found_fields_q, .inl (cI, o0_found_fields_n, .inl o0_found_fields)), (o2_q, .inr (0, [.int o2_width, .int o2_height, .ref o2_values_q])), (o2_values_q, .inl (cI, o2_values_n, .inl o2_values))] := hD
            refine lv_iinc (v := v3_3 + 1) (lv' := [(3, .int (v3_3 + 1)), (0, .ref o0_q), (1, .int x1), (2, .ref o2_q)]) hx hb d_TE_openAllBut_41 hl (k := 0) rfl rfl (by decide) rfl (fun ls hl => ?_)
            refine lv_goto (tgt := 2) hx hb d_TE_openAllBut_44 (by decide) ?_
            exact ih (v3_3 + 1) (upd f_o0_open_q_4 v3_3.toNatClampNeg (vp_nar .boolean 1)) _ _ _ (lv_sub hl [0, 1, 2, 3] rfl) (hP.sub [0, 1, 2, 3, 4, 5, 6] rfl) (hD.sub [0, 1, 2, 3, 4, 5, 6] (by decide) rfl) hS hw
  obtain ⟨n_2, hw⟩ := hw
  refine L2 _ (fun v3_3_5 f_o0_open_q_4_6 H locs ls hl hP hD hS hw => ?_) n_2 0 o0_open _ _ _ (lv_sub hl [0, 1, 2, 3] rfl) (hP.sub [0, 1, 2, 3, 4, 5, 6] rfl) (hD.sub [0, 1, 2, 3, 4, 5, 6] (by decide) rfl) hS hw
  have hl : lv_has ls 4 [(3, .int v3_3_5), (0, .ref o0_q), (1, .int x1), (2, .ref o2_q)] := hl
  have hP : va_P D CL [(o0_q, .inr (3, [.ref o0_open_q, .ref o0_counts_q, .ref o0_found_q, .int o0_plain])), (o0_open_q, .inl (cZ, o0_open_n, .inl f_o0_open_q_4_6)), (o0_counts_q, .inl (cI, o0_counts_n, .inl o0_counts)), (o0_found_q, .inr (2, [.ref o0_found_fields_q, .int o0_found_count, .int o0_found_byteLength])), (o0_found_fields_q, .inl (cI, o0_found_fields_n, .inl o0_found_fields)), (o2_q, .inr (0, [.int o2_width, .int o2_height, .ref o2_values_q])), (o2_values_q, .inl (cI, o2_values_n, .inl o2_values))] H := hP
  have hD : va_D A [(o0_q, .inr (3, [.ref o0_open_q, .ref o0_counts_q, .ref o0_found_q, .int o0_plain])), (o0_open_q, .inl (cZ, o0_open_n, .inl f_o0_open_q_4_6)), (o0_counts_q, .inl (cI, o0_counts_n, .inl o0_counts)), (o0_found_q, .inr (2, [.ref o0_found_fields_q, .int o0_found_count, .int o0_found_byteLength])), (o0_found_fields_q, .inl (cI, o0_found_fields_n, .inl o0_found_fields)), (o2_q, .inr (0, [.int o2_width, .int o2_height, .ref o2_values_q])), (o2_values_q, .inl (cI, o2_values_n, .inl o2_values))] := hD
  try dsimp only at hw
  exact retV cx hQ d_TE_openAllBut_47 f_o0_open_q_4_6 hw (hP.sub [0, 1, 2, 3, 4, 5, 6] rfl) (hD.sub [0, 1, 2, 3, 4, 5, 6] (by decide) rfl) hS
def w_TE_isOpen (o0_plain : Int32) (o0_open_n : Nat) (o0_open : Nat → Int32) (o0_counts_n : Nat) (o0_counts : Nat → Int32) (o0_found_count : Int32) (o0_found_byteLength : Int32) (o0_found_fields_n : Nat) (o0_found_fields : Nat → Int32) (o1_width : Int32) (o1_height : Int32) (o1_values_n : Nat) (o1_values : Nat → Int32) (x2 : Int32) (x3 : Int32) (post : Int32 → Prop) : Prop := w_PI_has o1_width o1_height o1_values_n o1_values x2 x3 (fun r_1 => (r_1 = 0 → narrow .boolean (.int 0) = .int 0 ∧ post 0) ∧ (¬ r_1 = 0 → (((x3 * o1_width) + x2) < 0 → narrow .boolean (.int 0) = .int 0 ∧ post 0) ∧ (¬ ((x3 * o1_width) + x2) < 0 → ((nI o0_open_n) ≤ ((x3 * o1_width) + x2) → narrow .boolean (.int 0) = .int 0 ∧ post 0) ∧ (¬ (nI o0_open_n) ≤ ((x3 * o1_width) + x2) → vp_in ((x3 * o1_width) + x2) o0_open_n ∧ (((o0_open ((x3 * o1_width) + x2).toNatClampNeg) = 0 → narrow .boolean (.int 0) = .int 0 ∧ post 0) ∧ (¬ (o0_open ((x3 * o1_width) + x2).toNatClampNeg) = 0 → narrow .boolean (.int 1) = .int 1 ∧ post 1))))))
def rm_TE_isOpen : Room := { frames := 1, cells := 0, slots := 0, locals := 22 }
set_option maxHeartbeats 4000000 in
set_option maxRecDepth 100000 in
theorem c_TE_isOpen (l : Launch) (D : va_G) (cI cZ cL : ClassId) (sz : Nat) (o0_q : Nat) (o0_open_q : Nat) (o0_counts_q : Nat) (o0_found_q : Nat) (o0_found_fields_q : Nat) (o1_q : Nat) (o1_values_q : Nat) (o0_plain : Int32) (o0_open_n : Nat) (o0_open : Nat → Int32) (o0_counts_n : Nat) (o0_counts : Nat → Int32) (o0_found_count : Int32) (o0_found_byteLength : Int32) (o0_found_fields_n : Nat) (o0_found_fields : Nat → Int32) (o1_width : Int32) (o1_height : Int32) (o1_values_n : Nat) (o1_values : Nat → Int32) (x2 : Int32) (x3 : Int32) {post : Int32 → Prop} (hw : w_TE_isOpen o0_plain o0_open_n o0_open o0_counts_n o0_counts o0_found_count o0_found_byteLength o0_found_fields_n o0_found_fields o1_width o1_height o1_values_n o1_values x2 x3 post) : Met l y_TE_isOpen (Cond.code y_TE_isOpen b_TE_isOpen 5 (some .boolean) :: AW) rm_TE_isOpen (va_Pc [.ref o0_q, .ref o1_q, .int x2, .int x3] (ST D cI cZ cL [(o0_q, .inr (3, [.ref o0_open_q, .ref o0_counts_q, .ref o0_found_q, .int o0_plain])), (o0_open_q, .inl (cZ, o0_open_n, .inl o0_open)), (o0_counts_q, .inl (cI, o0_counts_n, .inl o0_counts)), (o0_found_q, .inr (2, [.ref o0_found_fields_q, .int o0_found_count, .int o0_found_byteLength])), (o0_found_fields_q, .inl (cI, o0_found_fields_n, .inl o0_found_fields)), (o1_q, .inr (0, [.int o1_width, .int o1_height, .ref o1_values_q])), (o1_values_q, .inl (cI, o1_values_n, .inl o1_values))] sz)) (vp_Si post) 0 0 (fun _ => False) := by
  refine ofR (own := R_TE) (vp_Si post) (by decide) rfl (Nat.le_of_ble_eq_true rfl) ?_
  intro p e s m args below meth c A ls Q cx hQ hl hP hD
  obtain ⟨hx, hb, hml, hrt, hown, hta, hlk, hK, hN⟩ := id cx
  have hl : lv_has ls 5 [(0, .ref o0_q), (1, .ref o1_q), (2, .int x2), (3, .int x3)] := hl
  unfold w_TE_isOpen at hw
  refine lv_iload_n hx hb d_TE_isOpen_0 rfl (lv_at hl 3 rfl) ?_
  refine lv_aload_n hx hb d_TE_isOpen_1 rfl (lv_at hl 1 rfl) ?_
  refine va_getN (D := D) (ci := 0) (v := .int o1_width) (C := R_PI) (T := F_PI) (N := 3) hx hb hta lay_PI hown hK hP 5 rfl rfl 0 (by decide) (va_Nw.use rfl (hN _ kn_TE_79 rfl)) (fun _ h9 => h9) rfl d_TE_isOpen_2 ?_
  refine lv_imul hx hb d_TE_isOpen_5 ?_
  refine lv_iload_n hx hb d_TE_isOpen_6 rfl (lv_at hl 2 rfl) ?_
  refine lv_iadd hx hb d_TE_isOpen_7 ?_
  refine lv_istore (lv' := [(4, .int ((x3 * o1_width) + x2)), (0, .ref o0_q), (1, .ref o1_q), (2, .int x2), (3, .int x3)]) hx hb d_TE_isOpen_8 hl (by decide) rfl (fun ls hl => ?_)
  refine lv_aload_n hx hb d_TE_isOpen_10 rfl (lv_at hl 2 rfl) ?_
  refine lv_iload_n hx hb d_TE_isOpen_11 rfl (lv_at hl 3 rfl) ?_
  refine lv_iload_n hx hb d_TE_isOpen_12 rfl (lv_at hl 4 rfl) ?_
  refine goR (xV (C := R_PI) (ci := 0) (As := [.int x2, .int x3]) (rest := []) (wc := [(o1_q, .inr (0, [.int o1_width, .int o1_height, .ref o1_values_q])), (o1_values_q, .inl (cI, o1_values_n, .inl o1_values))]) (A := A) cx (c_PI_has l D cI cZ cL s.heap.size o1_q o1_values_q o1_width o1_height o1_values_n o1_values x2 x3 hw) vw_TE_82 md_PI_has ⟨rfl, rfl, Nat.le_of_ble_eq_true rfl, Nat.le_of_ble_eq_true rfl⟩ (hP.sub [5, 6] rfl) (hD.sub [5, 6] (by decide) rfl) 0 rfl rfl rfl hl.1 (Nat.le_of_ble_eq_true rfl) d_TE_isOpen_13 ⟨Nat.le_of_ble_eq_true rfl, Nat.le_of_ble_eq_true rfl⟩ rfl) (fun r_1 hw => ?_)
  try dsimp only at hw
  refine lv_if_eq (tgt := 48) hx hb d_TE_isOpen_16 (by decide) (fun hc_1 => ?_) (fun hc_1 => ?_)
  · have hw := hw.1 hc_1
    refine lv_iconst (v := 0) hx hb d_TE_isOpen_48 (by decide) ?_
    exact retZr cx hQ d_TE_isOpen_49 hw
  · have hw := hw.2 hc_1
    refine lv_iload hx hb d_TE_isOpen_19 (lv_at hl 0 rfl) ?_
    refine lv_if_lt (tgt := 48) hx hb d_TE_isOpen_21 (by decide) (fun hc_2 => ?_) (fun hc_2 => ?_)
    · have hw := hw.1 hc_2
      refine lv_iconst (v := 0) hx hb d_TE_isOpen_48 (by decide) ?_
      exact retZr cx hQ d_TE_isOpen_49 hw
    · have hw := hw.2 hc_2
      refine lv_iload hx hb d_TE_isOpen_24 (lv_at hl 0 rfl) ?_
      refine lv_aload_n hx hb d_TE_isOpen_26 rfl (lv_at hl 1 rfl) ?_
      refine va_get (D := D) (ci := 3) (v := .ref o0_open_q) (C := R_TE) (T := F_TE) (N := 4) hx hb hta lay_TE hown hK hP 0 rfl rfl 0 (by decide) (hta _ k_TE_9) (fun _ h9 => h9) rfl d_TE_isOpen_27 ?_
      refine va_alen (v := nI o0_open_n) hx hb hK hP 1 1 rfl rfl rfl d_TE_isOpen_30 ?_
      refine lv_icmp_ge (tgt := 48) hx hb d_TE_isOpen_31 (by decide) (fun hc_3 => ?_) (fun hc_3 => ?_)
      · have hw := hw.1 hc_3
        refine lv_iconst (v := 0) hx hb d_TE_isOpen_48 (by decide) ?_
        exact retZr cx hQ d_TE_isOpen_49 hw
      · have hw := hw.2 hc_3
        refine lv_aload_n hx hb d_TE_isOpen_34 rfl (lv_at hl 1 rfl) ?_
        refine va_get (D := D) (ci := 3) (v := .ref o0_open_q) (C := R_TE) (T := F_TE) (N := 4) hx hb hta lay_TE hown hK hP 0 rfl rfl 0 (by decide) (hta _ k_TE_9) (fun _ h9 => h9) rfl d_TE_isOpen_35 ?_
        refine lv_iload hx hb d_TE_isOpen_38 (lv_at hl 0 rfl) ?_
        refine va_zald hx hb hK hP 1 1 rfl rfl hw.1 d_TE_isOpen_40 ?_
        have hw := hw.2
        refine lv_if_eq (tgt := 48) hx hb d_TE_isOpen_41 (by decide) (fun hc_4 => ?_) (fun hc_4 => ?_)
        · have hw := hw.1 hc_4
          refine lv_iconst (v := 0) hx hb d_TE_isOpen_48 (by decide) ?_
          exact retZr cx hQ d_TE_isOpen_49 hw
        · have hw := hw.2 hc_4
          refine lv_iconst (v := 1) hx hb d_TE_isOpen_44 (by decide) ?_
          refine lv_goto (tgt := 49) hx hb d_TE_isOpen_45 (by decide) ?_
          exact retZr cx hQ d_TE_isOpen_49 hw
def w_TE_close_15 (x2 : Int32) (x4 : Int32) (o0_open_n : Nat) (o1_width : Int32) (o1_height : Int32) (o1_values_n : Nat) (o1_values : Nat → Int32) (v6_3 : Int32) (k_76 : Int32 → (Nat → Int32) → Prop) : Nat → Int32 → (Nat → Int32) → Prop
  | 0, _, _ => False
  | n + 1, v7_7, f_o0_open_q_8 => ((x2 + x4) ≤ v7_7 → k_76 v7_7 f_o0_open_q_8) ∧ (¬ (x2 + x4) ≤ v7_7 → w_PI_has o1_width o1_height o1_values_n o1_values v7_7 v6_3 (fun r_9 => (r_9 = 0 → w_TE_close_15 x2 x4 o0_open_n o1_width o1_height o1_values_n o1_values v6_3 k_76 n (v7_7 + 1) f_o0_open_q_8) ∧ (¬ r_9 = 0 → (((v6_3 * o1_width) + v7_7) < 0 → w_TE_close_15 x2 x4 o0_open_n o1_width o1_height o1_values_n o1_values v6_3 k_76 n (v7_7 + 1) f_o0_open_q_8) ∧ (¬ ((v6_3 * o1_width) + v7_7) < 0 → ((nI o0_open_n) ≤ ((v6_3 * o1_width) + v7_7) → w_TE_close_15 x2 x4 o0_open_n o1_width o1_height o1_values_n o1_values v6_3 k_76 n (v7_7 + 1) f_o0_open_q_8) ∧ (¬ (nI o0_open_n) ≤ ((v6_3 * o1_width) + v7_7) → vp_in ((v6_3 * o1_width) + v7_7) o0_open_n ∧ (w_TE_close_15 x2 x4 o0_open_n o1_width o1_height o1_values_n o1_values v6_3 k_76 n (v7_7 + 1) (upd f_o0_open_q_8 ((v6_3 * o1_width) + v7_7).toNatClampNeg (vp_nar .boolean 0))))))))
def w_TE_close_3 (x2 : Int32) (x3 : Int32) (x4 : Int32) (x5 : Int32) (o0_open_n : Nat) (o1_width : Int32) (o1_height : Int32) (o1_values_n : Nat) (o1_values : Nat → Int32) (k_82 : Int32 → (Nat → Int32) → Prop) : Nat → Int32 → (Nat → Int32) → Prop
  | 0, _, _ => False
  | n + 1, v6_3, f_o0_open_q_4 => ((x3 + x5) ≤ v6_3 → k_82 v6_3 f_o0_open_q_4) ∧ (¬ (x3 + x5) ≤ v6_3 → ∃ n_15 : Nat, w_TE_close_15 x2 x4 o0_open_n o1_width o1_height o1_values_n o1_values v6_3 (fun (v7_7_10 : Int32) (f_o0_open_q_8_11 : Nat → Int32) => w_TE_close_3 x2 x3 x4 x5 o0_open_n o1_width o1_height o1_values_n o1_values k_82 n (v6_3 + 1) f_o0_open_q_8_11) n_15 x2 f_o0_open_q_4)
def w_TE_close (o0_plain : Int32) (o0_open_n : Nat) (o0_open : Nat → Int32) (o0_counts_n : Nat) (o0_counts : Nat → Int32) (o0_found_count : Int32) (o0_found_byteLength : Int32) (o0_found_fields_n : Nat) (o0_found_fields : Nat → Int32) (o1_width : Int32) (o1_height : Int32) (o1_values_n : Nat) (o1_values : Nat → Int32) (x2 : Int32) (x3 : Int32) (x4 : Int32) (x5 : Int32) (post : (Nat → Int32) → Prop) : Prop := ∃ n_3 : Nat, w_TE_close_3 x2 x3 x4 x5 o0_open_n o1_width o1_height o1_values_n o1_values (fun (v6_3_12 : Int32) (f_o0_open_q_4_13 : Nat → Int32) => post f_o0_open_q_4_13) n_3 x3 o0_open
def rm_TE_close : Room := { frames := 1, cells := 0, slots := 0, locals := 22 }
set_option maxHeartbeats 4000000 in
set_option maxRecDepth 100000 in
theorem c_TE_close (l : Launch) (D : va_G) (cI cZ cL : ClassId) (sz : Nat) (o0_q : Nat) (o0_open_q : Nat) (o0_counts_q : Nat) (o0_found_q : Nat) (o0_found_fields_q : Nat) (o1_q : Nat) (o1_values_q : Nat) (o0_plain : Int32) (o0_open_n : Nat) (o0_open : Nat → Int32) (o0_counts_n : Nat) (o0_counts : Nat → Int32) (o0_found_count : Int32) (o0_found_byteLength : Int32) (o0_found_fields_n : Nat) (o0_found_fields : Nat → Int32) (o1_width : Int32) (o1_height : Int32) (o1_values_n : Nat) (o1_values : Nat → Int32) (x2 : Int32) (x3 : Int32) (x4 : Int32) (x5 : Int32) {post : (Nat → Int32) → Prop} (hw : w_TE_close o0_plain o0_open_n o0_open o0_counts_n o0_counts o0_found_count o0_found_byteLength o0_found_fields_n o0_found_fields o1_width o1_height o1_values_n o1_values x2 x3 x4 x5 post) : Met l y_TE_close (Cond.code y_TE_close b_TE_close 9 (none) :: AW) rm_TE_close (va_Pc [.ref o0_q, .ref o1_q, .int x2, .int x3, .int x4, .int x5] (ST D cI cZ cL [(o0_q, .inr (3, [.ref o0_open_q, .ref o0_counts_q, .ref o0_found_q, .int o0_plain])), (o0_open_q, .inl (cZ, o0_open_n, .inl o0_open)), (o0_counts_q, .inl (cI, o0_counts_n, .inl o0_counts)), (o0_found_q, .inr (2, [.ref o0_found_fields_q, .int o0_found_count, .int o0_found_byteLength])), (o0_found_fields_q, .inl (cI, o0_found_fields_n, .inl o0_found_fields)), (o1_q, .inr (0, [.int o1_width, .int o1_height, .ref o1_values_q])), (o1_values_q, .inl (cI, o1_values_n, .inl o1_values))] sz)) (va_Qv (fun (u : (Nat → Int32)) => post u) (fun u t => EN D [(o0_q, .inr (3, [.ref o0_open_q, .ref o0_counts_q, .ref o0_found_q, .int o0_plain])), (o0_open_q, .inl (cZ, o0_open_n, .inl u)), (o0_counts_q, .inl (cI, o0_counts_n, .inl o0_counts)), (o0_found_q, .inr (2, [.ref o0_found_fields_q, .int o0_found_count, .int o0_found_byteLength])), (o0_found_fields_q, .inl (cI, o0_found_fields_n, .inl o0_found_fields)), (o1_q, .inr (0, [.int o1_width, .int o1_height, .ref o1_values_q])), (o1_values_q, .inl (cI, o1_values_n, .inl o1_values))] (va_A [(o0_q, .inr (3, [.ref o0_open_q, .ref o0_counts_q, .ref o0_found_q, .int o0_plain])), (o0_open_q, .inl (cZ, o0_open_n, .inl o0_open)), (o0_counts_q, .inl (cI, o0_counts_n, .inl o0_counts)), (o0_found_q, .inr (2, [.ref o0_found_fields_q, .int o0_found_count, .int o0_found_byteLength])), (o0_found_fields_q, .inl (cI, o0_found_fields_n, .inl o0_found_fields)), (o1_q, .inr (0, [.int o1_width, .int o1_height, .ref o1_values_q])), (o1_values_q, .inl (cI, o1_values_n, .inl o1_values))] sz) t) (va_A [(o0_q, .inr (3, [.ref o0_open_q, .ref o0_counts_q, .ref o0_found_q, .int o0_plain])), (o0_open_q, .inl (cZ, o0_open_n, .inl o0_open)), (o0_counts_q, .inl (cI, o0_counts_n, .inl o0_counts)), (o0_found_q, .inr (2, [.ref o0_found_fields_q, .int o0_found_count, .int o0_found_byteLength])), (o0_found_fields_q, .inl (cI, o0_found_fields_n, .inl o0_found_fields)), (o1_q, .inr (0, [.int o1_width, .int o1_height, .ref o1_values_q])), (o1_values_q, .inl (cI, o1_values_n, .inl o1_values))] sz)) 0 0 (va_A [(o0_q, .inr (3, [.ref o0_open_q, .ref o0_counts_q, .ref o0_found_q, .int o0_plain])), (o0_open_q, .inl (cZ, o0_open_n, .inl o0_open)), (o0_counts_q, .inl (cI, o0_counts_n, .inl o0_counts)), (o0_found_q, .inr (2, [.ref o0_found_fields_q, .int o0_found_count, .int o0_found_byteLength])), (o0_found_fields_q, .inl (cI, o0_found_fields_n, .inl o0_found_fields)), (o1_q, .inr (0, [.int o1_width, .int o1_height, .ref o1_values_q])), (o1_values_q, .inl (cI, o1_values_n, .inl o1_values))] sz) := by
  refine ofM (own := R_TE) (fun A => (va_Qv (fun (u : (Nat → Int32)) => post u) (fun u t => EN D [(o0_q, .inr (3, [.ref o0_open_q, .ref o0_counts_q, .ref o0_found_q, .int o0_plain])), (o0_open_q, .inl (cZ, o0_open_n, .inl u)), (o0_counts_q, .inl (cI, o0_counts_n, .inl o0_counts)), (o0_found_q, .inr (2, [.ref o0_found_fields_q, .int o0_found_count, .int o0_found_byteLength])), (o0_found_fields_q, .inl (cI, o0_found_fields_n, .inl o0_found_fields)), (o1_q, .inr (0, [.int o1_width, .int o1_height, .ref o1_values_q])), (o1_values_q, .inl (cI, o1_values_n, .inl o1_values))] A t) A)) (by decide) rfl (Nat.le_of_ble_eq_true rfl) ?_
  intro p e s m args below meth c A ls Q cx hQ hA hl hP hD hS hinit
  obtain ⟨hx, hb, hml, hrt, hown, hta, hlk, hK, hN⟩ := id cx
  have hl : lv_has ls 9 [(0, .ref o0_q), (1, .ref o1_q), (2, .int x2), (3, .int x3), (4, .int x4), (5, .int x5)] := hl
  have h00 : va_P D CL [(o0_q, .inr (3, [.ref o0_open_q, .ref o0_counts_q, .ref o0_found_q, .int o0_plain])), (o0_open_q, .inl (cZ, o0_open_n, .inl o0_open)), (o0_counts_q, .inl (cI, o0_counts_n, .inl o0_counts)), (o0_found_q, .inr (2, [.ref o0_found_fields_q, .int o0_found_count, .int o0_found_byteLength])), (o0_found_fields_q, .inl (cI, o0_found_fields_n, .inl o0_found_fields)), (o1_q, .inr (0, [.int o1_width, .int o1_height, .ref o1_values_q])), (o1_values_q, .inl (cI, o1_values_n, .inl o1_values))] s.heap := hP
  unfold w_TE_close at hw
  obtain ⟨H, eH⟩ : ∃ H, H = s.heap := ⟨_, rfl⟩
  obtain ⟨locs, eL⟩ : ∃ locs : List Loc, locs = [] := ⟨_, rfl⟩
  have hS : va_S A s.heap H locs := by rw [eH, eL]; exact hS
  have hP : va_P D CL [(o0_q, .inr (3, [.ref o0_open_q, .ref o0_counts_q, .ref o0_found_q, .int o0_plain])), (o0_open_q, .inl (cZ, o0_open_n, .inl o0_open)), (o0_counts_q, .inl (cI, o0_counts_n, .inl o0_counts)), (o0_found_q, .inr (2, [.ref o0_found_fields_q, .int o0_found_count, .int o0_found_byteLength])), (o0_found_fields_q, .inl (cI, o0_found_fields_n, .inl o0_found_fields)), (o1_q, .inr (0, [.int o1_width, .int o1_height, .ref o1_values_q])), (o1_values_q, .inl (cI, o1_values_n, .inl o1_values))] H := by rw [eH]; exact hP
  suffices hgo : W p l e rm_TE_close s m args below meth c H locs 0 0 Q (F0 m 0 ls []) by rw [eH, eL] at hgo; exact hgo
  clear eH eL h00
  refine lv_iload_n hx hb d_TE_close_0 rfl (lv_at hl 3 rfl) ?_
  refine lv_istore (lv' := [(6, .int x3), (0, .ref o0_q), (1, .ref o1_q), (2, .int x2), (3, .int x3), (4, .int x4), (5, .int x5)]) hx hb d_TE_close_1 hl (by decide) rfl (fun ls hl => ?_)
  have L3 : ∀ (k_82 : Int32 → (Nat → Int32) → Prop) (hk_82 : ∀ (v6_3 : Int32) (f_o0_open_q_4 : Nat → Int32) (H : Heap) (locs : List Loc) (ls : Array Slot), lv_has ls 9 [(6, .int v6_3), (0, .ref o0_q), (1, .ref o1_q), (2, .int x2), (3, .int x3), (4, .int x4), (5, .int x5)] → va_P D CL [(o0_q, .inr (3, [.ref o0_open_q, .ref o0_counts_q, .ref o0_found_q, .int o0_plain])), (o0_open_q, .inl (cZ, o0_open_n, .inl f_o0_open_q_4)), (o0_counts_q, .inl (cI, o0_counts_n, .inl o0_counts)), (o0_found_q, .inr (2, [.ref o0_found_fields_q, .int o0_found_count, .int o0_found_byteLength])), (o0_found_fields_q, .inl (cI, o0_found_fields_n, .inl o0_found_fields)), (o1_q, .inr (0, [.int o1_width, .int o1_height, .ref o1_values_q])), (o1_values_q, .inl (cI, o1_values_n, .inl o1_values))] H → va_D A [(o0_q, .inr (3, [.ref o0_open_q, .ref o0_counts_q, .ref o0_found_q, .int o0_plain])), (o0_open_q, .inl (cZ, o0_open_n, .inl f_o0_open_q_4)), (o0_counts_q, .inl (cI, o0_counts_n, .inl o0_counts)), (o0_found_q, .inr (2, [.ref o0_found_fields_q, .int o0_found_count, .int o0_found_byteLength])), (o0_found_fields_q, .inl (cI, o0_found_fields_n, .inl o0_found_fields)), (o1_q, .inr (0, [.int o1_width, .int o1_height, .ref o1_values_q])), (o1_values_q, .inl (cI, o1_values_n, .inl o1_values))] → va_S A s.heap H locs → k_82 v6_3 f_o0_open_q_4 → W p l e rm_TE_close s m args below meth c H locs 0 0 Q (F0 m 82 ls [])), ∀ (n : Nat) (v6_3 : Int32) (f_o0_open_q_4 : Nat → Int32) (H : Heap) (locs : List Loc) (ls : Array Slot), lv_has ls 9 [(6, .int v6_3), (0, .ref o0_q), (1, .ref o1_q), (2, .int x2), (3, .int x3), (4, .int x4), (5, .int x5)] → va_P D CL [(o0_q, .inr (3, [.ref o0_open_q, .ref o0_counts_q, .ref o0_found_q, .int o0_plain])), (o0_open_q, .inl (cZ, o0_open_n, .inl f_o0_open_q_4)), (o0_counts_q, .inl (cI, o0_counts_n, .inl o0_counts)), (o0_found_q, .inr (2, [.ref o0_found_fields_q, .int o0_found_count, .int o0_found_byteLength])), (o0_found_fields_q, .inl (cI, o0_found_fields_n, .inl o0_found_fields)), (o1_q, .inr (0, [.int o1_width, .int o1_height, .ref o1_values_q])), (o1_values_q, .inl (cI, o1_values_n, .inl o1_values))] H → va_D A [(o0_q, .inr (3, [.ref o0_open_q, .ref o0_counts_q, .ref o0_found_q, .int o0_plain])), (o0_open_q, .inl (cZ, o0_open_n, .inl f_o0_open_q_4)), (o0_counts_q, .inl (cI, o0_counts_n, .inl o0_counts)), (o0_found_q, .inr (2, [.ref o0_found_fields_q, .int o0_found_count, .int o0_found_byteLength])), (o0_found_fields_q, .inl (cI, o0_found_fields_n, .inl o0_found_fields)), (o1_q, .inr (0, [.int o1_width, .int o1_height, .ref o1_values_q])), (o1_values_q, .inl (cI, o1_values_n, .inl o1_values))] → va_S A s.heap H locs → w_TE_close_3 x2 x3 x4 x5 o0_open_n o1_width o1_height o1_values_n o1_values k_82 n v6_3 f_o0_open_q_4 → W p l e rm_TE_close s m args below meth c H locs 0 0 Q (F0 m 3 ls []) := by
    intro k_82 hk_82 n
    induction n with
    | zero => intro v6_3 f_o0_open_q_4 H locs ls hl hP hD hS hw; exact hw.elim
    | succ n ih =>
      intro v6_3 f_o0_open_q_4 H locs ls hl hP hD hS hw
      rw [w_TE_close_3] at hw
      refine lv_iload hx hb d_TE_close_3 (lv_at hl 0 rfl) ?_
      refine lv_iload_n hx hb d_TE_close_5 rfl (lv_at hl 4 rfl) ?_
      refine lv_iload hx hb d_TE_close_6 (lv_at hl 6 rfl) ?_
      refine lv_iadd hx hb d_TE_close_8 ?_
      refine lv_icmp_ge (tgt := 82) hx hb d_TE_close_9 (by decide) (fun hc_27 => ?_) (fun hc_27 => ?_)
      · have hw := hw.1 hc_27
        exact hk_82 v6_3 f_o0_open_q_4 _ _ _ (lv_sub hl [0, 1, 2, 3, 4, 5, 6] rfl) (hP.sub [0, 1, 2, 3, 4, 5, 6] rfl) (hD.sub [0, 1, 2, 3, 4, 5, 6] (by decide) rfl) hS hw
      · have hw := hw.2 hc_27
        refine lv_iload_n hx hb d_TE_close_12 rfl (lv_at hl 3 rfl) ?_
        refine lv_istore (lv' := [(7, .int x2), (6, .int v6_3), (0, .ref o0_q), (1, .ref o1_q), (2, .int x2), (3, .int x3), (4, .int x4), (5, .int x5)]) hx hb d_TE_close_13 hl (by decide) rfl (fun ls hl => ?_)
        have L15 : ∀ (k_76 : Int32 → (Nat → Int32) → Prop) (hk_76 : ∀ (v7_7 : Int32) (f_o0_open_q_8 : Nat → Int32) (H : Heap) (locs : List Loc) (ls : Array Slot), lv_has ls 9 [(7, .int v7_7), (6, .int v6_3), (0, .ref o0_q), (1, .ref o1_q), (2, .int x2), (3, .int x3), (4, .int x4), (5, .int x5)] → va_P D CL [(o0_q, .inr (3, [.ref o0_open_q, .ref o0_counts_q, .ref o0_found_q, .int o0_plain])), (o0_open_q, .inl (cZ, o0_open_n, .inl f_o0_open_q_8)), (o0_counts_q, .inl (cI, o0_counts_n, .inl o0_counts)), (o0_found_q, .inr (2, [.ref o0_found_fields_q, .int o0_found_count, .int o0_found_byteLength])), (o0_found_fields_q, .inl (cI, o0_found_fields_n, .inl o0_found_fields)), (o1_q, .inr (0, [.int o1_width, .int o1_height, .ref o1_values_q])), (o1_values_q, .inl (cI, o1_values_n, .inl o1_values))] H → va_D A [(o0_q, .inr (3, [.ref o0_open_q, .ref o0_counts_q, .ref o0_found_q, .int o0_plain])), (o0_open_q, .inl (cZ, o0_open_n, .inl f_o0_open_q_8)), (o0_counts_q, .inl (cI, o0_counts_n, .inl o0_counts)), (o0_found_q, .inr (2, [.ref o0_found_fields_q, .int o0_found_count, .int o0_found_byteLength])), (o0_found_fields_q, .inl (cI, o0_found_fields_n, .inl o0_found_fields)), (o1_q, .inr (0, [.int o1_width, .int o1_height, .ref o1_values_q])), (o1_values_q, .inl (cI, o1_values_n, .inl o1_values))] → va_S A s.heap H locs → k_76 v7_7 f_o0_open_q_8 → W p l e rm_TE_close s m args below meth c H locs 0 0 Q (F0 m 76 ls [])), ∀ (n : Nat) (v7_7 : Int32) (f_o0_open_q_8 : Nat → Int32) (H : Heap) (locs : List Loc) (ls : Array Slot), lv_has ls 9 [(7, .int v7_7), (6, .int v6_3), (0, .ref o0_q), (1, .ref o1_q), (2, .int x2), (3, .int x3), (4, .int x4), (5, .int x5)] → va_P D CL [(o0_q, .inr (3, [.ref o0_open_q, .ref o0_counts_q, .ref o0_found_q, .int o0_plain])), (o0_open_q, .inl (cZ, o0_open_n, .inl f_o0_open_q_8)), (o0_counts_q, .inl (cI, o0_counts_n, .inl o0_counts)), (o0_found_q, .inr (2, [.ref o0_found_fields_q, .int o0_found_count, .int o0_found_byteLength])), (o0_found_fields_q, .inl (cI, o0_found_fields_n, .inl o0_found_fields)), (o1_q, .inr (0, [.int o1_width, .int o1_height, .ref o1_values_q])), (o1_values_q, .inl (cI, o1_values_n, .inl o1_values))] H → va_D A [(o0_q, .inr (3, [.ref o0_open_q, .ref o0_counts_q, .ref o0_found_q, .int o0_plain])), (o0_open_q, .inl (cZ, o0_open_n, .inl f_o0_open_q_8)), (o0_counts_q, .inl (cI, o0_counts_n, .inl o0_counts)), (o0_found_q, .inr (2, [.ref o0_found_fields_q, .int o0_found_count, .int o0_found_byteLength])), (o0_found_fields_q, .inl (cI, o0_found_fields_n, .inl o0_found_fields)), (o1_q, .inr (0, [.int o1_width, .int o1_height, .ref o1_values_q])), (o1_values_q, .inl (cI, o1_values_n, .inl o1_values))] → va_S A s.heap H locs → w_TE_close_15 x2 x4 o0_open_n o1_width o1_height o1_values_n o1_values v6_3 k_76 n v7_7 f_o0_open_q_8 → W p l e rm_TE_close s m args below meth c H locs 0 0 Q (F0 m 15 ls []) := by
          intro k_76 hk_76 n
          induction n with
          | zero => intro v7_7 f_o0_open_q_8 H locs ls hl hP hD hS hw; exact hw.elim
          | succ n ih =>
            intro v7_7 f_o0_open_q_8 H locs ls hl hP hD hS hw
            rw [w_TE_close_15] at hw
            refine lv_iload hx hb d_TE_close_15 (lv_at hl 0 rfl) ?_
            refine lv_iload_n hx hb d_TE_close_17 rfl (lv_at hl 4 rfl) ?_
            refine lv_iload hx hb d_TE_close_18 (lv_at hl 6 rfl) ?_
            refine lv_iadd hx hb d_TE_close_20 ?_
            refine lv_icmp_ge (tgt := 76) hx hb d_TE_close_21 (by decide) (fun hc_36 => ?_) (fun hc_36 => ?_)
            · have hw := hw.1 hc_36
              exact hk_76 v7_7 f_o0_open_q_8 _ _ _ (lv_sub hl [0, 1, 2, 3, 4, 5, 6, 7] rfl) (hP.sub [0, 1, 2, 3, 4, 5, 6] rfl) (hD.sub [0, 1, 2, 3, 4, 5, 6] (by decide) rfl) hS hw
            · have hw := hw.2 hc_36
              refine lv_iload hx hb d_TE_close_24 (lv_at hl 1 rfl) ?_
              refine lv_aload_n hx hb d_TE_close_26 rfl (lv_at hl 3 rfl) ?_
              refine va_getN (D := D) (ci := 0) (v := .int o1_width) (C := R_PI) (T := F_PI) (N := 3) hx hb hta lay_PI hown hK hP 5 rfl rfl 0 (by decide) (va_Nw.use rfl (hN _ kn_TE_79 rfl)) (fun _ h9 => h9) rfl d_TE_close_27 ?_
              refine lv_imul hx hb d_TE_close_30 ?_
              refine lv_iload hx hb d_TE_close_31 (lv_at hl 0 rfl) ?_
              refine lv_iadd hx hb d_TE_close_33 ?_
              refine lv_istore (lv' := [(8, .int ((v6_3 * o1_width) + v7_7)), (7, .int v7_7), (6, .int v6_3), (0, .ref o0_q), (1, .ref o1_q), (2, .int x2), (3, .int x3), (4, .int x4), (5, .int x5)]) hx hb d_TE_close_34 hl (by decide) rfl (fun ls hl => ?_)
              refine lv_aload_n hx hb d_TE_close_36 rfl (lv_at hl 4 rfl) ?_
              refine lv_iload hx hb d_TE_close_37 (lv_at hl 1 rfl) ?_
              refine lv_iload hx hb d_TE_close_39 (lv_at hl 2 rfl) ?_
              refine goR (xV (C := R_PI) (ci := 0) (As := [.int v7_7, .int v6_3]) (rest := []) (wc := [(o1_q, .inr (0, [.int o1_width, .int o1_height, .ref o1_values_q])), (o1_values_q, .inl (cI, o1_values_n, .inl o1_values))]) (A := A) cx (c_PI_has l D cI cZ cL H.size o1_q o1_values_q o1_width o1_height o1_values_n o1_values v7_7 v6_3 hw) vw_TE_82 md_PI_has ⟨rfl, rfl, Nat.le_of_ble_eq_true rfl, Nat.le_of_ble_eq_true rfl⟩ (hP.sub [5, 6] rfl) (hD.sub [5, 6] (by decide) rfl) 0 rfl rfl rfl hl.1 (Nat.le_of_ble_eq_true rfl) d_TE_close_41 ⟨Nat.le_of_ble_eq_true rfl, Nat.le_of_ble_eq_true rfl⟩ rfl) (fun r_9 hw => ?_)
              try dsimp only at hw
              refine lv_if_eq (tgt := 70) hx hb d_TE_close_44 (by decide) (fun hc_37 => ?_) (fun hc_37 => ?_)
              · have hw := hw.1 hc_37
                refine lv_iinc (v := v7_7 + 1) (lv' := [(7, .int (v7_7 + 1)), (8, .int ((v6_3 * o1_width) + v7_7)), (6, .int v6_3), (0, .ref o0_q), (1, .ref o1_q), (2, .int x2), (3, .int x3), (4, .int x4), (5, .int x5)]) hx hb d_TE_close_70 hl (k := 1) rfl rfl (by decide) rfl (fun ls hl => ?_)
                refine lv_goto (tgt := 15) hx hb d_TE_close_73 (by decide) ?_
                exact ih (v7_7 + 1) f_o0_open_q_8 _ _ _ (lv_sub hl [0, 2, 3, 4, 5, 6, 7, 8] rfl) (hP.sub [0, 1, 2, 3, 4, 5, 6] rfl) (hD.sub [0, 1, 2, 3, 4, 5, 6] (by decide) rfl) hS hw
              · have hw := hw.2 hc_37
                refine lv_iload hx hb d_TE_close_47 (lv_at hl 0 rfl) ?_
                refine lv_if_lt (tgt := 70) hx hb d_TE_close_49 (by decide) (fun hc_38 => ?_) (fun hc_38 => ?_)
                · have hw := hw.1 hc_38
                  refine lv_iinc (v := v7_7 + 1) (lv' := [(7, .int (v7_7 + 1)), (8, .int ((v6_3 * o1_width) + v7_7)), (6, .int v6_3), (0, .ref o0_q), (1, .ref o1_q), (2, .int x2), (3, .int x3), (4, .int x4), (5, .int x5)]) hx hb d_TE_close_70 hl (k := 1) rfl rfl (by decide) rfl (fun ls hl => ?_)
                  refine lv_goto (tgt := 15) hx hb d_TE_close_73 (by decide) ?_
                  exact ih (v7_7 + 1) f_o0_open_q_8 _ _ _ (lv_sub hl [0, 2, 3, 4, 5, 6, 7, 8] rfl) (hP.sub [0, 1, 2, 3, 4, 5, 6] rfl) (hD.sub [0, 1, 2, 3, 4, 5, 6] (by decide) rfl) hS hw
                · have hw := hw.2 hc_38
                  refine lv_iload hx hb d_TE_close_52 (lv_at hl 0 rfl) ?_
                  refine lv_aload_n hx hb d_TE_close_54 rfl (lv_at hl 3 rfl) ?_
                  refine va_get (D := D) (ci := 3) (v := .ref o0_open_q) (C := R_TE) (T := F_TE) (N := 4) hx hb hta lay_TE hown hK hP 0 rfl rfl 0 (by decide) (hta _ k_TE_9) (fun _ h9 => h9) rfl d_TE_close_55 ?_
                  refine va_alen (v := nI o0_open_n) hx hb hK hP 1 1 rfl rfl rfl d_TE_close_58 ?_
                  refine lv_icmp_ge (tgt := 70) hx hb d_TE_close_59 (by decide) (fun hc_39 => ?_) (fun hc_39 => ?_)
                  · have hw := hw.1 hc_39
                    refine lv_iinc (v := v7_7 + 1) (lv' := [(7, .int (v7_7 + 1)), (8, .int ((v6_3 * o1_width) + v7_7)), (6, .int v6_3), (0, .ref o0_q), (1, .ref o1_q), (2, .int x2), (3, .int x3), (4, .int x4), (5, .int x5)]) hx hb d_TE_close_70 hl (k := 1) rfl rfl (by decide) rfl (fun ls hl => ?_)
                    refine lv_goto (tgt := 15) hx hb d_TE_close_73 (by decide) ?_
                    exact ih (v7_7 + 1) f_o0_open_q_8 _ _ _ (lv_sub hl [0, 2, 3, 4, 5, 6, 7, 8] rfl) (hP.sub [0, 1, 2, 3, 4, 5, 6] rfl) (hD.sub [0, 1, 2, 3, 4, 5, 6] (by decide) rfl) hS hw
                  · have hw := hw.2 hc_39
                    refine lv_aload_n hx hb d_TE_close_62 rfl (lv_at hl 3 rfl) ?_
                    refine va_get (D := D) (ci := 3) (v := .ref o0_open_q) (C := R_TE) (T := F_TE) (N := 4) hx hb hta lay_TE hown hK hP 0 rfl rfl 0 (by decide) (hta _ k_TE_9) (fun _ h9 => h9) rfl d_TE_close_63 ?_
                    refine lv_iload hx hb d_TE_close_66 (lv_at hl 0 rfl) ?_
                    refine lv_iconst (v := 0) hx hb d_TE_close_68 (by decide) ?_
                    refine va_zast hx hb hK hP hD hS 1 1 rfl rfl hw.1 d_TE_close_69 (fun H locs hP hD hS => ?_)
                    have hw := hw.2
                    have hP : va_P D CL [(o0_q, .inr (3, [.ref o0_open_q, .ref o0_counts_q, .ref o0_found_q, .int o0_plain])), (o0_open_q, .inl (cZ, o0_open_n, .inl (upd f_o0_open_q_8 ((v6_3 * o1_width) + v7_7).toNatClampNeg (vp_nar .boolean 0)))), (o0_counts_q, .inl (cI, o0_counts_n, .inl o0_counts)), (o0_found_q, .inr (2, [.ref o0_found_fields_q, .int o0_found_count, .int o0_found_byteLength])), (o0_found_fields_q, .inl (cI, o0_found_fields_n, .inl o0_found_fields)), (o1_q, .inr (0, [.int o1_width, .int o1_height, .ref o1_values_q])), (o1_values_q, .inl (cI, o1_values_n, .inl o1_values))] H := hP
                    have hD : va_D A [(o0_q, .inr (3, [.ref o0_open_q, .ref o0_counts_q, .ref o0_found_q, .int o0_plain])), (o0_open_q, .inl (cZ, o0_open_n, .inl (upd f_o0_open_q_8 ((v6_3 * o1_width) + v7_7).toNatClampNeg (vp_nar .boolean 0)))), (o0_counts_q, .inl (cI, o0_counts_n, .inl o0_counts)), (o0_found_q, .inr (2, [.ref o0_found_fields_q, .int o0_found_count, .int o0_found_byteLength])), (o0_found_fields_q, .inl (cI, o0_found_fields_n, .inl o0_found_fields)), (o1_q, .inr (0, [.int o1_width, .int o1_height, .ref o1_values_q])), (o1_values_q, .inl (cI, o1_values_n, .inl o1_values))] := hD
                    refine lv_iinc (v := v7_7 + 1) (lv' := [(7, .int (v7_7 + 1)), (8, .int ((v6_3 * o1_width) + v7_7)), (6, .int v6_3), (0, .ref o0_q), (1, .ref o1_q), (2, .int x2), (3, .int x3), (4, .int x4), (5, .int x5)]) hx hb d_TE_close_70 hl (k := 1) rfl rfl (by decide) rfl (fun ls hl => ?_)
                    refine lv_goto (tgt := 15) hx hb d_TE_close_73 (by decide) ?_
                    exact ih (v7_7 + 1) (upd f_o0_open_q_8 ((v6_3 * o1_width) + v7_7).toNatClampNeg (vp_nar .boolean 0)) _ _ _ (lv_sub hl [0, 2, 3, 4, 5, 6, 7, 8] rfl) (hP.sub [0, 1, 2, 3, 4, 5, 6] rfl) (hD.sub [0, 1, 2, 3, 4, 5, 6] (by decide) rfl) hS hw
        obtain ⟨n_15, hw⟩ := hw
        refine L15 _ (fun v7_7_10 f_o0_open_q_8_11 H locs ls hl hP hD hS hw => ?_) n_15 x2 f_o0_open_q_4 _ _ _ (lv_sub hl [0, 1, 2, 3, 4, 5, 6, 7] rfl) (hP.sub [0, 1, 2, 3, 4, 5, 6] rfl) (hD.sub [0, 1, 2, 3, 4, 5, 6] (by decide) rfl) hS hw
        have hl : lv_has ls 9 [(7, .int v7_7_10), (6, .int v6_3), (0, .ref o0_q), (1, .ref o1_q), (2, .int x2), (3, .int x3), (4, .int x4), (5, .int x5)] := hl
        have hP : va_P D CL [(o0_q, .inr (3, [.ref o0_open_q, .ref o0_counts_q, .ref o0_found_q, .int o0_plain])), (o0_open_q, .inl (cZ, o0_open_n, .inl f_o0_open_q_8_11)), (o0_counts_q, .inl (cI, o0_counts_n, .inl o0_counts)), (o0_found_q, .inr (2, [.ref o0_found_fields_q, .int o0_found_count, .int o0_found_byteLength])), (o0_found_fields_q, .inl (cI, o0_found_fields_n, .inl o0_found_fields)), (o1_q, .inr (0, [.int o1_width, .int o1_height, .ref o1_values_q])), (o1_values_q, .inl (cI, o1_values_n, .inl o1_values))] H := hP
        have hD : va_D A [(o0_q, .inr (3, [.ref o0_open_q, .ref o0_counts_q, .ref o0_found_q, .int o0_plain])), (o0_open_q, .inl (cZ, o0_open_n, .inl f_o0_open_q_8_11)), (o0_counts_q, .inl (cI, o0_counts_n, .inl o0_counts)), (o0_found_q, .inr (2, [.ref o0_found_fields_q, .int o0_found_count, .int o0_found_byteLength])), (o0_found_fields_q, .inl (cI, o0_found_fields_n, .inl o0_found_fields)), (o1_q, .inr (0, [.int o1_width, .int o1_height, .ref o1_values_q])), (o1_values_q, .inl (cI, o1_values_n, .inl o1_values))] := hD
        try dsimp only at hw
        refine lv_iinc (v := v6_3 + 1) (lv' := [(6, .int (v6_3 + 1)), (7, .int v7_7_10), (0, .ref o0_q), (1, .ref o1_q), (2, .int x2), (3, .int x3), (4, .int x4), (5, .int x5)]) hx hb d_TE_close_76 hl (k := 1) rfl rfl (by decide) rfl (fun ls hl => ?_)
        refine lv_goto (tgt := 3) hx hb d_TE_close_79 (by decide) ?_
        exact ih (v6_3 + 1) f_o0_open_q_8_11 _ _ _ (lv_sub hl [0, 2, 3, 4, 5, 6, 7] rfl) (hP.sub [0, 1, 2, 3, 4, 5, 6] rfl) (hD.sub [0, 1, 2, 3, 4, 5, 6] (by decide) rfl) hS hw
  obtain ⟨n_3, hw⟩ := hw
  refine L3 _ (fun v6_3_12 f_o0_open_q_4_13 H locs ls hl hP hD hS hw => ?_) n_3 x3 o0_open _ _ _ (lv_sub hl [0, 1, 2, 3, 4, 5, 6] rfl) (hP.sub [0, 1, 2, 3, 4, 5, 6] rfl) (hD.sub [0, 1, 2, 3, 4, 5, 6] (by decide) rfl) hS hw
  have hl : lv_has ls 9 [(6, .int v6_3_12), (0, .ref o0_q), (1, .ref o1_q), (2, .int x2), (3, .int x3), (4, .int x4), (5, .int x5)] := hl
  have hP : va_P D CL [(o0_q, .inr (3, [.ref o0_open_q, .ref o0_counts_q, .ref o0_found_q, .int o0_plain])), (o0_open_q, .inl (cZ, o0_open_n, .inl f_o0_open_q_4_13)), (o0_counts_q, .inl (cI, o0_counts_n, .inl o0_counts)), (o0_found_q, .inr (2, [.ref o0_found_fields_q, .int o0_found_count, .int o0_found_byteLength])), (o0_found_fields_q, .inl (cI, o0_found_fields_n, .inl o0_found_fields)), (o1_q, .inr (0, [.int o1_width, .int o1_height, .ref o1_values_q])), (o1_values_q, .inl (cI, o1_values_n, .inl o1_values))] H := hP
  have hD : va_D A [(o0_q, .inr (3, [.ref o0_open_q, .ref o0_counts_q, .ref o0_found_q, .int o0_plain])), (o0_open_q, .inl (cZ, o0_open_n, .inl f_o0_open_q_4_13)), (o0_counts_q, .inl (cI, o0_counts_n, .inl o0_counts)), (o0_found_q, .inr (2, [.ref o0_found_fields_q, .int o0_found_count, .int o0_found_byteLength])), (o0_found_fields_q, .inl (cI, o0_found_fields_n, .inl o0_found_fields)), (o1_q, .inr (0, [.int o1_width, .int o1_height, .ref o1_values_q])), (o1_values_q, .inl (cI, o1_values_n, .inl o1_values))] := hD
  try dsimp only at hw
  exact retV cx hQ d_TE_close_82 f_o0_open_q_4_13 hw (hP.sub [0, 1, 2, 3, 4, 5, 6] rfl) (hD.sub [0, 1, 2, 3, 4, 5, 6] (by decide) rfl) hS
def w_TE_openOfValue_3 (x2 : Int32) (x3 : Int32) (x4 : Int32) (o0_plain : Int32) (o0_open_n : Nat) (o0_open : Nat → Int32) (o0_counts_n : Nat) (o0_counts : Nat → Int32) (o0_found_count : Int32) (o0_found_byteLength : Int32) (o0_found_fields_n : Nat) (o0_found_fields : Nat → Int32) (o1_width : Int32) (o1_height : Int32) (o1_values_n : Nat) (o1_values : Nat → Int32) (k_45 : Int32 → Prop) : Nat → Int32 → Prop
  | 0, _ => False
  | n + 1, v5_2 => (o1_width ≤ v5_2 → k_45 v5_2) ∧ (¬ o1_width ≤ v5_2 → w_TE_isOpen o0_plain o0_open_n o0_open o0_counts_n o0_counts o0_found_count o0_found_byteLength o0_found_fields_n o0_found_fields o1_width o1_height o1_values_n o1_values (x2 + v5_2) x3 (fun r_3 => (r_3 = 0 → k_45 v5_2) ∧ (¬ r_3 = 0 → w_PI_value o1_width o1_height o1_values_n o1_values (x2 + v5_2) x3 (fun r_4 => (¬ r_4 = x4 → k_45 v5_2) ∧ (r_4 = x4 → w_TE_openOfValue_3 x2 x3 x4 o0_plain o0_open_n o0_open o0_counts_n o0_counts o0_found_count o0_found_byteLength o0_found_fields_n o0_found_fields o1_width o1_height o1_values_n o1_values k_45 n (v5_2 + 1))))))
def w_TE_openOfValue (o0_plain : Int32) (o0_open_n : Nat) (o0_open : Nat → Int32) (o0_counts_n : Nat) (o0_counts : Nat → Int32) (o0_found_count : Int32) (o0_found_byteLength : Int32) (o0_found_fields_n : Nat) (o0_found_fields : Nat → Int32) (o1_width : Int32) (o1_height : Int32) (o1_values_n : Nat) (o1_values : Nat → Int32) (x2 : Int32) (x3 : Int32) (x4 : Int32) (post : Int32 → Prop) : Prop := ∃ n_3 : Nat, w_TE_openOfValue_3 x2 x3 x4 o0_plain o0_open_n o0_open o0_counts_n o0_counts o0_found_count o0_found_byteLength o0_found_fields_n o0_found_fields o1_width o1_height o1_values_n o1_values (fun (v5_2_5 : Int32) => post v5_2_5) n_3 0
def rm_TE_openOfValue : Room := { frames := 2, cells := 0, slots := 0, locals := 46 }
set_option maxHeartbeats 4000000 in
set_option maxRecDepth 100000 in
theorem c_TE_openOfValue (l : Launch) (D : va_G) (cI cZ cL : ClassId) (sz : Nat) (o0_q : Nat) (o0_open_q : Nat) (o0_counts_q : Nat) (o0_found_q : Nat) (o0_found_fields_q : Nat) (o1_q : Nat) (o1_values_q : Nat) (o0_plain : Int32) (o0_open_n : Nat) (o0_open : Nat → Int32) (o0_counts_n : Nat) (o0_counts : Nat → Int32) (o0_found_count : Int32) (o0_found_byteLength : Int32) (o0_found_fields_n : Nat) (o0_found_fields : Nat → Int32) (o1_width : Int32) (o1_height : Int32) (o1_values_n : Nat) (o1_values : Nat → Int32) (x2 : Int32) (x3 : Int32) (x4 : Int32) {post : Int32 → Prop} (hw : w_TE_openOfValue o0_plain o0_open_n o0_open o0_counts_n o0_counts o0_found_count o0_found_byteLength o0_found_fields_n o0_found_fields o1_width o1_height o1_values_n o1_values x2 x3 x4 post) : Met l y_TE_openOfValue (Cond.code y_TE_openOfValue b_TE_openOfValue 6 (some .int) :: AW) rm_TE_openOfValue (va_Pc [.ref o0_q, .ref o1_q, .int x2, .int x3, .int x4] (ST D cI cZ cL [(o0_q, .inr (3, [.ref o0_open_q, .ref o0_counts_q, .ref o0_found_q, .int o0_plain])), (o0_open_q, .inl (cZ, o0_open_n, .inl o0_open)), (o0_counts_q, .inl (cI, o0_counts_n, .inl o0_counts)), (o0_found_q, .inr (2, [.ref o0_found_fields_q, .int o0_found_count, .int o0_found_byteLength])), (o0_found_fields_q, .inl (cI, o0_found_fields_n, .inl o0_found_fields)), (o1_q, .inr (0, [.int o1_width, .int o1_height, .ref o1_values_q])), (o1_values_q, .inl (cI, o1_values_n, .inl o1_values))] sz)) (vp_Si post) 0 0 (fun _ => False) := by
  refine ofR (own := R_TE) (vp_Si post) (by decide) rfl (Nat.le_of_ble_eq_true rfl) ?_
  intro p e s m args below meth c A ls Q cx hQ hl hP hD
  obtain ⟨hx, hb, hml, hrt, hown, hta, hlk, hK, hN⟩ := id cx
  have hl : lv_has ls 6 [(0, .ref o0_q), (1, .ref o1_q), (2, .int x2), (3, .int x3), (4, .int x4)] := hl
  unfold w_TE_openOfValue at hw
  refine lv_iconst (v := 0) hx hb d_TE_openOfValue_0 (by decide) ?_
  refine lv_istore (lv' := [(5, .int 0), (0, .ref o0_q), (1, .ref o1_q), (2, .int x2), (3, .int x3), (4, .int x4)]) hx hb d_TE_openOfValue_1 hl (by decide) rfl (fun ls hl => ?_)
  have L3 : ∀ (k_45 : Int32 → Prop) (hk_45 : ∀ (v5_2 : Int32) (ls : Array Slot), lv_has ls 6 [(5, .int v5_2), (0, .ref o0_q), (1, .ref o1_q), (2, .int x2), (3, .int x3), (4, .int x4)] → k_45 v5_2 → W p l e rm_TE_openOfValue s m args below meth c s.heap [] 0 0 Q (F0 m 45 ls [])), ∀ (n : Nat) (v5_2 : Int32) (ls : Array Slot), lv_has ls 6 [(5, .int v5_2), (0, .ref o0_q), (1, .ref o1_q), (2, .int x2), (3, .int x3), (4, .int x4)] → w_TE_openOfValue_3 x2 x3 x4 o0_plain o0_open_n o0_open o0_counts_n o0_counts o0_found_count o0_found_byteLength o0_found_fields_n o0_found_fields o1_width o1_height o1_values_n o1_values k_45 n v5_2 → W p l e rm_TE_openOfValue s m args below meth c s.heap [] 0 0 Q (F0 m 3 ls []) := by
    intro k_45 hk_45 n
    induction n with
    | zero => intro v5_2 ls hl hw; exact hw.elim
    | succ n ih =>
      intro v5_2 ls hl hw
      rw [w_TE_openOfValue_3] at hw
      refine lv_iload hx hb d_TE_openOfValue_3 (lv_at hl 0 rfl) ?_
      refine lv_aload_n hx hb d_TE_openOfValue_5 rfl (lv_at hl 2 rfl) ?_
      refine va_getN (D := D) (ci := 0) (v := .int o1_width) (C := R_PI) (T := F_PI) (N := 3) hx hb hta lay_PI hown hK hP 5 rfl rfl 0 (by decide) (va_Nw.use rfl (hN _ kn_TE_79 rfl)) (fun _ h9 => h9) rfl d_TE_openOfValue_6 ?_
      refine lv_icmp_ge (tgt := 45) hx hb d_TE_openOfValue_9 (by decide) (fun hc_7 => ?_) (fun hc_7 => ?_)
      · have hw := hw.1 hc_7
        exact hk_45 v5_2 _ (lv_sub hl [0, 1, 2, 3, 4, 5] rfl) hw
      · have hw := hw.2 hc_7
        refine lv_aload_n hx hb d_TE_openOfValue_12 rfl (lv_at hl 1 rfl) ?_
        refine lv_aload_n hx hb d_TE_openOfValue_13 rfl (lv_at hl 2 rfl) ?_
        refine lv_iload_n hx hb d_TE_openOfValue_14 rfl (lv_at hl 3 rfl) ?_
        refine lv_iload hx hb d_TE_openOfValue_15 (lv_at hl 0 rfl) ?_
        refine lv_iadd hx hb d_TE_openOfValue_17 ?_
        refine lv_iload_n hx hb d_TE_openOfValue_18 rfl (lv_at hl 4 rfl) ?_
        refine goR (xV (C := R_TE) (ci := 3) (As := [.ref o1_q, .int (x2 + v5_2), .int x3]) (rest := []) (wc := [(o0_q, .inr (3, [.ref o0_open_q, .ref o0_counts_q, .ref o0_found_q, .int o0_plain])), (o0_open_q, .inl (cZ, o0_open_n, .inl o0_open)), (o0_counts_q, .inl (cI, o0_counts_n, .inl o0_counts)), (o0_found_q, .inr (2, [.ref o0_found_fields_q, .int o0_found_count, .int o0_found_byteLength])), (o0_found_fields_q, .inl (cI, o0_found_fields_n, .inl o0_found_fields)), (o1_q, .inr (0, [.int o1_width, .int o1_height, .ref o1_values_q])), (o1_values_q, .inl (cI, o1_values_n, .inl o1_values))]) (A := A) cx (c_TE_isOpen l D cI cZ cL s.heap.size o0_q o0_open_q o0_counts_q o0_found_q o0_found_fields_q o1_q o1_values_q o0_plain o0_open_n o0_open o0_counts_n o0_counts o0_found_count o0_found_byteLength o0_found_fields_n o0_found_fields o1_width o1_height o1_values_n o1_values (x2 + v5_2) x3 hw) vw_TE_89 md_TE_isOpen ⟨rfl, rfl, Nat.le_of_ble_eq_true rfl, Nat.le_of_ble_eq_true rfl⟩ (hP.sub [0, 1, 2, 3, 4, 5, 6] rfl) (hD.sub [0, 1, 2, 3, 4, 5, 6] (by decide) rfl) 0 rfl rfl rfl hl.1 (Nat.le_of_ble_eq_true rfl) d_TE_openOfValue_19 ⟨Nat.le_of_ble_eq_true rfl, Nat.le_of_ble_eq_true rfl⟩ rfl) (fun r_3 hw => ?_)
        try dsimp only at hw
        refine lv_if_eq (tgt := 45) hx hb d_TE_openOfValue_22 (by decide) (fun hc_8 => ?_) (fun hc_8 => ?_)
        · have hw := hw.1 hc_8
          exact hk_45 v5_2 _ (lv_sub hl [0, 1, 2, 3, 4, 5] rfl) hw
        · have hw := hw.2 hc_8
          refine lv_aload_n hx hb d_TE_openOfValue_25 rfl (lv_at hl 2 rfl) ?_
          refine lv_iload_n hx hb d_TE_openOfValue_26 rfl (lv_at hl 3 rfl) ?_
          refine lv_iload hx hb d_TE_openOfValue_27 (lv_at hl 0 rfl) ?_
          refine lv_iadd hx hb d_TE_openOfValue_29 ?_
          refine lv_iload_n hx hb d_TE_openOfValue_30 rfl (lv_at hl 4 rfl) ?_
          refine goR (xV (C := R_PI) (ci := 0) (As := [.int (x2 + v5_2), .int x3]) (rest := []) (wc := [(o1_q, .inr (0, [.int o1_width, .int o1_height, .ref o1_values_q])), (o1_values_q, .inl (cI, o1_values_n, .inl o1_values))]) (A := A) cx (c_PI_value l D cI cZ cL s.heap.size o1_q o1_values_q o1_width o1_height o1_values_n o1_values (x2 + v5_2) x3 hw) vw_TE_97 md_PI_value ⟨rfl, rfl, Nat.le_of_ble_eq_true rfl, Nat.le_of_ble_eq_true rfl⟩ (hP.sub [5, 6] rfl) (hD.sub [5, 6] (by decide) rfl) 0 rfl rfl rfl hl.1 (Nat.le_of_ble_eq_true rfl) d_TE_openOfValue_31 ⟨Nat.le_of_ble_eq_true rfl, Nat.le_of_ble_eq_true rfl⟩ rfl) (fun r_4 hw => ?_)
          try dsimp only at hw
          refine lv_iload hx hb d_TE_openOfValue_34 (lv_at hl 5 rfl) ?_
          refine lv_icmp_ne (tgt := 45) hx hb d_TE_openOfValue_36 (by decide) (fun hc_9 => ?_) (fun hc_9 => ?_)
          · have hw := hw.1 hc_9
            exact hk_45 v5_2 _ (lv_sub hl [0, 1, 2, 3, 4, 5] rfl) hw
          · have hw := hw.2 hc_9
            refine lv_iinc (v := v5_2 + 1) (lv' := [(5, .int (v5_2 + 1)), (0, .ref o0_q), (1, .ref o1_q), (2, .int x2), (3, .int x3), (4, .int x4)]) hx hb d_TE_openOfValue_39 hl (k := 0) rfl rfl (by decide) rfl (fun ls hl => ?_)
            refine lv_goto (tgt := 3) hx hb d_TE_openOfValue_42 (by decide) ?_
            exact ih (v5_2 + 1) _ (lv_sub hl [0, 1, 2, 3, 4, 5] rfl) hw
  obtain ⟨n_3, hw⟩ := hw
  refine L3 _ (fun v5_2_5 ls hl hw => ?_) n_3 0 _ (lv_sub hl [0, 1, 2, 3, 4, 5] rfl) hw
  have hl : lv_has ls 6 [(5, .int v5_2_5), (0, .ref o0_q), (1, .ref o1_q), (2, .int x2), (3, .int x3), (4, .int x4)] := hl
  try dsimp only at hw
  refine lv_iload hx hb d_TE_openOfValue_45 (lv_at hl 0 rfl) ?_
  exact retIr cx hQ d_TE_openOfValue_47 hw
def w_TE_openAsCopied_3 (x2 : Int32) (x3 : Int32) (x4 : Int32) (x5 : Int32) (o0_plain : Int32) (o0_open_n : Nat) (o0_open : Nat → Int32) (o0_counts_n : Nat) (o0_counts : Nat → Int32) (o0_found_count : Int32) (o0_found_byteLength : Int32) (o0_found_fields_n : Nat) (o0_found_fields : Nat → Int32) (o1_width : Int32) (o1_height : Int32) (o1_values_n : Nat) (o1_values : Nat → Int32) (k_58 : Int32 → Prop) : Nat → Int32 → Prop
  | 0, _ => False
  | n + 1, v6_2 => (o1_width ≤ v6_2 → k_58 v6_2) ∧ (¬ o1_width ≤ v6_2 → w_TE_isOpen o0_plain o0_open_n o0_open o0_counts_n o0_counts o0_found_count o0_found_byteLength o0_found_fields_n o0_found_fields o1_width o1_height o1_values_n o1_values (x2 + v6_2) x3 (fun r_3 => (r_3 = 0 → k_58 v6_2) ∧ (¬ r_3 = 0 → w_PI_value o1_width o1_height o1_values_n o1_values (x2 + v6_2) x3 (fun r_4 => w_PI_value o1_width o1_height o1_values_n o1_values ((x2 + v6_2) + x4) (x3 - x5) (fun r_5 => (¬ r_4 = r_5 → k_58 v6_2) ∧ (r_4 = r_5 → w_TE_openAsCopied_3 x2 x3 x4 x5 o0_plain o0_open_n o0_open o0_counts_n o0_counts o0_found_count o0_found_byteLength o0_found_fields_n o0_found_fields o1_width o1_height o1_values_n o1_values k_58 n (v6_2 + 1)))))))
def w_TE_openAsCopied (o0_plain : Int32) (o0_open_n : Nat) (o0_open : Nat → Int32) (o0_counts_n : Nat) (o0_counts : Nat → Int32) (o0_found_count : Int32) (o0_found_byteLength : Int32) (o0_found_fields_n : Nat) (o0_found_fields : Nat → Int32) (o1_width : Int32) (o1_height : Int32) (o1_values_n : Nat) (o1_values : Nat → Int32) (x2 : Int32) (x3 : Int32) (x4 : Int32) (x5 : Int32) (post : Int32 → Prop) : Prop := ∃ n_3 : Nat, w_TE_openAsCopied_3 x2 x3 x4 x5 o0_plain o0_open_n o0_open o0_counts_n o0_counts o0_found_count o0_found_byteLength o0_found_fields_n o0_found_fields o1_width o1_height o1_values_n o1_values (fun (v6_2_6 : Int32) => post v6_2_6) n_3 0
def rm_TE_openAsCopied : Room := { frames := 2, cells := 0, slots := 0, locals := 46 }
set_option maxHeartbeats 4000000 in
set_option maxRecDepth 100000 in
theorem c_TE_openAsCopied (l : Launch) (D : va_G) (cI cZ cL : ClassId) (sz : Nat) (o0_q : Nat) (o0_open_q : Nat) (o0_counts_q : Nat) (o0_found_q : Nat) (o0_found_fields_q : Nat) (o1_q : Nat) (o1_values_q : Nat) (o0_plain : Int32) (o0_open_n : Nat) (o0_open : Nat → Int32) (o0_counts_n : Nat) (o0_counts : Nat → Int32) (o0_found_count : Int32) (o0_found_byteLength : Int32) (o0_found_fields_n : Nat) (o0_found_fields : Nat → Int32) (o1_width : Int32) (o1_height : Int32) (o1_values_n : Nat) (o1_values : Nat → Int32) (x2 : Int32) (x3 : Int32) (x4 : Int32) (x5 : Int32) {post : Int32 → Prop} (hw : w_TE_openAsCopied o0_plain o0_open_n o0_open o0_counts_n o0_counts o0_found_count o0_found_byteLength o0_found_fields_n o0_found_fields o1_width o1_height o1_values_n o1_values x2 x3 x4 x5 post) : Met l y_TE_openAsCopied (Cond.code y_TE_openAsCopied b_TE_openAsCopied 7 (some .int) :: AW) rm_TE_openAsCopied (va_Pc [.ref o0_q, .ref o1_q, .int x2, .int x3, .int x4, .int x5] (ST D cI cZ cL [(o0_q, .inr (3, [.ref o0_open_q, .ref o0_counts_q, .ref o0_found_q, .int o0_plain])), (o0_open_q, .inl (cZ, o0_open_n, .inl o0_open)), (o0_counts_q, .inl (cI, o0_counts_n, .inl o0_counts)), (o0_found_q, .inr (2, [.ref o0_found_fields_q, .int o0_found_count, .int o0_found_byteLength])), (o0_found_fields_q, .inl (cI, o0_found_fields_n, .inl o0_found_fields)), (o1_q, .inr (0, [.int o1_width, .int o1_height, .ref o1_values_q])), (o1_values_q, .inl (cI, o1_values_n, .inl o1_values))] sz)) (vp_Si post) 0 0 (fun _ => False) := by
  refine ofR (own := R_TE) (vp_Si post) (by decide) rfl (Nat.le_of_ble_eq_true rfl) ?_
  intro p e s m args below meth c A ls Q cx hQ hl hP hD
  obtain ⟨hx, hb, hml, hrt, hown, hta, hlk, hK, hN⟩ := id cx
  have hl : lv_has ls 7 [(0, .ref o0_q), (1, .ref o1_q), (2, .int x2), (3, .int x3), (4, .int x4), (5, .int x5)] := hl
  unfold w_TE_openAsCopied at hw
  refine lv_iconst (v := 0) hx hb d_TE_openAsCopied_0 (by decide) ?_
  refine lv_istore (lv' := [(6, .int 0), (0, .ref o0_q), (1, .ref o1_q), (2, .int x2), (3, .int x3), (4, .int x4), (5, .int x5)]) hx hb d_TE_openAsCopied_1 hl (by decide) rfl (fun ls hl => ?_)
  have L3 : ∀ (k_58 : Int32 → Prop) (hk_58 : ∀ (v6_2 : Int32) (ls : Array Slot), lv_has ls 7 [(6, .int v6_2), (0, .ref o0_q), (1, .ref o1_q), (2, .int x2), (3, .int x3), (4, .int x4), (5, .int x5)] → k_58 v6_2 → W p l e rm_TE_openAsCopied s m args below meth c s.heap [] 0 0 Q (F0 m 58 ls [])), ∀ (n : Nat) (v6_2 : Int32) (ls : Array Slot), lv_has ls 7 [(6, .int v6_2), (0, .ref o0_q), (1, .ref o1_q), (2, .int x2), (3, .int x3), (4, .int x4), (5, .int x5)] → w_TE_openAsCopied_3 x2 x3 x4 x5 o0_plain o0_open_n o0_open o0_counts_n o0_counts o0_found_count o0_found_byteLength o0_found_fields_n o0_found_fields o1_width o1_height o1_values_n o1_values k_58 n v6_2 → W p l e rm_TE_openAsCopied s m args below meth c s.heap [] 0 0 Q (F0 m 3 ls []) := by
    intro k_58 hk_58 n
    induction n with
    | zero => intro v6_2 ls hl hw; exact hw.elim
    | succ n ih =>
      intro v6_2 ls hl hw
      rw [w_TE_openAsCopied_3] at hw
      refine lv_iload hx hb d_TE_openAsCopied_3 (lv_at hl 0 rfl) ?_
      refine lv_aload_n hx hb d_TE_openAsCopied_5 rfl (lv_at hl 2 rfl) ?_
      refine va_getN (D := D) (ci := 0) (v := .int o1_width) (C := R_PI) (T := F_PI) (N := 3) hx hb hta lay_PI hown hK hP 5 rfl rfl 0 (by decide) (va_Nw.use rfl (hN _ kn_TE_79 rfl)) (fun _ h9 => h9) rfl d_TE_openAsCopied_6 ?_
      refine lv_icmp_ge (tgt := 58) hx hb d_TE_openAsCopied_9 (by decide) (fun hc_7 => ?_) (fun hc_7 => ?_)
      · have hw := hw.1 hc_7
        exact hk_58 v6_2 _ (lv_sub hl [0, 1, 2, 3, 4, 5, 6] rfl) hw
      · have hw := hw.2 hc_7
        refine lv_aload_n hx hb d_TE_openAsCopied_12 rfl (lv_at hl 1 rfl) ?_
        refine lv_aload_n hx hb d_TE_openAsCopied_13 rfl (lv_at hl 2 rfl) ?_
        refine lv_iload_n hx hb d_TE_openAsCopied_14 rfl (lv_at hl 3 rfl) ?_
        refine lv_iload hx hb d_TE_openAsCopied_15 (lv_at hl 0 rfl) ?_
        refine lv_iadd hx hb d_TE_openAsCopied_17 ?_
        refine lv_iload_n hx hb d_TE_openAsCopied_18 rfl (lv_at hl 4 rfl) ?_
        refine goR (xV (C := R_TE) (ci := 3) (As := [.ref o1_q, .int (x2 + v6_2), .int x3]) (rest := []) (wc := [(o0_q, .inr (3, [.ref o0_open_q, .ref o0_counts_q, .ref o0_found_q, .int o0_plain])), (o0_open_q, .inl (cZ, o0_open_n, .inl o0_open)), (o0_counts_q, .inl (cI, o0_counts_n, .inl o0_counts)), (o0_found_q, .inr (2, [.ref o0_found_fields_q, .int o0_found_count, .int o0_found_byteLength])), (o0_found_fields_q, .inl (cI, o0_found_fields_n, .inl o0_found_fields)), (o1_q, .inr (0, [.int o1_width, .int o1_height, .ref o1_values_q])), (o1_values_q, .inl (cI, o1_values_n, .inl o1_values))]) (A := A) cx (c_TE_isOpen l D cI cZ cL s.heap.size o0_q o0_open_q o0_counts_q o0_found_q o0_found_fields_q o1_q o1_values_q o0_plain o0_open_n o0_open o0_counts_n o0_counts o0_found_count o0_found_byteLength o0_found_fields_n o0_found_fields o1_width o1_height o1_values_n o1_values (x2 + v6_2) x3 hw) vw_TE_89 md_TE_isOpen ⟨rfl, rfl, Nat.le_of_ble_eq_true rfl, Nat.le_of_ble_eq_true rfl⟩ (hP.sub [0, 1, 2, 3, 4, 5, 6] rfl) (hD.sub [0, 1, 2, 3, 4, 5, 6] (by decide) rfl) 0 rfl rfl rfl hl.1 (Nat.le_of_ble_eq_true rfl) d_TE_openAsCopied_19 ⟨Nat.le_of_ble_eq_true rfl, Nat.le_of_ble_eq_true rfl⟩ rfl) (fun r_3 hw => ?_)
        try dsimp only at hw
        refine lv_if_eq (tgt := 58) hx hb d_TE_openAsCopied_22 (by decide) (fun hc_8 => ?_) (fun hc_8 => ?_)
        · have hw := hw.1 hc_8
          exact hk_58 v6_2 _ (lv_sub hl [0, 1, 2, 3, 4, 5, 6] rfl) hw
        · have hw := hw.2 hc_8
          refine lv_aload_n hx hb d_TE_openAsCopied_25 rfl (lv_at hl 2 rfl) ?_
          refine lv_iload_n hx hb d_TE_openAsCopied_26 rfl (lv_at hl 3 rfl) ?_
          refine lv_iload hx hb d_TE_openAsCopied_27 (lv_at hl 0 rfl) ?_
          refine lv_iadd hx hb d_TE_openAsCopied_29 ?_
          refine lv_iload_n hx hb d_TE_openAsCopied_30 rfl (lv_at hl 4 rfl) ?_
          refine goR (xV (C := R_PI) (ci := 0) (As := [.int (x2 + v6_2), .int x3]) (rest := []) (wc := [(o1_q, .inr (0, [.int o1_width, .int o1_height, .ref o1_values_q])), (o1_values_q, .inl (cI, o1_values_n, .inl o1_values))]) (A := A) cx (c_PI_value l D cI cZ cL s.heap.size o1_q o1_values_q o1_width o1_height o1_values_n o1_values (x2 + v6_2) x3 hw) vw_TE_97 md_PI_value ⟨rfl, rfl, Nat.le_of_ble_eq_true rfl, Nat.le_of_ble_eq_true rfl⟩ (hP.sub [5, 6] rfl) (hD.sub [5, 6] (by decide) rfl) 0 rfl rfl rfl hl.1 (Nat.le_of_ble_eq_true rfl) d_TE_openAsCopied_31 ⟨Nat.le_of_ble_eq_true rfl, Nat.le_of_ble_eq_true rfl⟩ rfl) (fun r_4 hw => ?_)
          try dsimp only at hw
          refine lv_aload_n hx hb d_TE_openAsCopied_34 rfl (lv_at hl 2 rfl) ?_
          refine lv_iload_n hx hb d_TE_openAsCopied_35 rfl (lv_at hl 3 rfl) ?_
          refine lv_iload hx hb d_TE_openAsCopied_36 (lv_at hl 0 rfl) ?_
          refine lv_iadd hx hb d_TE_openAsCopied_38 ?_
          refine lv_iload hx hb d_TE_openAsCopied_39 (lv_at hl 5 rfl) ?_
          refine lv_iadd hx hb d_TE_openAsCopied_41 ?_
          refine lv_iload_n hx hb d_TE_openAsCopied_42 rfl (lv_at hl 4 rfl) ?_
          refine lv_iload hx hb d_TE_openAsCopied_43 (lv_at hl 6 rfl) ?_
          refine lv_isub hx hb d_TE_openAsCopied_45 ?_
          refine goR (xV (C := R_PI) (ci := 0) (As := [.int ((x2 + v6_2) + x4), .int (x3 - x5)]) (rest := [.int r_4]) (wc := [(o1_q, .inr (0, [.int o1_width, .int o1_height, .ref o1_values_q])), (o1_values_q, .inl (cI, o1_values_n, .inl o1_values))]) (A := A) cx (c_PI_value l D cI cZ cL s.heap.size o1_q o1_values_q o1_width o1_height o1_values_n o1_values ((x2 + v6_2) + x4) (x3 - x5) hw) vw_TE_97 md_PI_value ⟨rfl, rfl, Nat.le_of_ble_eq_true rfl, Nat.le_of_ble_eq_true rfl⟩ (hP.sub [5, 6] rfl) (hD.sub [5, 6] (by decide) rfl) 0 rfl rfl rfl hl.1 (Nat.le_of_ble_eq_true rfl) d_TE_openAsCopied_46 ⟨Nat.le_of_ble_eq_true rfl, Nat.le_of_ble_eq_true rfl⟩ rfl) (fun r_5 hw => ?_)
          try dsimp only at hw
          refine lv_icmp_ne (tgt := 58) hx hb d_TE_openAsCopied_49 (by decide) (fun hc_9 => ?_) (fun hc_9 => ?_)
          · have hw := hw.1 hc_9
            exact hk_58 v6_2 _ (lv_sub hl [0, 1, 2, 3, 4, 5, 6] rfl) hw
          · have hw := hw.2 hc_9
            refine lv_iinc (v := v6_2 + 1) (lv' := [(6, .int (v6_2 + 1)), (0, .ref o0_q), (1, .ref o1_q), (2, .int x2), (3, .int x3), (4, .int x4), (5, .int x5)]) hx hb d_TE_openAsCopied_52 hl (k := 0) rfl rfl (by decide) rfl (fun ls hl => ?_)
            refine lv_goto (tgt := 3) hx hb d_TE_openAsCopied_55 (by decide) ?_
            exact ih (v6_2 + 1) _ (lv_sub hl [0, 1, 2, 3, 4, 5, 6] rfl) hw
  obtain ⟨n_3, hw⟩ := hw
  refine L3 _ (fun v6_2_6 ls hl hw => ?_) n_3 0 _ (lv_sub hl [0, 1, 2, 3, 4, 5, 6] rfl) hw
  have hl : lv_has ls 7 [(6, .int v6_2_6), (0, .ref o0_q), (1, .ref o1_q), (2, .int x2), (3, .int x3), (4, .int x4), (5, .int x5)] := hl
  try dsimp only at hw
  refine lv_iload hx hb d_TE_openAsCopied_58 (lv_at hl 0 rfl) ?_
  exact retIr cx hQ d_TE_openAsCopied_60 hw
