/-! PURE ROWS: the calls, as the law makes them. Own work. -/
theorem by_ge {v : Int32} (h : by8 v) : ¬ v < 0 := by rw [c_lt, t_0]; have := h.1; omega
theorem t_255 : (255 : Int32).toInt = 255 := rfl
theorem by_le {v : Int32} (h : by8 v) : v ≤ 255 := by rw [c_le, t_255]; exact h.2
theorem s_reqByte {x0 : Int32} {post : Prop} {postX : String → Prop} (h1 : by8 x0 → post) (h2 : ¬ by8 x0 → postX E_ia) : w_DF_requireByte x0 post postX := by
  unfold w_DF_requireByte
  by_cases hb : by8 x0
  · exact ⟨fun c => absurd c (by_ge hb), fun _ => ⟨fun _ => h1 hb, fun c => absurd (by_le hb) c⟩⟩
  · refine ⟨fun _ => h2 hb, fun c1 => ⟨fun c2 => ?_, fun _ => h2 hb⟩⟩
    exfalso
    apply hb
    rw [c_lt, t_0] at c1
    rw [c_le, t_255] at c2
    exact ⟨by omega, c2⟩
theorem s_reqSample {o0_teller_plain o0_teller_found_count o0_teller_found_byteLength o0_toldBytes_count o0_toRead_count x1 x2 : Int32} {o0_teller_open o0_teller_counts o0_teller_found_fields o0_toldBytes_bytes o0_toRead_bytes o0_picture_values o0_other_values o0_draft_values : Nat → Int32} {post : Prop} {postX : String → Prop} {W H : Nat} (hW : W ≤ 24) (hH : H ≤ 24) (h1 : ∀ x y : Nat, x < W → y < H → x1 = nI x → x2 = nI y → post) (h2 : ¬ inb W H x1.toInt x2.toInt → postX E_ix) : w_DF_requireSample o0_teller_plain (W * H) o0_teller_open 256 o0_teller_counts o0_teller_found_count o0_teller_found_byteLength (W * H * 6) o0_teller_found_fields o0_toldBytes_count (H * (2 * W + 2) + 1) o0_toldBytes_bytes o0_toRead_count 4000 o0_toRead_bytes (nI W) (nI H) (W * H) o0_picture_values (nI W) (nI H) (W * H) o0_other_values (nI W) (nI H) (W * H) o0_draft_values x1 x2 post postX := by
  unfold w_DF_requireSample
  refine s_PI_has hW hH ?_
  by_cases hi : inb W H x1.toInt x2.toInt
  · rw [if_pos hi]
    obtain ⟨x, y, hx, hy, e1, e2⟩ := in_nat hW hH hi
    exact ⟨fun _ => h1 x y hx hy e1 e2, fun c => absurd c (by decide)⟩
  · rw [if_neg hi]
    exact ⟨fun c => absurd rfl c, fun _ => h2 hi⟩
theorem ne_xa : ¬ E_ix = E_ia := by decide
theorem ne_ax : ¬ E_ia = E_ix := by decide
theorem ne_au : ¬ E_ia = E_un := by decide
theorem ne_ua : ¬ E_un = E_ia := by decide
theorem in_inb {W H x y : Nat} (hx : x < W) (hy : y < H) (hW : W ≤ 24) (hH : H ≤ 24) : inb W H (nI x).toInt (nI y).toInt := by
  rw [ni_t (by omega), ni_t (by omega)]
  exact ⟨by omega, by omega, by omega, by omega⟩
/-- what class and reference answer alike -/
theorem s_LW_put {o0_teller_plain o0_teller_found_count o0_teller_found_byteLength o0_toldBytes_count o0_toRead_count x1 x2 x3 : Int32} {o0_teller_open o0_teller_counts o0_teller_found_fields o0_toldBytes_bytes o0_toRead_bytes o0_picture_values o0_other_values o0_draft_values : Nat → Int32} {o4 : Nat → Int64} {post : Int32 → (Nat → Int32) → (Nat → Int64) → Prop} {W H : Nat} (hW : W ≤ 24) (hH : H ≤ 24) (h0 : ∀ x y : Nat, x < W → y < H → x1 = nI x → x2 = nI y → by8 x3 → post 0 (upd o0_picture_values (y * W + x) x3) (vp_updL o4 (0 : Int32).toNatClampNeg (if o0_picture_values (y * W + x) = x3 then 0 else 1))) (h1 : ¬ inb W H x1.toInt x2.toInt → post 1 o0_picture_values o4) (h2 : inb W H x1.toInt x2.toInt → ¬ by8 x3 → post 2 o0_picture_values o4) : w_LW_put o0_teller_plain (W * H) o0_teller_open 256 o0_teller_counts o0_teller_found_count o0_teller_found_byteLength (W * H * 6) o0_teller_found_fields o0_toldBytes_count (H * (2 * W + 2) + 1) o0_toldBytes_bytes o0_toRead_count 4000 o0_toRead_bytes (nI W) (nI H) (W * H) o0_picture_values (nI W) (nI H) (W * H) o0_other_values (nI W) (nI H) (W * H) o0_draft_values ((1 : Int32).toNatClampNeg) o4 x1 x2 x3 post := by
  unfold w_LW_put w_DF_put
  refine s_reqSample hW hH (fun x y hx hy e1 e2 => ?_) (fun hi => ?_)
  · subst e1 e2
    refine s_reqByte (fun hb => ?_) (fun hb => ?_)
    · refine s_paint_in hW hH hx hy ?_
      have z := h0 x y hx hy rfl rfl hb
      by_cases e : o0_picture_values (y * W + x) = x3
      · rw [if_pos e] at z ⊢
        exact ⟨nb0, ⟨fun _ => ⟨in01, z⟩, fun c => absurd rfl c⟩⟩
      · rw [if_neg e] at z ⊢
        exact ⟨nb1, ⟨fun c => absurd c (by decide), fun _ => ⟨in01, z⟩⟩⟩
    · exact ⟨fun c => absurd c ne_ax, fun _ => h2 (in_inb hx hy hW hH) hb, Or.inr rfl⟩
  · exact ⟨fun _ => h1 hi, fun c => absurd c ne_xa, Or.inl rfl⟩
theorem s_LW_second {o0_teller_plain o0_teller_found_count o0_teller_found_byteLength o0_toldBytes_count o0_toRead_count x1 x2 x3 : Int32} {o0_teller_open o0_teller_counts o0_teller_found_fields o0_toldBytes_bytes o0_toRead_bytes o0_picture_values o0_other_values o0_draft_values : Nat → Int32} {o4 : Nat → Int64} {post : Int32 → (Nat → Int32) → (Nat → Int64) → Prop} {W H : Nat} (hW : W ≤ 24) (hH : H ≤ 24) (h0 : ∀ x y : Nat, x < W → y < H → x1 = nI x → x2 = nI y → by8 x3 → post 0 (upd o0_other_values (y * W + x) x3) (vp_updL o4 (0 : Int32).toNatClampNeg (if o0_other_values (y * W + x) = x3 then 0 else 1))) (h1 : ¬ inb W H x1.toInt x2.toInt → post 1 o0_other_values o4) (h2 : inb W H x1.toInt x2.toInt → ¬ by8 x3 → post 2 o0_other_values o4) : w_LW_second o0_teller_plain (W * H) o0_teller_open 256 o0_teller_counts o0_teller_found_count o0_teller_found_byteLength (W * H * 6) o0_teller_found_fields o0_toldBytes_count (H * (2 * W + 2) + 1) o0_toldBytes_bytes o0_toRead_count 4000 o0_toRead_bytes (nI W) (nI H) (W * H) o0_picture_values (nI W) (nI H) (W * H) o0_other_values (nI W) (nI H) (W * H) o0_draft_values ((1 : Int32).toNatClampNeg) o4 x1 x2 x3 post := by
  unfold w_LW_second w_DF_second
  refine s_reqSample hW hH (fun x y hx hy e1 e2 => ?_) (fun hi => ?_)
  · subst e1 e2
    refine s_reqByte (fun hb => ?_) (fun hb => ?_)
    · refine s_paint_in hW hH hx hy ?_
      have z := h0 x y hx hy rfl rfl hb
      by_cases e : o0_other_values (y * W + x) = x3
      · rw [if_pos e] at z ⊢
        exact ⟨nb0, ⟨fun _ => ⟨in01, z⟩, fun c => absurd rfl c⟩⟩
      · rw [if_neg e] at z ⊢
        exact ⟨nb1, ⟨fun c => absurd c (by decide), fun _ => ⟨in01, z⟩⟩⟩
    · exact ⟨fun c => absurd c ne_ax, fun _ => h2 (in_inb hx hy hW hH) hb, Or.inr rfl⟩
  · exact ⟨fun _ => h1 hi, fun c => absurd c ne_xa, Or.inl rfl⟩
theorem s_MO_by {x0 : Int32} {post : Int32 → Prop} (h1 : by8 x0 → post 1) (h2 : ¬ by8 x0 → post 0) : w_MO_in x0 0 255 post := by
  refine s_MO_in ?_
  rw [t_0, t_255]
  by_cases hb : by8 x0
  · have hb' := hb
    unfold by8 at hb'
    rw [if_pos hb']; exact h1 hb
  · have hb' := hb
    unfold by8 at hb'
    rw [if_neg hb']; exact h2 hb
theorem s_MO_put {o0_fault o0_toldSize o0_fedSize o0_parts o0_plain o0_best o0_bestOne o0_bestTwo o0_place x1 x2 x3 : Int32} {o0_first o0_other o0_open o0_read o0_toldBytes o0_fed o0_part : Nat → Int32} {post : Int32 → Int32 → (Nat → Int32) → Prop} {W H : Nat} (h1W : 1 ≤ W) (hW : W ≤ 24) (h1H : 1 ≤ H) (hH : H ≤ 24) (h0 : ∀ x y : Nat, x < W → y < H → x1 = nI x → x2 = nI y → by8 x3 → post (if o0_first (y * W + x) = x3 then 0 else 1) 0 (upd o0_first (y * W + x) x3)) (h1 : ¬ inb W H x1.toInt x2.toInt → post 0 1 o0_first) (h2 : inb W H x1.toInt x2.toInt → ¬ by8 x3 → post 0 2 o0_first) : w_MO_put (nI W) (nI H) o0_fault o0_toldSize o0_fedSize o0_parts o0_plain o0_best o0_bestOne o0_bestTwo o0_place 576 o0_first 576 o0_other 576 o0_open 576 o0_read 4000 o0_toldBytes 4000 o0_fed 3600 o0_part x1 x2 x3 post := by
  unfold w_MO_put
  refine s_MO_isSample h1W hW h1H hH ?_
  by_cases hi : inb W H x1.toInt x2.toInt
  · rw [if_pos hi]
    obtain ⟨x, y, hx, hy, e1, e2⟩ := in_nat hW hH hi
    subst e1 e2
    have hz := ix_lt hW hH hx hy
    refine ⟨fun _ => ?_, fun c => absurd c (by decide)⟩
    refine s_MO_by (fun hb => ?_) (fun hb => ?_)
    · refine ⟨fun _ => ?_, fun c => absurd c (by decide)⟩
      have z := h0 x y hx hy rfl rfl hb
      rw [ix_nI2, n_cl (by omega)]
      refine ⟨n_in (by omega) (by omega), ?_⟩
      refine ⟨fun e => ⟨n_in (by omega) (by omega), nb0, ?_⟩, fun e => ⟨n_in (by omega) (by omega), nb1, ?_⟩⟩
      · rw [if_pos e] at z; exact z
      · rw [if_neg e] at z; exact z
    · exact ⟨fun c => absurd rfl c, fun _ => ⟨nb0, h2 hi hb⟩⟩
  · rw [if_neg hi]
    exact ⟨fun c => absurd rfl c, fun _ => ⟨nb0, h1 hi⟩⟩
theorem s_MO_second {o0_fault o0_toldSize o0_fedSize o0_parts o0_plain o0_best o0_bestOne o0_bestTwo o0_place x1 x2 x3 : Int32} {o0_first o0_other o0_open o0_read o0_toldBytes o0_fed o0_part : Nat → Int32} {post : Int32 → Int32 → (Nat → Int32) → Prop} {W H : Nat} (h1W : 1 ≤ W) (hW : W ≤ 24) (h1H : 1 ≤ H) (hH : H ≤ 24) (h0 : ∀ x y : Nat, x < W → y < H → x1 = nI x → x2 = nI y → by8 x3 → post (if o0_other (y * W + x) = x3 then 0 else 1) 0 (upd o0_other (y * W + x) x3)) (h1 : ¬ inb W H x1.toInt x2.toInt → post 0 1 o0_other) (h2 : inb W H x1.toInt x2.toInt → ¬ by8 x3 → post 0 2 o0_other) : w_MO_second (nI W) (nI H) o0_fault o0_toldSize o0_fedSize o0_parts o0_plain o0_best o0_bestOne o0_bestTwo o0_place 576 o0_first 576 o0_other 576 o0_open 576 o0_read 4000 o0_toldBytes 4000 o0_fed 3600 o0_part x1 x2 x3 post := by
  unfold w_MO_second
  refine s_MO_isSample h1W hW h1H hH ?_
  by_cases hi : inb W H x1.toInt x2.toInt
  · rw [if_pos hi]
    obtain ⟨x, y, hx, hy, e1, e2⟩ := in_nat hW hH hi
    subst e1 e2
    have hz := ix_lt hW hH hx hy
    refine ⟨fun _ => ?_, fun c => absurd c (by decide)⟩
    refine s_MO_by (fun hb => ?_) (fun hb => ?_)
    · refine ⟨fun _ => ?_, fun c => absurd c (by decide)⟩
      have z := h0 x y hx hy rfl rfl hb
      rw [ix_nI2, n_cl (by omega)]
      refine ⟨n_in (by omega) (by omega), ?_⟩
      refine ⟨fun e => ⟨n_in (by omega) (by omega), nb0, ?_⟩, fun e => ⟨n_in (by omega) (by omega), nb1, ?_⟩⟩
      · rw [if_pos e] at z; exact z
      · rw [if_neg e] at z; exact z
    · exact ⟨fun c => absurd rfl c, fun _ => ⟨nb0, h2 hi hb⟩⟩
  · rw [if_neg hi]
    exact ⟨fun c => absurd rfl c, fun _ => ⟨nb0, h1 hi⟩⟩
/-- a box, cut -/
theorem cut {W x : Nat} {v : Int32} (hx : x < W) (hv : 1 ≤ v.toInt) : ∃ w : Nat, x + w ≤ W ∧ (w : Int) ≤ v.toInt ∧ (x + w = W ∨ v.toInt = w) := by
  by_cases c : v.toInt ≤ ((W - x : Nat) : Int)
  · exact ⟨v.toInt.toNat, by omega, by omega, by omega⟩
  · exact ⟨W - x, by omega, by omega, by omega⟩
theorem cut_eq {W x w : Nat} {v : Int32} (hW : W ≤ 24) (hx : x < W) (h0 : x + w ≤ W) (h1 : (w : Int) ≤ v.toInt) (h2 : x + w = W ∨ v.toInt = w) : (if (nI W - nI x) < v then (nI W - nI x) else v) = nI w := by
  rw [n_sub (by omega)]
  by_cases c : ((W - x : Nat) : Int) < v.toInt
  · rw [if_pos (by rw [c_lt, ni_t (by omega)]; exact c)]
    congr 1
    omega
  · rw [if_neg (by rw [c_lt, ni_t (by omega)]; exact c)]
    rw [c_eq, ni_t (by omega)]
    omega
theorem s_LW_box {o0_teller_plain o0_teller_found_count o0_teller_found_byteLength o0_toldBytes_count o0_toRead_count x1 x2 x3 x4 x5 : Int32} {o0_teller_open o0_teller_counts o0_teller_found_fields o0_toldBytes_bytes o0_toRead_bytes o0_picture_values o0_other_values o0_draft_values : Nat → Int32} {o6 : Nat → Int64} {post : Int32 → (Nat → Int32) → (Nat → Int64) → Prop} {W H : Nat} (hW : W ≤ 24) (hH : H ≤ 24) (h0 : ∀ x y w h : Nat, x < W → y < H → x1 = nI x → x2 = nI y → x + w ≤ W → (w : Int) ≤ x3.toInt → (x + w = W ∨ x3.toInt = w) → y + h ≤ H → (h : Int) ≤ x4.toInt → (y + h = H ∨ x4.toInt = h) → 1 ≤ x3.toInt → 1 ≤ x4.toInt → by8 x5 → post 0 (rcF x5 W w h (y * W + x) o0_picture_values) (vp_updL o6 (0 : Int32).toNatClampNeg (nI (rcN x5 W w h (y * W + x) o0_picture_values 0)).toInt64)) (h1 : ¬ inb W H x1.toInt x2.toInt → post 1 o0_picture_values o6) (h2 : inb W H x1.toInt x2.toInt → ¬ (by8 x5 ∧ 1 ≤ x3.toInt ∧ 1 ≤ x4.toInt) → post 2 o0_picture_values o6) : w_LW_box o0_teller_plain (W * H) o0_teller_open 256 o0_teller_counts o0_teller_found_count o0_teller_found_byteLength (W * H * 6) o0_teller_found_fields o0_toldBytes_count (H * (2 * W + 2) + 1) o0_toldBytes_bytes o0_toRead_count 4000 o0_toRead_bytes (nI W) (nI H) (W * H) o0_picture_values (nI W) (nI H) (W * H) o0_other_values (nI W) (nI H) (W * H) o0_draft_values ((1 : Int32).toNatClampNeg) o6 x1 x2 x3 x4 x5 post := by
  unfold w_LW_box w_DF_box
  refine s_reqSample hW hH (fun x y hx hy e1 e2 => ?_) (fun hi => ?_)
  · have hi := in_inb hx hy hW hH
    subst e1 e2
    refine s_reqByte (fun hb => ?_) (fun hb => ?_)
    · by_cases c3 : 1 ≤ x3.toInt
      · refine ⟨fun c => (by exfalso; rw [c_lt, t_1] at c; omega), fun _ => ?_⟩
        by_cases c4 : 1 ≤ x4.toInt
        · refine ⟨fun _ => ?_, fun c => (by exfalso; rw [c_le, t_1] at c; omega)⟩
          obtain ⟨w, w0, w1, w2⟩ := cut hx c3
          obtain ⟨h, g0, g1, g2⟩ := cut hy c4
          intro m1 e1 m2 e2
          rw [cut_eq hW hx w0 w1 w2] at e1
          rw [cut_eq hH hy g0 g1 g2] at e2
          subst e1 e2
          refine s_PI_paintRectangle hW hH w0 g0 ⟨in01, ?_⟩
          exact h0 x y w h hx hy rfl rfl w0 w1 w2 g0 g1 g2 c3 c4 hb
        · refine ⟨fun c => (by exfalso; rw [c_le, t_1] at c; omega), fun _ => ?_⟩
          exact ⟨fun c => absurd c ne_ax, fun _ => h2 hi (fun w => c4 w.2.2), Or.inr rfl⟩
      · refine ⟨fun _ => ?_, fun c => (by exfalso; rw [c_lt, t_1] at c; omega)⟩
        exact ⟨fun c => absurd c ne_ax, fun _ => h2 hi (fun w => c3 w.2.1), Or.inr rfl⟩
    · exact ⟨fun c => absurd c ne_ax, fun _ => h2 hi (fun w => hb w.1), Or.inr rfl⟩
  · exact ⟨fun _ => h1 hi, fun c => absurd c ne_xa, Or.inl rfl⟩
theorem s_MO_box_in {o0_fault o0_toldSize o0_fedSize o0_parts o0_plain o0_best o0_bestOne o0_bestTwo o0_place x3 x4 x5 : Int32} {o0_first o0_other o0_open o0_read o0_toldBytes o0_fed o0_part : Nat → Int32} {post : Int32 → Int32 → (Nat → Int32) → Prop} {W H x y w h : Nat} (h1W : 1 ≤ W) (hW : W ≤ 24) (h1H : 1 ≤ H) (hH : H ≤ 24) (hx : x < W) (hy : y < H) (w0 : x + w ≤ W) (w1 : (w : Int) ≤ x3.toInt) (w2 : x + w = W ∨ x3.toInt = w) (g0 : y + h ≤ H) (g1 : (h : Int) ≤ x4.toInt) (g2 : y + h = H ∨ x4.toInt = h) (c3 : 1 ≤ x3.toInt) (c4 : 1 ≤ x4.toInt) (hb : by8 x5) (h0 : post (nI (rcN x5 W w h (y * W + x) o0_first 0)) 0 (rcF x5 W w h (y * W + x) o0_first)) : w_MO_box (nI W) (nI H) o0_fault o0_toldSize o0_fedSize o0_parts o0_plain o0_best o0_bestOne o0_bestTwo o0_place 576 o0_first 576 o0_other 576 o0_open 576 o0_read 4000 o0_toldBytes 4000 o0_fed 3600 o0_part (nI x) (nI y) x3 x4 x5 post := by
  unfold w_MO_box
  refine s_MO_isSample h1W hW h1H hH ?_
  rw [if_pos (in_inb hx hy hW hH)]
  refine ⟨fun _ => ?_, fun c => absurd c (by decide)⟩
  refine ⟨fun c => (by exfalso; rw [c_lt, t_1] at c; omega), fun _ => ?_⟩
  refine ⟨fun c => (by exfalso; rw [c_lt, t_1] at c; omega), fun _ => ?_⟩
  refine s_MO_by (fun _ => ?_) (fun c => absurd hb c)
  refine ⟨fun _ => ?_, fun c => absurd c (by decide)⟩
  exact ⟨h + 1, s_MO_box_60 (k_158 := fun (v7_6_18 : Int32) (v6_7_19 : Int32) (f_o0_first_q_8_20 : Nat → Int32) => post v6_7_19 0 f_o0_first_q_8_20) hW hH w0 w1 w2 g0 g1 g2 h y 0 _ rfl (by omega) h0⟩
theorem s_MO_box_ix {o0_fault o0_toldSize o0_fedSize o0_parts o0_plain o0_best o0_bestOne o0_bestTwo o0_place x1 x2 x3 x4 x5 : Int32} {o0_first o0_other o0_open o0_read o0_toldBytes o0_fed o0_part : Nat → Int32} {post : Int32 → Int32 → (Nat → Int32) → Prop} {W H : Nat} (h1W : 1 ≤ W) (hW : W ≤ 24) (h1H : 1 ≤ H) (hH : H ≤ 24) (hi : ¬ inb W H x1.toInt x2.toInt) (h1 : post 0 1 o0_first) : w_MO_box (nI W) (nI H) o0_fault o0_toldSize o0_fedSize o0_parts o0_plain o0_best o0_bestOne o0_bestTwo o0_place 576 o0_first 576 o0_other 576 o0_open 576 o0_read 4000 o0_toldBytes 4000 o0_fed 3600 o0_part x1 x2 x3 x4 x5 post := by
  unfold w_MO_box
  refine s_MO_isSample h1W hW h1H hH ?_
  rw [if_neg hi]
  exact ⟨fun c => absurd rfl c, fun _ => h1⟩
theorem s_MO_box_ia {o0_fault o0_toldSize o0_fedSize o0_parts o0_plain o0_best o0_bestOne o0_bestTwo o0_place x1 x2 x3 x4 x5 : Int32} {o0_first o0_other o0_open o0_read o0_toldBytes o0_fed o0_part : Nat → Int32} {post : Int32 → Int32 → (Nat → Int32) → Prop} {W H : Nat} (h1W : 1 ≤ W) (hW : W ≤ 24) (h1H : 1 ≤ H) (hH : H ≤ 24) (hi : inb W H x1.toInt x2.toInt) (hn : ¬ (by8 x5 ∧ 1 ≤ x3.toInt ∧ 1 ≤ x4.toInt)) (h1 : post 0 2 o0_first) : w_MO_box (nI W) (nI H) o0_fault o0_toldSize o0_fedSize o0_parts o0_plain o0_best o0_bestOne o0_bestTwo o0_place 576 o0_first 576 o0_other 576 o0_open 576 o0_read 4000 o0_toldBytes 4000 o0_fed 3600 o0_part x1 x2 x3 x4 x5 post := by
  unfold w_MO_box
  refine s_MO_isSample h1W hW h1H hH ?_
  rw [if_pos hi]
  refine ⟨fun _ => ?_, fun c => absurd c (by decide)⟩
  refine ⟨fun _ => h1, fun c3 => ⟨fun _ => h1, fun c4 => ?_⟩⟩
  refine s_MO_by (fun hb => ?_) (fun _ => ⟨fun c => absurd rfl c, fun _ => h1⟩)
  exfalso
  apply hn
  rw [c_lt, t_1] at c3 c4
  exact ⟨hb, by omega, by omega⟩
theorem s_LW_at {o0_teller_plain o0_teller_found_count o0_teller_found_byteLength o0_toldBytes_count o0_toRead_count x1 x2 : Int32} {o0_teller_open o0_teller_counts o0_teller_found_fields o0_toldBytes_bytes o0_toRead_bytes o0_picture_values o0_other_values o0_draft_values : Nat → Int32} {o3 : Nat → Int64} {post : Int32 → (Nat → Int64) → Prop} {W H : Nat} (hW : W ≤ 24) (hH : H ≤ 24) (h0 : ∀ x y : Nat, x < W → y < H → x1 = nI x → x2 = nI y → post 0 (vp_updL o3 (0 : Int32).toNatClampNeg (o0_picture_values (y * W + x)).toInt64)) (h1 : ¬ inb W H x1.toInt x2.toInt → post 1 o3) : w_LW_at o0_teller_plain (W * H) o0_teller_open 256 o0_teller_counts o0_teller_found_count o0_teller_found_byteLength (W * H * 6) o0_teller_found_fields o0_toldBytes_count (H * (2 * W + 2) + 1) o0_toldBytes_bytes o0_toRead_count 4000 o0_toRead_bytes (nI W) (nI H) (W * H) o0_picture_values (nI W) (nI H) (W * H) o0_other_values (nI W) (nI H) (W * H) o0_draft_values ((1 : Int32).toNatClampNeg) o3 x1 x2 post := by
  unfold w_LW_at w_DF_at
  refine s_reqSample hW hH (fun x y hx hy e1 e2 => ?_) (fun hi => ⟨fun _ => h1 hi, rfl⟩)
  subst e1 e2
  refine s_value_in hW hH hx hy ⟨in01, ?_⟩
  exact h0 x y hx hy rfl rfl
theorem s_LW_byteAt {o0_teller_plain o0_teller_found_count o0_teller_found_byteLength o0_toRead_count x1 : Int32} {o0_teller_open o0_teller_counts o0_teller_found_fields o0_toldBytes_bytes o0_toRead_bytes o0_picture_values o0_other_values o0_draft_values : Nat → Int32} {o2 : Nat → Int64} {post : Int32 → (Nat → Int64) → Prop} {W H T : Nat} (hH : H ≤ 24) (hW : W ≤ 24) (hT : T ≤ H * (2 * W + 2) + 1) (h0 : ∀ i : Nat, i < T → x1 = nI i → post 0 (vp_updL o2 (0 : Int32).toNatClampNeg (o0_toldBytes_bytes i).toInt64)) (h1 : ¬ (0 ≤ x1.toInt ∧ x1.toInt < T) → post 1 o2) : w_LW_byteAt o0_teller_plain (W * H) o0_teller_open 256 o0_teller_counts o0_teller_found_count o0_teller_found_byteLength (W * H * 6) o0_teller_found_fields (nI T) (H * (2 * W + 2) + 1) o0_toldBytes_bytes o0_toRead_count 4000 o0_toRead_bytes (nI W) (nI H) (W * H) o0_picture_values (nI W) (nI H) (W * H) o0_other_values (nI W) (nI H) (W * H) o0_draft_values ((1 : Int32).toNatClampNeg) o2 x1 post := by
  have hC2 : H * (2 * W + 2) ≤ 24 * 50 := Nat.mul_le_mul hH (by omega)
  unfold w_LW_byteAt w_DF_byteAt
  by_cases hi : 0 ≤ x1.toInt ∧ x1.toInt < T
  · have e : x1 = nI x1.toInt.toNat := by rw [c_eq, ni_t (by omega)]; omega
    generalize hk : x1.toInt.toNat = k at e
    have hkT : k < T := by omega
    subst e
    refine ⟨fun c => (by exfalso; (first | omega | ((try simp (disch := omega) only [n_0, n_1, n_2, n_3, n_4, n_5, n_6, n_8, n_24, n_255, n_256, n_576, n_4000, nI_add, pk_mul, n_sub, n_cl, n_lt, n_le, n_eq, not_true_eq_false, not_false_eq_true] at c) <;> omega))), fun _ => ?_⟩
    refine ⟨fun _ => ?_, fun c => (by exfalso; (first | omega | ((try simp (disch := omega) only [n_0, n_1, n_2, n_3, n_4, n_5, n_6, n_8, n_24, n_255, n_256, n_576, n_4000, nI_add, pk_mul, n_sub, n_cl, n_lt, n_le, n_eq, not_true_eq_false, not_false_eq_true] at c) <;> omega)))⟩
    exact s_BR_get_in hT (by omega) hkT ⟨in01, h0 k hkT rfl⟩
  · have r := h1 hi
    refine ⟨fun _ => ⟨fun _ => r, rfl⟩, fun c1 => ⟨fun c2 => ?_, fun _ => ⟨fun _ => r, rfl⟩⟩⟩
    exfalso
    apply hi
    rw [c_lt, t_0] at c1
    rw [c_lt, ni_t (by omega)] at c2
    exact ⟨by omega, c2⟩
theorem s_MO_byteAt {o0_fault o0_fedSize o0_parts o0_plain o0_best o0_bestOne o0_bestTwo o0_place x1 : Int32} {o0_first o0_other o0_open o0_read o0_toldBytes o0_fed o0_part : Nat → Int32} {post : Int32 → Int32 → Prop} {W H T : Nat} (hH : H ≤ 24) (hW : W ≤ 24) (hT : T ≤ H * (2 * W + 2) + 1) (h0 : ∀ i : Nat, i < T → x1 = nI i → post (o0_toldBytes i) 0) (h1 : ¬ (0 ≤ x1.toInt ∧ x1.toInt < T) → post 0 1) : w_MO_byteAt (nI W) (nI H) o0_fault (nI T) o0_fedSize o0_parts o0_plain o0_best o0_bestOne o0_bestTwo o0_place 576 o0_first 576 o0_other 576 o0_open 576 o0_read 4000 o0_toldBytes 4000 o0_fed 3600 o0_part x1 post := by
  have hC2 : H * (2 * W + 2) ≤ 24 * 50 := Nat.mul_le_mul hH (by omega)
  have em : (nI T - 1).toInt = (T : Int) - 1 := by
    rw [iI_nI, i_1, iI_sub, iI_toInt (by omega) (by omega)]
  unfold w_MO_byteAt
  refine s_MO_in ?_
  rw [t_0, em]
  by_cases hi : 0 ≤ x1.toInt ∧ x1.toInt < T
  · rw [if_pos (by omega)]
    refine ⟨fun c => absurd c (by decide), fun _ => ?_⟩
    have e : x1 = nI x1.toInt.toNat := by rw [c_eq, ni_t (by omega)]; omega
    generalize hk : x1.toInt.toNat = k at e
    have hkT : k < T := by omega
    subst e
    refine ⟨n_in (by omega) (by omega), ?_⟩
    rw [n_cl (by omega)]
    exact h0 k hkT rfl
  · rw [if_neg (by omega)]
    exact ⟨fun _ => h1 hi, fun c => absurd rfl c⟩
theorem s_LW_part {o0_teller_plain o0_teller_found_byteLength o0_toldBytes_count o0_toRead_count x1 x2 : Int32} {o0_teller_open o0_teller_counts o0_teller_found_fields o0_toldBytes_bytes o0_toRead_bytes o0_picture_values o0_other_values o0_draft_values : Nat → Int32} {o3 : Nat → Int64} {post : Int32 → (Nat → Int64) → Prop} {W H P : Nat} (hW : W ≤ 24) (hH : H ≤ 24) (hP : P ≤ W * H) (h0 : ∀ k i : Nat, k < P → i < 6 → x1 = nI k → x2 = nI i → post 0 (vp_updL o3 (0 : Int32).toNatClampNeg (o0_teller_found_fields (k * 6 + i)).toInt64)) (h1 : ¬ (0 ≤ x1.toInt ∧ x1.toInt < P) → post 1 o3) (h2 : (0 ≤ x1.toInt ∧ x1.toInt < P) → ¬ (0 ≤ x2.toInt ∧ x2.toInt < 6) → post 2 o3) : w_LW_part o0_teller_plain (W * H) o0_teller_open 256 o0_teller_counts (nI P) o0_teller_found_byteLength (W * H * 6) o0_teller_found_fields o0_toldBytes_count (H * (2 * W + 2) + 1) o0_toldBytes_bytes o0_toRead_count 4000 o0_toRead_bytes (nI W) (nI H) (W * H) o0_picture_values (nI W) (nI H) (W * H) o0_other_values (nI W) (nI H) (W * H) o0_draft_values ((1 : Int32).toNatClampNeg) o3 x1 x2 post := by
  have hs := pl_le hW hH
  have t6 : (6 : Int32).toInt = 6 := rfl
  unfold w_LW_part w_DF_part
  by_cases hi : 0 ≤ x1.toInt ∧ x1.toInt < P
  · refine ⟨fun c => (by exfalso; rw [c_lt, t_0] at c; omega), fun _ => ?_⟩
    refine ⟨fun _ => ?_, fun c => (by exfalso; rw [c_lt, ni_t (by omega)] at c; omega)⟩
    by_cases hj : 0 ≤ x2.toInt ∧ x2.toInt < 6
    · refine ⟨fun c => (by exfalso; rw [c_lt, t_0] at c; omega), fun _ => ?_⟩
      refine ⟨fun _ => ?_, fun c => (by exfalso; rw [c_lt, t6] at c; omega)⟩
      have e : x1 = nI x1.toInt.toNat := by rw [c_eq, ni_t (by omega)]; omega
      generalize hk : x1.toInt.toNat = k at e
      have hkP : k < P := by omega
      have e2 : x2 = nI x2.toInt.toNat := by rw [c_eq, ni_t (by omega)]; omega
      generalize hk2 : x2.toInt.toNat = i at e2
      have hi6 : i < 6 := by omega
      subst e e2
      exact s_PL_field hW hH (by omega) hi6 ⟨in01, h0 k i hkP hi6 rfl rfl⟩
    · have r := h2 hi hj
      have q : (E_ia = E_ix → post 1 o3) ∧ (E_ia = E_ia → post 2 o3) ∧ (E_ia = E_ix ∨ E_ia = E_ia) := ⟨fun c => absurd c ne_ax, fun _ => r, Or.inr rfl⟩
      refine ⟨fun _ => q, fun c1 => ⟨fun c2 => ?_, fun _ => q⟩⟩
      exfalso
      apply hj
      rw [c_lt, t_0] at c1
      rw [c_lt, t6] at c2
      exact ⟨by omega, c2⟩
  · have r := h1 hi
    have q : (E_ix = E_ix → post 1 o3) ∧ (E_ix = E_ia → post 2 o3) ∧ (E_ix = E_ix ∨ E_ix = E_ia) := ⟨fun _ => r, fun c => absurd c ne_xa, Or.inl rfl⟩
    refine ⟨fun _ => q, fun c1 => ⟨fun c2 => ?_, fun _ => q⟩⟩
    exfalso
    apply hi
    rw [c_lt, t_0] at c1
    rw [c_lt, ni_t (by omega)] at c2
    exact ⟨by omega, c2⟩
theorem s_MO_part {o0_fault o0_toldSize o0_fedSize o0_plain o0_best o0_bestOne o0_bestTwo o0_place x1 x2 : Int32} {o0_first o0_other o0_open o0_read o0_toldBytes o0_fed o0_part : Nat → Int32} {post : Int32 → Int32 → Prop} {W H P : Nat} (hW : W ≤ 24) (hH : H ≤ 24) (hP : P ≤ W * H) (h0 : ∀ k i : Nat, k < P → i < 6 → x1 = nI k → x2 = nI i → post (o0_part (k * 6 + i)) 0) (h1 : ¬ (0 ≤ x1.toInt ∧ x1.toInt < P) → post 0 1) (h2 : (0 ≤ x1.toInt ∧ x1.toInt < P) → ¬ (0 ≤ x2.toInt ∧ x2.toInt < 6) → post 0 2) : w_MO_part (nI W) (nI H) o0_fault o0_toldSize o0_fedSize (nI P) o0_plain o0_best o0_bestOne o0_bestTwo o0_place 576 o0_first 576 o0_other 576 o0_open 576 o0_read 4000 o0_toldBytes 4000 o0_fed 3600 o0_part x1 x2 post := by
  have hs := pl_le hW hH
  have t5 : (5 : Int32).toInt = 5 := rfl
  have em : (nI P - 1).toInt = (P : Int) - 1 := by
    rw [iI_nI, i_1, iI_sub, iI_toInt (by omega) (by omega)]
  unfold w_MO_part
  refine s_MO_in ?_
  rw [t_0, em]
  by_cases hi : 0 ≤ x1.toInt ∧ x1.toInt < P
  · rw [if_pos (by omega)]
    refine ⟨fun _ => ?_, fun c => absurd c (by decide)⟩
    refine s_MO_in ?_
    rw [t_0, t5]
    by_cases hj : 0 ≤ x2.toInt ∧ x2.toInt < 6
    · rw [if_pos (by omega)]
      refine ⟨fun _ => ?_, fun c => absurd c (by decide)⟩
      have e : x1 = nI x1.toInt.toNat := by rw [c_eq, ni_t (by omega)]; omega
      generalize hk : x1.toInt.toNat = k at e
      have hkP : k < P := by omega
      have e2 : x2 = nI x2.toInt.toNat := by rw [c_eq, ni_t (by omega)]; omega
      generalize hk2 : x2.toInt.toNat = i at e2
      have hi6 : i < 6 := by omega
      subst e e2
      rw [n_6, pk_mul, nI_add, Nat.mul_comm 6 k]
      refine ⟨n_in (by omega) (by omega), ?_⟩
      rw [n_cl (by omega)]
      exact h0 k i hkP hi6 rfl rfl
    · rw [if_neg (by omega)]
      exact ⟨fun c => absurd rfl c, fun _ => h2 hi hj⟩
  · rw [if_neg (by omega)]
    exact ⟨fun c => absurd rfl c, fun _ => h1 hi⟩
theorem s_LW_feed {o0_teller_plain o0_teller_found_count o0_teller_found_byteLength o0_toldBytes_count x1 : Int32} {o0_teller_open o0_teller_counts o0_teller_found_fields o0_toldBytes_bytes o0_toRead_bytes o0_picture_values o0_other_values o0_draft_values : Nat → Int32} {o2 : Nat → Int64} {post : Int32 → Int32 → (Nat → Int32) → (Nat → Int64) → Prop} {W H F : Nat} (hF : F ≤ 4000) (h0 : by8 x1 → F < 4000 → post 0 (nI (F + 1)) (upd o0_toRead_bytes F x1) (vp_updL o2 (0 : Int32).toNatClampNeg (nI (F + 1)).toInt64)) (h1 : ¬ by8 x1 → post 1 (nI F) o0_toRead_bytes o2) (h2 : by8 x1 → F = 4000 → post 2 (nI F) o0_toRead_bytes o2) : w_LW_feed o0_teller_plain (W * H) o0_teller_open 256 o0_teller_counts o0_teller_found_count o0_teller_found_byteLength (W * H * 6) o0_teller_found_fields o0_toldBytes_count (H * (2 * W + 2) + 1) o0_toldBytes_bytes (nI F) 4000 o0_toRead_bytes (nI W) (nI H) (W * H) o0_picture_values (nI W) (nI H) (W * H) o0_other_values (nI W) (nI H) (W * H) o0_draft_values ((1 : Int32).toNatClampNeg) o2 x1 post := by
  unfold w_LW_feed w_DF_feed
  refine s_reqByte (fun hb => ?_) (fun hb => ⟨fun _ => h1 hb, fun c => absurd c ne_au, Or.inl rfl⟩)
  by_cases c : F < 4000
  · refine ⟨fun _ => ?_, fun c => (by exfalso; (first | omega | ((try simp (disch := omega) only [n_0, n_1, n_2, n_3, n_4, n_5, n_6, n_8, n_24, n_255, n_256, n_576, n_4000, nI_add, pk_mul, n_sub, n_cl, n_lt, n_le, n_eq, not_true_eq_false, not_false_eq_true] at c) <;> omega)))⟩
    exact s_BR_add c (by omega) ⟨in01, h0 hb c⟩
  · refine ⟨fun c => (by exfalso; (first | omega | ((try simp (disch := omega) only [n_0, n_1, n_2, n_3, n_4, n_5, n_6, n_8, n_24, n_255, n_256, n_576, n_4000, nI_add, pk_mul, n_sub, n_cl, n_lt, n_le, n_eq, not_true_eq_false, not_false_eq_true] at c) <;> omega))), fun _ => ?_⟩
    exact ⟨fun c => absurd c ne_ua, fun _ => h2 hb (by omega), Or.inr rfl⟩
theorem s_MO_feed {o0_fault o0_toldSize o0_parts o0_plain o0_best o0_bestOne o0_bestTwo o0_place x1 : Int32} {o0_first o0_other o0_open o0_read o0_toldBytes o0_fed o0_part : Nat → Int32} {post : Int32 → Int32 → Int32 → (Nat → Int32) → Prop} {W H F : Nat} (hF : F ≤ 4000) (h0 : by8 x1 → F < 4000 → post (nI (F + 1)) 0 (nI (F + 1)) (upd o0_fed F x1)) (h1 : ¬ by8 x1 → post 0 1 (nI F) o0_fed) (h2 : by8 x1 → F = 4000 → post 0 2 (nI F) o0_fed) : w_MO_feed (nI W) (nI H) o0_fault o0_toldSize (nI F) o0_parts o0_plain o0_best o0_bestOne o0_bestTwo o0_place 576 o0_first 576 o0_other 576 o0_open 576 o0_read 4000 o0_toldBytes 4000 o0_fed 3600 o0_part x1 post := by
  unfold w_MO_feed
  refine s_MO_by (fun hb => ?_) (fun hb => ⟨fun c => absurd rfl c, fun _ => h1 hb⟩)
  refine ⟨fun _ => ?_, fun c => absurd c (by decide)⟩
  by_cases c : F < 4000
  · refine ⟨fun _ => ?_, fun c => (by exfalso; (first | omega | ((try simp (disch := omega) only [n_0, n_1, n_2, n_3, n_4, n_5, n_6, n_8, n_24, n_255, n_256, n_576, n_4000, nI_add, pk_mul, n_sub, n_cl, n_lt, n_le, n_eq, not_true_eq_false, not_false_eq_true] at c) <;> omega)))⟩
    refine ⟨n_in (by omega) (by omega), ?_⟩
    rw [n_cl (by omega), n_1, nI_add]
    exact h0 hb c
  · refine ⟨fun c => (by exfalso; (first | omega | ((try simp (disch := omega) only [n_0, n_1, n_2, n_3, n_4, n_5, n_6, n_8, n_24, n_255, n_256, n_576, n_4000, nI_add, pk_mul, n_sub, n_cl, n_lt, n_le, n_eq, not_true_eq_false, not_false_eq_true] at c) <;> omega))), fun _ => ?_⟩
    exact h2 hb (by omega)
theorem s_LW_pass {o0_teller_plain o0_teller_found_count o0_teller_found_byteLength : Int32} {o0_teller_open o0_teller_counts o0_teller_found_fields o0_toldBytes_bytes o0_toRead_bytes o0_picture_values o0_other_values o0_draft_values : Nat → Int32} {o1 : Nat → Int64} {post : Int32 → Int32 → (Nat → Int32) → (Nat → Int64) → Prop} {W H F T : Nat} (hH : H ≤ 24) (hW : W ≤ 24) (hT : T ≤ H * (2 * W + 2) + 1) (hF : F ≤ 4000) (h0 : F + T ≤ 4000 → post 0 (nI (F + T)) (ap o0_toldBytes_bytes T 0 F o0_toRead_bytes) (vp_updL o1 (0 : Int32).toNatClampNeg (nI (F + T)).toInt64)) (h1 : 4000 < F + T → post 1 (nI F) o0_toRead_bytes o1) : w_LW_pass o0_teller_plain (W * H) o0_teller_open 256 o0_teller_counts o0_teller_found_count o0_teller_found_byteLength (W * H * 6) o0_teller_found_fields (nI T) (H * (2 * W + 2) + 1) o0_toldBytes_bytes (nI F) 4000 o0_toRead_bytes (nI W) (nI H) (W * H) o0_picture_values (nI W) (nI H) (W * H) o0_other_values (nI W) (nI H) (W * H) o0_draft_values ((1 : Int32).toNatClampNeg) o1 post := by
  have hC2 : H * (2 * W + 2) ≤ 24 * 50 := Nat.mul_le_mul hH (by omega)
  unfold w_LW_pass w_DF_pass
  by_cases c : F + T ≤ 4000
  · refine ⟨fun _ => ?_, fun c => (by exfalso; (first | omega | ((try simp (disch := omega) only [n_0, n_1, n_2, n_3, n_4, n_5, n_6, n_8, n_24, n_255, n_256, n_576, n_4000, nI_add, pk_mul, n_sub, n_cl, n_lt, n_le, n_eq, not_true_eq_false, not_false_eq_true] at c) <;> omega)))⟩
    exact s_BR_addAll hT (by omega) (by omega) c ⟨in01, h0 c⟩
  · refine ⟨fun c => (by exfalso; (first | omega | ((try simp (disch := omega) only [n_0, n_1, n_2, n_3, n_4, n_5, n_6, n_8, n_24, n_255, n_256, n_576, n_4000, nI_add, pk_mul, n_sub, n_cl, n_lt, n_le, n_eq, not_true_eq_false, not_false_eq_true] at c) <;> omega))), fun _ => ?_⟩
    exact ⟨fun _ => h1 (by omega), rfl⟩
