/-! PURE ROWS: the picture. Own work. -/
abbrev inb (w h : Nat) (a b : Int) : Prop := 0 ≤ a ∧ a < w ∧ 0 ≤ b ∧ b < h
theorem ni_t {n : Nat} (h : n ≤ 100000) : (nI n).toInt = (n : Int) := nI_toInt (by omega)
theorem s_PI_has {w h n : Nat} {f : Nat → Int32} {x y : Int32} (hw : w ≤ 24) (hh : h ≤ 24) {post : Int32 → Prop} (H : post (if inb w h x.toInt y.toInt then 1 else 0)) : w_PI_has (nI w) (nI h) n f x y post := by
  unfold w_PI_has
  simp only [c_lt, c_le, ni_t (show w ≤ 100000 by omega), ni_t (show h ≤ 100000 by omega), t_0]
  refine ⟨fun c => ⟨nb0, ?_⟩, fun c => ⟨fun c2 => ⟨nb0, ?_⟩, fun c2 => ⟨fun c3 => ⟨nb0, ?_⟩, fun c3 => ⟨fun c4 => ⟨nb0, ?_⟩, fun c4 => ⟨nb1, ?_⟩⟩⟩⟩⟩
  · rwa [if_neg (by omega)] at H
  · rwa [if_neg (by omega)] at H
  · rwa [if_neg (by omega)] at H
  · rwa [if_neg (by omega)] at H
  · rwa [if_pos (by omega)] at H
/-- a place in the picture -/
theorem s_has_in {w h n : Nat} {f : Nat → Int32} {x y : Nat} (hw : w ≤ 24) (hh : h ≤ 24) (hx : x < w) (hy : y < h) {post : Int32 → Prop} (H : post 1) : w_PI_has (nI w) (nI h) n f (nI x) (nI y) post := by
  refine s_PI_has hw hh ?_
  rw [ni_t (by omega), ni_t (by omega), if_pos ⟨by omega, by omega, by omega, by omega⟩]
  exact H
theorem s_has_out {w h n : Nat} {f : Nat → Int32} {x y : Int32} (hw : w ≤ 24) (hh : h ≤ 24) (ho : ¬ inb w h x.toInt y.toInt) {post : Int32 → Prop} (H : post 0) : w_PI_has (nI w) (nI h) n f x y post := by
  refine s_PI_has hw hh ?_
  rw [if_neg ho]
  exact H
/-- an int in the picture is a number below its width -/
theorem in_nat {w h : Nat} {x y : Int32} (hw : w ≤ 24) (hh : h ≤ 24) (hi : inb w h x.toInt y.toInt) : ∃ a b : Nat, a < w ∧ b < h ∧ x = nI a ∧ y = nI b := by
  refine ⟨x.toInt.toNat, y.toInt.toNat, by omega, by omega, ?_, ?_⟩
  · rw [iI_nI, Int.toNat_of_nonneg hi.1]; exact iI_of x
  · rw [iI_nI, Int.toNat_of_nonneg hi.2.2.1]; exact iI_of y
theorem ix_nI (y w x : Nat) : nI y * nI w + nI x = nI (y * w + x) := by rw [pk_mul, nI_add]
theorem ix_nI2 (y w x : Nat) : nI w * nI y + nI x = nI (y * w + x) := by rw [pk_mul, nI_add, Nat.mul_comm w y]
theorem ix_lt {w h x y : Nat} (hw : w ≤ 24) (hh : h ≤ 24) (hx : x < w) (hy : y < h) : y * w + x < w * h ∧ w * h ≤ 576 := ⟨pl_lt hx hy, pl_le hw hh⟩
theorem s_value_in {w h : Nat} {f : Nat → Int32} {x y : Nat} (hw : w ≤ 24) (hh : h ≤ 24) (hx : x < w) (hy : y < h) {post : Int32 → Prop} (H : post (f (y * w + x))) : w_PI_value (nI w) (nI h) (w * h) f (nI x) (nI y) post := by
  have hz := ix_lt hw hh hx hy
  unfold w_PI_value
  refine s_has_in hw hh hx hy ⟨fun c => absurd c (by decide), fun _ => ?_⟩
  rw [ix_nI, nI_clamp (by omega)]
  exact ⟨vp_in_nI hz.1 (by omega), H⟩
theorem s_value_out {w h n : Nat} {f : Nat → Int32} {x y : Int32} (hw : w ≤ 24) (hh : h ≤ 24) (ho : ¬ inb w h x.toInt y.toInt) {post : Int32 → Prop} (H : post (-1)) : w_PI_value (nI w) (nI h) n f x y post := by
  unfold w_PI_value
  exact s_has_out hw hh ho ⟨fun _ => H, fun c => absurd rfl c⟩
theorem s_paint_in {w h : Nat} {f : Nat → Int32} {x y : Nat} {v : Int32} (hw : w ≤ 24) (hh : h ≤ 24) (hx : x < w) (hy : y < h) {post : Int32 → (Nat → Int32) → Prop} (H : post (if f (y * w + x) = v then 0 else 1) (upd f (y * w + x) v)) : w_PI_paint (nI w) (nI h) (w * h) f (nI x) (nI y) v post := by
  have hz := ix_lt hw hh hx hy
  unfold w_PI_paint
  refine s_has_in hw hh hx hy ⟨fun _ => ?_, fun c => absurd c (by decide)⟩
  rw [ix_nI, nI_clamp (by omega)]
  have hv := vp_in_nI hz.1 (show w * h < 2 ^ 31 by omega)
  refine ⟨hv, fun c => ⟨hv, nb0, ?_⟩, fun c => ⟨hv, nb1, ?_⟩⟩
  · rwa [if_pos c] at H
  · rwa [if_neg c] at H
theorem s_holds {w h n : Nat} {f : Nat → Int32} {x y a b : Int32} (hw : w ≤ 24) (hh : h ≤ 24) {post : Int32 → Prop} (H : post (if inb w h x.toInt y.toInt ∧ 1 ≤ a.toInt ∧ x.toInt + a.toInt ≤ w ∧ 1 ≤ b.toInt ∧ y.toInt + b.toInt ≤ h then 1 else 0)) : w_PI_holds (nI w) (nI h) n f x y a b post := by
  unfold w_PI_holds
  refine s_PI_has hw hh ?_
  by_cases hi : inb w h x.toInt y.toInt
  · rw [if_pos hi]
    obtain ⟨p, q, hp, hq, rfl, rfl⟩ := in_nat hw hh hi
    rw [ni_t (show p ≤ 100000 by omega), ni_t (show q ≤ 100000 by omega)] at hi H
    refine ⟨fun c => absurd c (by decide), fun _ => ?_⟩
    rw [pk_sub (by omega), pk_sub (by omega)]
    simp only [c_lt, ni_t (show w - p ≤ 100000 by omega), ni_t (show h - q ≤ 100000 by omega), t_1]
    refine ⟨fun c => ⟨nb0, ?_⟩, fun c => ⟨fun c2 => ⟨nb0, ?_⟩, fun c2 => ⟨fun c3 => ⟨nb0, ?_⟩, fun c3 => ⟨fun c4 => ⟨nb0, ?_⟩, fun c4 => ⟨nb1, ?_⟩⟩⟩⟩⟩
    · rwa [if_neg (by omega)] at H
    · rwa [if_neg (by omega)] at H
    · rwa [if_neg (by omega)] at H
    · rwa [if_neg (by omega)] at H
    · rwa [if_pos (by omega)] at H
  · rw [if_neg hi]
    rw [if_neg (fun z => hi z.1)] at H
    exact ⟨fun _ => ⟨nb0, H⟩, fun c => absurd rfl c⟩
