theorem lay_PI : ∀ w ∈ u_ws R_PI F_PI 3, w ∈ AW := by
  intro w hw
  obtain ⟨k, hk, rfl⟩ := List.mem_map.mp hw
  have hk := List.mem_range.mp hk
  match k, hk with
  | 0, _ => exact aw_mem (List.mem_of_getElem? (i := 77) (by decide +kernel)) (by decide +kernel)
  | 1, _ => exact aw_mem (List.mem_of_getElem? (i := 79) (by decide +kernel)) (by decide +kernel)
  | 2, _ => exact aw_mem (List.mem_of_getElem? (i := 81) (by decide +kernel)) (by decide +kernel)
  | k + 3, hk => omega
theorem lay_BR : ∀ w ∈ u_ws R_BR F_BR 2, w ∈ AW := by
  intro w hw
  obtain ⟨k, hk, rfl⟩ := List.mem_map.mp hw
  have hk := List.mem_range.mp hk
  match k, hk with
  | 0, _ => exact aw_mem (List.mem_of_getElem? (i := 136) (by decide +kernel)) (by decide +kernel)
  | 1, _ => exact aw_mem (List.mem_of_getElem? (i := 138) (by decide +kernel)) (by decide +kernel)
  | k + 2, hk => omega
theorem lay_PL : ∀ w ∈ u_ws R_PL F_PL 3, w ∈ AW := by
  intro w hw
  obtain ⟨k, hk, rfl⟩ := List.mem_map.mp hw
  have hk := List.mem_range.mp hk
  match k, hk with
  | 0, _ => exact aw_mem (List.mem_of_getElem? (i := 102) (by decide +kernel)) (by decide +kernel)
  | 1, _ => exact aw_mem (List.mem_of_getElem? (i := 104) (by decide +kernel)) (by decide +kernel)
  | 2, _ => exact aw_mem (List.mem_of_getElem? (i := 106) (by decide +kernel)) (by decide +kernel)
  | k + 3, hk => omega
theorem lay_TE : ∀ w ∈ u_ws R_TE F_TE 4, w ∈ AW := by
  intro w hw
  obtain ⟨k, hk, rfl⟩ := List.mem_map.mp hw
  have hk := List.mem_range.mp hk
  match k, hk with
  | 0, _ => exact aw_mem (List.mem_of_getElem? (i := 116) (by decide +kernel)) (by decide +kernel)
  | 1, _ => exact aw_mem (List.mem_of_getElem? (i := 118) (by decide +kernel)) (by decide +kernel)
  | 2, _ => exact aw_mem (List.mem_of_getElem? (i := 120) (by decide +kernel)) (by decide +kernel)
  | 3, _ => exact aw_mem (List.mem_of_getElem? (i := 122) (by decide +kernel)) (by decide +kernel)
  | k + 4, hk => omega
theorem lay_DF : ∀ w ∈ u_ws R_DF F_DF 6, w ∈ AW := by
  intro w hw
  obtain ⟨k, hk, rfl⟩ := List.mem_map.mp hw
  have hk := List.mem_range.mp hk
  match k, hk with
  | 0, _ => exact aw_mem (List.mem_of_getElem? (i := 147) (by decide +kernel)) (by decide +kernel)
  | 1, _ => exact aw_mem (List.mem_of_getElem? (i := 149) (by decide +kernel)) (by decide +kernel)
  | 2, _ => exact aw_mem (List.mem_of_getElem? (i := 151) (by decide +kernel)) (by decide +kernel)
  | 3, _ => exact aw_mem (List.mem_of_getElem? (i := 153) (by decide +kernel)) (by decide +kernel)
  | 4, _ => exact aw_mem (List.mem_of_getElem? (i := 155) (by decide +kernel)) (by decide +kernel)
  | 5, _ => exact aw_mem (List.mem_of_getElem? (i := 157) (by decide +kernel)) (by decide +kernel)
  | k + 6, hk => omega
theorem lay_MO : ∀ w ∈ u_ws R_MO F_MO 18, w ∈ AW := by
  intro w hw
  obtain ⟨k, hk, rfl⟩ := List.mem_map.mp hw
  have hk := List.mem_range.mp hk
  match k, hk with
  | 0, _ => exact aw_mem (List.mem_of_getElem? (i := 584) (by decide +kernel)) (by decide +kernel)
  | 1, _ => exact aw_mem (List.mem_of_getElem? (i := 586) (by decide +kernel)) (by decide +kernel)
  | 2, _ => exact aw_mem (List.mem_of_getElem? (i := 588) (by decide +kernel)) (by decide +kernel)
  | 3, _ => exact aw_mem (List.mem_of_getElem? (i := 590) (by decide +kernel)) (by decide +kernel)
  | 4, _ => exact aw_mem (List.mem_of_getElem? (i := 592) (by decide +kernel)) (by decide +kernel)
  | 5, _ => exact aw_mem (List.mem_of_getElem? (i := 594) (by decide +kernel)) (by decide +kernel)
  | 6, _ => exact aw_mem (List.mem_of_getElem? (i := 596) (by decide +kernel)) (by decide +kernel)
  | 7, _ => exact aw_mem (List.mem_of_getElem? (i := 598) (by decide +kernel)) (by decide +kernel)
  | 8, _ => exact aw_mem (List.mem_of_getElem? (i := 600) (by decide +kernel)) (by decide +kernel)
  | 9, _ => exact aw_mem (List.mem_of_getElem? (i := 602) (by decide +kernel)) (by decide +kernel)
  | 10, _ => exact aw_mem (List.mem_of_getElem? (i := 604) (by decide +kernel)) (by decide +kernel)
  | 11, _ => exact aw_mem (List.mem_of_getElem? (i := 606) (by decide +kernel)) (by decide +kernel)
  | 12, _ => exact aw_mem (List.mem_of_getElem? (i := 608) (by decide +kernel)) (by decide +kernel)
  | 13, _ => exact aw_mem (List.mem_of_getElem? (i := 610) (by decide +kernel)) (by decide +kernel)
  | 14, _ => exact aw_mem (List.mem_of_getElem? (i := 612) (by decide +kernel)) (by decide +kernel)
  | 15, _ => exact aw_mem (List.mem_of_getElem? (i := 614) (by decide +kernel)) (by decide +kernel)
  | 16, _ => exact aw_mem (List.mem_of_getElem? (i := 616) (by decide +kernel)) (by decide +kernel)
  | 17, _ => exact aw_mem (List.mem_of_getElem? (i := 618) (by decide +kernel)) (by decide +kernel)
  | k + 18, hk => omega
theorem k_objI : Cond.instanceMethod objectInit ∈ AW := aw_mem (List.mem_of_getElem? (i := 49) (by decide +kernel)) (by decide +kernel)
theorem k_objC : Cond.code objectInit ⟨#[0xb1]⟩ 1 none ∈ AW := aw_mem (List.mem_of_getElem? (i := 50) (by decide +kernel)) (by decide +kernel)
theorem k_mathI : Cond.initialized "java/lang/Math" ∈ AW := aw_mem (List.mem_of_getElem? (i := 28) (by decide +kernel)) (by decide +kernel)
theorem k_minS : Cond.static Lib.Math.min.name ∈ AW := aw_mem (List.mem_of_getElem? (i := 55) (by decide +kernel)) (by decide +kernel)
theorem k_minC : Cond.code Lib.Math.min.name Lib.Math.min.code 2 (some .int) ∈ AW := aw_mem (List.mem_of_getElem? (i := 56) (by decide +kernel)) (by decide +kernel)
theorem k_maxS : Cond.static Lib.Math.max.name ∈ AW := aw_mem (List.mem_of_getElem? (i := 58) (by decide +kernel)) (by decide +kernel)
theorem k_maxC : Cond.code Lib.Math.max.name Lib.Math.max.code 2 (some .int) ∈ AW := aw_mem (List.mem_of_getElem? (i := 59) (by decide +kernel)) (by decide +kernel)
/-! NUMBERS: an int as the picture of an integer. Own work. -/
def iI (z : Int) : Int32 := Int32.ofInt z
theorem iI_nI (n : Nat) : nI n = iI (n : Int) := Int32.ofInt_eq_ofNat.symm
theorem iI_of (x : Int32) : x = iI x.toInt := (Int32.ofInt_toInt x).symm
theorem iI_toInt {z : Int} (h1 : -2147483648 ≤ z) (h2 : z < 2147483648) : (iI z).toInt = z := Int32.toInt_ofInt_of_le (by omega) (by omega)
theorem iI_rng (x : Int32) : -2147483648 ≤ x.toInt ∧ x.toInt < 2147483648 := ⟨by have := x.le_toInt; omega, by have := x.toInt_lt; omega⟩
theorem iI_add (a b : Int) : iI a + iI b = iI (a + b) := (Int32.ofInt_add a b).symm
theorem iI_sub (a b : Int) : iI a - iI b = iI (a - b) := (Int32.ofInt_sub a b).symm
theorem iI_mul (a b : Int) : iI a * iI b = iI (a * b) := (Int32.ofInt_mul a b).symm
theorem iI_lt {a b : Int} (a1 : -2147483648 ≤ a) (a2 : a < 2147483648) (b1 : -2147483648 ≤ b) (b2 : b < 2147483648) : iI a < iI b ↔ a < b := by
  rw [Int32.lt_iff_toInt_lt, iI_toInt a1 a2, iI_toInt b1 b2]
theorem iI_le {a b : Int} (a1 : -2147483648 ≤ a) (a2 : a < 2147483648) (b1 : -2147483648 ≤ b) (b2 : b < 2147483648) : iI a ≤ iI b ↔ a ≤ b := by
  rw [Int32.le_iff_toInt_le, iI_toInt a1 a2, iI_toInt b1 b2]
theorem iI_eq {a b : Int} (a1 : -2147483648 ≤ a) (a2 : a < 2147483648) (b1 : -2147483648 ≤ b) (b2 : b < 2147483648) : iI a = iI b ↔ a = b := by
  rw [← Int32.toInt_inj, iI_toInt a1 a2, iI_toInt b1 b2]
theorem iI_clamp {z : Int} (h1 : -2147483648 ≤ z) (h2 : z < 2147483648) : (iI z).toNatClampNeg = z.toNat := Int32.toNatClampNeg_ofInt_of_le (by omega) (by omega)
theorem iI_in {z : Int} {n : Nat} (h1 : 0 ≤ z) (h2 : z < n) (hn : n < 2147483648) : vp_in (iI z) n := vp_in_iff.mpr (by rw [iI_toInt (by omega) (by omega)]; exact ⟨h1, h2⟩)
theorem i_0 : (0 : Int32) = iI 0 := rfl
theorem i_1 : (1 : Int32) = iI 1 := rfl
theorem i_2 : (2 : Int32) = iI 2 := rfl
theorem i_3 : (3 : Int32) = iI 3 := rfl
theorem i_4 : (4 : Int32) = iI 4 := rfl
theorem i_5 : (5 : Int32) = iI 5 := rfl
theorem i_6 : (6 : Int32) = iI 6 := rfl
theorem i_24 : (24 : Int32) = iI 24 := rfl
theorem i_255 : (255 : Int32) = iI 255 := rfl
theorem i_256 : (256 : Int32) = iI 256 := rfl
theorem i_4000 : (4000 : Int32) = iI 4000 := rfl
theorem i_m1 : (-1 : Int32) = iI (-1) := rfl
theorem i_m4 : (-4 : Int32) = iI (-4) := rfl
/-- comparisons of any two ints, as integers -/
theorem c_lt {x y : Int32} : x < y ↔ x.toInt < y.toInt := Int32.lt_iff_toInt_lt
theorem c_le {x y : Int32} : x ≤ y ↔ x.toInt ≤ y.toInt := Int32.le_iff_toInt_le
theorem c_eq {x y : Int32} : x = y ↔ x.toInt = y.toInt := Int32.toInt_inj.symm
theorem t_0 : (0 : Int32).toInt = 0 := rfl
theorem t_1 : (1 : Int32).toInt = 1 := rfl
/-- places in a picture -/
theorem pl_lt {w h x y : Nat} (hx : x < w) (hy : y < h) : y * w + x < w * h := by
  have h1 : (y + 1) * w ≤ h * w := Nat.mul_le_mul_right w hy
  rw [Nat.add_mul, Nat.one_mul] at h1
  rw [Nat.mul_comm w h]
  omega
theorem pl_le {w h : Nat} (hw : w ≤ 24) (hh : h ≤ 24) : w * h ≤ 576 := Nat.mul_le_mul hw hh
theorem pl_inj {w x y x' y' : Nat} (hx : x < w) (hx' : x' < w) (h : y * w + x = y' * w + x') : x = x' ∧ y = y' := by
  have hw : 0 < w := by omega
  have e1 : (y * w + x) / w = y := by rw [Nat.mul_comm, Nat.mul_add_div hw, Nat.div_eq_of_lt hx, Nat.add_zero]
  have e2 : (y' * w + x') / w = y' := by rw [Nat.mul_comm, Nat.mul_add_div hw, Nat.div_eq_of_lt hx', Nat.add_zero]
  have e : y = y' := by rw [← e1, ← e2, h]
  subst e
  exact ⟨by omega, rfl⟩
theorem nb0 : narrow .boolean (.int 0) = .int 0 := by decide
theorem nb1 : narrow .boolean (.int 1) = .int 1 := by decide

