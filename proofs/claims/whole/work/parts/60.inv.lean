/-! PURE ROWS: what class and reference have in common between two calls. Own work. -/
def by8 (v : Int32) : Prop := 0 ≤ v.toInt ∧ v.toInt ≤ 255
/-- the sides -/
def DM (W H : Nat) : Prop := 1 ≤ W ∧ W ≤ 24 ∧ 1 ≤ H ∧ H ≤ 24
/-- the class's fixed numbers -/
def SX (W H : Nat) (on cn fn bn rn : Nat) (pw ph : Int32) (pn : Nat) (ow oh : Int32) (sn : Nat) (dw dh : Int32) (dn : Nat) : Prop :=
  on = W * H ∧ cn = 256 ∧ fn = W * H * 6 ∧ bn = H * (2 * W + 2) + 1 ∧ rn = 4000 ∧ pw = nI W ∧ ph = nI H ∧ pn = W * H ∧ ow = nI W ∧ oh = nI H ∧ sn = W * H ∧ dw = nI W ∧ dh = nI H ∧ dn = W * H
/-- the reference's -/
def SM (W H : Nat) (mw mh : Int32) (fn on pn rn tn en an : Nat) : Prop := mw = nI W ∧ mh = nI H ∧ fn = 576 ∧ on = 576 ∧ pn = 576 ∧ rn = 576 ∧ tn = 4000 ∧ en = 4000 ∧ an = 3600
theorem SX.mk (W H : Nat) : SX W H (W * H) 256 (W * H * 6) (H * (2 * W + 2) + 1) 4000 (nI W) (nI H) (W * H) (nI W) (nI H) (W * H) (nI W) (nI H) (W * H) := ⟨rfl, rfl, rfl, rfl, rfl, rfl, rfl, rfl, rfl, rfl, rfl, rfl, rfl, rfl⟩
theorem SM.mk (W H : Nat) : SM W H (nI W) (nI H) 576 576 576 576 4000 4000 3600 := ⟨rfl, rfl, rfl, rfl, rfl, rfl, rfl, rfl, rfl⟩
/-- as many bytes, the same ones -/
def SA (n : Nat) (f g : Nat → Int32) : Prop := ∀ j, j < n → g j = f j ∧ by8 (f j)
theorem sa_nil {f g : Nat → Int32} : SA 0 f g := fun j hj => absurd hj (by omega)
theorem sa_upd {n : Nat} {f g : Nat → Int32} {v : Int32} (h : SA n f g) (k : Nat) (hv : by8 v) : SA n (upd f k v) (upd g k v) := by
  intro j hj
  by_cases e : j = k
  · subst e; rw [pk_us, pk_us]; exact ⟨rfl, hv⟩
  · rw [pk_un e, pk_un e]; exact h j hj
theorem sa_push {n : Nat} {f g : Nat → Int32} {v : Int32} (h : SA n f g) (hv : by8 v) : SA (n + 1) (upd f n v) (upd g n v) := by
  intro j hj
  by_cases e : j = n
  · subst e; rw [pk_us, pk_us]; exact ⟨rfl, hv⟩
  · rw [pk_un e, pk_un e]; exact h j (by omega)
def SB (n : Nat) (f g : Nat → Int32) : Prop := ∀ j, j < n → g j = f j
def INV (tp : Int32) (on : Nat) (of : Nat → Int32) (cn : Nat) (cf : Nat → Int32) (fc fb : Int32) (fn : Nat) (ff : Nat → Int32) (bc : Int32) (bn : Nat) (bf : Nat → Int32) (rc : Int32) (rn : Nat) (rf : Nat → Int32) (pw ph : Int32) (pn : Nat) (pf : Nat → Int32) (ow oh : Int32) (sn : Nat) (sf : Nat → Int32) (dw dh : Int32) (dn : Nat) (df : Nat → Int32)
    (mw mh mfa mt me mp mpl mb mb1 mb2 mpc : Int32) (n1 : Nat) (m1 : Nat → Int32) (n2 : Nat) (m2 : Nat → Int32) (n3 : Nat) (m3 : Nat → Int32) (n4 : Nat) (m4 : Nat → Int32) (n5 : Nat) (m5 : Nat → Int32) (n6 : Nat) (m6 : Nat → Int32) (n7 : Nat) (m7 : Nat → Int32) : Prop :=
  ∃ W H T F P : Nat, DM W H ∧ SX W H on cn fn bn rn pw ph pn ow oh sn dw dh dn ∧ SM W H mw mh n1 n2 n3 n4 n5 n6 n7 ∧ SA (W * H) pf m1 ∧ SA (W * H) sf m2 ∧
    (T ≤ H * (2 * W + 2) + 1 ∧ bc = nI T ∧ mt = nI T ∧ SA T bf m5) ∧ (F ≤ 4000 ∧ rc = nI F ∧ me = nI F ∧ SA F rf m6) ∧ (P ≤ W * H ∧ fc = nI P ∧ mp = nI P ∧ SB (6 * P) ff m7) ∧ (mpl = tp ∧ (tp = 0 ∨ tp = 1))
/-- numbers -/
theorem lg0 {a b : Int64} : lg_cmp a b = 0 ↔ a = b := by
  unfold lg_cmp
  by_cases h1 : b < a
  · rw [if_pos h1]
    constructor
    · intro h; exact absurd h (by decide)
    · intro h; subst h; exact absurd h1 (by simp)
  · rw [if_neg h1]
    by_cases h2 : a = b
    · simp [h2]
    · simp [h2]
theorem on1 : ((1 : Int32).toNatClampNeg) = 1 := rfl
theorem on0 : ((0 : Int32).toNatClampNeg) = 0 := rfl
theorem in01 : vp_in 0 1 := by rw [vp_in_iff]; decide
/-- the script's cells of one turn -/
theorem sc_ix {L I k : Nat} (hL : L ≤ 3074) (h : I + 6 ≤ L) (hk : k < 6) : vp_in (nI I + nI k) L ∧ (nI I + nI k).toNatClampNeg = I + k := by
  rw [nI_add]
  exact ⟨vp_in_nI (by omega) (by omega), nI_clamp (by omega)⟩
