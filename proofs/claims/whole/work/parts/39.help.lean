theorem OkS.g {S : zAb} (h : OkS S) : mG S.2.1 < 128 := Nat.lt_of_lt_of_le h.2.1.2.1 (zs_le h.1.1)
theorem OkS.w {S : zAb} (h : OkS S) : ∀ k s, k < 8 → mW S.2.1 k = some s → s < 7 := OkM.lt7 h.1 h.2.1
theorem OkS.t {S : zAb} (h : OkS S) : zT0 S < 128 := zTh_lt h.w 8 (Nat.le_refl 8)
theorem RepC.tx {c : Nat → Nat → Int32} {t : Nat → Int64} {S : zAb} (hR : RepC c t S) (hS : OkS S) : TxC c S.2.2.2.2.1.1 S.2.2.2.2.1.2 := ⟨hR.2.2.2.2.1.1, hS.2.2.2.2.2.1, hR.2.2.2.2.1.2, hS.2.2.2.2.2.2⟩
theorem zgcd_half {a b : Nat} (h0 : 0 < b) (h : b < a) : 2 * (a % b) < a := by
  have h1 := Nat.mod_add_div a b
  have h2 := Nat.mod_lt a h0
  have h3 : 1 ≤ a / b := Nat.div_pos (Nat.le_of_lt h) h0
  have h4 : b * 1 ≤ b * (a / b) := Nat.mul_le_mul_left b h3
  omega
/-- Euclid's steps: how small the numbers are by then -/
def zEu (i a b : Nat) : Prop := (∃ e, i = 2 * e ∧ b < 2 ^ (31 - e)) ∨ ∃ e, i = 2 * e + 1 ∧ a < 2 ^ (31 - e) ∧ b < a
theorem zEu_s {i a b : Nat} (h : zEu i a b) (h0 : 0 < b) : zEu (i + 1) b (a % b) := by
  rcases h with ⟨e, h1, h2⟩ | ⟨e, h1, h2, h3⟩
  · exact Or.inr ⟨e, by omega, h2, Nat.mod_lt a h0⟩
  · refine Or.inl ⟨e + 1, by omega, ?_⟩
    have h4 := zgcd_half h0 h3
    by_cases he : e < 31
    · rw [show 31 - e = 31 - (e + 1) + 1 by omega, Nat.pow_succ] at h2
      omega
    · rw [show 31 - e = 0 by omega] at h2
      omega
theorem zEu_100 {a b : Nat} (h : zEu 100 a b) : b = 0 := by
  rcases h with ⟨e, h1, h2⟩ | ⟨e, h1, -⟩
  · rw [show 31 - e = 0 by omega] at h2
    omega
  · omega
theorem zgcd_s (a b : Nat) : Nat.gcd b (a % b) = Nat.gcd a b := by
  rw [Nat.gcd_comm a b, Nat.gcd_comm b (a % b), ← Nat.gcd_rec]
theorem zgcd_le {a b : Nat} (hb : 0 < b) : Nat.gcd a b ≤ b := Nat.gcd_le_right a hb
theorem zgcd_pos {a b : Nat} (hb : 0 < b) : 0 < Nat.gcd a b := Nat.gcd_pos_of_pos_right a hb
theorem z_upL2 (t : Nat → Int64) (k : Nat) (x y : Int64) : z_upL (z_upL t k x) k y = z_upL t k y := by
  funext a
  unfold z_upL
  split <;> rfl
theorem zTh'_i {S : zAb} (hS : OkS S) {i : Nat} (hi : i < cN S.1) : zTh' S (nI i) = if (zT0 S).testBit i = true then some i else none := by
  unfold zTh'
  rw [zIdx_n (by have := hS.1.1; omega) hi]
theorem zTh'_some {S : zAb} {s : Int32} {i : Nat} (h : zTh' S s = some i) : i < cN S.1 ∧ s = nI i ∧ (zT0 S).testBit i = true := by
  unfold zTh' at h
  cases hz : zIdx s (cN S.1) with
  | none => rw [hz] at h; cases h
  | some j =>
    rw [hz] at h
    simp only at h
    split at h
    · next hb =>
      cases h
      obtain ⟨h1, h2⟩ := zIdx_iff hz
      exact ⟨h1, h2, hb⟩
    · cases h
theorem zIdx2 {x : Int32} : zIdx x 2 = none ∨ (zIdx x 2 = some 0 ∧ x = nI 0) ∨ (zIdx x 2 = some 1 ∧ x = nI 1) := by
  cases h : zIdx x 2 with
  | none => exact Or.inl rfl
  | some j =>
    obtain ⟨h1, h2⟩ := zIdx_iff h
    rcases (show j = 0 ∨ j = 1 by omega) with rfl | rfl
    · exact Or.inr (Or.inl ⟨rfl, h2⟩)
    · exact Or.inr (Or.inr ⟨rfl, h2⟩)
theorem zPart_iff {x : Int32} : decide (x = nI 0 ∨ x = nI 1) = (zIdx x 2).isSome := by
  rcases zIdx2 (x := x) with h | ⟨h, e⟩ | ⟨h, e⟩
  · rw [h]
    refine decide_eq_false ?_
    rintro (e | e)
    · rw [e, zIdx_n (by decide) (by decide)] at h; cases h
    · rw [e, zIdx_n (by decide) (by decide)] at h; cases h
  · rw [h]; exact decide_eq_true (Or.inl e)
  · rw [h]; exact decide_eq_true (Or.inr e)
theorem zsome_t {o : Option Nat} (h : o.isSome = true) : ∃ i, o = some i := Option.isSome_iff_exists.mp h
theorem zsome_f {o : Option Nat} (h : o.isSome = false) : o = none := by cases o with | none => rfl | some i => cases h
