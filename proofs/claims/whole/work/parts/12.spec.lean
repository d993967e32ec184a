/-! the crew: what is told; who would sign -/
abbrev zCr : Type := Nat × (Nat → Nat) × (Nat → Nat) × (Nat → Nat) × Nat × Nat
abbrev cN (A : zCr) : Nat := A.1
abbrev cW (A : zCr) : Nat → Nat := A.2.1
abbrev cC (A : zCr) : Nat → Nat := A.2.2.1
abbrev cT (A : zCr) : Nat → Nat := A.2.2.2.1
abbrev cD (A : zCr) : Nat := A.2.2.2.2.1
abbrev cS (A : zCr) : Nat := A.2.2.2.2.2
def OkA (A : zCr) : Prop := cN A ≤ 7 ∧ (∀ i, i < cN A → cW A i ≤ 2) ∧ (∀ i, i < cN A → cC A i ≤ 7) ∧ (∀ i, i < cN A → cT A i ≤ 127) ∧ (1 ≤ cD A ∧ cD A ≤ 4) ∧ 1 ≤ cS A ∧ cS A ≤ 8
/-- the class's crew at a place -/
def CrC (p : Nat) (c : Nat → Nat → Int32) (A : zCr) : Prop := c p 3 = nI (cN A) ∧ c p 4 = nI (cD A) ∧ c p 5 = nI (cS A) ∧ (∀ i, i < cN A → c (p + 1) i = nI (cW A i)) ∧ (∀ i, i < cN A → c (p + 2) i = nI (cC A i)) ∧ ∀ i, i < cN A → c (p + 3) i = nI (cT A i)
def zAll (n : Nat) : Nat := (1 <<< n) - 1
def zTm (A : zCr) (s : Nat) : Nat := (cT A s &&& zAll (cN A)) &&& ((1 <<< s) ^^^ 4294967295)
def zDare (A : zCr) (s m : Nat) : Bool := decide (cC A s ≤ zp8 m) && (decide (cC A s = 0) || decide (0 < zTm A s &&& m))
def zInk (A : zCr) (k : Nat) : Nat := cD A - k % cD A
def zWi (A : zCr) : Nat → Nat → Nat
  | 0, b => b
  | s + 1, b => if zDare A s (zWi A s b) = true then zWi A s b ||| (1 <<< s) else zWi A s b
def zWr (A : zCr) : Nat → Nat → Nat
  | 0, b => b
  | r + 1, b => zWi A (cN A) (zWr A r b)
def zNC (A : zCr) (k s : Nat) : Nat := (k &&& ((1 <<< s) ^^^ 4294967295)) &&& (zTm A s ^^^ 4294967295)
def zIsC (A : zCr) (k : Nat) : Bool := decide (∀ s, s < cN A → k.testBit s = true → zNC A k s = 0)
def zCl (A : zCr) : Nat → Nat
  | 0 => 0
  | k + 1 => if zp8 (zCl A k) < zp8 k ∧ zIsC A k = true then k else zCl A k
theorem zs_pos (n : Nat) : 1 ≤ 1 <<< n := by rw [Nat.shiftLeft_eq, Nat.one_mul]; exact Nat.one_le_two_pow
theorem zs_le {n : Nat} (h : n ≤ 7) : 1 <<< n ≤ 128 := by
  rw [Nat.shiftLeft_eq, Nat.one_mul]
  exact Nat.pow_le_pow_right (by decide) h
theorem zAll_lt {n : Nat} (h : n ≤ 7) : zAll n < 128 := by
  have := zs_le h
  have := zs_pos n
  unfold zAll
  omega
theorem zor_lt {a s : Nat} (ha : a < 128) (hs : s < 7) : a ||| (1 <<< s) < 128 := by
  refine Nat.or_lt_two_pow (n := 7) ha ?_
  rw [Nat.shiftLeft_eq, Nat.one_mul]
  exact Nat.pow_lt_pow_right (by decide) hs
theorem zor_lt8 {a s : Nat} (ha : a < 256) (hs : s < 8) : a ||| (1 <<< s) < 256 := by
  refine Nat.or_lt_two_pow (n := 8) ha ?_
  rw [Nat.shiftLeft_eq, Nat.one_mul]
  exact Nat.pow_lt_pow_right (by decide) hs
theorem zand_r {a b n : Nat} (h : b < n) : a &&& b < n := Nat.lt_of_le_of_lt Nat.and_le_right h
theorem zand_l {a b n : Nat} (h : a < n) : a &&& b < n := Nat.lt_of_le_of_lt Nat.and_le_left h
theorem zTm_lt {A : zCr} (ok : OkA A) (s : Nat) : zTm A s < 128 := zand_l (zand_r (zAll_lt ok.1))
theorem zWi_lt {A : zCr} {b : Nat} (hb : b < 128) : ∀ s, s ≤ 7 → zWi A s b < 128
  | 0, _ => hb
  | s + 1, h => by
    have ih := zWi_lt (A := A) hb s (by omega)
    unfold zWi
    split
    · exact zor_lt ih (by omega)
    · exact ih
theorem zWr_lt {A : zCr} (ok : OkA A) {b : Nat} (hb : b < 128) : ∀ r, zWr A r b < 128
  | 0 => hb
  | r + 1 => zWi_lt (zWr_lt ok hb r) _ ok.1
theorem zCl_lt {A : zCr} : ∀ k, 0 < k → zCl A k < k
  | 0, h => absurd h (by decide)
  | k + 1, _ => by
    unfold zCl
    split
    · omega
    · by_cases hk : k = 0
      · subst hk; unfold zCl; omega
      · have := zCl_lt (A := A) k (by omega); omega
theorem zCl_le {A : zCr} (k : Nat) : zCl A k ≤ k := by
  by_cases h : 0 < k
  · exact Nat.le_of_lt (zCl_lt k h)
  · rw [show k = 0 by omega]; exact Nat.le_refl 0
theorem z_b1 {p : Prop} [Decidable p] (h : p) : nI 1 = nI (decide p).toNat := by rw [decide_eq_true h]; rfl
theorem z_b0 {p : Prop} [Decidable p] (h : ¬ p) : nI 0 = nI (decide p).toNat := by rw [decide_eq_false h]; rfl
theorem z_t1 {b : Bool} (h : b = true) : nI 1 = nI b.toNat := by rw [h]; rfl
theorem z_t0 {b : Bool} (h : b = false) : nI 0 = nI b.toNat := by rw [h]; rfl
