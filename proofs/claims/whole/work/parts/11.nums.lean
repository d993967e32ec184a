/-! numbers as bits -/
theorem zn_bit (a i : Nat) : (a >>> i) &&& 1 = (a.testBit i).toNat := by
  rw [Nat.and_one_is_mod, Nat.toNat_testBit, Nat.shiftRight_eq_div_pow]
def zpc : Nat → Nat → Nat
  | 0, _ => 0
  | k + 1, a => zpc k a + (a.testBit k).toNat
abbrev zp8 (a : Nat) : Nat := zpc 8 a
def z_bc (x : Int32) : Int32 :=
  let u (y : Int32) (k : Nat) : Int32 := (y.toUInt32 >>> ((nI k).toUInt32 &&& Int32.toUInt32 31)).toInt32
  let x1 := x - (u x 1 &&& nI 1431655765)
  let x2 := (x1 &&& nI 858993459) + (u x1 2 &&& nI 858993459)
  let x3 := (x2 + u x2 4) &&& nI 252645135
  let x4 := x3 + u x3 8
  let x5 := x4 + u x4 16
  x5 &&& nI 63
theorem z_bc8 : ∀ a, a < 256 → z_bc (nI a) = nI (zp8 a) := by decide +kernel
theorem zp8_le : ∀ k a, zpc k a ≤ k
  | 0, _ => Nat.le_refl 0
  | k + 1, a => by
    have := zp8_le k a
    unfold zpc
    cases a.testBit k <;> simp <;> omega
theorem zp8_8 (a : Nat) : zp8 a ≤ 8 := zp8_le 8 a
/-- a row filled up to i -/
def z_fill (c : Nat → Nat → Int32) (k n : Nat) (x : Int32) : Nat → Nat → Int32 := fun a b => if a = k then (if b < n then x else c a b) else c a b
theorem z_fill_0 (c : Nat → Nat → Int32) (k : Nat) (x : Int32) : z_fill c k 0 x = c := by
  funext a b
  unfold z_fill
  split
  · rw [if_neg (by omega)]
  · rfl
theorem z_fill_s (c : Nat → Nat → Int32) (k n : Nat) (x : Int32) : z_up (z_fill c k n x) k n x = z_fill c k (n + 1) x := by
  funext a b
  unfold z_up z_fill
  by_cases h1 : a = k
  · simp only [if_pos h1]
    by_cases h2 : b = n
    · rw [if_pos h2, if_pos (by omega)]
    · rw [if_neg h2]
      by_cases h3 : b < n
      · rw [if_pos h3, if_pos (by omega)]
      · rw [if_neg h3, if_neg (by omega)]
  · simp only [if_neg h1]
theorem z_fill_k {c : Nat → Nat → Int32} {k n a : Nat} {x : Int32} (h : a ≠ k) : z_fill c k n x a = c a := by
  funext b
  unfold z_fill
  rw [if_neg h]
theorem z_fill_i {c : Nat → Nat → Int32} {k n b : Nat} {x : Int32} (h : b < n) : z_fill c k n x k b = x := by
  unfold z_fill
  rw [if_pos rfl, if_pos h]
set_option maxRecDepth 100000 in
theorem mmlX3_33 : Cond.methodLink RX3 33 Lib.Math.min.name ∈ tb ∧ Cond.static Lib.Math.min.name ∈ tb ∧ Cond.initialized "java/lang/Math" ∈ tb ∧ Cond.code Lib.Math.min.name Lib.Math.min.code 2 (some .int) ∈ tb := by decide +kernel
set_option maxRecDepth 100000 in
theorem mmlX4_87 : Cond.methodLink RX4 87 Lib.Math.min.name ∈ tb ∧ Cond.static Lib.Math.min.name ∈ tb ∧ Cond.initialized "java/lang/Math" ∈ tb ∧ Cond.code Lib.Math.min.name Lib.Math.min.code 2 (some .int) ∈ tb := by decide +kernel
set_option maxRecDepth 100000 in
theorem mmlX5_177 : Cond.methodLink RX5 177 Lib.Math.max.name ∈ tb ∧ Cond.static Lib.Math.max.name ∈ tb ∧ Cond.initialized "java/lang/Math" ∈ tb ∧ Cond.code Lib.Math.max.name Lib.Math.max.code 2 (some .int) ∈ tb := by decide +kernel
