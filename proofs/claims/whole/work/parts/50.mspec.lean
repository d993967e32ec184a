/-! the reference: what its places hold -/
def zS1 : Option Nat → Int32
  | none => -1
  | some i => nI i
/-- a row of eighteen -/
def SoC (r : Nat → Int32) (Y : zMm) : Prop := r 0 = nI (mH Y) ∧ r 1 = nI (mG Y) ∧ (∀ k, k < 8 → r (2 + k) = zS1 (mW Y k)) ∧ ∀ k, k < 8 → r (10 + k) = nI (mI Y k)
theorem SoC.eq {r r' : Nat → Int32} {Y : zMm} (h : SoC r Y) (e : ∀ k, k < 18 → r' k = r k) : SoC r' Y := ⟨by rw [e 0 (by decide)]; exact h.1, by rw [e 1 (by decide)]; exact h.2.1, fun k hk => by rw [e _ (by omega)]; exact h.2.2.1 k hk, fun k hk => by rw [e _ (by omega)]; exact h.2.2.2 k hk⟩
def ToC (r : Nat → Int32) (A : zCr) : Prop := r 0 = nI (cN A) ∧ r 1 = nI (cD A) ∧ r 2 = nI (cS A) ∧ (∀ i, i < cN A → r (5 + i) = nI (cW A i)) ∧ (∀ i, i < cN A → r (12 + i) = nI (cC A i)) ∧ ∀ i, i < cN A → r (19 + i) = nI (zTm A i)
def RepM (c : Nat → Nat → Int32) (t : Nat → Int64) (S : zAb) : Prop := ToC (c 58) S.1 ∧ SoC (c 60) S.2.1 ∧ (c 56 7 = nI S.2.2.1.length ∧ ∀ i M, S.2.2.1[i]? = some M → SoC (fun k => c 61 (18 * (S.2.2.1.length - 1 - i) + k)) M) ∧ (∀ j, j < 2 → c 63 j = nI (zGt S.2.2.2.1 j).isSome.toNat ∧ ∀ M, zGt S.2.2.2.1 j = some M → SoC (fun k => c 62 (18 * j + k)) M) ∧ (c 56 2 = nI S.2.2.2.2.1.1 ∧ ∀ i, i < S.2.2.2.2.1.1 → c 57 i = nI (S.2.2.2.2.1.2 i)) ∧ t 56 = S.2.2.2.2.2
/-- the reference's side of a call -/
def zOutM (c : Nat → Nat → Int32) (t : Nat → Int64) (r : Int32) (S' : zAb) : Int32 → zW → Prop := fun v w => v = r ∧ ∃ c' t', w = wF c' t' ∧ RepM c' t' S' ∧ (∀ a, a < 56 → c' a = c a) ∧ ∀ a, a ≠ 56 → t' a = t a
theorem zOutM.same {c : Nat → Nat → Int32} {t : Nat → Int64} {r : Int32} {S : zAb} (h : RepM c t S) : zOutM c t r S r (wF c t) := ⟨rfl, c, t, rfl, h, fun _ _ => rfl, fun _ _ => rfl⟩
theorem zOutM.mk' {c c' : Nat → Nat → Int32} {t t' : Nat → Int64} {r v : Int32} {S' : zAb} (hv : v = r) (h : RepM c' t' S') (he : ∀ a, a < 56 → c' a = c a) (ht : ∀ a, a ≠ 56 → t' a = t a) : zOutM c t r S' v (wF c' t') := ⟨hv, c', t', rfl, h, he, ht⟩
theorem RepM.irr {c c' : Nat → Nat → Int32} {t t' : Nat → Int64} {S : zAb} (h : RepM c t S) (he : ∀ a, 57 ≤ a → a ≤ 63 → a ≠ 59 → c' a = c a) (h2 : c' 56 2 = c 56 2) (h7 : c' 56 7 = c 56 7) (ht : t' 56 = t 56) : RepM c' t' S := by
  obtain ⟨a1, a2, a3, a4, a5, a6⟩ := h
  refine ⟨by rw [he 58 (by decide) (by decide) (by decide)]; exact a1, by rw [he 60 (by decide) (by decide) (by decide)]; exact a2, ⟨h7.trans a3.1, fun i M hM => ?_⟩, fun j hj => ?_, ⟨h2.trans a5.1, ?_⟩, ht.trans a6⟩
  · rw [he 61 (by decide) (by decide) (by decide)]; exact a3.2 i M hM
  · rw [he 62 (by decide) (by decide) (by decide), he 63 (by decide) (by decide) (by decide)]; exact a4 j hj
  · rw [he 57 (by decide) (by decide) (by decide)]; exact a5.2
def zIn (x a b : Int32) : Bool := decide (¬ x < a ∧ ¬ b < x)
theorem zdec_toInt {n : Nat} (hn : n ≤ 1000) : (nI n - nI 1).toInt = (n : Int) - 1 := by
  have h : ∀ n, n ≤ 1000 → (nI n - nI 1).toInt = (n : Int) - 1 := by decide +kernel
  exact h n hn
theorem zIn_iff {x b : Int32} {n : Nat} (hn : n ≤ 1000) (hb : b = nI n - nI 1) : (¬ x < nI 0 ∧ ¬ b < x) ↔ 0 ≤ x.toInt ∧ x.toInt < n := by
  subst hb
  have h1 := zdec_toInt hn
  rw [Int32.lt_iff_toInt_lt, Int32.lt_iff_toInt_lt, h1, show (nI 0).toInt = 0 by decide]
  omega
theorem zIn_ix {x b : Int32} {n : Nat} (hn : n ≤ 1000) (hb : b = nI n - nI 1) : zIn x (nI 0) b = (zIdx x n).isSome := by
  unfold zIn
  have hi := zIn_iff (x := x) hn hb
  cases hz : zIdx x n with
  | some j =>
    obtain ⟨hj, rfl⟩ := zIdx_iff hz
    have := nI_toInt (n := j) (by omega)
    exact decide_eq_true (hi.mpr (by omega))
  | none =>
    refine decide_eq_false fun h => ?_
    have h := hi.mp h
    rcases pk_ix x (n := n) (by omega) with q | q | ⟨j, hj, e⟩
    · rw [Int32.lt_iff_toInt_lt] at q
      have : (0 : Int32).toInt = 0 := by decide
      omega
    · rw [Int32.le_iff_toInt_le, nI_toInt (by omega)] at q
      omega
    · rw [e, zIdx_n (by omega) hj] at hz
      cases hz
theorem OkS.inj {S : zAb} (h : OkS S) : ∀ k j s, k < 8 → j < 8 → mW S.2.1 k = some s → mW S.2.1 j = some s → k = j := h.2.1.2.2.2.1
def zLs (w : Nat → Option Nat) (s : Nat) : Nat → Option Nat
  | 0 => none
  | k + 1 => if w k = some s then some k else zLs w s k
theorem zLs_some {w : Nat → Option Nat} {s : Nat} : ∀ k j, zLs w s k = some j → j < k ∧ w j = some s
  | 0, j, h => by cases h
  | k + 1, j, h => by
    unfold zLs at h
    split at h
    · next e => cases h; exact ⟨by omega, e⟩
    · have := zLs_some k j h; exact ⟨by omega, this.2⟩
theorem zLs_none {w : Nat → Option Nat} {s : Nat} : ∀ k, zLs w s k = none → ∀ j, j < k → w j ≠ some s
  | 0, _, j, hj => by omega
  | k + 1, h, j, hj => by
    unfold zLs at h
    split at h
    · cases h
    · next e =>
      by_cases q : j = k
      · subst q; exact e
      · exact zLs_none k h j (by omega)
theorem zLs_seat {w : Nat → Option Nat} {s : Nat} (inj : ∀ k j s, k < 8 → j < 8 → w k = some s → w j = some s → k = j) : zLs w s 8 = zSeat w s 8 := by
  cases h : zLs w s 8 with
  | none =>
    cases h2 : zSeat w s 8 with
    | none => rfl
    | some j => have := zSeat_lt 8 j h2; exact absurd this.2 (zLs_none 8 h j this.1)
  | some j =>
    have := zLs_some 8 j h
    exact (zSeat_of inj this.1 this.2).symm
theorem zS1_i {o : Option Nat} {s : Nat} (hs : s < 8) (h : zS1 o = nI s) (ho : ∀ s, o = some s → s < 8) : o = some s := by
  cases o with
  | none => exact absurd h ((show ∀ s, s < 8 → (-1 : Int32) ≠ nI s by decide) s hs)
  | some a => rw [(nI_eq (by have := ho a rfl; omega) (by omega)).mp h]
theorem zS1_neg {o : Option Nat} (h : zS1 o < 0) (ho : ∀ s, o = some s → s < 8) : o = none := by
  cases o with
  | none => rfl
  | some a => exact absurd h (nI_pos (by have := ho a rfl; omega))
theorem zS1_pos {o : Option Nat} (h : ¬ zS1 o < 0) : ∃ s, o = some s := by
  cases o with
  | none => exact absurd (show zS1 none < 0 by decide) h
  | some a => exact ⟨a, rfl⟩
def zWd (A : zCr) (i m : Nat) : Bool := !m.testBit i && zDare A i m
