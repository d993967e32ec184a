/-! who is there, one seat left out -/
def zThX (w : Nat → Option Nat) (x : Int32) : Nat → Nat
  | 0 => 0
  | k + 1 => match w k with
    | none => zThX w x k
    | some s => if nI k = x then zThX w x k else zThX w x k ||| (1 <<< s)
theorem zThX_none (w : Nat → Option Nat) : ∀ k, k ≤ 8 → zThX w (-9) k = zTh w k
  | 0, _ => rfl
  | k + 1, h => by
    unfold zThX zTh
    rw [zThX_none w k (by omega)]
    cases w k with
    | none => rfl
    | some s =>
      have : ∀ k, k < 8 → nI k ≠ (-9 : Int32) := by decide
      show (if nI k = (-9 : Int32) then _ else _) = _
      rw [if_neg (this k (by omega))]
theorem zThX_lt {w : Nat → Option Nat} {x : Int32} (h : ∀ k s, k < 8 → w k = some s → s < 7) : ∀ k, k ≤ 8 → zThX w x k < 128
  | 0, _ => by show 0 < 128; decide
  | k + 1, hk => by
    have ih := zThX_lt (x := x) h k (by omega)
    unfold zThX
    split
    · exact ih
    · next s hs =>
      split
      · exact ih
      · exact zor_lt ih (h k s (by omega) hs)
theorem zThX_bit {w : Nat → Option Nat} {x : Int32} {q : Nat} : ∀ k, (zThX w x k).testBit q = true → ∃ j, j < k ∧ w j = some q ∧ nI j ≠ x
  | 0, h => by simp [zThX] at h
  | k + 1, h => by
    unfold zThX at h
    split at h
    · obtain ⟨j, h1, h2⟩ := zThX_bit k h
      exact ⟨j, by omega, h2⟩
    · next s hs =>
      split at h
      · obtain ⟨j, h1, h2⟩ := zThX_bit k h
        exact ⟨j, by omega, h2⟩
      · next hx =>
        rw [zor_bit] at h
        simp only [Bool.or_eq_true, decide_eq_true_eq] at h
        rcases h with h | h
        · obtain ⟨j, h1, h2⟩ := zThX_bit k h
          exact ⟨j, by omega, h2⟩
        · exact ⟨k, by omega, by rw [hs, h], hx⟩
theorem zSeat_of {w : Nat → Option Nat} (inj : ∀ k j s, k < 8 → j < 8 → w k = some s → w j = some s → k = j) {k s : Nat} (hk : k < 8) (h : w k = some s) : zSeat w s 8 = some k := by
  cases hz : zSeat w s 8 with
  | none => exact absurd h (zSeat_none 8 hz k hk)
  | some j =>
    obtain ⟨h1, h2⟩ := zSeat_lt 8 j hz
    rw [inj j k s h1 hk h2 h]
theorem zInkS_of {Y : zMm} (inj : ∀ k j s, k < 8 → j < 8 → mW Y k = some s → mW Y j = some s → k = j) {k s : Nat} (hk : k < 8) (h : mW Y k = some s) : zInkS Y s = mI Y k := by
  unfold zInkS
  rw [zSeat_of inj hk h]
theorem zInkS_le {Y : zMm} (h : ∀ k, k < 8 → mI Y k ≤ 4) (s : Nat) : zInkS Y s ≤ 4 := by
  unfold zInkS
  cases hz : zSeat (mW Y) s 8 with
  | none => exact Nat.zero_le _
  | some j => exact h j (zSeat_lt 8 j hz).1
theorem OkM.lt7 {A : zCr} (ok : OkA A) {Y : zMm} (h : OkM (cN A) (cS A) Y) : ∀ k s, k < 8 → mW Y k = some s → s < 7 := fun k s hk hs => by
  have h1 := (h.2.2.1 k s hk hs).1
  have h2 := ok.1
  omega
