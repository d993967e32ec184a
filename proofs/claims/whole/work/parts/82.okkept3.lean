/-! what signs() keeps of the value -/
theorem zInk_le {A : zCr} (ok : OkA A) (k : Nat) : zInk A k ≤ 4 := by
  have := ok.2.2.2.2.1
  unfold zInk
  omega
theorem zor_shn {a i n : Nat} (ha : a < 1 <<< n) (hi : i < n) : a ||| (1 <<< i) < 1 <<< n := by
  have e : ∀ m : Nat, 1 <<< m = 2 ^ m := fun m => by rw [Nat.shiftLeft_eq, Nat.one_mul]
  rw [e] at ha
  rw [e, e]
  exact Nat.or_lt_two_pow ha (Nat.pow_lt_pow_right (by decide) hi)
theorem OkS.signs {S : zAb} (h : OkS S) (s k : Int32) : OkS (a_signs S s k).2 := by
  unfold a_signs
  split
  · next i j hz1 hz2 =>
    have hi := (zIdx_iff hz1).1
    have hj := (zIdx_iff hz2).1
    split
    · next hm =>
      unfold zMay at hm
      rw [Bool.and_eq_true, Bool.and_eq_true] at hm
      obtain ⟨hw, hn, hh⟩ := hm
      have hh := of_decide_eq_true hh
      unfold zWn at hw
      rw [Bool.and_eq_true] at hw
      have hg : (mG S.2.1).testBit i = false := by
        cases hb : (mG S.2.1).testBit i with
        | false => rfl
        | true => rw [hb] at hw; exact absurd hw.1 (by decide)
      obtain ⟨h1, h2, h3, h4, h5, h6⟩ := h.2.1
      have hno : ∀ k, k < 8 → mW S.2.1 k ≠ some i := fun k hk e => by
        have := (h3 k i hk e).2.2
        rw [hg] at this
        cases this
      refine h.go ⟨by show mH S.2.1 + 1 ≤ 99; omega, zor_shn h2 hi, fun k s hk e => ?_, fun k q s hk hq e1 e2 => ?_, fun k hk => ?_, fun k hk e => ?_⟩
      · have e : (if k = j then some i else mW S.2.1 k) = some s := e
        show s < cN S.1 ∧ k < cS S.1 ∧ (mG S.2.1 ||| (1 <<< i)).testBit s = true
        rw [zor_bit]
        split at e
        · next hk2 => cases e; rw [hk2]; exact ⟨hi, hj, by rw [decide_eq_true rfl, Bool.or_true]⟩
        · obtain ⟨a, b, d⟩ := h3 k s hk e
          exact ⟨a, b, by rw [d]; rfl⟩
      · have e1 : (if k = j then some i else mW S.2.1 k) = some s := e1
        have e2 : (if q = j then some i else mW S.2.1 q) = some s := e2
        split at e1
        · next a =>
          split at e2
          · next b => rw [a, b]
          · cases e1; exact absurd e2 (hno q hq)
        · split at e2
          · cases e2; exact absurd e1 (hno k hk)
          · exact h4 k q s hk hq e1 e2
      · show (if k = j then zInk S.1 (zp8 (mG S.2.1)) else mI S.2.1 k) ≤ 4
        split
        · exact zInk_le h.1 _
        · exact h5 k hk
      · have e : (if k = j then some i else mW S.2.1 k) = none := e
        show (if k = j then zInk S.1 (zp8 (mG S.2.1)) else mI S.2.1 k) = 0
        split
        · next hk2 => rw [if_pos hk2] at e; cases e
        · next hk2 => rw [if_neg hk2] at e; exact h6 k hk e
    · exact h
  · exact h
