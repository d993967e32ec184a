/-! moments: the hour, the ring, who signed -/
abbrev zMm : Type := Nat × Nat × (Nat → Option Nat) × (Nat → Nat)
abbrev mH (M : zMm) : Nat := M.1
abbrev mG (M : zMm) : Nat := M.2.1
abbrev mW (M : zMm) : Nat → Option Nat := M.2.2.1
abbrev mI (M : zMm) : Nat → Nat := M.2.2.2
def zE : Option Nat → Int32
  | none => -9
  | some s => nI s
def MoC (m : Nat) (c : Nat → Nat → Int32) (M : zMm) : Prop := c m 2 = nI (mH M) ∧ c m 3 = nI (mG M) ∧ (∀ k, k < 8 → c (m + 1) k = zE (mW M k)) ∧ ∀ k, k < 8 → c (m + 2) k = nI (mI M k)
/-- what holds of every moment -/
def OkM (n seats : Nat) (M : zMm) : Prop := mH M ≤ 99 ∧ mG M < 1 <<< n ∧ (∀ k s, k < 8 → mW M k = some s → s < n ∧ k < seats ∧ (mG M).testBit s = true) ∧ (∀ k j s, k < 8 → j < 8 → mW M k = some s → mW M j = some s → k = j) ∧ (∀ k, k < 8 → mI M k ≤ 4) ∧ ∀ k, k < 8 → mW M k = none → mI M k = 0
def zTh (w : Nat → Option Nat) : Nat → Nat
  | 0 => 0
  | k + 1 => match w k with
    | none => zTh w k
    | some s => zTh w k ||| (1 <<< s)
abbrev zThere (M : zMm) : Nat := zTh (mW M) 8
/-- the seat of a sailor -/
def zSeat (w : Nat → Option Nat) (s : Nat) : Nat → Option Nat
  | 0 => none
  | k + 1 => match zSeat w s k with
    | some j => some j
    | none => if w k = some s then some k else none
theorem zE_n {o : Option Nat} (h : zE o = -9) (ho : ∀ s, o = some s → s < 8) : o = none := by
  cases o with
  | none => rfl
  | some s =>
    have h8 := ho s rfl
    exact absurd h ((by decide : ∀ s, s < 8 → nI s ≠ -9) s h8)
theorem zE_s {o : Option Nat} (h : ¬ zE o = -9) : ∃ s, o = some s := by
  cases o with
  | none => exact absurd rfl h
  | some s => exact ⟨s, rfl⟩
theorem zE_i {o : Option Nat} {s : Nat} (hs : s < 8) (h : zE o = nI s) (ho : ∀ s, o = some s → s < 8) : o = some s := by
  cases o with
  | none => exact absurd h ((by decide : ∀ s, s < 8 → (-9 : Int32) ≠ nI s) s hs)
  | some j =>
    have h8 := ho j rfl
    exact congrArg some ((nI_eq (by omega) (by omega)).mp h)
theorem zTh_lt {w : Nat → Option Nat} (h : ∀ k s, k < 8 → w k = some s → s < 7) : ∀ k, k ≤ 8 → zTh w k < 128
  | 0, _ => by show 0 < 128; decide
  | k + 1, hk => by
    have ih := zTh_lt h k (by omega)
    unfold zTh
    split
    · exact ih
    · next s hs => exact zor_lt ih (h k s (by omega) hs)
theorem zSeat_lt {w : Nat → Option Nat} {s : Nat} : ∀ k j, zSeat w s k = some j → j < k ∧ w j = some s
  | 0, j, h => by cases h
  | k + 1, j, h => by
    unfold zSeat at h
    cases hk : zSeat w s k with
    | some i =>
      rw [hk] at h
      cases h
      have := zSeat_lt k _ hk
      exact ⟨by omega, this.2⟩
    | none =>
      rw [hk] at h
      simp only at h
      split at h
      · cases h
        exact ⟨by omega, by assumption⟩
      · cases h
theorem zSeat_none {w : Nat → Option Nat} {s : Nat} : ∀ k, zSeat w s k = none → ∀ j, j < k → w j ≠ some s
  | 0, _, j, h => absurd h (by omega)
  | k + 1, h, j, hj => by
    unfold zSeat at h
    cases hk : zSeat w s k with
    | some i => rw [hk] at h; cases h
    | none =>
      rw [hk] at h
      simp only at h
      split at h
      · cases h
      · next hn =>
        by_cases e : j = k
        · subst e; exact hn
        · exact zSeat_none k hk j (by omega)
theorem zSeat_keep {w : Nat → Option Nat} {s : Nat} {k j : Nat} (h : zSeat w s k = some j) : ∀ d, zSeat w s (k + d) = some j
  | 0 => h
  | d + 1 => by
    show zSeat w s (k + d + 1) = some j
    unfold zSeat
    rw [zSeat_keep h d]
def zInkS (M : zMm) (s : Nat) : Nat := match zSeat (mW M) s 8 with
  | some k => mI M k
  | none => 0
/-- a moment's content copied to another's place -/
def zBk (c : Nat → Nat → Int32) (m o k : Nat) : Nat → Nat → Int32 := fun a b => if a = m + 1 ∧ b < k then c (o + 1) b else if a = m + 2 ∧ b < k then c (o + 2) b else c a b
def zBec (c : Nat → Nat → Int32) (m o : Nat) : Nat → Nat → Int32 := z_up (z_up (zBk c m o 8) m 2 (c o 2)) m 3 (c o 3)
theorem zBk_0 (c : Nat → Nat → Int32) (m o : Nat) : zBk c m o 0 = c := by
  funext a b
  unfold zBk
  rw [if_neg (by omega), if_neg (by omega)]
theorem zBk_s (c : Nat → Nat → Int32) (m o k : Nat) : z_up (z_up (zBk c m o k) (m + 1) k (c (o + 1) k)) (m + 2) k (c (o + 2) k) = zBk c m o (k + 1) := by
  funext a b
  unfold z_up zBk
  by_cases h1 : a = m + 1
  · subst h1
    by_cases h2 : b = k
    · subst h2; simp
    · simp [h2]
      by_cases h3 : b < k
      · rw [if_pos h3, if_pos (by omega)]
      · rw [if_neg h3, if_neg (by omega)]
  · by_cases h4 : a = m + 2
    · subst h4
      by_cases h2 : b = k
      · subst h2; simp
      · simp [h2]
        by_cases h3 : b < k
        · rw [if_pos h3, if_pos (by omega)]
        · rw [if_neg h3, if_neg (by omega)]
    · simp [h1, h4]
theorem zBk_o {c : Nat → Nat → Int32} {m o k a : Nat} (h : a ≠ m + 1) (h2 : a ≠ m + 2) : zBk c m o k a = c a := by
  funext b
  unfold zBk
  rw [if_neg (by omega), if_neg (by omega)]
theorem zBec_o {c : Nat → Nat → Int32} {m o a : Nat} (h : a < m ∨ m + 2 < a) : zBec c m o a = c a := by
  unfold zBec
  rw [up_K (by omega), up_K (by omega), zBk_o (by omega) (by omega)]
theorem zBec_mo {c : Nat → Nat → Int32} {m o : Nat} {M : zMm} (h : MoC o c M) : MoC m (zBec c m o) M := by
  obtain ⟨h1, h2, h3, h4⟩ := h
  refine ⟨?_, ?_, fun k hk => ?_, fun k hk => ?_⟩
  · unfold zBec; rw [up_j _ (by decide), up_s]; exact h1
  · unfold zBec; rw [up_s]; exact h2
  · unfold zBec; rw [up_k (by omega), up_k (by omega)]; unfold zBk; rw [if_pos ⟨rfl, hk⟩]; exact h3 k hk
  · unfold zBec; rw [up_k (by omega), up_k (by omega)]; unfold zBk; rw [if_neg (by omega), if_pos ⟨rfl, hk⟩]; exact h4 k hk
theorem MoC.eq {m : Nat} {c c' : Nat → Nat → Int32} {M : zMm} (h : MoC m c M) (h0 : c' m = c m) (h1 : c' (m + 1) = c (m + 1)) (h2 : c' (m + 2) = c (m + 2)) : MoC m c' M := by
  unfold MoC
  rw [h0, h1, h2]
  exact h
theorem zmin {a b : Nat} (ha : a < 2 ^ 31) (hb : b < 2 ^ 31) : (if nI b < nI a then nI b else nI a) = nI (min a b) := by
  by_cases h : b < a
  · rw [if_pos ((nI_ltI hb ha).mpr h), Nat.min_eq_right (by omega)]
  · rw [if_neg (fun q => h ((nI_ltI hb ha).mp q)), Nat.min_eq_left (by omega)]
theorem zmax {a b : Nat} (ha : a < 2 ^ 31) (hb : b < 2 ^ 31) : (if nI a < nI b then nI b else nI a) = nI (max a b) := by
  by_cases h : a < b
  · rw [if_pos ((nI_ltI ha hb).mpr h), Nat.max_eq_right (by omega)]
  · rw [if_neg (fun q => h ((nI_ltI ha hb).mp q)), Nat.max_eq_left (by omega)]
