/-! the reference: rows copied, the past, the images -/
def zCy (c : Nat → Nat → Int32) (p o : Nat) (g : Nat → Int32) (n : Nat) : Nat → Nat → Int32 := fun a b => if a = p ∧ o ≤ b ∧ b < o + n then g (b - o) else c a b
theorem zCy_0 (c : Nat → Nat → Int32) (p o : Nat) (g : Nat → Int32) : zCy c p o g 0 = c := by
  funext a b
  unfold zCy
  rw [if_neg (by omega)]
theorem zCy_s (c : Nat → Nat → Int32) (p o : Nat) (g : Nat → Int32) (k : Nat) : z_up (zCy c p o g k) p (o + k) (g k) = zCy c p o g (k + 1) := by
  funext a b
  unfold z_up zCy
  by_cases h : a = p
  · by_cases h2 : b = o + k
    · rw [if_pos h, if_pos h2, if_pos (by omega), h2, Nat.add_sub_cancel_left]
    · rw [if_pos h, if_neg h2]
      by_cases h3 : o ≤ b ∧ b < o + k
      · rw [if_pos ⟨h, h3⟩, if_pos (by omega)]
      · rw [if_neg (fun q => h3 q.2), if_neg (by omega)]
  · rw [if_neg h, if_neg (fun q => h q.1), if_neg (fun q => h q.1)]
theorem zCy_s0 (c : Nat → Nat → Int32) (p : Nat) (g : Nat → Int32) (k : Nat) : z_up (zCy c p 0 g k) p k (g k) = zCy c p 0 g (k + 1) := by
  have h := zCy_s c p 0 g k
  rw [Nat.zero_add] at h
  exact h
theorem zCy_k {c : Nat → Nat → Int32} {p o a n : Nat} {g : Nat → Int32} (h : a ≠ p) : zCy c p o g n a = c a := by
  funext b
  unfold zCy
  rw [if_neg (fun q => h q.1)]
theorem zCy_i {c : Nat → Nat → Int32} {p o k n : Nat} {g : Nat → Int32} (h : k < n) : zCy c p o g n p (o + k) = g k := by
  unfold zCy
  rw [if_pos (by omega), Nat.add_sub_cancel_left]
theorem zCy_i0 {c : Nat → Nat → Int32} {p k n : Nat} {g : Nat → Int32} (h : k < n) : zCy c p 0 g n p k = g k := by
  have := zCy_i (c := c) (p := p) (o := 0) (g := g) h
  rw [Nat.zero_add] at this
  exact this
theorem zCy_o {c : Nat → Nat → Int32} {p o b n : Nat} {g : Nat → Int32} (h : b < o ∨ o + n ≤ b) : zCy c p o g n p b = c p b := by
  unfold zCy
  rw [if_neg (by omega)]
def PaM (c : Nat → Nat → Int32) (P : List zMm) : Prop := c 56 7 = nI P.length ∧ ∀ i M, P[i]? = some M → SoC (fun k => c 61 (18 * (P.length - 1 - i) + k)) M
theorem RepM.past {c c' : Nat → Nat → Int32} {t : Nat → Int64} {S : zAb} {P : List zMm} (h : RepM c t S) (he : ∀ a, 57 ≤ a → a ≤ 63 → a ≠ 61 → c' a = c a) (h2 : c' 56 2 = c 56 2) (hP : PaM c' P) : RepM c' t (S.1, S.2.1, P, S.2.2.2) := by
  obtain ⟨a1, a2, a3, a4, a5, a6⟩ := h
  refine ⟨by rw [he 58 (by decide) (by decide) (by decide)]; exact a1, by rw [he 60 (by decide) (by decide) (by decide)]; exact a2, hP, fun j hj => ?_, ⟨h2.trans a5.1, ?_⟩, a6⟩
  · rw [he 62 (by decide) (by decide) (by decide), he 63 (by decide) (by decide) (by decide)]; exact a4 j hj
  · rw [he 57 (by decide) (by decide) (by decide)]; exact a5.2
theorem RepM.row {c c' : Nat → Nat → Int32} {t : Nat → Int64} {S : zAb} {Y : zMm} (h : RepM c t S) (he : ∀ a, 57 ≤ a → a ≤ 63 → a ≠ 60 → c' a = c a) (h2 : c' 56 2 = c 56 2) (h7 : c' 56 7 = c 56 7) (hY : SoC (c' 60) Y) : RepM c' t (S.1, Y, S.2.2) := by
  obtain ⟨a1, a2, a3, a4, a5, a6⟩ := h
  refine ⟨by rw [he 58 (by decide) (by decide) (by decide)]; exact a1, hY, ⟨h7.trans a3.1, fun i M hM => ?_⟩, fun j hj => ?_, ⟨h2.trans a5.1, ?_⟩, a6⟩
  · rw [he 61 (by decide) (by decide) (by decide)]; exact a3.2 i M hM
  · rw [he 62 (by decide) (by decide) (by decide), he 63 (by decide) (by decide) (by decide)]; exact a4 j hj
  · rw [he 57 (by decide) (by decide) (by decide)]; exact a5.2
theorem PaM.shift {c : Nat → Nat → Int32} {P : List zMm} (h : PaM c P) (hl : P.length = 10) : PaM (z_up (zCy c 61 0 (fun k => c 61 (k + 18)) 162) 56 7 (nI 9)) (P.take 9) := by
  have hl9 : (P.take 9).length = 9 := by rw [List.length_take]; omega
  refine ⟨by rw [up_s, hl9], fun i M hM => ?_⟩
  rw [List.getElem?_take] at hM
  split at hM
  · next hi =>
    refine (h.2 i M hM).eq fun k hk => ?_
    show z_up (zCy c 61 0 (fun k => c 61 (k + 18)) 162) 56 7 (nI 9) 61 (18 * ((P.take 9).length - 1 - i) + k) = c 61 (18 * (P.length - 1 - i) + k)
    rw [up_k (by decide), zCy_i0 (by omega), hl9, hl]
    exact congrArg (c 61) (by omega)
  · cases hM
theorem PaM.push {c : Nat → Nat → Int32} {P : List zMm} {Y : zMm} (h : PaM c P) (hY : SoC (c 60) Y) : PaM (z_up (zCy c 61 (18 * P.length) (c 60) 18) 56 7 (nI (P.length + 1))) (Y :: P) := by
  refine ⟨by rw [up_s]; rfl, fun i M hM => ?_⟩
  cases i with
  | zero =>
    cases hM
    refine hY.eq fun k hk => ?_
    show z_up (zCy c 61 (18 * P.length) (c 60) 18) 56 7 (nI (P.length + 1)) 61 (18 * ((Y :: P).length - 1 - 0) + k) = c 60 k
    rw [up_k (by decide), List.length_cons, show P.length + 1 - 1 - 0 = P.length by omega, zCy_i hk]
  | succ i =>
    rw [List.getElem?_cons_succ] at hM
    have hi := (List.getElem?_eq_some_iff.mp hM).1
    refine (h.2 i M hM).eq fun k hk => ?_
    show z_up (zCy c 61 (18 * P.length) (c 60) 18) 56 7 (nI (P.length + 1)) 61 (18 * ((Y :: P).length - 1 - (i + 1)) + k) = c 61 (18 * (P.length - 1 - i) + k)
    rw [up_k (by decide), List.length_cons, show P.length + 1 - 1 - (i + 1) = P.length - 1 - i by omega, zCy_o (by omega)]
theorem zRem_10 {Y : zMm} {P : List zMm} (h : P.length = 10) : Y :: P.take 9 = zRem Y P := rfl
theorem zRem_9 {Y : zMm} {P : List zMm} (h : P.length ≤ 9) : Y :: P = zRem Y P := by
  unfold zRem
  rw [List.take_of_length_le (by rw [List.length_cons]; omega)]
theorem RepM.pa {c : Nat → Nat → Int32} {t : Nat → Int64} {S : zAb} (h : RepM c t S) : PaM c S.2.2.1 := h.2.2.1
/-- what keeps() leaves -/
def zOutK (c : Nat → Nat → Int32) (t : Nat → Int64) (S : zAb) : zW → Prop := fun w => ∃ c', w = wF c' t ∧ RepM c' t (S.1, S.2.1, zRem S.2.1 S.2.2.1, S.2.2.2) ∧ ∀ a, a < 56 → c' a = c a
theorem PaM.pop {c : Nat → Nat → Int32} {P : List zMm} {Y : zMm} (h : PaM c (Y :: P)) : SoC (fun k => c 61 (18 * P.length + k)) Y ∧ ∀ c', c' 61 = c 61 → c' 56 7 = nI P.length → PaM c' P := by
  refine ⟨?_, fun c' h1 h2 => ⟨h2, fun i M hM => ?_⟩⟩
  · have := h.2 0 Y rfl
    rw [List.length_cons, show P.length + 1 - 1 - 0 = P.length by omega] at this
    exact this
  · have := h.2 (i + 1) M hM
    rw [List.length_cons, show P.length + 1 - 1 - (i + 1) = P.length - 1 - i by omega] at this
    rw [h1]
    exact this
theorem zmw {c : Nat → Nat → Int32} {w : Nat → Option Nat} {o : Option Nat} {j k : Nat} {y : Int32} (hk : k < 8) (hj : j < 8) (h : c 60 (2 + k) = zS1 (w k)) : z_up (z_up c 60 (2 + j) (zS1 o)) 60 (10 + j) y 60 (2 + k) = zS1 (if k = j then o else w k) := by
  rw [up_j _ (by omega)]
  by_cases e : k = j
  · rw [e, up_s, if_pos rfl]
  · rw [up_j _ (by omega), if_neg e]; exact h
theorem zmi {c : Nat → Nat → Int32} {g : Nat → Nat} {x : Int32} {j k y : Nat} (hk : k < 8) (hj : j < 8) (h : c 60 (10 + k) = nI (g k)) : z_up (z_up c 60 (2 + j) x) 60 (10 + j) (nI y) 60 (10 + k) = nI (if k = j then y else g k) := by
  by_cases e : k = j
  · rw [e, up_s, if_pos rfl]
  · rw [up_j _ (by omega), if_neg e, up_j _ (by omega)]; exact h
