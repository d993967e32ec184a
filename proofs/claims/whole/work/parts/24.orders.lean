/-! orders: as lists of sailors; as the class writes them -/
def zSg (A : zCr) (h s : Nat) : Nat := if h % 3 = cW A s then h + 1 else h
def zOk (A : zCr) (ik : Nat → Nat) (T H d m h s : Nat) : Bool := (T &&& (m ^^^ 4294967295)).testBit s && (decide (ik s = zInk A d) && (zDare A s m && decide (zSg A h s < H)))
def zOx (A : zCr) (ik : Nat → Nat) (T H : Nat) : Nat → Nat → Nat → Nat → List (List Nat)
  | 0, _, m, _ => if m = T then [[]] else []
  | f + 1, d, m, h => if m = T then [[]] else (List.range 7).flatMap fun s => if zOk A ik T H d m h s = true then (zOx A ik T H f (d + 1) (m ||| (1 <<< s)) (zSg A h s + 1)).map (s :: ·) else []
def zOs (A : zCr) (ik : Nat → Nat) (T H f d m h n : Nat) : List (List Nat) := (List.range n).flatMap fun s => if zOk A ik T H d m h s = true then (zOx A ik T H f (d + 1) (m ||| (1 <<< s)) (zSg A h s + 1)).map (s :: ·) else []
theorem zOs_0 (A : zCr) (ik : Nat → Nat) (T H f d m h : Nat) : zOs A ik T H f d m h 0 = [] := rfl
theorem zOs_s (A : zCr) (ik : Nat → Nat) (T H f d m h n : Nat) : zOs A ik T H f d m h (n + 1) = zOs A ik T H f d m h n ++ if zOk A ik T H d m h n = true then (zOx A ik T H f (d + 1) (m ||| (1 <<< n)) (zSg A h n + 1)).map (n :: ·) else [] := by
  unfold zOs
  rw [List.range_succ, List.flatMap_append, List.flatMap_singleton]
theorem zOs_mono (A : zCr) (ik : Nat → Nat) (T H f d m h n : Nat) : ∀ k, (zOs A ik T H f d m h n).length ≤ (zOs A ik T H f d m h (n + k)).length
  | 0 => Nat.le_refl _
  | k + 1 => by
    rw [← Nat.add_assoc, zOs_s, List.length_append]
    have := zOs_mono A ik T H f d m h n k
    omega
theorem zOx_s (A : zCr) (ik : Nat → Nat) (T H f d m h : Nat) (hm : m ≠ T) : zOx A ik T H (f + 1) d m h = zOs A ik T H f d m h 7 := by
  show (if m = T then _ else _) = _
  rw [if_neg hm]
  rfl
/-- an order as one number: each one's place, above them the first one -/
def zEn : Nat → Nat → List Nat → Nat
  | _, o, [] => o
  | d, o, s :: l => zEn (d + 1) (if d = 0 then s <<< 21 else o ||| (d <<< (3 * s))) l
def zNob : Nat := 7 <<< 21
abbrev zCod (l : List Nat) : Nat := zEn 0 zNob l
def OrC (c : Nat → Nat → Int32) (l : List Nat) : Prop := c 52 3 = nI l.length ∧ ∀ i v, l[i]? = some v → c 53 i = nI v
theorem OrC.push {c : Nat → Nat → Int32} {l : List Nat} {v : Nat} (h : OrC c l) : OrC (z_up (z_up c 53 l.length (nI v)) 52 3 (nI (l.length + 1))) (l ++ [v]) := by
  refine ⟨by rw [up_s, List.length_append]; rfl, fun i x hi => ?_⟩
  rw [up_k (by decide)]
  by_cases hl : i < l.length
  · rw [List.getElem?_append_left hl] at hi
    rw [up_j _ (by omega)]
    exact h.2 i x hi
  · rw [List.getElem?_append_right (by omega)] at hi
    have hz := (List.getElem?_eq_some_iff.mp hi).1
    simp at hz
    obtain rfl : i = l.length := by omega
    rw [Nat.sub_self] at hi
    cases hi
    exact up_s _ _ _ _
/-- what else of the orders' object the search does not change -/
def OrK (c c' : Nat → Nat → Int32) : Prop := (∀ a, a ≠ 52 → a ≠ 53 → c' a = c a) ∧ ∀ b, b ≠ 3 → c' 52 b = c 52 b
theorem OrK.rf (c : Nat → Nat → Int32) : OrK c c := ⟨fun _ _ _ => rfl, fun _ _ => rfl⟩
theorem OrK.tr {a b c : Nat → Nat → Int32} (h : OrK a b) (h2 : OrK b c) : OrK a c := ⟨fun x h3 h4 => (h2.1 x h3 h4).trans (h.1 x h3 h4), fun x h3 => (h2.2 x h3).trans (h.2 x h3)⟩
theorem OrK.push (c : Nat → Nat → Int32) (i : Nat) (v w : Int32) : OrK c (z_up (z_up c 53 i v) 52 3 w) := ⟨fun a h1 h2 => by rw [up_K h1, up_K h2], fun b hb => by rw [up_j _ hb, up_k (by decide)]⟩
/-- what the search reads -/
def SeC (A : zCr) (ik : Nat → Nat) (T H : Nat) (c : Nat → Nat → Int32) : Prop := CrC 3 c A ∧ c 52 4 = nI T ∧ c 52 5 = nI H ∧ ∀ s, s < 7 → T.testBit s = true → c 55 s = nI (ik s)
theorem CrC.eq {p : Nat} {c c' : Nat → Nat → Int32} {A : zCr} (h : CrC p c A) (h0 : c' p = c p) (h1 : c' (p + 1) = c (p + 1)) (h2 : c' (p + 2) = c (p + 2)) (h3 : c' (p + 3) = c (p + 3)) : CrC p c' A := by
  unfold CrC
  rw [h0, h1, h2, h3]
  exact h
theorem SeC.k {A : zCr} {ik : Nat → Nat} {T H : Nat} {c c' : Nat → Nat → Int32} (h : SeC A ik T H c) (hk : OrK c c') : SeC A ik T H c' := by
  obtain ⟨h1, h2, h3, h4⟩ := h
  refine ⟨h1.eq (hk.1 _ (by decide) (by decide)) (hk.1 _ (by decide) (by decide)) (hk.1 _ (by decide) (by decide)) (hk.1 _ (by decide) (by decide)), (hk.2 4 (by decide)).trans h2, (hk.2 5 (by decide)).trans h3, fun s hs ht => ?_⟩
  rw [hk.1 55 (by decide) (by decide)]
  exact h4 s hs ht
theorem zM_bit {s : Nat} (h : s < 32) : Nat.testBit 4294967295 s = true := by
  rw [show 4294967295 = 2 ^ 32 - 1 from rfl, Nat.testBit_two_pow_sub_one]
  exact decide_eq_true h
theorem zan_bit (T m : Nat) {s : Nat} (h : s < 32) : (T &&& (m ^^^ 4294967295)).testBit s = (T.testBit s && !m.testBit s) := by
  rw [Nat.testBit_and, Nat.testBit_xor, zM_bit h]
  cases m.testBit s <;> simp
