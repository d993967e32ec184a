/-! the reference: its text -/
theorem up_self {c : Nat → Nat → Int32} {k j : Nat} {v : Int32} (h : c k j = v) : z_up c k j v = c := by
  funext a b
  unfold z_up
  split
  · next e => split
              · next e2 => rw [e, e2]; exact h.symm
              · rfl
  · rfl
def TmC (c : Nat → Nat → Int32) (len : Nat) (f : Nat → Nat) : Prop := c 56 2 = nI len ∧ len ≤ 200 ∧ (∀ i, i < len → c 57 i = nI (f i)) ∧ ∀ i, i < len → f i ≤ 255
def FrT (c c' : Nat → Nat → Int32) : Prop := (∀ a, a ≠ 56 → c' a = c a) ∧ ∀ b, b ≠ 10 → b ≠ 11 → b ≠ 12 → b ≠ 13 → c' 56 b = c 56 b
theorem FrT.rf (c : Nat → Nat → Int32) : FrT c c := ⟨fun _ _ => rfl, fun _ _ _ _ _ => rfl⟩
theorem FrT.tr {a b c : Nat → Nat → Int32} (h : FrT a b) (h2 : FrT b c) : FrT a c := ⟨fun x p => (h2.1 x p).trans (h.1 x p), fun x p q r s => (h2.2 x p q r s).trans (h.2 x p q r s)⟩
theorem FrT.up {c : Nat → Nat → Int32} {j : Nat} {v : Int32} (h : 10 ≤ j ∧ j ≤ 13) : FrT c (z_up c 56 j v) := ⟨fun a ha => up_K ha, fun b h1 h2 h3 h4 => up_j _ (by omega)⟩
theorem TmC.fr {c c' : Nat → Nat → Int32} {len : Nat} {f : Nat → Nat} (h : TmC c len f) (hf : FrT c c') : TmC c' len f := ⟨(hf.2 2 (by decide) (by decide) (by decide) (by decide)).trans h.1, h.2.1, fun i hi => (congrFun (hf.1 57 (by decide)) i).trans (h.2.2.1 i hi), h.2.2.2⟩
def zLa (f : Nat → Nat) (len k : Nat) : Int32 := if k < len then nI (f k) else -1
theorem zLa_t {f : Nat → Nat} {len k : Nat} (h : k < len) : zLa f len k = nI (f k) := if_pos h
theorem zLa_f {f : Nat → Nat} {len k : Nat} (h : ¬ k < len) : zLa f len k = -1 := if_neg h
theorem zdg : ∀ v, v ≤ 255 → zIn (nI v) (nI 48) (nI 57) = decide (48 ≤ v ∧ v ≤ 57) := by decide +kernel
theorem zdg_n : zIn (-1) (nI 48) (nI 57) = false := by decide +kernel
theorem zLa_32 : ∀ v, v ≤ 255 → nI v = nI 32 → v = 32 := by decide +kernel
def zMv (f : Nat → Nat) (q : Nat) : Nat → Nat
  | 0 => f q - 48
  | k + 1 => if f q = 48 ∨ 127 < zMv f q k then 1000 else 10 * zMv f q k + f (q + (k + 1)) - 48
/-- what a token's number tells of its sort and value -/
def zTC (k : Nat) (s v : Int32) : Prop := (k = 1000 ∧ s = nI 0) ∨ (k ≤ 127 ∧ s = nI 2 ∧ v = nI k) ∨ (k = 1001 ∧ s = nI 2 ∧ ∃ m, 127 < m ∧ m ≤ 2000 ∧ v = nI m) ∨ (k = 1001 ∧ s = nI 4) ∨ (k = 187 ∧ s = nI 3) ∨ ∃ x, (x = 115 ∨ x = 100 ∨ x = 110) ∧ k = 128 + x ∧ s = nI 1 ∧ v = nI x
theorem zMv_cv {f : Nat → Nat} {q : Nat} (hq : 48 ≤ f q ∧ f q ≤ 57) : ∀ k, (∀ i, i ≤ k → 48 ≤ f (q + i) ∧ f (q + i) ≤ 57) → zMv f q k ≤ 1300 ∧ (if f q = 48 ∧ 0 < k then zMv f q k = 1000 else if zCv f q (k + 1) ≤ 127 then zMv f q k = zCv f q (k + 1) else 127 < zMv f q k)
  | 0, h => by
    rw [if_neg (by omega)]
    have e : zCv f q (0 + 1) = min (0 * 10 + (f (q + 0) - 48)) 128 := rfl
    rw [e, Nat.add_zero]
    show f q - 48 ≤ 1300 ∧ if _ then f q - 48 = _ else 127 < f q - 48
    rw [if_pos (by omega)]
    omega
  | k + 1, h => by
    obtain ⟨ih1, ih2⟩ := zMv_cv hq k fun i hi => h i (by omega)
    have hk := h (k + 1) (Nat.le_refl _)
    have e : zCv f q (k + 1 + 1) = min (zCv f q (k + 1) * 10 + (f (q + (k + 1)) - 48)) 128 := rfl
    have em : zMv f q (k + 1) = if f q = 48 ∨ 127 < zMv f q k then 1000 else 10 * zMv f q k + f (q + (k + 1)) - 48 := rfl
    by_cases h48 : f q = 48
    · rw [em, if_pos (Or.inl h48), if_pos ⟨h48, by omega⟩]
      exact ⟨by decide, rfl⟩
    · rw [if_neg (fun x => h48 x.1)] at ih2 ⊢
      rw [e, em]
      split at ih2
      · next hc =>
        rw [if_neg (by omega)]
        by_cases h2 : min (zCv f q (k + 1) * 10 + (f (q + (k + 1)) - 48)) 128 ≤ 127
        · rw [if_pos h2]; omega
        · rw [if_neg h2]; omega
      · next hc =>
        rw [if_pos (Or.inr ih2), if_neg (by omega)]
        omega
theorem zEd_le {f : Nat → Nat} {len q : Nat} (h : q ≤ len) : q ≤ zEd f len q ∧ zEd f len q ≤ len := zDge_le f len (len - q) q h
theorem zEd_dig {f : Nat → Nat} {len : Nat} : ∀ d q, len - q ≤ d → q ≤ len → ∀ i, q ≤ i → i < zEd f len q → 48 ≤ f i ∧ f i ≤ 57
  | 0, q, hd, hq, i, h1, h2 => by have := (zEd_le (f := f) hq).2; omega
  | d + 1, q, hd, hq, i, h1, h2 => by
    by_cases hc : q < len ∧ 48 ≤ f q ∧ f q ≤ 57
    · by_cases e : i = q
      · subst e; exact hc.2
      · rw [← zEd_step hc.1 hc.2] at h2
        exact zEd_dig d (q + 1) (by omega) (by omega) i (by omega) h2
    · rw [zEd_stop hc] at h2; omega
theorem zTC_num {f : Nat → Nat} {len q k : Nat} (hq : 48 ≤ f q ∧ f q ≤ 57) (hql : q < len) (he : zEd f len q = q + (k + 1)) : zTC (zNv f len q) (nI 2) (nI (zMv f q k)) := by
  have hd : ∀ i, i ≤ k → 48 ≤ f (q + i) ∧ f (q + i) ≤ 57 := fun i hi => zEd_dig (len - q) q (Nat.le_refl _) (by omega) (q + i) (by omega) (by omega)
  obtain ⟨h1, h2⟩ := zMv_cv hq k hd
  unfold zNv
  rw [he, show q + (k + 1) - q = k + 1 by omega]
  by_cases hz : f q = 48 ∧ 0 < k
  · rw [if_pos hz] at h2
    rw [if_neg (by omega)]
    exact Or.inr (Or.inr (Or.inl ⟨rfl, rfl, _, by omega, by omega, rfl⟩))
  · rw [if_neg hz] at h2
    split at h2
    · next hc =>
      rw [if_pos ⟨hc, by omega⟩]
      exact Or.inr (Or.inl ⟨hc, rfl, by rw [h2]⟩)
    · next hc =>
      rw [if_neg (fun x => hc x.1)]
      exact Or.inr (Or.inr (Or.inl ⟨rfl, rfl, _, by omega, by omega, rfl⟩))
