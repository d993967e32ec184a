/-! the reference: what is known of the first -/
theorem zShf_top {A : zCr} {Y : zMm} {n : Nat} (hn : ∀ k, n ≤ k → k < 8 → mW Y k = none) : ∀ d, n + d ≤ 8 → zShf A Y (n + d) = zShf A Y n
  | 0, _ => rfl
  | d + 1, h => by
    rw [← zShf_top hn d (by omega)]
    show zShf A Y (n + d + 1) = _
    rw [zShf, hn (n + d) (by omega) (by omega)]
def zTl (l : List Nat) (a : Nat) : Nat → Nat
  | 0 => 0
  | i + 1 => if a.testBit i = true then 8 * zTl l a i + zPl l i else zTl l a i
theorem zTl_lt {l : List Nat} {a : Nat} (h : zVal l) : ∀ i, zTl l a i < 8 ^ zpc i a
  | 0 => by show 0 < 1; decide
  | i + 1 => by
    have ih := zTl_lt (a := a) h i
    have hp := (zPl_lt h i).1
    unfold zTl zpc
    cases hb : a.testBit i with
    | true =>
      rw [if_pos rfl, Bool.toNat_true, Nat.pow_succ]
      omega
    | false =>
      rw [if_neg (by decide), Bool.toNat_false, Nat.add_zero]
      exact ih
theorem zTl_inj {l l' : List Nat} {a : Nat} (h : zVal l) (h' : zVal l') : ∀ i, zTl l a i = zTl l' a i → ∀ q, q < i → a.testBit q = true → zPl l q = zPl l' q
  | 0, _, q, hq, _ => absurd hq (Nat.not_lt_zero q)
  | i + 1, he, q, hq, hb => by
    have hp := (zPl_lt h i).1
    have hp' := (zPl_lt h' i).1
    unfold zTl at he
    cases hbi : a.testBit i with
    | true =>
      rw [if_pos hbi, if_pos hbi] at he
      by_cases e : q = i
      · subst e; omega
      · exact zTl_inj h h' i (by omega) q (by omega) hb
    | false =>
      rw [hbi, if_neg (by decide), if_neg (by decide)] at he
      by_cases e : q = i
      · subst e; rw [hbi] at hb; cases hb
      · exact zTl_inj h h' i he q (by omega) hb
theorem zTl_congr {l l' : List Nat} {a : Nat} : ∀ i, (∀ q, q < i → a.testBit q = true → zPl l q = zPl l' q) → zTl l a i = zTl l' a i
  | 0, _ => rfl
  | i + 1, h => by
    unfold zTl
    rw [zTl_congr i fun q hq hb => h q (by omega) hb]
    split
    · next hb => rw [h i (by omega) hb]
    · rfl
theorem zKn_few {c : Nat → Nat → Int32} {O : List (List Nat)} {T a : Nat} (hQ : RwQ c O T) (ha : zSb a T) (hc : zp8 T ≤ zp8 a + 1) : zKn O a = true := by
  refine zKn_iff.mpr fun i hi j hj hsame => ?_
  obtain ⟨h1, h2, h3⟩ := hQ.val hi
  obtain ⟨g1, g2, g3⟩ := hQ.val hj
  by_cases h0 : 0 < zp8 T
  · have p := hQ.hd h0 hi
    have q := hQ.hd h0 hj
    by_cases b1 : a.testBit (zHd (zAt O i)) = true
    · exact (zHd_pl ((h2 _).mpr p.2.1) ((g2 _).mpr p.2.1) rfl (hsame _ p.2.2 b1)).symm
    · by_cases b2 : a.testBit (zHd (zAt O j)) = true
      · exact zHd_pl ((g2 _).mpr q.2.1) ((h2 _).mpr q.2.1) rfl (hsame _ q.2.2 b2).symm
      · refine Classical.byContradiction fun hne => ?_
        have b1' : a.testBit (zHd (zAt O i)) = false := by cases h : a.testBit (zHd (zAt O i)) with | false => rfl | true => exact absurd h b1
        have b2' : a.testBit (zHd (zAt O j)) = false := by cases h : a.testBit (zHd (zAt O j)) with | false => rfl | true => exact absurd h b2
        have hs : zSb (a ||| (1 <<< zHd (zAt O i))) T := ha.or p.2.1
        have hn : (a ||| (1 <<< zHd (zAt O i))).testBit (zHd (zAt O j)) = false := by rw [zor_bit, b2', decide_eq_false (fun e => hne e.symm)]; rfl
        have hl := hs.lt hn q.2.1 8 (by omega)
        have hpc := zpc_snoc (show zHd (zAt O i) < 8 by omega) b1'
        have hc' : zpc 8 T ≤ zpc 8 a + 1 := hc
        have hpc' : zpc 8 (a ||| (1 <<< zHd (zAt O i))) = zpc 8 a + 1 := hpc
        omega
  · have e1 : zAt O i = [] := List.length_eq_zero_iff.mp (by omega)
    have e2 : zAt O j = [] := List.length_eq_zero_iff.mp (by omega)
    rw [e1, e2]
theorem zfew : ∀ a, a ≤ 8 → ∀ n, n ≤ 8 → (nI a < nI n - nI 1 → a + 1 < n) ∧ (¬ nI a < nI n - nI 1 → n ≤ a + 1) := by decide +kernel
theorem z8pow : ∀ m, m ≤ 5 → 1 <<< (3 * m) = 8 ^ m ∧ 8 ^ m ≤ 32768 := by decide
theorem RwQ.eq {c c' : Nat → Nat → Int32} {O : List (List Nat)} {T : Nat} (h : RwQ c O T) (h1 : c' 56 = c 56) (h2 : c' 64 = c 64) : RwQ c' O T := ⟨h.1.fr (by rw [h1]) h2, h.2⟩
def LdC (c : Nat → Nat → Int32) (O : List (List Nat)) (a r : Nat) : Prop := (∀ j, j < r → c 67 (zTl (zAt O j) a 7) = nI (zHd (zAt O j))) ∧ ∀ v, v < 8 ^ zp8 a → c 67 v = nI 8 ∨ ∃ j, j < r ∧ zTl (zAt O j) a 7 = v
theorem LdC.put {c : Nat → Nat → Int32} {O : List (List Nat)} {a r : Nat} (h : LdC c O a r) (hc : c 67 (zTl (zAt O r) a 7) = nI 8 ∨ c 67 (zTl (zAt O r) a 7) = nI (zHd (zAt O r))) (hd : ∀ j, j ≤ r → zHd (zAt O j) < 7) : LdC (z_up c 67 (zTl (zAt O r) a 7) (nI (zHd (zAt O r)))) O a (r + 1) := by
  refine ⟨fun j hj => ?_, fun v hv => ?_⟩
  · by_cases e : zTl (zAt O j) a 7 = zTl (zAt O r) a 7
    · rw [e, up_s]
      by_cases ej : j = r
      · rw [ej]
      · have h1 := h.1 j (by omega)
        rw [e] at h1
        rcases hc with hc | hc
        · rw [hc] at h1
          have := (nI_eq (by decide) (by have := hd j (by omega); omega)).mp h1
          have := hd j (by omega)
          omega
        · exact hc.symm.trans h1
    · rw [up_j _ e]
      exact h.1 j (by by_cases ej : j = r; (subst ej; exact absurd rfl e); omega)
  · by_cases e : v = zTl (zAt O r) a 7
    · exact Or.inr ⟨r, by omega, e.symm⟩
    · rw [up_j _ e]
      exact (h.2 v hv).imp id fun ⟨j, h1, h2⟩ => ⟨j, by omega, h2⟩
theorem LdC.yes {c c0 : Nat → Nat → Int32} {O : List (List Nat)} {T a : Nat} (h : LdC c O a O.length) (hQ : RwQ c0 O T) (h0 : 0 < zp8 T) : zKn O a = true := by
  refine zKn_iff.mpr fun i hi j hj hsame => ?_
  have e := zTl_congr (l := zAt O i) (l' := zAt O j) (a := a) 7 hsame
  have h1 := h.1 i hi
  rw [e, h.1 j hj] at h1
  have p := hQ.hd h0 hi
  have q := hQ.hd h0 hj
  exact ((nI_eq (by omega) (by omega)).mp h1).symm
theorem LdC.no {c c0 : Nat → Nat → Int32} {O : List (List Nat)} {T a r : Nat} (h : LdC c O a r) (hQ : RwQ c0 O T) (ha : a < 128) (hr : r < O.length) (h1 : c 67 (zTl (zAt O r) a 7) ≠ nI 8) (h2 : c 67 (zTl (zAt O r) a 7) ≠ nI (zHd (zAt O r))) : zKn O a = false := by
  have hv := (hQ.val hr).1
  have hlt := zTl_lt (a := a) hv 7
  rw [← zpc_top (n := 7) (m := a) (by decide) ha] at hlt
  rcases h.2 _ hlt with h3 | ⟨j, hj, e⟩
  · exact absurd h3 h1
  · cases hk : zKn O a with
    | false => rfl
    | true =>
      have hh := zKn_iff.mp hk j (by omega) r hr fun s hs hb => zTl_inj (hQ.val (show j < O.length by omega)).1 hv 7 e s hs hb
      have h4 := h.1 j hj
      rw [e, hh] at h4
      exact absurd h4 h2
