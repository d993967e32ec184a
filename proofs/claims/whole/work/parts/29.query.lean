/-! what is read off the orders -/
def zAt (O : List (List Nat)) (i : Nat) : List Nat := O.getD i []
def zQ (c : Nat → Nat → Int32) (O : List (List Nat)) (T : Nat) : Prop := OrC c (O.map zCod) ∧ c 52 4 = nI T ∧ T < 128 ∧ O.length ≤ 5040 ∧ ∀ l ∈ O, zVal l ∧ (∀ s, s ∈ l ↔ T.testBit s = true) ∧ l.length = zp8 T
theorem zAt_mem {O : List (List Nat)} {i : Nat} (h : i < O.length) : zAt O i ∈ O := by
  unfold zAt
  rw [List.getD_eq_getElem?_getD, List.getElem?_eq_getElem h]
  exact List.getElem_mem h
theorem zQ.len {c : Nat → Nat → Int32} {O : List (List Nat)} {T : Nat} (h : zQ c O T) : c 52 3 = nI O.length := by
  have := h.1.1
  rwa [List.length_map] at this
theorem zQ.at {c : Nat → Nat → Int32} {O : List (List Nat)} {T : Nat} (h : zQ c O T) {i : Nat} (hi : i < O.length) : c 53 i = nI (zCod (zAt O i)) := by
  refine h.1.2 i _ ?_
  unfold zAt
  rw [List.getElem?_map, List.getElem?_eq_getElem hi, List.getD_eq_getElem?_getD, List.getElem?_eq_getElem hi]
  rfl
theorem zQ.val {c : Nat → Nat → Int32} {O : List (List Nat)} {T : Nat} (h : zQ c O T) {i : Nat} (hi : i < O.length) : zVal (zAt O i) ∧ (∀ s, s ∈ zAt O i ↔ T.testBit s = true) ∧ (zAt O i).length = zp8 T := h.2.2.2.2 _ (zAt_mem hi)
theorem zQ.lt {c : Nat → Nat → Int32} {O : List (List Nat)} {T : Nat} (h : zQ c O T) {i : Nat} (hi : i < O.length) : zCod (zAt O i) < 2 ^ 31 := by
  have := zCod_lt (h.val hi).1
  omega
theorem zQ.first {c : Nat → Nat → Int32} {O : List (List Nat)} {T : Nat} (h : zQ c O T) {i : Nat} (hi : i < O.length) : zCod (zAt O i) >>> 21 = zHd (zAt O i) := zCod_first (h.val hi).1
theorem zQ.hd {c : Nat → Nat → Int32} {O : List (List Nat)} {T : Nat} (h : zQ c O T) {i : Nat} (hi : i < O.length) : zHd (zAt O i) ≤ 7 := zHd_le (h.val hi).1
theorem zQ.eq {c c' : Nat → Nat → Int32} {O : List (List Nat)} {T : Nat} (h : zQ c O T) (h2 : c' 52 = c 52) (h3 : c' 53 = c 53) : zQ c' O T := by
  unfold zQ OrC
  rw [h2, h3]
  exact h
theorem zQ_of {A : zCr} {Y : zMm} {T : Nat} {c : Nat → Nat → Int32} (hO : OrC c ((zOrd A Y T).map zCod)) (h4 : c 52 4 = nI T) (hT : T < 128) : zQ c (zOrd A Y T) T := ⟨hO, h4, hT, zOrd_len A Y hT, fun _ hl => zOrd_val A Y hT hl⟩
def zFb (O : List (List Nat)) : Nat → Nat
  | 0 => 0
  | i + 1 => zFb O i ||| (1 <<< zHd (zAt O i))
def zTi (O : List (List Nat)) (s : Nat) : Nat → Nat
  | 0 => 0
  | i + 1 => if zHd (zAt O i) = s then zTi O s i + 1 else zTi O s i
def zLk (O : List (List Nat)) : Nat → Option Nat × Nat
  | 0 => (none, 0)
  | s + 1 => if (zLk O s).2 < zTi O s O.length then (some s, zTi O s O.length) else zLk O s
def zAh (T : Nat) (l : List Nat) (s : Nat) : Nat → Nat
  | 0 => 0
  | q + 1 => if T.testBit q = true ∧ zPl l q < zPl l s then zAh T l s q ||| (1 <<< q) else zAh T l s q
def zSu (O : List (List Nat)) (T s : Nat) : Nat → Nat
  | 0 => T &&& ((1 <<< s) ^^^ 4294967295)
  | i + 1 => zSu O T s i &&& zAh T (zAt O i) s 7
def zSure (O : List (List Nat)) (T s : Nat) : Nat := if O.length = 0 then 0 else zSu O T s O.length
theorem zFb_lt {O : List (List Nat)} (h : ∀ i, i < O.length → zHd (zAt O i) ≤ 7) : ∀ i, i ≤ O.length → zFb O i < 256
  | 0, _ => by show 0 < 256; decide
  | i + 1, hi => zor_lt8 (zFb_lt h i (by omega)) (by have := h i (by omega); omega)
theorem zTi_le (O : List (List Nat)) (s : Nat) : ∀ i, zTi O s i ≤ i
  | 0 => Nat.le_refl 0
  | i + 1 => by
    have := zTi_le O s i
    unfold zTi
    split <;> omega
theorem zAh_lt (T : Nat) (l : List Nat) (s : Nat) : ∀ q, q ≤ 7 → zAh T l s q < 128
  | 0, _ => by show 0 < 128; decide
  | q + 1, h => by
    have := zAh_lt T l s q (by omega)
    unfold zAh
    split
    · exact zor_lt this (by omega)
    · exact this
theorem zSu_lt {O : List (List Nat)} {T s : Nat} (hT : T < 128) : ∀ i, zSu O T s i < 128
  | 0 => zand_l hT
  | i + 1 => zand_l (zSu_lt hT i)
theorem zSu_0 {O : List (List Nat)} {T s : Nat} {i : Nat} (h : zSu O T s i = 0) : ∀ k, zSu O T s (i + k) = 0
  | 0 => h
  | k + 1 => by
    show zSu O T s (i + k) &&& _ = 0
    rw [zSu_0 h k, Nat.zero_and]
theorem zPl_lt {l : List Nat} (h : zVal l) (q : Nat) : zPl l q < 7 ∧ (zPl l q < l.length ∨ zPl l q = 0) := by
  have key : ∀ (l : List Nat), q ∈ l → zIx l q < l.length := by
    intro l
    induction l with
    | nil => intro hq; exact (List.not_mem_nil hq).elim
    | cons s l ih =>
      intro hq
      unfold zIx
      split
      · simp
      · next hn =>
        have := ih ((List.mem_cons.mp hq).resolve_left hn)
        simp only [List.length_cons]
        omega
  unfold zPl
  split
  · next hq =>
    have h1 := key l hq
    have h2 := h.2.2
    exact ⟨by omega, Or.inl h1⟩
  · exact ⟨by decide, Or.inr rfl⟩
/-! the rank of the places of those asked -/
def zRk (T : Nat) (l : List Nat) (a : Nat) : Nat → Nat × Nat × Nat
  | 0 => (0, 0, zp8 T)
  | s + 1 => if a.testBit s = true then ((zRk T l a s).1 * (zRk T l a s).2.2 + zPl l s - zp8 ((zRk T l a s).2.1 &&& ((1 <<< zPl l s) - 1)), (zRk T l a s).2.1 ||| (1 <<< zPl l s), (zRk T l a s).2.2 - 1) else zRk T l a s
theorem zpc_low : ∀ (k p x : Nat), p ≤ k → zpc k (x &&& ((1 <<< p) - 1)) = zpc p x
  | 0, p, x, h => by rw [show p = 0 by omega]; rfl
  | k + 1, p, x, h => by
    have hb : (x &&& ((1 <<< p) - 1)).testBit k = (x.testBit k && decide (k < p)) := by
      rw [Nat.testBit_and, Nat.shiftLeft_eq, Nat.one_mul, Nat.testBit_two_pow_sub_one]
    by_cases e : p = k + 1
    · subst e
      unfold zpc
      rw [hb, decide_eq_true (by omega), Bool.and_true]
      congr 1
      refine zpc_eq fun s hs => ?_
      rw [Nat.testBit_and, Nat.shiftLeft_eq, Nat.one_mul, Nat.testBit_two_pow_sub_one, decide_eq_true (by omega), Bool.and_true]
    · show zpc k _ + _ = _
      rw [hb, decide_eq_false (by omega), Bool.and_false, zpc_low k p x (by omega)]
      rfl
theorem zpc_grow : ∀ (d p x : Nat), zpc (p + d) x ≤ zpc p x + d ∧ zpc p x ≤ zpc (p + d) x
  | 0, p, x => ⟨Nat.le_refl _, Nat.le_refl _⟩
  | d + 1, p, x => by
    have := zpc_grow d p x
    show zpc (p + d) x + _ ≤ _ ∧ _ ≤ zpc (p + d) x + _
    cases x.testBit (p + d) <;> simp <;> omega
/-- at sailor s: what the rank's three numbers are -/
def zRI (T : Nat) (l : List Nat) (a s : Nat) : Prop := (zRk T l a s).2.2 + zpc s a = zp8 T ∧ zp8 (zRk T l a s).2.1 = zpc s a ∧ (∀ p, (zRk T l a s).2.1.testBit p = true ↔ ∃ q, q < s ∧ a.testBit q = true ∧ zPl l q = p) ∧ ((zRk T l a s).1 + 1) * zFac (zRk T l a s).2.2 ≤ zFac (zp8 T) ∧ (zRk T l a s).2.1 < 128
theorem zIx_inj {l : List Nat} : ∀ {x y : Nat}, x ∈ l → y ∈ l → zIx l x = zIx l y → x = y := by
  induction l with
  | nil => intro x y h; exact (List.not_mem_nil h).elim
  | cons s l ih =>
    intro x y hx hy h
    unfold zIx at h
    by_cases e1 : x = s
    · by_cases e2 : y = s
      · rw [e1, e2]
      · rw [if_pos e1, if_neg e2] at h; omega
    · by_cases e2 : y = s
      · rw [if_neg e1, if_pos e2] at h; omega
      · rw [if_neg e1, if_neg e2] at h
        exact ih ((List.mem_cons.mp hx).resolve_left e1) ((List.mem_cons.mp hy).resolve_left e2) (by omega)
theorem zPl_inj {l : List Nat} {x y : Nat} (hx : x ∈ l) (hy : y ∈ l) (h : zPl l x = zPl l y) : x = y := by
  unfold zPl at h
  rw [if_pos hx, if_pos hy] at h
  exact zIx_inj hx hy h
/-- one step's digit -/
theorem zRk_digit {T : Nat} {l : List Nat} {a s : Nat} (hl : zVal l) (hm : ∀ s, s ∈ l ↔ T.testBit s = true) (hn : l.length = zp8 T) (ha : ∀ q, a.testBit q = true → T.testBit q = true) (hI : zRI T l a s) (hs : a.testBit s = true) : (zRk T l a s).2.1.testBit (zPl l s) = false ∧ zpc (zPl l s) (zRk T l a s).2.1 ≤ zPl l s ∧ zPl l s - zpc (zPl l s) (zRk T l a s).2.1 < (zRk T l a s).2.2 ∧ zPl l s < zp8 T := by
  obtain ⟨h1, h2, h3, h4, h5⟩ := hI
  have hsl : s ∈ l := (hm s).mpr (ha s hs)
  have hp : zPl l s < l.length := by
    have : zIx l s < l.length := by
      have key : ∀ (l : List Nat), s ∈ l → zIx l s < l.length := by
        intro l
        induction l with
        | nil => intro hq; exact (List.not_mem_nil hq).elim
        | cons x l ih =>
          intro hq
          unfold zIx
          split
          · simp
          · next hx =>
            have := ih ((List.mem_cons.mp hq).resolve_left hx)
            simp only [List.length_cons]
            omega
      exact key l hsl
    unfold zPl
    rw [if_pos hsl]
    exact this
  have hnt : (zRk T l a s).2.1.testBit (zPl l s) = false := by
    cases hb : (zRk T l a s).2.1.testBit (zPl l s) with
    | false => rfl
    | true =>
      obtain ⟨q, hq, haq, he⟩ := (h3 _).mp hb
      have := zPl_inj ((hm q).mpr (ha q haq)) hsl he
      omega
  generalize (zRk T l a s).2.1 = tk at *
  generalize zPl l s = p at *
  have hN : zp8 T ≤ 7 := by rw [← hn]; exact hl.2.2
  have e1 : zpc p tk ≤ p := zp8_le p tk
  have e2 : zpc (p + 1) tk = zpc p tk := by show zpc p tk + _ = _; rw [hnt]; rfl
  have e3 := (zpc_grow (zp8 T - (p + 1)) (p + 1) tk).1
  rw [show p + 1 + (zp8 T - (p + 1)) = zp8 T by omega] at e3
  have e4 : zpc (zp8 T) tk = zpc 8 tk := by
    have key : ∀ d, zpc (zp8 T + d) tk = zpc (zp8 T) tk := by
      intro d
      induction d with
      | zero => rfl
      | succ d ih =>
        show zpc (zp8 T + d) tk + _ = _
        rw [ih]
        cases hb : tk.testBit (zp8 T + d) with
        | false => rfl
        | true =>
          obtain ⟨q, hq, haq, he⟩ := (h3 _).mp hb
          have hql : q ∈ l := (hm q).mpr (ha q haq)
          have := (zPl_lt hl q).2
          rcases this with h | h
          · omega
          · have : 0 < l.length := List.length_pos_of_mem hql
            omega
    have := key (8 - zp8 T)
    rw [show zp8 T + (8 - zp8 T) = 8 by omega] at this
    exact this.symm
  refine ⟨hnt, e1, ?_, by omega⟩
  have h2' : zpc 8 tk = zpc s a := h2
  omega
theorem zRI_all {T : Nat} {l : List Nat} {a : Nat} (hl : zVal l) (hm : ∀ s, s ∈ l ↔ T.testBit s = true) (hn : l.length = zp8 T) (ha : ∀ q, a.testBit q = true → T.testBit q = true) : ∀ s, zRI T l a s
  | 0 => ⟨rfl, by show zp8 0 = 0; decide, fun p => by simp [zRk], by show (0 + 1) * zFac (zp8 T) ≤ _; omega, by show 0 < 128; decide⟩
  | s + 1 => by
    have ih := zRI_all hl hm hn ha s
    cases hs : a.testBit s with
    | false =>
      have e : zRk T l a (s + 1) = zRk T l a s := by rw [zRk, if_neg (by rw [hs]; decide)]
      obtain ⟨h1, h2, h3, h4, h5⟩ := ih
      unfold zRI
      rw [e]
      have e2 : zpc (s + 1) a = zpc s a := by show zpc s a + _ = _; rw [hs]; rfl
      rw [e2]
      refine ⟨h1, h2, fun p => (h3 p).trans ⟨fun ⟨q, hq, h⟩ => ⟨q, by omega, h⟩, fun ⟨q, hq, h⟩ => ⟨q, ?_, h⟩⟩, h4, h5⟩
      by_cases e3 : q = s
      · subst e3; rw [hs] at h; exact absurd h.1 (by decide)
      · omega
    | true =>
      obtain ⟨d1, d2, d3, d4⟩ := zRk_digit hl hm hn ha ih hs
      obtain ⟨h1, h2, h3, h4, h5⟩ := ih
      have e : zRk T l a (s + 1) = ((zRk T l a s).1 * (zRk T l a s).2.2 + zPl l s - zp8 ((zRk T l a s).2.1 &&& ((1 <<< zPl l s) - 1)), (zRk T l a s).2.1 ||| (1 <<< zPl l s), (zRk T l a s).2.2 - 1) := by rw [zRk, if_pos hs]
      have hp8 : zPl l s < 7 := (zPl_lt hl s).1
      have e9 : zp8 ((zRk T l a s).2.1 &&& ((1 <<< zPl l s) - 1)) = zpc (zPl l s) (zRk T l a s).2.1 := zpc_low 8 _ _ (by omega)
      rw [e9] at e
      unfold zRI
      rw [e]
      have e2 : zpc (s + 1) a = zpc s a + 1 := by show zpc s a + _ = _; rw [hs]; rfl
      rw [e2]
      generalize (zRk T l a s).2.1 = tk at *
      generalize (zRk T l a s).2.2 = fr at *
      generalize (zRk T l a s).1 = r at *
      refine ⟨by show fr - 1 + _ = _; omega, ?_, fun p => ?_, ?_, zor_lt h5 hp8⟩
      · have := zpc_or 8 tk (zPl l s) d1
        rw [if_pos (by omega)] at this
        show zpc 8 (tk ||| (1 <<< zPl l s)) = zpc s a + 1
        have h2' : zpc 8 tk = zpc s a := h2
        omega
      · show (tk ||| (1 <<< zPl l s)).testBit p = true ↔ _
        rw [zor_bit]
        simp only [Bool.or_eq_true, decide_eq_true_eq, h3]
        constructor
        · rintro (⟨q, hq, h⟩ | h)
          · exact ⟨q, by omega, h⟩
          · exact ⟨s, by omega, hs, h.symm⟩
        · rintro ⟨q, hq, h⟩
          by_cases e3 : q = s
          · subst e3; exact Or.inr h.2.symm
          · exact Or.inl ⟨q, by omega, h⟩
      · show (r * fr + zPl l s - zpc (zPl l s) tk + 1) * zFac (fr - 1) ≤ _
        refine Nat.le_trans ?_ h4
        obtain ⟨f, rfl⟩ : ∃ f, fr = f + 1 := ⟨fr - 1, by omega⟩
        show _ * zFac f ≤ (r + 1) * ((f + 1) * zFac f)
        rw [← Nat.mul_assoc]
        refine Nat.mul_le_mul_right _ ?_
        rw [Nat.add_mul, Nat.one_mul]
        omega
theorem zRk_lt {T : Nat} {l : List Nat} {a : Nat} (hT : T < 128) (hl : zVal l) (hm : ∀ s, s ∈ l ↔ T.testBit s = true) (hn : l.length = zp8 T) (ha : ∀ q, a.testBit q = true → T.testBit q = true) (s : Nat) : (zRk T l a s).1 < 5040 := by
  have h4 := (zRI_all hl hm hn ha s).2.2.2.1
  have h5 := zFac_le (zp8 T) (zp8_7 hT)
  have pos : ∀ n, 1 ≤ zFac n := by
    intro n
    induction n with
    | zero => decide
    | succ n ih => unfold zFac; exact Nat.le_trans ih (Nat.le_mul_of_pos_left _ (by omega))
  have := Nat.le_mul_of_pos_right ((zRk T l a s).1 + 1) (pos (zRk T l a s).2.2)
  omega
theorem zRk_inj {T : Nat} {l l' : List Nat} {a : Nat} (hl : zVal l) (hm : ∀ s, s ∈ l ↔ T.testBit s = true) (hn : l.length = zp8 T) (hl' : zVal l') (hm' : ∀ s, s ∈ l' ↔ T.testBit s = true) (hn' : l'.length = zp8 T) (ha : ∀ q, a.testBit q = true → T.testBit q = true) : ∀ s, (zRk T l a s).1 = (zRk T l' a s).1 → (∀ q, q < s → a.testBit q = true → zPl l q = zPl l' q) ∧ zRk T l a s = zRk T l' a s
  | 0, _ => ⟨fun q h => absurd h (by omega), rfl⟩
  | s + 1, h => by
    have ih := zRk_inj hl hm hn hl' hm' hn' ha s
    cases hs : a.testBit s with
    | false =>
      rw [zRk, if_neg (by rw [hs]; decide), zRk, if_neg (by rw [hs]; decide)] at h
      obtain ⟨i1, i2⟩ := ih h
      refine ⟨fun q hq haq => ?_, ?_⟩
      · by_cases e : q = s
        · subst e; rw [hs] at haq; exact absurd haq (by decide)
        · exact i1 q (by omega) haq
      · rw [zRk, if_neg (by rw [hs]; decide), i2]
        exact (by rw [zRk, if_neg (by rw [hs]; decide)] : zRk T l' a (s + 1) = _).symm
    | true =>
      obtain ⟨d1, d2, d3, d4⟩ := zRk_digit hl hm hn ha (zRI_all hl hm hn ha s) hs
      obtain ⟨d1', d2', d3', d4'⟩ := zRk_digit hl' hm' hn' ha (zRI_all hl' hm' hn' ha s) hs
      have hp7 : zPl l s < 7 := (zPl_lt hl s).1
      have hp7' : zPl l' s < 7 := (zPl_lt hl' s).1
      have e1 : (zRk T l a (s + 1)).1 = (zRk T l a s).1 * (zRk T l a s).2.2 + zPl l s - zpc (zPl l s) (zRk T l a s).2.1 := by
        rw [zRk, if_pos hs]
        show _ - zpc 8 _ = _
        rw [zpc_low 8 _ _ (by omega)]
      have e2 : (zRk T l' a (s + 1)).1 = (zRk T l' a s).1 * (zRk T l' a s).2.2 + zPl l' s - zpc (zPl l' s) (zRk T l' a s).2.1 := by
        rw [zRk, if_pos hs]
        show _ - zpc 8 _ = _
        rw [zpc_low 8 _ _ (by omega)]
      rw [e1, e2] at h
      have f1 := (zRI_all hl hm hn ha s).1
      have f2 := (zRI_all hl' hm' hn' ha s).1
      have ef : (zRk T l a s).2.2 = (zRk T l' a s).2.2 := by omega
      rw [← ef] at h d3'
      have hr : (zRk T l a s).1 = (zRk T l' a s).1 := by
        generalize (zRk T l a s).1 = r at *
        generalize (zRk T l' a s).1 = r' at *
        generalize (zRk T l a s).2.2 = fr at *
        have x1 : r = (r * fr + (zPl l s - zpc (zPl l s) (zRk T l a s).2.1)) / fr := by
          rw [Nat.mul_comm, Nat.mul_add_div (by omega), Nat.div_eq_of_lt d3, Nat.add_zero]
        have x2 : r' = (r' * fr + (zPl l' s - zpc (zPl l' s) (zRk T l' a s).2.1)) / fr := by
          rw [Nat.mul_comm, Nat.mul_add_div (by omega), Nat.div_eq_of_lt d3', Nat.add_zero]
        rw [x1, x2]
        congr 1
        omega
      obtain ⟨i1, i2⟩ := ih hr
      rw [i2] at d1 d2 d3 h
      have hpl : zPl l s = zPl l' s := by
        rw [← i2] at ef
        generalize (zRk T l' a s).2.1 = tk at *
        have hd : zPl l s - zpc (zPl l s) tk = zPl l' s - zpc (zPl l' s) tk := by omega
        generalize zPl l s = p at *
        generalize zPl l' s = p' at *
        rcases Nat.lt_trichotomy p p' with hlt | he | hlt
        · exfalso
          have g1 := (zpc_grow (p' - (p + 1)) (p + 1) tk).1
          rw [show p + 1 + (p' - (p + 1)) = p' by omega] at g1
          have g2 : zpc (p + 1) tk = zpc p tk := by show zpc p tk + _ = _; rw [d1]; rfl
          omega
        · exact he
        · exfalso
          have g1 := (zpc_grow (p - (p' + 1)) (p' + 1) tk).1
          rw [show p' + 1 + (p - (p' + 1)) = p by omega] at g1
          have g2 : zpc (p' + 1) tk = zpc p' tk := by show zpc p' tk + _ = _; rw [d1']; rfl
          omega
      refine ⟨fun q hq haq => ?_, ?_⟩
      · by_cases e : q = s
        · rw [e]; exact hpl
        · exact i1 q (by omega) haq
      · rw [zRk, if_pos hs, i2, hpl]
        exact (by rw [zRk, if_pos hs] : zRk T l' a (s + 1) = _).symm
theorem zRk_congr {T : Nat} {l l' : List Nat} {a : Nat} (h : ∀ q, a.testBit q = true → zPl l q = zPl l' q) : ∀ s, zRk T l a s = zRk T l' a s
  | 0 => rfl
  | s + 1 => by
    rw [zRk, zRk, zRk_congr h s]
    by_cases hs : a.testBit s = true
    · rw [if_pos hs, if_pos hs, h s hs]
    · rw [if_neg hs, if_neg hs]
/-- the first one is known, if those asked tell their places -/
def zSm (a : Nat) (l l' : List Nat) : Bool := (List.range 7).all fun s => !a.testBit s || decide (zPl l s = zPl l' s)
def zKn (O : List (List Nat)) (a : Nat) : Bool := (List.range O.length).all fun i => (List.range O.length).all fun j => !zSm a (zAt O i) (zAt O j) || decide (zHd (zAt O i) = zHd (zAt O j))
theorem zSm_iff {a : Nat} {l l' : List Nat} : zSm a l l' = true ↔ ∀ s, s < 7 → a.testBit s = true → zPl l s = zPl l' s := by
  unfold zSm
  rw [List.all_eq_true]
  constructor
  · intro h s hs ha
    have := h s (List.mem_range.mpr hs)
    rw [ha] at this
    simpa using this
  · intro h s hs
    cases ha : a.testBit s with
    | false => rfl
    | true => simpa using h s (List.mem_range.mp hs) ha
theorem zKn_iff {O : List (List Nat)} {a : Nat} : zKn O a = true ↔ ∀ i, i < O.length → ∀ j, j < O.length → (∀ s, s < 7 → a.testBit s = true → zPl (zAt O i) s = zPl (zAt O j) s) → zHd (zAt O i) = zHd (zAt O j) := by
  unfold zKn
  rw [List.all_eq_true]
  constructor
  · intro h i hi j hj hs
    have h1 := List.all_eq_true.mp (h i (List.mem_range.mpr hi)) j (List.mem_range.mpr hj)
    rw [zSm_iff.mpr hs] at h1
    simpa using h1
  · intro h i hi
    rw [List.all_eq_true]
    intro j hj
    cases hs : zSm a (zAt O i) (zAt O j) with
    | false => rfl
    | true => simpa using h i (List.mem_range.mp hi) j (List.mem_range.mp hj) (zSm_iff.mp hs)
/-- the least of fewest with a property -/
def zBest (Q : Nat → Bool) (T a : Nat) : Prop := Q a = true ∧ a ≤ T ∧ ∀ b, b ≤ T → Q b = true → zp8 a < zp8 b ∨ (zp8 a = zp8 b ∧ a ≤ b)
theorem zBest_one {Q : Nat → Bool} {T a b : Nat} (h : zBest Q T a) (h2 : zBest Q T b) : a = b := by
  have h3 := h.2.2 b h2.2.1 h2.1
  have h4 := h2.2.2 a h.2.1 h.1
  omega
def zSub (T a : Nat) : Bool := decide (a &&& (T ^^^ 4294967295) = 0)
theorem zSub_bit {T a : Nat} (h : zSub T a = true) (ha : a < 128) : ∀ q, a.testBit q = true → T.testBit q = true := by
  intro q hq
  have h0 : a &&& (T ^^^ 4294967295) = 0 := of_decide_eq_true h
  have hq7 : q < 32 := by
    refine Nat.lt_of_not_le fun h7 => ?_
    have : a.testBit q = false := Nat.testBit_lt_two_pow (Nat.lt_of_lt_of_le ha (by calc 128 = 2 ^ 7 := rfl
                                                                                     _ ≤ 2 ^ q := Nat.pow_le_pow_right (by decide) (by omega)))
    rw [this] at hq
    cases hq
  have h1 := zan_bit a T hq7
  rw [h0, Nat.zero_testBit, hq] at h1
  cases ht : T.testBit q with
  | true => rfl
  | false => rw [ht] at h1; simp at h1
theorem zSub_self (T : Nat) (hT : T < 128) : zSub T T = true := by
  refine decide_eq_true (Nat.eq_of_testBit_eq fun q => ?_)
  by_cases hq : q < 32
  · rw [zan_bit T T hq, Nat.zero_testBit]
    cases T.testBit q <;> rfl
  · have : T.testBit q = false := Nat.testBit_lt_two_pow (Nat.lt_of_lt_of_le hT (by calc 128 = 2 ^ 7 := rfl
                                                                                     _ ≤ 2 ^ q := Nat.pow_le_pow_right (by decide) (by omega)))
    rw [Nat.testBit_and, this, Nat.zero_testBit]
    rfl
