/-! the reference: rows read -/
theorem zRc_0 {s : Nat} (r : Nat) (hs : s < 8) : (s + 8 * r) &&& 7 = s := by
  rw [show (7 : Nat) = 2 ^ 3 - 1 from rfl, Nat.and_two_pow_sub_one_eq_mod]
  omega
theorem zRc_sh {s : Nat} (r k : Nat) (hs : s < 8) : (s + 8 * r) >>> (3 * (k + 1)) = r >>> (3 * k) := by
  rw [show 3 * (k + 1) = 3 + 3 * k by omega, Nat.shiftRight_add]
  congr 1
  rw [Nat.shiftRight_eq_div_pow]
  omega
theorem zRc_of : ∀ (l : List Nat) (k : Nat), (∀ s ∈ l, s < 8) → (zRc l >>> (3 * k)) &&& 7 = zGd l k
  | [], k, _ => by show (0 >>> (3 * k)) &&& 7 = 0; rw [Nat.zero_shiftRight]; rfl
  | s :: l, 0, h => by
    show (s + 8 * zRc l) >>> 0 &&& 7 = s
    exact zRc_0 _ (h s (List.mem_cons_self ..))
  | s :: l, k + 1, h => by
    show (s + 8 * zRc l) >>> (3 * (k + 1)) &&& 7 = zGd l k
    rw [zRc_sh _ _ (h s (List.mem_cons_self ..))]
    exact zRc_of l k fun q hq => h q (List.mem_cons_of_mem _ hq)
theorem zRc_lt : ∀ (l : List Nat), (∀ s ∈ l, s < 8) → zRc l < 8 ^ l.length
  | [], _ => by show 0 < 1; decide
  | s :: l, h => by
    have h1 := h s (List.mem_cons_self ..)
    have h2 := zRc_lt l fun q hq => h q (List.mem_cons_of_mem _ hq)
    show s + 8 * zRc l < 8 ^ (l.length + 1)
    rw [Nat.pow_succ]
    omega
theorem zVal.s8 {l : List Nat} (h : zVal l) : ∀ s ∈ l, s < 8 := fun s hs => by have := h.1 s hs; omega
theorem zVal.rlt {l : List Nat} (h : zVal l) : zRc l < 2 ^ 31 := by
  have h1 := zRc_lt l h.s8
  have h2 : 8 ^ l.length ≤ 8 ^ 7 := Nat.pow_le_pow_right (by decide) h.2.2
  omega
theorem zGd_mem : ∀ {l : List Nat} {k : Nat}, k < l.length → zGd l k ∈ l
  | [], k, h => absurd h (Nat.not_lt_zero k)
  | s :: l, 0, _ => List.mem_cons_self ..
  | s :: l, k + 1, h => List.mem_cons_of_mem _ (zGd_mem (l := l) (k := k) (by rw [List.length_cons] at h; omega))
theorem zGd_ix : ∀ {l : List Nat} {i : Nat}, i ∈ l → zIx l i < l.length ∧ zGd l (zIx l i) = i
  | [], i, h => by cases h
  | s :: l, i, h => by
    unfold zIx
    by_cases e : i = s
    · rw [if_pos e]; exact ⟨by rw [List.length_cons]; omega, e.symm⟩
    · rw [if_neg e]
      have := zGd_ix (l := l) (i := i) (by cases h with | head => exact absurd rfl e | tail _ h => exact h)
      exact ⟨by rw [List.length_cons]; omega, this.2⟩
theorem zIx_gd : ∀ {l : List Nat} {k : Nat}, l.Nodup → k < l.length → zIx l (zGd l k) = k
  | [], k, _, h => absurd h (Nat.not_lt_zero k)
  | s :: l, 0, _, _ => if_pos rfl
  | s :: l, k + 1, hn, h => by
    have hk : k < l.length := by rw [List.length_cons] at h; omega
    rw [List.nodup_cons] at hn
    have hm := zGd_mem hk
    show (if zGd l k = s then 0 else zIx l (zGd l k) + 1) = k + 1
    have e0 : ¬ zGd l k = s := fun e => hn.1 (e ▸ hm)
    rw [if_neg e0, zIx_gd hn.2 hk]
theorem zPl_gd {l : List Nat} (h : zVal l) {k : Nat} (hk : k < l.length) : zPl l (zGd l k) = k := by
  unfold zPl
  rw [if_pos (zGd_mem hk), zIx_gd h.2.1 hk]
theorem zGd_pl {l : List Nat} {i : Nat} (hi : i ∈ l) : zPl l i < l.length ∧ zGd l (zPl l i) = i := by
  unfold zPl
  rw [if_pos hi]
  exact zGd_ix hi
def zPk (l : List Nat) (i : Nat) : Nat → Nat
  | 0 => 0
  | k + 1 => if zGd l k = i then k else zPk l i k
theorem zPk_pl {l : List Nat} (h : zVal l) {i : Nat} : ∀ k, k ≤ l.length → zPk l i k = if i ∈ l ∧ zPl l i < k then zPl l i else 0
  | 0, _ => by rw [if_neg (by omega)]; rfl
  | k + 1, hk => by
    have ih := zPk_pl h (i := i) k (by omega)
    unfold zPk
    by_cases e : zGd l k = i
    · have hi : i ∈ l := e ▸ zGd_mem (show k < l.length by omega)
      have hp : zPl l i = k := by rw [← e]; exact zPl_gd h (by omega)
      rw [if_pos e, if_pos ⟨hi, by omega⟩, hp]
    · rw [if_neg e, ih]
      by_cases hi : i ∈ l
      · have hp := zGd_pl hi
        have hne : zPl l i ≠ k := fun q => e (by rw [← q]; exact hp.2)
        by_cases hlt : zPl l i < k
        · rw [if_pos ⟨hi, hlt⟩, if_pos ⟨hi, by omega⟩]
        · rw [if_neg (fun q => hlt q.2), if_neg (fun q => by have := q.2; omega)]
      · rw [if_neg (fun q => hi q.1), if_neg (fun q => hi q.1)]
theorem zPk_all {l : List Nat} (h : zVal l) (i : Nat) : zPk l i l.length = zPl l i := by
  rw [zPk_pl h _ (Nat.le_refl _)]
  by_cases hi : i ∈ l
  · rw [if_pos ⟨hi, (zGd_pl hi).1⟩]
  · rw [if_neg (fun q => hi q.1)]
    unfold zPl
    rw [if_neg hi]
theorem zPk_le (l : List Nat) (i : Nat) : ∀ k, zPk l i k ≤ k
  | 0 => Nat.le_refl 0
  | k + 1 => by
    have := zPk_le l i k
    unfold zPk
    split <;> omega
theorem zHd_gd {l : List Nat} (h : 0 < l.length) : zHd l = zGd l 0 := by
  cases l with
  | nil => exact absurd h (by decide)
  | cons s l => rfl
/-- what holds of the rows -/
def RwQ (c : Nat → Nat → Int32) (O : List (List Nat)) (T : Nat) : Prop := RwC c O ∧ T < 128 ∧ O.length ≤ 5040 ∧ ∀ l ∈ O, zVal l ∧ (∀ s, s ∈ l ↔ T.testBit s = true) ∧ l.length = zp8 T
theorem RwQ_of {A : zCr} {Y : zMm} {T : Nat} {c : Nat → Nat → Int32} (h : RwC c (zOrd A Y T)) (hT : T < 128) : RwQ c (zOrd A Y T) T := ⟨h, hT, zOrd_len A Y hT, fun _ hl => zOrd_val A Y hT hl⟩
theorem RwQ.val {c : Nat → Nat → Int32} {O : List (List Nat)} {T : Nat} (h : RwQ c O T) {i : Nat} (hi : i < O.length) : zVal (zAt O i) ∧ (∀ s, s ∈ zAt O i ↔ T.testBit s = true) ∧ (zAt O i).length = zp8 T := h.2.2.2 _ (zAt_mem hi)
theorem RwQ.at {c : Nat → Nat → Int32} {O : List (List Nat)} {T : Nat} (h : RwQ c O T) {i : Nat} (hi : i < O.length) : c 64 i = nI (zRc (zAt O i)) := by
  refine h.1.2 i (zAt O i) ?_
  unfold zAt
  rw [List.getD_eq_getElem?_getD, List.getElem?_eq_getElem hi]
  rfl
theorem RwQ.lt {c : Nat → Nat → Int32} {O : List (List Nat)} {T : Nat} (h : RwQ c O T) {i : Nat} (hi : i < O.length) : zRc (zAt O i) < 2 ^ 31 := (h.val hi).1.rlt
theorem RwQ.hd {c : Nat → Nat → Int32} {O : List (List Nat)} {T : Nat} (h : RwQ c O T) (h0 : 0 < zp8 T) {i : Nat} (hi : i < O.length) : zGd (zAt O i) 0 = zHd (zAt O i) ∧ T.testBit (zHd (zAt O i)) = true ∧ zHd (zAt O i) < 7 := by
  obtain ⟨h1, h2, h3⟩ := h.val hi
  have hl : 0 < (zAt O i).length := by rw [h3]; exact h0
  have e := zHd_gd hl
  have hm := zGd_mem hl
  rw [← e] at hm
  exact ⟨e.symm, (h2 _).mp hm, h1.1 _ hm⟩
theorem zFb_sub {c : Nat → Nat → Int32} {O : List (List Nat)} {T : Nat} (h : RwQ c O T) (h0 : 0 < zp8 T) : ∀ i, i ≤ O.length → zSb (zFb O i) T
  | 0, _ => fun q hq => by rw [show zFb O 0 = 0 from rfl, Nat.zero_testBit] at hq; cases hq
  | i + 1, hi => (zFb_sub h h0 i (by omega)).or (h.hd h0 (by omega)).2.1
theorem zSb.and {a T : Nat} (h : zSb a T) : a &&& T = a := by
  refine Nat.eq_of_testBit_eq fun q => ?_
  rw [Nat.testBit_and]
  cases hq : a.testBit q with
  | false => rfl
  | true => rw [h q hq]; rfl
theorem zTi_no {c : Nat → Nat → Int32} {O : List (List Nat)} {T s : Nat} (h : RwQ c O T) (hs : s < 7) (hb : T.testBit s = false) : ∀ i, i ≤ O.length → zTi O s i = 0
  | 0, _ => rfl
  | i + 1, hi => by
    unfold zTi
    rw [if_neg, zTi_no h hs hb i (by omega)]
    intro e
    have hv := h.val (show i < O.length by omega)
    by_cases h0 : 0 < zp8 T
    · have := (h.hd h0 (show i < O.length by omega)).2.1
      rw [e, hb] at this
      cases this
    · have : zAt O i = [] := List.length_eq_zero_iff.mp (by omega)
      rw [this] at e
      have e7 : (7 : Nat) = s := e
      omega
theorem zp8_pos {T s : Nat} (hs : s < 8) (hb : T.testBit s = true) : 0 < zp8 T := by
  have h : zSb 0 T := fun q hq => by rw [Nat.zero_testBit] at hq; cases hq
  have := h.lt (Nat.zero_testBit s) hb 8 hs
  exact Nat.lt_of_le_of_lt (Nat.zero_le _) this
theorem zLk_top {c : Nat → Nat → Int32} {O : List (List Nat)} {T n : Nat} (h : RwQ c O T) (hn : ∀ s, n ≤ s → T.testBit s = false) : ∀ d, n + d ≤ 7 → zLk O (n + d) = zLk O n
  | 0, _ => rfl
  | d + 1, hd => by
    have ih := zLk_top h hn d (by omega)
    have e : zLk O (n + (d + 1)) = if (zLk O (n + d)).2 < zTi O (n + d) O.length then (some (n + d), zTi O (n + d) O.length) else zLk O (n + d) := rfl
    rw [e, zTi_no h (by omega) (hn _ (by omega)) _ (Nat.le_refl _), if_neg (Nat.not_lt_zero _), ih]
theorem zLk_le (O : List (List Nat)) : ∀ s, (zLk O s).2 ≤ O.length ∧ ∀ q, (zLk O s).1 = some q → q < s
  | 0 => ⟨Nat.zero_le _, fun q h => by cases h⟩
  | s + 1 => by
    have ih := zLk_le O s
    have := zTi_le O s O.length
    unfold zLk
    split
    · exact ⟨this, fun q h => by cases h; omega⟩
    · exact ⟨ih.1, fun q h => by have := ih.2 q h; omega⟩
theorem zBf_bit {g : Nat → Nat} : ∀ k q, (zBf g k).testBit q = true ↔ ∃ j, j < k ∧ g j = q
  | 0, q => by
    rw [show zBf g 0 = 0 from rfl, Nat.zero_testBit]
    exact ⟨fun h => (by cases h), fun ⟨j, hj, _⟩ => absurd hj (Nat.not_lt_zero j)⟩
  | k + 1, q => by
    rw [show zBf g (k + 1) = zBf g k ||| (1 <<< g k) from rfl, zor_bit, Bool.or_eq_true, zBf_bit k q, decide_eq_true_iff]
    constructor
    · rintro (⟨j, h1, h2⟩ | h)
      · exact ⟨j, by omega, h2⟩
      · exact ⟨k, by omega, h.symm⟩
    · rintro ⟨j, h1, h2⟩
      by_cases e : j = k
      · subst e; exact Or.inr h2.symm
      · exact Or.inl ⟨j, by omega, h2⟩
theorem zAh_bit {T : Nat} {l : List Nat} {s : Nat} : ∀ k q, (zAh T l s k).testBit q = true ↔ q < k ∧ T.testBit q = true ∧ zPl l q < zPl l s
  | 0, q => by
    rw [show zAh T l s 0 = 0 from rfl, Nat.zero_testBit]
    exact ⟨fun h => (by cases h), fun h => absurd h.1 (Nat.not_lt_zero q)⟩
  | k + 1, q => by
    have ih := zAh_bit (T := T) (l := l) (s := s) k q
    unfold zAh
    split
    · next hc =>
      rw [zor_bit, Bool.or_eq_true, ih, decide_eq_true_iff]
      constructor
      · rintro (h | h)
        · exact ⟨by omega, h.2⟩
        · subst h; exact ⟨by omega, hc⟩
      · rintro ⟨h1, h2⟩
        by_cases e : q = k
        · exact Or.inr e
        · exact Or.inl ⟨by omega, h2⟩
    · next hc =>
      rw [ih]
      constructor
      · rintro ⟨h1, h2⟩; exact ⟨by omega, h2⟩
      · rintro ⟨h1, h2⟩
        by_cases e : q = k
        · subst e; exact absurd h2 hc
        · exact ⟨by omega, h2⟩
theorem zAh_bf {T : Nat} {l : List Nat} {s : Nat} (hl : zVal l) (hm : ∀ q, q ∈ l ↔ T.testBit q = true) : zBf (zGd l) (zPl l s) = zAh T l s 7 := by
  refine Nat.eq_of_testBit_eq fun q => ?_
  have h1 := zBf_bit (g := zGd l) (zPl l s) q
  have h2 := zAh_bit (T := T) (l := l) (s := s) 7 q
  have hlt := (zPl_lt hl s).2
  have key : (∃ j, j < zPl l s ∧ zGd l j = q) ↔ (q < 7 ∧ T.testBit q = true ∧ zPl l q < zPl l s) := by
    constructor
    · rintro ⟨j, hj, e⟩
      have hjl : j < l.length := by omega
      have hq : q ∈ l := e ▸ zGd_mem hjl
      refine ⟨hl.1 q hq, (hm q).mp hq, ?_⟩
      rw [← e, zPl_gd hl hjl]
      exact hj
    · rintro ⟨_, hb, hp⟩
      exact ⟨zPl l q, hp, (zGd_pl ((hm q).mpr hb)).2⟩
  cases h3 : (zBf (zGd l) (zPl l s)).testBit q with
  | true => exact (h2.mpr (key.mp (h1.mp h3))).symm
  | false =>
    cases h4 : (zAh T l s 7).testBit q with
    | false => rfl
    | true => rw [h1.mpr (key.mpr (h2.mp h4))] at h3; cases h3
def zSv (O : List (List Nat)) (T s : Nat) : Nat → Nat
  | 0 => T
  | i + 1 => zSv O T s i &&& zAh T (zAt O i) s 7
theorem zSv_su (O : List (List Nat)) (T s : Nat) (hs : s < 32) : ∀ i, zSu O T s (i + 1) = zSv O T s (i + 1)
  | 0 => by
    show (T &&& ((1 <<< s) ^^^ 4294967295)) &&& zAh T (zAt O 0) s 7 = T &&& zAh T (zAt O 0) s 7
    refine Nat.eq_of_testBit_eq fun q => ?_
    rw [Nat.testBit_and (T &&& ((1 <<< s) ^^^ 4294967295)), Nat.testBit_and T (zAh T (zAt O 0) s 7)]
    cases h : (zAh T (zAt O 0) s 7).testBit q with
    | false => rw [Bool.and_false, Bool.and_false]
    | true =>
      have h2 := (zAh_bit 7 q).mp h
      rw [zan_bit _ _ (by omega)]
      have h1i : (1 <<< s).testBit q = decide (q = s) := by have := zor_bit 0 s q; rwa [Nat.zero_or, Nat.zero_testBit, Bool.false_or] at this
      rw [h1i, decide_eq_false (fun e => by rw [e] at h2; omega)]
      simp
  | i + 1 => by
    show zSu O T s (i + 1) &&& _ = zSv O T s (i + 1) &&& _
    rw [zSv_su O T s hs i]
theorem zSv_lt {O : List (List Nat)} {T s : Nat} (hT : T < 128) : ∀ i, zSv O T s i < 128
  | 0 => hT
  | i + 1 => zand_l (zSv_lt hT i)
theorem zThX_mem {w : Nat → Option Nat} {x : Int32} {k s : Nat} : ∀ n, k < n → w k = some s → nI k ≠ x → (zThX w x n).testBit s = true
  | 0, h, _, _ => by omega
  | n + 1, h, hw, hx => by
    by_cases e : k = n
    · subst e
      simp only [zThX, hw]
      first | (rw [if_neg hx, zor_bit]; simp) | (rw [if_pos hx, zor_bit]; simp) | (simp [hx, zor_bit])
    · have ih := zThX_mem n (by omega) hw hx
      unfold zThX
      split
      · exact ih
      · split <;> first | exact ih | (rw [zor_bit, ih]; rfl)
/-- who hang but for one seat -/
theorem zThX_is {w : Nat → Option Nat} (inj : ∀ k j s, k < 8 → j < 8 → w k = some s → w j = some s → k = j) {k s : Nat} (hk : k < 8) (hs : s < 32) (h7 : ∀ k s, k < 8 → w k = some s → s < 7) (h : w k = some s) : zThX w (nI k) 8 = zTh w 8 &&& ((1 <<< s) ^^^ 4294967295) := by
  refine Nat.eq_of_testBit_eq fun q => ?_
  have h1i : (1 <<< s).testBit q = decide (q = s) := by have := zor_bit 0 s q; rwa [Nat.zero_or, Nat.zero_testBit, Bool.false_or] at this
  cases h3 : (zThX w (nI k) 8).testBit q with
  | true =>
    obtain ⟨j, hj, hw, hne⟩ := zThX_bit 8 h3
    have hqs : q ≠ s := fun e => by subst e; exact hne (by rw [inj k j q hk hj h hw])
    have hb := zTh_mem 8 hj hw
    by_cases hq : q < 32
    · rw [zan_bit _ _ hq, hb, h1i, decide_eq_false hqs]; rfl
    · exact absurd (h7 j q hj hw) (by omega)
  | false =>
    cases h4 : (zTh w 8 &&& ((1 <<< s) ^^^ 4294967295)).testBit q with
    | false => rfl
    | true =>
      rw [Nat.testBit_and, Bool.and_eq_true] at h4
      obtain ⟨j, hj, hw⟩ := zTh_bit 8 h4.1
      have hjk : j ≠ k := fun e => by
        subst e
        rw [h] at hw
        cases hw
        have h5 := h4.2
        rw [Nat.testBit_xor, h1i, decide_eq_true rfl, zM_bit hs] at h5
        cases h5
      rw [zThX_mem 8 hj hw (fun e => hjk ((nI_eq (by omega) (by omega)).mp e))] at h3
      cases h3
