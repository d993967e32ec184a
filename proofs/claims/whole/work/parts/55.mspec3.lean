/-! the reference: sets, counted and closed -/
def zSb (a b : Nat) : Prop := ∀ q, a.testBit q = true → b.testBit q = true
theorem zSb.rf (a : Nat) : zSb a a := fun _ h => h
theorem zSb.tr {a b d : Nat} (h : zSb a b) (h2 : zSb b d) : zSb a d := fun q h3 => h2 q (h q h3)
theorem zSb.eq {a b : Nat} (h : zSb a b) (h2 : zSb b a) : a = b := by
  refine Nat.eq_of_testBit_eq fun q => ?_
  cases h3 : a.testBit q with
  | true => exact (h q h3).symm
  | false =>
    cases h4 : b.testBit q with
    | false => rfl
    | true => rw [h2 q h4] at h3; cases h3
theorem zSb.pc {a b : Nat} (h : zSb a b) : ∀ k, zpc k a ≤ zpc k b
  | 0 => Nat.le_refl 0
  | k + 1 => by
    have ih := zSb.pc h k
    unfold zpc
    cases h3 : a.testBit k with
    | true => rw [h k h3]; omega
    | false => cases b.testBit k <;> simp <;> omega
theorem zSb.lt {a b i : Nat} (h : zSb a b) (ha : a.testBit i = false) (hb : b.testBit i = true) : ∀ k, i < k → zpc k a < zpc k b
  | 0, hk => by omega
  | k + 1, hk => by
    unfold zpc
    by_cases e : i = k
    · subst e
      have := h.pc i
      rw [ha, hb]
      simp
      omega
    · have ih := zSb.lt h ha hb k (by omega)
      cases h3 : a.testBit k with
      | true => rw [h k h3]; omega
      | false => cases b.testBit k <;> simp <;> omega
theorem zSb.or {a b s : Nat} (h : zSb a b) (hs : b.testBit s = true) : zSb (a ||| (1 <<< s)) b := by
  intro q hq
  rw [zor_bit] at hq
  cases h3 : a.testBit q with
  | true => exact h q h3
  | false =>
    rw [h3, Bool.false_or] at hq
    rw [of_decide_eq_true hq]
    exact hs
theorem zSb_orl (a s : Nat) : zSb a (a ||| (1 <<< s)) := fun q hq => by rw [zor_bit, hq]; rfl
theorem zor_self (a s : Nat) : (a ||| (1 <<< s)).testBit s = true := by rw [zor_bit, decide_eq_true rfl, Bool.or_true]
theorem zDare_mono {A : zCr} {s a b : Nat} (h : zSb a b) (hd : zDare A s a = true) : zDare A s b = true := by
  unfold zDare at hd ⊢
  rw [Bool.and_eq_true] at hd ⊢
  obtain ⟨h1, h2⟩ := hd
  have h1 := of_decide_eq_true h1
  refine ⟨decide_eq_true (Nat.le_trans h1 (h.pc 8)), ?_⟩
  rw [Bool.or_eq_true] at h2 ⊢
  rcases h2 with h2 | h2
  · exact Or.inl h2
  · refine Or.inr (decide_eq_true (Nat.pos_of_ne_zero fun h0 => ?_))
    have h2 := of_decide_eq_true h2
    have : zTm A s &&& a = 0 := by
      refine Nat.eq_of_testBit_eq fun q => ?_
      rw [Nat.zero_testBit]
      cases h3 : (zTm A s &&& a).testBit q with
      | false => rfl
      | true =>
        rw [Nat.testBit_and, Bool.and_eq_true] at h3
        have h4 : (zTm A s &&& b).testBit q = true := by rw [Nat.testBit_and, h3.1, h q h3.2]; rfl
        rw [h0, Nat.zero_testBit] at h4
        cases h4
    omega
def zCls (A : zCr) (R : Nat) : Prop := ∀ i, i < cN A → zDare A i R = true → R.testBit i = true
theorem zWi_sub {A : zCr} {B R : Nat} (h : zSb B R) (hR : zCls A R) : ∀ s, s ≤ cN A → zSb (zWi A s B) R
  | 0, _ => h
  | s + 1, hs => by
    have ih := zWi_sub h hR s (by omega)
    unfold zWi
    split
    · next hd => exact ih.or (hR s (by omega) (zDare_mono ih hd))
    · exact ih
theorem zWr_sub {A : zCr} {B R : Nat} (h : zSb B R) (hR : zCls A R) : ∀ r, zSb (zWr A r B) R
  | 0 => h
  | r + 1 => zWi_sub (zWr_sub h hR r) hR _ (Nat.le_refl _)
theorem zWi_1 (A : zCr) (B s : Nat) : zSb (zWi A s B) (zWi A (s + 1) B) := by
  rw [show zWi A (s + 1) B = if zDare A s (zWi A s B) = true then zWi A s B ||| (1 <<< s) else zWi A s B from rfl]
  split
  · exact zSb_orl _ _
  · exact zSb.rf _
theorem zWi_sup (A : zCr) (B : Nat) : ∀ s d, zSb (zWi A s B) (zWi A (s + d) B)
  | _, 0 => zSb.rf _
  | s, d + 1 => (zWi_sup A B s d).tr (zWi_1 A B (s + d))
theorem zWr_sup (A : zCr) (B : Nat) : ∀ r, zSb B (zWr A r B)
  | 0 => zSb.rf _
  | r + 1 => (zWr_sup A B r).tr (by have := zWi_sup A (zWr A r B) 0 (cN A); rw [Nat.zero_add] at this; exact this)
theorem zWi_all' {A : zCr} {B i : Nat} (hi : i < cN A) (hd : zDare A i B = true) : (zWi A (cN A) B).testBit i = true := by
  have h0 := zWi_sup A B 0 i
  rw [Nat.zero_add] at h0
  have h1 : (zWi A (i + 1) B).testBit i = true := by
    unfold zWi
    rw [if_pos (zDare_mono h0 hd)]
    exact zor_self _ _
  have h2 := zWi_sup A B (i + 1) (cN A - (i + 1))
  rw [show i + 1 + (cN A - (i + 1)) = cN A by omega] at h2
  exact h2 i h1
theorem zWr_step {A : zCr} (ok : OkA A) (B : Nat) : ∀ r, zCls A (zWr A r B) ∨ r ≤ zp8 (zWr A r B)
  | 0 => Or.inr (Nat.zero_le _)
  | r + 1 => by
    rcases zWr_step ok B r with h | h
    · have e : zWr A (r + 1) B = zWr A r B := zSb.eq (zWi_sub (zSb.rf _) h _ (Nat.le_refl _)) (by have := zWi_sup A (zWr A r B) 0 (cN A); rw [Nat.zero_add] at this; exact this)
      rw [e]
      exact Or.inl h
    · by_cases hc : zCls A (zWr A r B)
      · have e : zWr A (r + 1) B = zWr A r B := zSb.eq (zWi_sub (zSb.rf _) hc _ (Nat.le_refl _)) (by have := zWi_sup A (zWr A r B) 0 (cN A); rw [Nat.zero_add] at this; exact this)
        rw [e]
        exact Or.inl hc
      · refine Or.inr ?_
        unfold zCls at hc
        have hc : ∃ i, i < cN A ∧ zDare A i (zWr A r B) = true ∧ (zWr A r B).testBit i = false := by
          refine Classical.byContradiction fun hn => hc fun i h1 h2 => ?_
          cases h3 : (zWr A r B).testBit i with
          | true => rfl
          | false => exact absurd ⟨i, h1, h2, h3⟩ hn
        obtain ⟨i, h1, h2, h3⟩ := hc
        have hs : zSb (zWr A r B) (zWr A (r + 1) B) := by have := zWi_sup A (zWr A r B) 0 (cN A); rw [Nat.zero_add] at this; exact this
        have := hs.lt h3 (zWi_all' h1 h2) 8 (by have := ok.1; omega)
        show r + 1 ≤ zpc 8 _
        have h' : r ≤ zpc 8 (zWr A r B) := h
        omega
theorem zp8_all7 : ∀ b, b < 128 → 7 ≤ zp8 b → b = 127 := by decide +kernel
theorem zWr_cls {A : zCr} (ok : OkA A) {B : Nat} (hB : B < 128) : zCls A (zWr A 7 B) := by
  rcases zWr_step ok B 7 with h | h
  · exact h
  · intro i hi _
    rw [zp8_all7 _ (zWr_lt ok hB 7) h]
    have h7 := ok.1
    exact (show ∀ i, i < 7 → Nat.testBit 127 i = true by decide) i (by omega)
theorem zWr_is {A : zCr} (ok : OkA A) {B R : Nat} (hB : B < 128) (h1 : zSb B R) (h2 : zSb R (zWr A 7 B)) (h3 : zCls A R) : R = zWr A 7 B := h2.eq (zWr_sub h1 h3 7)
def zFs (A : zCr) (w : Nat) : Nat → Nat → Nat
  | 0, B => B
  | s + 1, B => if zWd A s w = true then zFs A w s B ||| (1 <<< s) else zFs A w s B
theorem zFs_lt {A : zCr} {w B : Nat} (hB : B < 128) : ∀ s, s ≤ 7 → zFs A w s B < 128
  | 0, _ => hB
  | s + 1, h => by
    have := zFs_lt (A := A) (w := w) hB s (by omega)
    unfold zFs
    split
    · exact zor_lt this (by omega)
    · exact this
theorem zFs_sup (A : zCr) (w B : Nat) : ∀ s, zSb B (zFs A w s B)
  | 0 => zSb.rf _
  | s + 1 => by
    have ih := zFs_sup A w B s
    unfold zFs
    split
    · exact ih.tr (zSb_orl _ _)
    · exact ih
theorem zFs_sub {A : zCr} {w B R : Nat} (hw : zSb w R) (h : zSb B R) (hR : zCls A R) : ∀ s, s ≤ cN A → zSb (zFs A w s B) R
  | 0, _ => h
  | s + 1, hs => by
    have ih := zFs_sub hw h hR s (by omega)
    unfold zFs
    split
    · next hd =>
      unfold zWd at hd
      rw [Bool.and_eq_true] at hd
      exact ih.or (hR s (by omega) (zDare_mono hw hd.2))
    · exact ih
theorem zFs_has {A : zCr} {w : Nat} {i : Nat} (hd : zDare A i w = true) : ∀ s, i < s → (zFs A w s w).testBit i = true
  | 0, h => by omega
  | s + 1, h => by
    have hsup := zFs_sup A w w s
    unfold zFs
    by_cases e : i = s
    · subst e
      cases hb : w.testBit i with
      | true =>
        split
        · exact zor_self _ _
        · exact hsup i hb
      | false => rw [if_pos (by unfold zWd; rw [hb, hd]; rfl)]; exact zor_self _ _
    · have ih := zFs_has hd s (by omega)
      split
      · exact zSb_orl _ _ i ih
      · exact ih
/-- a number that is counted down -/
theorem zdn : ∀ k, k ≤ 300 → nI (k + 1) + (-1) = nI k := by decide +kernel
theorem zdn_0 : nI 0 + (-1) < (0 : Int32) := by decide
/-- a set that is not better is passed over -/
def zLo (Q : Nat → Bool) (T k f : Nat) : Prop := Q f = true ∧ f ≤ T ∧ ∀ b, k ≤ b → b ≤ T → Q b = true → zp8 f < zp8 b ∨ (zp8 f = zp8 b ∧ f ≤ b)
theorem zLo.best {Q : Nat → Bool} {T f : Nat} (h : zLo Q T 0 f) : zBest Q T f := ⟨h.1, h.2.1, fun b h1 h2 => h.2.2 b (Nat.zero_le _) h1 h2⟩
theorem zLo.yes {Q : Nat → Bool} {T a f : Nat} (h : zLo Q T (a + 1) f) (ha : Q a = true) (hT : a ≤ T) (hc : zp8 a ≤ zp8 f) : zLo Q T a a := ⟨ha, hT, fun b h1 h2 h3 => by
  by_cases e : b = a
  · subst e; exact Or.inr ⟨rfl, Nat.le_refl _⟩
  · have := h.2.2 b (by omega) h2 h3; omega⟩
theorem zLo.no {Q : Nat → Bool} {T a f : Nat} (h : zLo Q T (a + 1) f) (ha : Q a = true → zp8 f < zp8 a) : zLo Q T a f := ⟨h.1, h.2.1, fun b h1 h2 h3 => by
  by_cases e : b = a
  · subst e; exact Or.inl (ha h3)
  · exact h.2.2 b (by omega) h2 h3⟩
theorem zpc_top {n m : Nat} (hn : n ≤ 8) (h : m < 1 <<< n) : zp8 m = zpc n m := by
  have key : ∀ d, zpc (n + d) m = zpc n m := by
    intro d
    induction d with
    | zero => rfl
    | succ d ih =>
      show zpc (n + d) m + (m.testBit (n + d)).toNat = _
      rw [ih, Nat.testBit_lt_two_pow (Nat.lt_of_lt_of_le h (by rw [Nat.shiftLeft_eq, Nat.one_mul]; exact Nat.pow_le_pow_right (by decide) (by omega)))]
      rfl
  have h8 := key (8 - n)
  rw [show n + (8 - n) = 8 by omega] at h8
  exact h8
theorem zp8_zAll : ∀ n, n ≤ 7 → zp8 (zAll n) = n := by decide +kernel
theorem zSl_is {S : zAb} (hS : OkS S) : zSl S = cN S.1 - zp8 (mG S.2.1) ∧ zp8 (mG S.2.1) ≤ cN S.1 := by
  have h := zpc_split 8 (zAll (cN S.1)) (mG S.2.1) (by decide) (fun s _ hs => by rw [zAll_bit]; exact decide_eq_true (zsub_all hS.2.1.2.1 s hs))
  have h2 : zpc 8 (zAll (cN S.1)) = cN S.1 := zp8_zAll _ hS.1.1
  rw [h2] at h
  unfold zSl
  show zpc 8 _ = cN S.1 - zpc 8 _ ∧ zpc 8 _ ≤ _
  omega
/-- the one that a clique's members trust all but -/
theorem zNC_iff {A : zCr} (ok : OkA A) {k i : Nat} (hk : k < 128) (hi : i < 7) (hb : k.testBit i = true) : (k &&& (zTm A i ^^^ 4294967295) = 1 <<< i) ↔ zNC A k i = 0 := by
  have hti : (zTm A i).testBit i = false := by
    unfold zTm
    rw [zan_bit _ _ (by omega)]
    rw [show (1 <<< i).testBit i = true by have := zor_self 0 i; rwa [Nat.zero_or] at this]
    simp
  have h1i : ∀ q, (1 <<< i).testBit q = decide (q = i) := fun q => by have := zor_bit 0 i q; rwa [Nat.zero_or, Nat.zero_testBit, Bool.false_or] at this
  have hnc : ∀ q, q < 32 → (zNC A k i).testBit q = (k.testBit q && !decide (q = i) && !(zTm A i).testBit q) := fun q hq => by
    unfold zNC
    rw [zan_bit _ _ hq, zan_bit _ _ hq, h1i]
  have hk32 : ∀ q, 32 ≤ q → k.testBit q = false := fun q hq => Nat.testBit_lt_two_pow (Nat.lt_of_lt_of_le hk (show 2 ^ 7 ≤ 2 ^ q from Nat.pow_le_pow_right (by decide) (by omega)))
  constructor
  · intro h
    refine Nat.eq_of_testBit_eq fun q => ?_
    rw [Nat.zero_testBit]
    by_cases hq : q < 32
    · have e : (k &&& (zTm A i ^^^ 4294967295)).testBit q = (1 <<< i).testBit q := by rw [h]
      rw [zan_bit _ _ hq, h1i] at e
      rw [hnc q hq]
      cases h1 : k.testBit q <;> cases h2 : (zTm A i).testBit q <;> cases h3 : decide (q = i) <;> rw [h1, h2, h3] at e <;> first | rfl | cases e
    · unfold zNC
      rw [Nat.testBit_and, Nat.testBit_and, hk32 q (by omega)]
      rfl
  · intro h
    refine Nat.eq_of_testBit_eq fun q => ?_
    by_cases hq : q < 32
    · have e := hnc q hq
      rw [h, Nat.zero_testBit] at e
      rw [zan_bit _ _ hq, h1i]
      by_cases hqi : q = i
      · subst hqi; rw [hb, hti, decide_eq_true rfl]; rfl
      · rw [decide_eq_false hqi] at e ⊢
        cases h1 : k.testBit q <;> cases h2 : (zTm A i).testBit q <;> rw [h1, h2] at e <;> first | rfl | cases e
    · rw [Nat.testBit_and, hk32 q (by omega), h1i, decide_eq_false (by omega)]
      rfl
