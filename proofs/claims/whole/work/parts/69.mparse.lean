/-! the reference: its draft -/
def DrM (r : Nat → Int32) (D : zDr) (it : Nat) : Prop := r 0 = nI (cN D.1) ∧ r 1 = nI (cD D.1) ∧ r 2 = nI (cS D.1) ∧ r 3 = nI it ∧ r 4 = nI (D.2.1.toNat + 2 * D.2.2.toNat) ∧ (∀ i, i < cN D.1 → r (5 + i) = nI (cW D.1 i)) ∧ (∀ i, i < cN D.1 → r (12 + i) = nI (cC D.1 i)) ∧ ∀ i, i < cN D.1 → r (19 + i) = nI (cT D.1 i)
def zNu (k lo hi : Nat) : Bool := decide (lo ≤ k ∧ k ≤ hi)
def FrN (pl : Nat) (c c' : Nat → Nat → Int32) : Prop := (∀ a, a ≠ 56 → a ≠ 59 → c' a = c a) ∧ (∀ b, b ≠ 10 → b ≠ 11 → b ≠ 12 → b ≠ 13 → c' 56 b = c 56 b) ∧ ∀ b, b ≠ pl → c' 59 b = c 59 b
def FrR (c c' : Nat → Nat → Int32) : Prop := (∀ a, a ≠ 56 → a ≠ 59 → c' a = c a) ∧ ∀ b, b ≠ 10 → b ≠ 11 → b ≠ 12 → b ≠ 13 → c' 56 b = c 56 b
theorem FrR.rf (c : Nat → Nat → Int32) : FrR c c := ⟨fun _ _ _ => rfl, fun _ _ _ _ _ => rfl⟩
theorem FrR.tr {a b c : Nat → Nat → Int32} (h : FrR a b) (h2 : FrR b c) : FrR a c := ⟨fun x p q => (h2.1 x p q).trans (h.1 x p q), fun x p q r s => (h2.2 x p q r s).trans (h.2 x p q r s)⟩
theorem FrT.r {c c' : Nat → Nat → Int32} (h : FrT c c') : FrR c c' := ⟨fun a h1 _ => h.1 a h1, h.2⟩
theorem FrN.r {pl : Nat} {c c' : Nat → Nat → Int32} (h : FrN pl c c') : FrR c c' := ⟨h.1, h.2.1⟩
theorem FrR.u59 {c : Nat → Nat → Int32} {j : Nat} {v : Int32} : FrR c (z_up c 59 j v) := ⟨fun a _ h => up_K h, fun b _ _ _ _ => up_k (by decide) b⟩
theorem TmC.frr {c c' : Nat → Nat → Int32} {len : Nat} {f : Nat → Nat} (h : TmC c len f) (hf : FrR c c') : TmC c' len f := ⟨(hf.2 2 (by decide) (by decide) (by decide) (by decide)).trans h.1, h.2.1, fun i hi => (congrFun (hf.1 57 (by decide) (by decide)) i).trans (h.2.2.1 i hi), h.2.2.2⟩
theorem zlt_iff {a b : Nat} (ha : a < 2 ^ 31) (hb : b < 2 ^ 31) : nI a < nI b ↔ a < b := by
  rw [Int32.lt_iff_toInt_lt, nI_toInt ha, nI_toInt hb]
  omega
theorem zIn_nn {m lo hi : Nat} (hm : m ≤ 2000) (hl : lo ≤ 200) (hh : hi ≤ 200) : zIn (nI m) (nI lo) (nI hi) = decide (lo ≤ m ∧ m ≤ hi) := by
  unfold zIn
  have h1 := zlt_iff (a := m) (b := lo) (by omega) (by omega)
  have h2 := zlt_iff (a := hi) (b := m) (by omega) (by omega)
  by_cases h : lo ≤ m ∧ m ≤ hi
  · rw [decide_eq_true h]
    exact decide_eq_true ⟨fun e => by have := h1.mp e; omega, fun e => by have := h2.mp e; omega⟩
  · rw [decide_eq_false h]
    exact decide_eq_false fun e => h ⟨Nat.le_of_not_lt fun q => e.1 (h1.mpr q), Nat.le_of_not_lt fun q => e.2 (h2.mpr q)⟩
theorem zTC_2 {k : Nat} {s v : Int32} (h : zTC k s v) (hs : s = nI 2) : (k ≤ 127 ∧ v = nI k) ∨ (127 < k ∧ ∃ m, 127 < m ∧ m ≤ 2000 ∧ v = nI m) := by
  rcases h with ⟨_, e⟩ | ⟨h1, _, h2⟩ | ⟨h1, _, m, h2, h3, h4⟩ | ⟨_, e⟩ | ⟨_, e⟩ | ⟨x, _, _, e, _⟩
  · rw [hs] at e; exact absurd e (by decide)
  · exact Or.inl ⟨h1, h2⟩
  · exact Or.inr ⟨by omega, m, h2, h3, h4⟩
  · rw [hs] at e; exact absurd e (by decide)
  · rw [hs] at e; exact absurd e (by decide)
  · rw [hs] at e; exact absurd e (by decide)
theorem zTC_n2 {k : Nat} {s v : Int32} (h : zTC k s v) (hs : ¬ s = nI 2) : 127 < k := by
  rcases h with ⟨e, _⟩ | ⟨_, e, _⟩ | ⟨_, e, _⟩ | ⟨e, _⟩ | ⟨e, _⟩ | ⟨x, _, e, _⟩
  · omega
  · exact absurd e hs
  · exact absurd e hs
  · omega
  · omega
  · omega
theorem zTC_0 {k : Nat} {s v : Int32} (h : zTC k s v) : s = 0 ↔ k = 1000 := by
  constructor
  · intro hs
    rcases h with ⟨e, _⟩ | ⟨_, e, _⟩ | ⟨_, e, _⟩ | ⟨_, e⟩ | ⟨_, e⟩ | ⟨x, _, _, e, _⟩
    · exact e
    · rw [hs] at e; exact absurd e (by decide)
    · rw [hs] at e; exact absurd e (by decide)
    · rw [hs] at e; exact absurd e (by decide)
    · rw [hs] at e; exact absurd e (by decide)
    · rw [hs] at e; exact absurd e (by decide)
  · intro hk
    rcases h with ⟨_, e⟩ | ⟨e, _⟩ | ⟨e, _⟩ | ⟨e, _⟩ | ⟨e, _⟩ | ⟨x, hx, e, _⟩
    · exact e
    · omega
    · omega
    · omega
    · omega
    · omega
theorem zTC_3 {k : Nat} {s v : Int32} (h : zTC k s v) : s = nI 3 ↔ k = 187 := by
  constructor
  · intro hs
    rcases h with ⟨_, e⟩ | ⟨_, e, _⟩ | ⟨_, e, _⟩ | ⟨_, e⟩ | ⟨e, _⟩ | ⟨x, _, _, e, _⟩
    · rw [hs] at e; exact absurd e (by decide)
    · rw [hs] at e; exact absurd e (by decide)
    · rw [hs] at e; exact absurd e (by decide)
    · rw [hs] at e; exact absurd e (by decide)
    · exact e
    · rw [hs] at e; exact absurd e (by decide)
  · intro hk
    rcases h with ⟨e, _⟩ | ⟨e, _⟩ | ⟨e, _⟩ | ⟨e, _⟩ | ⟨_, e⟩ | ⟨x, hx, e, _⟩
    · omega
    · omega
    · omega
    · omega
    · exact e
    · omega
theorem zTC_1 {k : Nat} {s v : Int32} (h : zTC k s v) : (∃ x, (x = 115 ∨ x = 100 ∨ x = 110) ∧ k = 128 + x ∧ s = nI 1 ∧ v = nI x) ∨ (¬ s = nI 1 ∧ k ≠ 243 ∧ k ≠ 228 ∧ k ≠ 238) := by
  rcases h with ⟨h1, e⟩ | ⟨h1, e, _⟩ | ⟨h1, e, _⟩ | ⟨h1, e⟩ | ⟨h1, e⟩ | h
  · exact Or.inr ⟨by rw [e]; decide, by omega, by omega, by omega⟩
  · exact Or.inr ⟨by rw [e]; decide, by omega, by omega, by omega⟩
  · exact Or.inr ⟨by rw [e]; decide, by omega, by omega, by omega⟩
  · exact Or.inr ⟨by rw [e]; decide, by omega, by omega, by omega⟩
  · exact Or.inr ⟨by rw [e]; decide, by omega, by omega, by omega⟩
  · exact Or.inl h
def zIq (f : Nat → Nat) (len k0 s0 p : Nat) (D : zDr) : Nat ⊕ (Nat × zDr) :=
  if k0 = 243 then
    if 7 ≤ cN D.1 then .inl s0
    else if (zTok f len p).2.2 ≤ 2 then
      if (zTok f len (zTok f len p).2.1).2.2 ≤ 7 then
        if (zTok f len (zTok f len (zTok f len p).2.1).2.1).2.2 ≤ 127 then .inr ((zTok f len (zTok f len (zTok f len p).2.1).2.1).2.1, (zEnl D.1 (zTok f len p).2.2 (zTok f len (zTok f len p).2.1).2.2 (zTok f len (zTok f len (zTok f len p).2.1).2.1).2.2, D.2))
        else .inl (zTok f len (zTok f len (zTok f len p).2.1).2.1).1
      else .inl (zTok f len (zTok f len p).2.1).1
    else .inl (zTok f len p).1
  else if k0 = 228 then
    if D.2.1 = true then .inl s0
    else if 1 ≤ (zTok f len p).2.2 ∧ (zTok f len p).2.2 ≤ 4 then .inr ((zTok f len p).2.1, ((cN D.1, cW D.1, cC D.1, cT D.1, (zTok f len p).2.2, cS D.1), true, D.2.2))
    else .inl (zTok f len p).1
  else if k0 = 238 then
    if D.2.2 = true then .inl s0
    else if 1 ≤ (zTok f len p).2.2 ∧ (zTok f len p).2.2 ≤ 8 then .inr ((zTok f len p).2.1, ((cN D.1, cW D.1, cC D.1, cT D.1, cD D.1, (zTok f len p).2.2), D.2.1, true))
    else .inl (zTok f len p).1
  else .inl s0
theorem zIt_q (f : Nat → Nat) (len p : Nat) (D : zDr) : (∀ e, zIq f len (zTok f len p).2.2 (zTok f len p).1 (zTok f len p).2.1 D = .inl e → (zIt f len p D).1 = false ∧ (zIt f len p D).2.1 = e) ∧ ∀ r, zIq f len (zTok f len p).2.2 (zTok f len p).1 (zTok f len p).2.1 D = .inr r → zIt f len p D = zSemi f len r.1 r.2 := by
  unfold zIt zSail zDip zSea zIq
  repeat' split
  all_goals (constructor <;> intro x hx <;> first | (cases hx; exact ⟨rfl, rfl⟩) | (cases hx; rfl) | cases hx)
