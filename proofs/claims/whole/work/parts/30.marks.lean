/-! marks: who was asked when a rank was seen, and who was first there -/
def zTag (a f : Nat) : Nat := (a <<< 3) ||| f
theorem zTag_all : ∀ a, a < 128 → ∀ f, f < 8 → zTag a f >>> 3 = a ∧ zTag a f &&& 7 = f ∧ zTag a f < 2 ^ 31 := by decide +kernel
theorem zTag_m9 : ∀ a, a < 128 → (-9 : Int32) >>> (nI 3 &&& 31) ≠ nI a ∧ ∀ f, f < 8 → nI (zTag a f) ≠ (-9 : Int32) := by decide +kernel
theorem zTag_inj {a f a' f' : Nat} (ha : a < 128) (hf : f < 8) (ha' : a' < 128) (hf' : f' < 8) (h : nI (zTag a f) = nI (zTag a' f')) : a = a' ∧ f = f' := by
  obtain ⟨h1, h2, h3⟩ := zTag_all a ha f hf
  obtain ⟨g1, g2, g3⟩ := zTag_all a' ha' f' hf'
  have e := (nI_eq h3 g3).mp h
  rw [e] at h1 h2
  exact ⟨h1.symm.trans g1, h2.symm.trans g2⟩
def zMk (V : Nat → Prop) (c : Nat → Nat → Int32) : Prop := ∀ r, r < 5040 → c 54 r = -9 ∨ ∃ a f, a < 128 ∧ f < 8 ∧ V a ∧ c 54 r = nI (zTag a f)
/-- what a pass has marked so far -/
def zPs (O : List (List Nat)) (T a i : Nat) (c : Nat → Nat → Int32) : Prop :=
  (∀ j, j < i → a.testBit (zHd (zAt O j)) = false → c 54 (zRk T (zAt O j) a 7).1 = nI (zTag a (zHd (zAt O j)))) ∧
  ∀ r f, r < 5040 → f < 8 → c 54 r = nI (zTag a f) → ∃ j, j < i ∧ a.testBit (zHd (zAt O j)) = false ∧ (zRk T (zAt O j) a 7).1 = r ∧ zHd (zAt O j) = f
theorem zHd_pl {l l' : List Nat} {s : Nat} (hs : s ∈ l) (hs' : s ∈ l') (h0 : zHd l = s) (h : zPl l s = zPl l' s) : zHd l' = s := by
  cases l with
  | nil => exact (List.not_mem_nil hs).elim
  | cons x l =>
    have hx : x = s := h0
    subst hx
    cases l' with
    | nil => exact (List.not_mem_nil hs').elim
    | cons y l' =>
      unfold zPl at h
      rw [if_pos hs, if_pos hs', zIx, if_pos rfl] at h
      unfold zIx at h
      by_cases e : x = y
      · exact e.symm
      · rw [if_neg e] at h; omega
theorem zPs_end {c c' : Nat → Nat → Int32} {O : List (List Nat)} {T a : Nat} (hQ : zQ c O T) (ha : a < 128) (hs : ∀ q, a.testBit q = true → T.testBit q = true) (h : zPs O T a O.length c') : zKn O a = true := by
  refine zKn_iff.mpr fun i hi j hj hp => ?_
  have mem : ∀ q k, k < O.length → a.testBit q = true → q ∈ zAt O k := fun q k hk hq => ((hQ.val hk).2.1 q).mpr (hs q hq)
  have lt7 : ∀ q, a.testBit q = true → q < 7 := fun q hq => (hQ.val hi).1.1 q (mem q i hi hq)
  cases b1 : a.testBit (zHd (zAt O i)) with
  | true => exact (zHd_pl (mem _ i hi b1) (mem _ j hj b1) rfl (hp _ (lt7 _ b1) b1)).symm
  | false =>
    cases b2 : a.testBit (zHd (zAt O j)) with
    | true => exact zHd_pl (mem _ j hj b2) (mem _ i hi b2) rfl (hp _ (lt7 _ b2) b2).symm
    | false =>
      have e1 := h.1 i hi b1
      have e2 := h.1 j hj b2
      rw [zRk_congr (fun q hq => hp q (lt7 q hq) hq) 7] at e1
      exact (zTag_inj ha (by have := hQ.hd hi; omega) ha (by have := hQ.hd hj; omega) (e1.symm.trans e2)).2
theorem zPs_no {c : Nat → Nat → Int32} {O : List (List Nat)} {T a i j : Nat} (hQ : zQ c O T) (hs : ∀ q, a.testBit q = true → T.testBit q = true) (hi : i < O.length) (hj : j < O.length) (hr : (zRk T (zAt O i) a 7).1 = (zRk T (zAt O j) a 7).1) (hne : zHd (zAt O i) ≠ zHd (zAt O j)) : zKn O a = false := by
  cases hk : zKn O a with
  | false => rfl
  | true =>
    have vi := hQ.val hi
    have vj := hQ.val hj
    exact absurd (zKn_iff.mp hk i hi j hj (fun s h7 hb => (zRk_inj vi.1 vi.2.1 vi.2.2 vj.1 vj.2.1 vj.2.2 hs 7 hr).1 s h7 hb)) hne
theorem zPs_skip {O : List (List Nat)} {T a i : Nat} {c : Nat → Nat → Int32} (h : zPs O T a i c) (hb : a.testBit (zHd (zAt O i)) = true) : zPs O T a (i + 1) c := by
  refine ⟨fun j hj hf => ?_, fun r f hr hf he => ?_⟩
  · by_cases e : j = i
    · subst e; rw [hb] at hf; cases hf
    · exact h.1 j (by omega) hf
  · obtain ⟨j, h1, h2⟩ := h.2 r f hr hf he
    exact ⟨j, by omega, h2⟩
theorem zPs_put {c : Nat → Nat → Int32} {O : List (List Nat)} {T a i : Nat} {c0 : Nat → Nat → Int32} (hQ : zQ c0 O T) (ha : a < 128) (hi : i < O.length) (hb : a.testBit (zHd (zAt O i)) = false) (h : zPs O T a i c) (hsame : ∀ f, f < 8 → c 54 (zRk T (zAt O i) a 7).1 = nI (zTag a f) → f = zHd (zAt O i)) : zPs O T a (i + 1) (z_up c 54 (zRk T (zAt O i) a 7).1 (nI (zTag a (zHd (zAt O i))))) := by
  have hd : ∀ j, j < O.length → zHd (zAt O j) < 8 := fun j hj => by have := hQ.hd hj; omega
  refine ⟨fun j hj hf => ?_, fun r f hr hf he => ?_⟩
  · by_cases e : (zRk T (zAt O j) a 7).1 = (zRk T (zAt O i) a 7).1
    · rw [e, up_s]
      by_cases e2 : j = i
      · rw [e2]
      · have h1 := h.1 j (by omega) hf
        rw [e] at h1
        rw [hsame _ (hd j (by omega)) h1]
    · rw [up_j _ e]
      exact h.1 j (by by_cases e2 : j = i; (subst e2; exact absurd rfl e); omega) hf
  · by_cases e : r = (zRk T (zAt O i) a 7).1
    · subst e
      rw [up_s] at he
      exact ⟨i, by omega, hb, rfl, (zTag_inj ha (hd i hi) ha hf he).2⟩
    · rw [up_j _ e] at he
      obtain ⟨j, h1, h2⟩ := h.2 r f hr hf he
      exact ⟨j, by omega, h2⟩
theorem zMk_put {V : Nat → Prop} {c : Nat → Nat → Int32} {r a f : Nat} (h : zMk V c) (ha : a < 128) (hf : f < 8) (hV : V a) : zMk V (z_up c 54 r (nI (zTag a f))) := by
  intro q hq
  by_cases e : q = r
  · subst e
    exact Or.inr ⟨a, f, ha, hf, hV, up_s _ _ _ _⟩
  · rw [up_j _ e]
    exact h q hq
theorem zMk_mono {V V' : Nat → Prop} {c : Nat → Nat → Int32} (h : zMk V c) (hV : ∀ x, V x → V' x) : zMk V' c := fun r hr => by
  rcases h r hr with h | ⟨a, f, h1, h2, h3, h4⟩
  · exact Or.inl h
  · exact Or.inr ⟨a, f, h1, h2, hV a h3, h4⟩
theorem zPs_0 {V : Nat → Prop} {O : List (List Nat)} {T a : Nat} {c : Nat → Nat → Int32} (h : zMk V c) (ha : a < 128) (hV : ¬ V a) : zPs O T a 0 c := by
  refine ⟨fun j hj => absurd hj (by omega), fun r f hr hf he => ?_⟩
  rcases h r hr with h | ⟨a', f', h1, h2, h3, h4⟩
  · exact absurd (he.symm.trans h) ((zTag_m9 a ha).2 f hf)
  · have := (zTag_inj ha hf h1 h2 (he.symm.trans h4)).1
    subst this
    exact absurd h3 hV
