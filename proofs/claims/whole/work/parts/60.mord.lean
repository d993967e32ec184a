/-! the reference: orders as rows -/
def zRc : List Nat → Nat
  | [] => 0
  | s :: l => s + 8 * zRc l
def RwC (c : Nat → Nat → Int32) (O : List (List Nat)) : Prop := c 56 15 = nI O.length ∧ ∀ i l, O[i]? = some l → c 64 i = nI (zRc l)
theorem RwC.push {c : Nat → Nat → Int32} {O : List (List Nat)} {l : List Nat} (h : RwC c O) : RwC (z_up (z_up c 64 O.length (nI (zRc l))) 56 15 (nI (O.length + 1))) (O ++ [l]) := by
  refine ⟨by rw [up_s, List.length_append]; rfl, fun i q hq => ?_⟩
  rw [up_k (by decide)]
  by_cases e : i < O.length
  · rw [List.getElem?_append_left e] at hq
    rw [up_j _ (by omega)]
    exact h.2 i q hq
  · rw [List.getElem?_append_right (by omega)] at hq
    have e2 : i - O.length = 0 := by
      have := (List.getElem?_eq_some_iff.mp hq).1
      rw [List.length_singleton] at this
      omega
    rw [e2] at hq
    cases hq
    rw [show i = O.length by omega, up_s]
def zBf (g : Nat → Nat) : Nat → Nat
  | 0 => 0
  | k + 1 => zBf g k ||| (1 <<< g k)
theorem zBf_eq {g g' : Nat → Nat} : ∀ k, (∀ q, q < k → g q = g' q) → zBf g k = zBf g' k
  | 0, _ => rfl
  | k + 1, h => by
    unfold zBf
    rw [zBf_eq k (fun q hq => h q (by omega)), h k (by omega)]
abbrev zGd (P : List Nat) (k : Nat) : Nat := P.getD k 0
def zBs (P : List Nat) : Nat := zBf (zGd P) P.length
theorem zGd_l {P : List Nat} {i k : Nat} (h : k < P.length) : zGd (P ++ [i]) k = zGd P k := by
  unfold zGd
  rw [List.getD_eq_getElem?_getD, List.getD_eq_getElem?_getD, List.getElem?_append_left h]
theorem zGd_r {P : List Nat} {i : Nat} : zGd (P ++ [i]) P.length = i := by
  unfold zGd
  rw [List.getD_eq_getElem?_getD, List.getElem?_append_right (Nat.le_refl _), Nat.sub_self]
  rfl
theorem zBs_snoc (P : List Nat) (i : Nat) : zBs (P ++ [i]) = zBs P ||| (1 <<< i) := by
  unfold zBs
  rw [List.length_append, List.length_singleton]
  show zBf _ P.length ||| (1 <<< zGd (P ++ [i]) P.length) = _
  rw [zGd_r, zBf_eq P.length (fun q hq => zGd_l hq)]
theorem zRc_drop : ∀ (L : List Nat) (k : Nat), k < L.length → zRc (L.drop k) = 8 * zRc (L.drop (k + 1)) + zGd L k
  | [], k, h => absurd h (Nat.not_lt_zero k)
  | s :: l, 0, _ => Nat.add_comm _ _
  | s :: l, k + 1, h => zRc_drop l k (by rw [List.length_cons] at h; omega)
def FrL (d : Nat) (c c' : Nat → Nat → Int32) : Prop := (∀ a, a ≠ 56 → a ≠ 64 → a ≠ 65 → a ≠ 66 → c' a = c a) ∧ (∀ b, b ≠ 15 → c' 56 b = c 56 b) ∧ ∀ k, k < d → c' 65 k = c 65 k ∧ c' 66 k = c 66 k
theorem FrL.rf (d : Nat) (c : Nat → Nat → Int32) : FrL d c c := ⟨fun _ _ _ _ _ => rfl, fun _ _ => rfl, fun _ _ => ⟨rfl, rfl⟩⟩
theorem FrL.tr {d : Nat} {a b c : Nat → Nat → Int32} (h : FrL d a b) (h2 : FrL d b c) : FrL d a c := ⟨fun x p q r s => (h2.1 x p q r s).trans (h.1 x p q r s), fun x p => (h2.2.1 x p).trans (h.2.1 x p), fun k hk => ⟨(h2.2.2 k hk).1.trans (h.2.2 k hk).1, (h2.2.2 k hk).2.trans (h.2.2 k hk).2⟩⟩
theorem FrL.le {d d' : Nat} {c c' : Nat → Nat → Int32} (h : FrL d c c') (hd : d' ≤ d) : FrL d' c c' := ⟨h.1, h.2.1, fun k hk => h.2.2 k (by omega)⟩
theorem FrL.u65 {d k : Nat} {c : Nat → Nat → Int32} {x : Int32} (hk : d ≤ k) : FrL d c (z_up c 65 k x) := ⟨fun a _ _ h _ => up_K h, fun b _ => up_k (by decide) b, fun q hq => ⟨up_j _ (by omega), up_k (by decide) q⟩⟩
theorem FrL.u66 {d k : Nat} {c : Nat → Nat → Int32} {x : Int32} (hk : d ≤ k) : FrL d c (z_up c 66 k x) := ⟨fun a _ _ _ h => up_K h, fun b _ => up_k (by decide) b, fun q hq => ⟨up_k (by decide) q, up_j _ (by omega)⟩⟩
theorem FrL.u64 {d k : Nat} {c : Nat → Nat → Int32} {x : Int32} : FrL d c (z_up c 64 k x) := ⟨fun a _ h _ _ => up_K h, fun b _ => up_k (by decide) b, fun q hq => ⟨up_k (by decide) q, up_k (by decide) q⟩⟩
theorem FrL.u15 {d : Nat} {c : Nat → Nat → Int32} {x : Int32} : FrL d c (z_up c 56 15 x) := ⟨fun a h _ _ _ => up_K h, fun b h => up_j _ h, fun q hq => ⟨up_k (by decide) q, up_k (by decide) q⟩⟩
theorem RepM.frl {d : Nat} {c c' : Nat → Nat → Int32} {t : Nat → Int64} {S : zAb} (h : RepM c t S) (hf : FrL d c c') : RepM c' t S := h.irr (fun a h1 h2 h3 => hf.1 a (by omega) (by omega) (by omega) (by omega)) (hf.2.1 2 (by decide)) (hf.2.1 7 (by decide)) rfl
theorem RwC.fr {c c' : Nat → Nat → Int32} {O : List (List Nat)} (h : RwC c O) (h1 : c' 56 15 = c 56 15) (h2 : c' 64 = c 64) : RwC c' O := ⟨h1.trans h.1, by rw [h2]; exact h.2⟩
def LvC (c : Nat → Nat → Int32) (P : List Nat) (h : Nat) : Prop := (∀ k, k < P.length → c 65 k = nI (zGd P k)) ∧ ((P.length = 0 ∧ h = 0) ∨ ∃ hh, h = hh + 1 ∧ 0 < P.length ∧ c 66 (P.length - 1) = nI hh)
theorem LvC.fr {c c' : Nat → Nat → Int32} {P : List Nat} {h : Nat} (hL : LvC c P h) (hf : FrL P.length c c') : LvC c' P h := ⟨fun k hk => ((hf.2.2 k hk).1).trans (hL.1 k hk), hL.2.imp id fun ⟨hh, e, hp, e2⟩ => ⟨hh, e, hp, ((hf.2.2 _ (by omega)).2).trans e2⟩⟩
theorem LvC.snoc {c : Nat → Nat → Int32} {P : List Nat} {h i g : Nat} (hL : LvC c P h) (h1 : c 65 P.length = nI i) (h2 : c 66 P.length = nI g) : LvC c (P ++ [i]) (g + 1) := by
  have hl : (P ++ [i]).length = P.length + 1 := by rw [List.length_append, List.length_singleton]
  refine ⟨fun k hk => ?_, Or.inr ⟨g, rfl, by omega, by rw [hl]; exact h2⟩⟩
  by_cases e : k < P.length
  · rw [zGd_l e]; exact hL.1 k e
  · rw [show k = P.length by omega, zGd_r]; exact h1
theorem zOs_no {A : zCr} {ik : Nat → Nat} {T H f d m h i : Nat} (hk : zOk A ik T H d m h i = false) : zOs A ik T H f d m h (i + 1) = zOs A ik T H f d m h i := by
  rw [zOs_s, hk]
  exact List.append_nil _
theorem zOs_top {A : zCr} {ik : Nat → Nat} {T H f d m h i : Nat} (hT : ∀ s, i ≤ s → T.testBit s = false) : ∀ k, zOs A ik T H f d m h (i + k) = zOs A ik T H f d m h i
  | 0 => rfl
  | k + 1 => by
    rw [← zOs_top hT k]
    have hk : zOk A ik T H d m h (i + k) = false := by
      unfold zOk
      rw [Nat.testBit_and, hT _ (Nat.le_add_right i k)]
      rfl
    exact zOs_no hk
theorem zup : ∀ i, i ≤ 300 → nI i + (-1) + nI 1 = nI i := by decide +kernel
theorem zfull {a T : Nat} (h : zSb a T) (hT : T < 128) (e : zp8 a = zp8 T) : a = T := by
  refine h.eq fun q hq => ?_
  cases hb : a.testBit q with
  | true => rfl
  | false =>
    have hq8 : q < 8 := by
      refine Nat.lt_of_not_le fun h7 => ?_
      rw [Nat.testBit_lt_two_pow (Nat.lt_of_lt_of_le hT (show 2 ^ 7 ≤ 2 ^ q from Nat.pow_le_pow_right (by decide) (by omega)))] at hq
      cases hq
    have := h.lt hb hq 8 hq8
    have e' : zpc 8 a = zpc 8 T := e
    omega
theorem zOx_T (A : zCr) (ik : Nat → Nat) (T H : Nat) : ∀ f d h, zOx A ik T H f d T h = [[]]
  | 0, _, _ => if_pos rfl
  | _ + 1, _, _ => if_pos rfl
theorem zpc_snoc {a i : Nat} (hi : i < 8) (hb : a.testBit i = false) : zp8 (a ||| (1 <<< i)) = zp8 a + 1 := by
  have := zpc_or 8 a i hb
  rw [if_pos hi] at this
  exact this
theorem zbit_one {b : Bool} (h : ¬ b.toNat ≠ 1) : b = true := by cases b with | true => rfl | false => exact absurd (by decide) h
