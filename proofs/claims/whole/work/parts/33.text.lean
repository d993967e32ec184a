/-! the text: tokens -/
def zSkp (f : Nat → Nat) (len : Nat) : Nat → Nat → Nat
  | 0, p => p
  | n + 1, p => if p < len ∧ f p = 32 then zSkp f len n (p + 1) else p
def zDge (f : Nat → Nat) (len : Nat) : Nat → Nat → Nat
  | 0, p => p
  | n + 1, p => if p < len ∧ 48 ≤ f p ∧ f p ≤ 57 then zDge f len n (p + 1) else p
def zCv (f : Nat → Nat) (q : Nat) : Nat → Nat
  | 0 => 0
  | k + 1 => min (zCv f q k * 10 + (f (q + k) - 48)) 128
def zSt (f : Nat → Nat) (len p : Nat) : Nat := zSkp f len (len - p) p
def zEd (f : Nat → Nat) (len q : Nat) : Nat := zDge f len (len - q) q
def zNv (f : Nat → Nat) (len q : Nat) : Nat := if zCv f q (zEd f len q - q) ≤ 127 ∧ ¬ (f q = 48 ∧ 1 < zEd f len q - q) then zCv f q (zEd f len q - q) else 1001
def zLet (x : Nat) : Bool := decide (x = 115 ∨ x = 100 ∨ x = 110 ∨ x = 59)
/-- a token: where it starts, where it ends, what it is: a number up to 127, 128 and a letter, 1000 the end, 1001 a wrong one -/
def zTok (f : Nat → Nat) (len p : Nat) : Nat × Nat × Nat :=
  if len ≤ zSt f len p then (zSt f len p, zSt f len p, 1000)
  else if 48 ≤ f (zSt f len p) ∧ f (zSt f len p) ≤ 57 then (zSt f len p, zEd f len (zSt f len p), zNv f len (zSt f len p))
  else (zSt f len p, zSt f len p + 1, if zLet (f (zSt f len p)) = true then 128 + f (zSt f len p) else 1001)
def zTkI (k : Nat) : Int32 := if k = 1000 then -1 else if k = 1001 then -2 else nI k
theorem zTkI_lt {k : Nat} (h : k < 1000) : zTkI k = nI k := by
  unfold zTkI
  rw [if_neg (by omega), if_neg (by omega)]
theorem zSkp_le (f : Nat → Nat) (len : Nat) : ∀ n p, p ≤ len → p ≤ zSkp f len n p ∧ zSkp f len n p ≤ len
  | 0, p, h => ⟨Nat.le_refl p, h⟩
  | n + 1, p, h => by
    unfold zSkp
    split
    · next hc =>
      have := zSkp_le f len n (p + 1) (by omega)
      omega
    · exact ⟨Nat.le_refl p, h⟩
theorem zDge_le (f : Nat → Nat) (len : Nat) : ∀ n p, p ≤ len → p ≤ zDge f len n p ∧ zDge f len n p ≤ len
  | 0, p, h => ⟨Nat.le_refl p, h⟩
  | n + 1, p, h => by
    unfold zDge
    split
    · next hc =>
      have := zDge_le f len n (p + 1) (by omega)
      omega
    · exact ⟨Nat.le_refl p, h⟩
theorem zSt_step {f : Nat → Nat} {len p : Nat} (h : p < len) (hf : f p = 32) : zSt f len (p + 1) = zSt f len p := by
  unfold zSt
  rw [show len - p = len - (p + 1) + 1 by omega]
  conv => rhs; unfold zSkp
  rw [if_pos ⟨h, hf⟩]
theorem zSt_stop {f : Nat → Nat} {len p : Nat} (h : ¬ (p < len ∧ f p = 32)) : zSt f len p = p := by
  unfold zSt
  cases hn : len - p with
  | zero => rfl
  | succ n => unfold zSkp; rw [if_neg h]
theorem zEd_step {f : Nat → Nat} {len p : Nat} (h : p < len) (hf : 48 ≤ f p ∧ f p ≤ 57) : zEd f len (p + 1) = zEd f len p := by
  unfold zEd
  rw [show len - p = len - (p + 1) + 1 by omega]
  conv => rhs; unfold zDge
  rw [if_pos ⟨h, hf⟩]
theorem zEd_stop {f : Nat → Nat} {len p : Nat} (h : ¬ (p < len ∧ 48 ≤ f p ∧ f p ≤ 57)) : zEd f len p = p := by
  unfold zEd
  cases hn : len - p with
  | zero => rfl
  | succ n => unfold zDge; rw [if_neg h]
theorem zCv_le (f : Nat → Nat) (q : Nat) : ∀ k, zCv f q k ≤ 128
  | 0 => by show 0 ≤ 128; decide
  | k + 1 => Nat.min_le_right _ _
theorem zNv_c (f : Nat → Nat) (len q : Nat) : zNv f len q ≤ 127 ∨ zNv f len q = 1001 := by
  unfold zNv
  split
  · next h => exact Or.inl h.1
  · exact Or.inr rfl
theorem zLet_c {x : Nat} (h : zLet x = true) : x = 115 ∨ x = 100 ∨ x = 110 ∨ x = 59 := of_decide_eq_true h
/-- where a token stands -/
theorem zTok_pos (f : Nat → Nat) {len p : Nat} (h : p ≤ len) : p ≤ (zTok f len p).1 ∧ (zTok f len p).1 ≤ (zTok f len p).2.1 ∧ (zTok f len p).2.1 ≤ len ∧ ((zTok f len p).2.2 ≠ 1000 → (zTok f len p).1 < (zTok f len p).2.1) := by
  have h1 := zSkp_le f len (len - p) p h
  unfold zTok
  have h1' : p ≤ zSt f len p ∧ zSt f len p ≤ len := h1
  split
  · exact ⟨h1'.1, Nat.le_refl _, h1'.2, fun h => absurd rfl h⟩
  · next hn =>
    split
    · next hd =>
      have h2 := zDge_le f len (len - (zSt f len p + 1)) (zSt f len p + 1) (by omega)
      have h3 : zEd f len (zSt f len p + 1) = zEd f len (zSt f len p) := zEd_step (by omega) hd
      have h4 : zEd f len (zSt f len p + 1) = zDge f len (len - (zSt f len p + 1)) (zSt f len p + 1) := rfl
      exact ⟨h1'.1, by show _ ≤ zEd _ _ _; omega, by show zEd _ _ _ ≤ _; omega, fun _ => by show _ < zEd _ _ _; omega⟩
    · exact ⟨h1'.1, by show _ ≤ zSt f len p + 1; omega, by show zSt f len p + 1 ≤ _; omega, fun _ => by show _ < zSt f len p + 1; omega⟩
theorem zTok_code (f : Nat → Nat) (len p : Nat) : (zTok f len p).2.2 ≤ 127 ∨ (zTok f len p).2.2 = 187 ∨ (zTok f len p).2.2 = 228 ∨ (zTok f len p).2.2 = 238 ∨ (zTok f len p).2.2 = 243 ∨ (zTok f len p).2.2 = 1000 ∨ (zTok f len p).2.2 = 1001 := by
  unfold zTok
  split
  · simp
  · split
    · rcases zNv_c f len (zSt f len p) with h | h
      · exact Or.inl h
      · simp [h]
    · simp only
      split
      · next hl => rcases zLet_c hl with h | h | h | h <;> simp [h]
      · simp
/-- the class's text: its place and its token's start told apart -/
def zPT (c : Nat → Nat → Int32) (p s : Int32) : Nat → Nat → Int32 := fun a b => if a = 1 then (if b = 2 then p else if b = 3 then s else c a b) else c a b
theorem zPT_p (c : Nat → Nat → Int32) (p s p' : Int32) : z_up (zPT c p s) 1 2 p' = zPT c p' s := by
  funext a b
  unfold z_up zPT
  by_cases h : a = 1
  · by_cases h2 : b = 2
    · simp [h, h2]
    · simp [h, h2]
  · simp [h]
theorem zPT_s (c : Nat → Nat → Int32) (p s s' : Int32) : z_up (zPT c p s) 1 3 s' = zPT c p s' := by
  funext a b
  unfold z_up zPT
  by_cases h : a = 1
  · by_cases h2 : b = 2
    · simp [h, h2]
    · by_cases h3 : b = 3
      · simp [h, h3]
      · simp [h, h2, h3]
  · simp [h]
theorem zPT_2 (c : Nat → Nat → Int32) (p s : Int32) : zPT c p s 1 2 = p := by unfold zPT; simp
theorem zPT_3 (c : Nat → Nat → Int32) (p s : Int32) : zPT c p s 1 3 = s := by unfold zPT; simp
theorem zPT_o {c : Nat → Nat → Int32} {p s : Int32} {a : Nat} (h : a ≠ 1) : zPT c p s a = c a := by funext b; unfold zPT; rw [if_neg h]
theorem zPT_1 {c : Nat → Nat → Int32} {p s : Int32} {b : Nat} (h : b ≠ 2) (h3 : b ≠ 3) : zPT c p s 1 b = c 1 b := by unfold zPT; simp [h, h3]
theorem zPT_self (c : Nat → Nat → Int32) : zPT c (c 1 2) (c 1 3) = c := by
  funext a b
  unfold zPT
  by_cases h : a = 1
  · by_cases h2 : b = 2
    · simp [h, h2]
    · by_cases h3 : b = 3
      · simp [h, h3]
      · simp [h, h2, h3]
  · simp [h]
def TxC (c : Nat → Nat → Int32) (len : Nat) (f : Nat → Nat) : Prop := c 1 1 = nI len ∧ len ≤ 200 ∧ (∀ i, i < len → c 2 i = nI (f i)) ∧ ∀ i, i < len → f i ≤ 255
theorem TxC.pt {c : Nat → Nat → Int32} {len : Nat} {f : Nat → Nat} (h : TxC c len f) (p s : Int32) : TxC (zPT c p s) len f := ⟨(zPT_1 (by decide) (by decide)).trans h.1, h.2.1, fun i hi => (congrFun (zPT_o (by decide)) i).trans (h.2.2.1 i hi), h.2.2.2⟩
