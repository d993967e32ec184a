/-! the whole as one mathematical value; what each call answers, and what it leaves -/
abbrev zIm : Type := Option zMm × Option zMm
abbrev zTx : Type := Nat × (Nat → Nat)
abbrev zAb : Type := zCr × zMm × List zMm × zIm × zTx × Int64
def OkI (n seats : Nat) (I : zIm) : Prop := (∀ M, I.1 = some M → OkM n seats M) ∧ ∀ M, I.2 = some M → OkM n seats M
def OkS : zAb → Prop := fun S => OkA S.1 ∧ OkM (cN S.1) (cS S.1) S.2.1 ∧ (∀ M ∈ S.2.2.1, OkM (cN S.1) (cS S.1) M) ∧ S.2.2.1.length ≤ 10 ∧ OkI (cN S.1) (cS S.1) S.2.2.2.1 ∧ S.2.2.2.2.1.1 ≤ 200 ∧ ∀ i, i < S.2.2.2.2.1.1 → S.2.2.2.2.1.2 i ≤ 255
def zKm (I : zIm) : Nat := (if I.1.isSome = true then 1 else 0) ||| (if I.2.isSome = true then 2 else 0)
def PaC (c : Nat → Nat → Int32) (P : List zMm) : Prop := ∃ nx, nx < 10 ∧ c 14 1 = nI nx ∧ c 14 2 = nI P.length ∧ ∀ i M, P[i]? = some M → MoC (16 + 3 * ((nx + 9 - i) % 10)) c M
def ImC (c : Nat → Nat → Int32) (I : zIm) : Prop := c 0 7 = nI (zKm I) ∧ (∀ M, I.1 = some M → MoC 46 c M) ∧ ∀ M, I.2 = some M → MoC 49 c M
def RepC (c : Nat → Nat → Int32) (t : Nat → Int64) (S : zAb) : Prop := CrC 3 c S.1 ∧ MoC 11 c S.2.1 ∧ PaC c S.2.2.1 ∧ ImC c S.2.2.2.1 ∧ (c 1 1 = nI S.2.2.2.2.1.1 ∧ ∀ i, i < S.2.2.2.2.1.1 → c 2 i = nI (S.2.2.2.2.1.2 i)) ∧ t 0 = S.2.2.2.2.2
theorem PaC.eq {c c' : Nat → Nat → Int32} {P : List zMm} (h : PaC c P) (he : ∀ a, 14 ≤ a → a ≤ 45 → c' a = c a) : PaC c' P := by
  obtain ⟨nx, h1, h2, h3, h4⟩ := h
  refine ⟨nx, h1, by rw [he 14 (by decide) (by decide)]; exact h2, by rw [he 14 (by decide) (by decide)]; exact h3, fun i M hi => (h4 i M hi).eq (he _ (by omega) (by omega)) (he _ (by omega) (by omega)) (he _ (by omega) (by omega))⟩
theorem ImC.eq {c c' : Nat → Nat → Int32} {I : zIm} (h : ImC c I) (h0 : c' 0 = c 0) (he : ∀ a, 46 ≤ a → a ≤ 51 → c' a = c a) : ImC c' I := ⟨by rw [h0]; exact h.1, fun M hM => (h.2.1 M hM).eq (he _ (by decide) (by decide)) (he _ (by decide) (by decide)) (he _ (by decide) (by decide)), fun M hM => (h.2.2 M hM).eq (he _ (by decide) (by decide)) (he _ (by decide) (by decide)) (he _ (by decide) (by decide))⟩
/-- places that the value does not speak of may change -/
theorem RepC.irr {c c' : Nat → Nat → Int32} {t t' : Nat → Int64} {S : zAb} (h : RepC c t S) (he : ∀ a, a < 56 → ¬ (7 ≤ a ∧ a ≤ 10) → a < 52 → c' a = c a) (ht : t' 0 = t 0) : RepC c' t' S := by
  obtain ⟨h1, h2, h3, h4, h5, h6⟩ := h
  refine ⟨h1.eq (he _ (by decide) (by decide) (by decide)) (he _ (by decide) (by decide) (by decide)) (he _ (by decide) (by decide) (by decide)) (he _ (by decide) (by decide) (by decide)), h2.eq (he _ (by decide) (by decide) (by decide)) (he _ (by decide) (by decide) (by decide)) (he _ (by decide) (by decide) (by decide)), h3.eq fun a p q => he a (by omega) (by omega) (by omega), h4.eq (he _ (by decide) (by decide) (by decide)) fun a p q => he a (by omega) (by omega) (by omega), ?_, ht.trans h6⟩
  rw [he 1 (by decide) (by decide) (by decide), he 2 (by decide) (by decide) (by decide)]
  exact h5
theorem RepC.mom {c c' : Nat → Nat → Int32} {t : Nat → Int64} {S : zAb} {Y : zMm} (h : RepC c t S) (he : ∀ a, a < 56 → ¬ (11 ≤ a ∧ a ≤ 13) → c' a = c a) (hY : MoC 11 c' Y) : RepC c' t (S.1, Y, S.2.2) := by
  obtain ⟨h1, h2, h3, h4, h5, h6⟩ := h
  refine ⟨h1.eq (he _ (by decide) (by decide)) (he _ (by decide) (by decide)) (he _ (by decide) (by decide)) (he _ (by decide) (by decide)), hY, h3.eq fun a p q => he a (by omega) (by omega), h4.eq (he _ (by decide) (by decide)) fun a p q => he a (by omega) (by omega), ?_, h6⟩
  rw [he 1 (by decide) (by decide), he 2 (by decide) (by decide)]
  exact h5
theorem RepC.past {c c' : Nat → Nat → Int32} {t : Nat → Int64} {S : zAb} {P : List zMm} (h : RepC c t S) (he : ∀ a, a < 56 → ¬ (14 ≤ a ∧ a ≤ 45) → c' a = c a) (hP : PaC c' P) : RepC c' t (S.1, S.2.1, P, S.2.2.2) := by
  obtain ⟨h1, h2, h3, h4, h5, h6⟩ := h
  refine ⟨h1.eq (he _ (by decide) (by decide)) (he _ (by decide) (by decide)) (he _ (by decide) (by decide)) (he _ (by decide) (by decide)), h2.eq (he _ (by decide) (by decide)) (he _ (by decide) (by decide)) (he _ (by decide) (by decide)), hP, h4.eq (he _ (by decide) (by decide)) fun a p q => he a (by omega) (by omega), ?_, h6⟩
  rw [he 1 (by decide) (by decide), he 2 (by decide) (by decide)]
  exact h5
/-- the past, once a moment is remembered -/
def zRem (Y : zMm) (P : List zMm) : List zMm := (Y :: P).take 10
theorem PaC.rem {c : Nat → Nat → Int32} {P : List zMm} {Y : zMm} {nx : Nat} (hn : nx < 10) (hl : P.length ≤ 10) (h2 : c 14 2 = nI P.length) (h4 : ∀ i M, P[i]? = some M → MoC (16 + 3 * ((nx + 9 - i) % 10)) c M) (hY : MoC 11 c Y) : PaC (z_up (z_up (zBec c (16 + 3 * nx) 11) 14 1 (nI ((nx + 1) % 10))) 14 2 (nI (min (P.length + 1) 10))) (zRem Y P) := by
  refine ⟨(nx + 1) % 10, by omega, by rw [up_j _ (by decide), up_s], ?_, fun i M hi => ?_⟩
  · rw [up_s]
    congr 1
    unfold zRem
    rw [List.length_take, List.length_cons]
    omega
  · have hi10 : i < 10 := by
      have := (List.getElem?_eq_some_iff.mp hi).1
      unfold zRem at this
      rw [List.length_take] at this
      omega
    unfold zRem at hi
    rw [List.getElem?_take, if_pos hi10] at hi
    cases i with
    | zero =>
      rw [List.getElem?_cons_zero] at hi
      cases hi
      have e : (nx + 1) % 10 + 9 - 0 = nx + 10 ∨ (nx + 1) % 10 + 9 - 0 = nx := by omega
      rw [show ((nx + 1) % 10 + 9 - 0) % 10 = nx by omega]
      exact (zBec_mo hY).eq (by rw [up_K (by omega), up_K (by omega)]) (by rw [up_K (by omega), up_K (by omega)]) (by rw [up_K (by omega), up_K (by omega)])
    | succ i =>
      rw [List.getElem?_cons_succ] at hi
      have h := h4 i M hi
      rw [show ((nx + 1) % 10 + 9 - (i + 1)) % 10 = (nx + 9 - i) % 10 by omega]
      refine h.eq ?_ ?_ ?_ <;> rw [up_K (by omega), up_K (by omega), zBec_o (by omega)]
theorem RepC.rem {c : Nat → Nat → Int32} {t : Nat → Int64} {S : zAb} (h : RepC c t S) (hl : S.2.2.1.length ≤ 10) : ∃ nx, nx < 10 ∧ c 14 1 = nI nx ∧ c 14 2 = nI S.2.2.1.length ∧ RepC (z_up (z_up (zBec c (16 + 3 * nx) 11) 14 1 (nI ((nx + 1) % 10))) 14 2 (nI (min (S.2.2.1.length + 1) 10))) t (S.1, S.2.1, zRem S.2.1 S.2.2.1, S.2.2.2) := by
  obtain ⟨nx, h1, h2, h3, h4⟩ := h.2.2.1
  exact ⟨nx, h1, h2, h3, h.past (fun a p q => by rw [up_K (by omega), up_K (by omega), zBec_o (by omega)]) (PaC.rem h1 hl h3 h4 h.2.1)⟩
/-- a number from outside as a place below n -/
def zIdx (x : Int32) : Nat → Option Nat
  | 0 => none
  | n + 1 => if x = nI n then some n else zIdx x n
theorem zIdx_iff {x : Int32} {n j : Nat} : zIdx x n = some j → j < n ∧ x = nI j := by
  induction n with
  | zero => intro h; cases h
  | succ n ih =>
    intro h
    unfold zIdx at h
    split at h
    · next e => cases h; exact ⟨by omega, e⟩
    · have := ih h; exact ⟨by omega, this.2⟩
theorem zIdx_n {n j : Nat} (hn : n < 2 ^ 31) (h : j < n) : zIdx (nI j) n = some j := by
  induction n with
  | zero => omega
  | succ n ih =>
    unfold zIdx
    by_cases e : j = n
    · rw [if_pos (by rw [e]), e]
    · rw [if_neg (fun q => e ((nI_eq (by omega) (by omega)).mp q)), ih (by omega) (by omega)]
theorem zIdx_none {x : Int32} {n : Nat} (h : ∀ j, j < n → x ≠ nI j) : zIdx x n = none := by
  cases hz : zIdx x n with
  | none => rfl
  | some j => obtain ⟨h1, h2⟩ := zIdx_iff hz; exact absurd h2 (h j h1)
theorem zIdx_lt {x : Int32} {n : Nat} (hn : n < 2 ^ 31) (h : x < 0 ∨ nI n ≤ x) : zIdx x n = none := by
  refine zIdx_none fun j hj e => ?_
  subst e
  rcases h with h | h
  · exact nI_pos (by omega) h
  · have := (nI_leI (by omega) (by omega)).mp h; omega
theorem zIdx_ge {x : Int32} {n : Nat} (hn : n < 2 ^ 31) (h1 : ¬ x < 0) (h2 : ¬ nI n ≤ x) : ∃ j, j < n ∧ x = nI j ∧ zIdx x n = some j := by
  rcases pk_ix x hn with h | h | ⟨j, hj, e⟩
  · exact absurd h h1
  · exact absurd h h2
  · exact ⟨j, hj, e, by rw [e]; exact zIdx_n hn hj⟩
def zWn (A : zCr) (Y : zMm) (i : Nat) : Bool := !(mG Y).testBit i && (!decide (mH Y % 3 = cW A i) && zDare A i (mG Y))
def zWb (A : zCr) (Y : zMm) : Nat → Nat
  | 0 => 0
  | i + 1 => if zWn A Y i = true then zWb A Y i ||| (1 <<< i) else zWb A Y i
theorem zWb_lt (A : zCr) (Y : zMm) : ∀ i, i ≤ 7 → zWb A Y i < 128
  | 0, _ => by show 0 < 128; decide
  | i + 1, h => by
    have := zWb_lt A Y i (by omega)
    unfold zWb
    split
    · exact zor_lt this (by omega)
    · exact this
/-- the class's side of a call -/
def zOutC (c : Nat → Nat → Int32) (t : Nat → Int64) (r : Int32) (S' : zAb) : Int32 → zW → Prop := fun v w => v = r ∧ ∃ c' t', w = wF c' t' ∧ RepC c' t' S' ∧ (∀ a, 56 ≤ a → c' a = c a) ∧ ∀ a, a ≠ 0 → t' a = t a
theorem zOutC.same {c : Nat → Nat → Int32} {t : Nat → Int64} {r : Int32} {S : zAb} (h : RepC c t S) : zOutC c t r S r (wF c t) := ⟨rfl, c, t, rfl, h, fun _ _ => rfl, fun _ _ => rfl⟩
def a_sailor (S : zAb) (s w : Int32) : Int32 := match zIdx s (cN S.1) with
  | none => -1
  | some i => match zIdx w 6 with
    | some 0 => nI (cW S.1 i)
    | some 1 => nI (cC S.1 i)
    | some 2 => nI (zTm S.1 i)
    | some 3 => nI ((mG S.2.1).testBit i).toNat
    | some 4 => zE (zSeat (mW S.2.1) i 8)
    | some 5 => nI (zWn S.1 S.2.1 i).toNat
    | _ => -1
def a_seat (S : zAb) (k w : Int32) : Int32 := match zIdx k (cS S.1) with
  | none => -1
  | some j => match zIdx w 2 with
    | some 0 => zE (mW S.2.1 j)
    | some 1 => nI (mI S.2.1 j)
    | _ => -1
def a_now (S : zAb) (w : Int32) : Int32 := match zIdx w 5 with
  | some 0 => nI (mH S.2.1)
  | some 1 => nI (mG S.2.1)
  | some 2 => nI (zThere S.2.1)
  | some 3 => nI (zWb S.1 S.2.1 (cN S.1))
  | some 4 => nI S.2.2.1.length
  | _ => -1
def a_count (S : zAb) (w : Int32) : Int32 := match zIdx w 4 with
  | some 0 => nI (cN S.1)
  | some 1 => nI (cD S.1)
  | some 2 => nI (cS S.1)
  | some 3 => nI S.2.2.2.2.1.1
  | _ => -1
def zGo (S : zAb) (Y : zMm) : zAb := (S.1, Y, zRem S.2.1 S.2.2.1, S.2.2.2)
def zSg' (Y : zMm) (i j ink : Nat) : zMm := (mH Y + 1, mG Y ||| (1 <<< i), (fun k => if k = j then some i else mW Y k), fun k => if k = j then ink else mI Y k)
def zMay (S : zAb) (i j : Nat) : Bool := zWn S.1 S.2.1 i && (decide (mW S.2.1 j = none) && decide (mH S.2.1 < 99))
def a_signs (S : zAb) (s k : Int32) : Int32 × zAb := match zIdx s (cN S.1), zIdx k (cS S.1) with
  | some i, some j => if zMay S i j = true then (nI (zInk S.1 (zp8 (mG S.2.1))), zGo S (zSg' S.2.1 i j (zInk S.1 (zp8 (mG S.2.1))))) else (-2, S)
  | _, _ => (-1, S)
def a_hour (S : zAb) : Int32 × zAb := if mH S.2.1 < 99 then (nI (mH S.2.1 + 1), zGo S (mH S.2.1 + 1, S.2.1.2)) else (-2, S)
def zSc (Y : zMm) (j : Nat) : zMm := (mH Y, mG Y, (fun k => if k = j then none else mW Y k), fun k => if k = j then 0 else mI Y k)
def a_scrape (S : zAb) (k : Int32) : Int32 × zAb := match zIdx k (cS S.1) with
  | none => (-1, S)
  | some j => match mW S.2.1 j with
    | none => (-2, S)
    | some i => (nI i, zGo S (zSc S.2.1 j))
def a_undo (S : zAb) : Int32 × zAb := match S.2.2.1 with
  | [] => (-2, S)
  | Y :: P => (nI P.length, (S.1, Y, P, S.2.2.2))
def zT0 (S : zAb) : Nat := zThere S.2.1
def zO0 (S : zAb) : List (List Nat) := zOrd S.1 S.2.1 (zT0 S)
def a_first (S : zAb) : Int32 := nI (zFb (zO0 S) (zO0 S).length &&& zT0 S)
/-- who is there -/
def zTh' (S : zAb) (s : Int32) : Option Nat := match zIdx s (cN S.1) with
  | some i => if (zT0 S).testBit i = true then some i else none
  | none => none
def a_sure (S : zAb) (s : Int32) : Int32 := match zTh' S s with
  | some i => nI (zSure (zO0 S) (zT0 S) i)
  | none => -1
def zFr (u l : Nat) (w : Nat) : Int32 := if w = 0 then nI (u / Nat.gcd u l) else nI (l / Nat.gcd u l)
def a_chance (S : zAb) (s w : Int32) : Int32 := match zTh' S s, zIdx w 2 with
  | some i, some j => zFr (zTi (zO0 S) i (zO0 S).length) (max (zO0 S).length 1) j
  | _, _ => -1
noncomputable def zArg (Q : Nat → Bool) (T : Nat) : Nat := Classical.epsilon (zBest Q T)
theorem zArg_eq {Q : Nat → Bool} {T a : Nat} (h : zBest Q T a) : zArg Q T = a := zBest_one (Classical.epsilon_spec ⟨a, h⟩) h
noncomputable def a_ask (S : zAb) : Int32 := if (zO0 S).length = 0 then -9 else nI (zArg (zQs (zO0 S) (zT0 S)) (zT0 S))
def a_hang (S : zAb) : Int32 := zE (zLk (zO0 S) 7).1
def zFk (A : zCr) (Y : zMm) (k : Nat) : Nat := zp8 (zFb (zOrd A Y (zThX (mW Y) (nI k) 8)) (zOrd A Y (zThX (mW Y) (nI k) 8)).length &&& zThX (mW Y) (nI k) 8)
def zShf (A : zCr) (Y : zMm) : Nat → Option (Nat × Nat)
  | 0 => none
  | k + 1 => match mW Y k with
    | none => zShf A Y k
    | some _ => match zShf A Y k with
      | none => some (k, zFk A Y k)
      | some b => if b.2 < zFk A Y k then some (k, zFk A Y k) else some b
def a_shift (S : zAb) (w : Int32) : Int32 := match zIdx w 2 with
  | none => -1
  | some j => match zShf S.1 S.2.1 8 with
    | none => -9
    | some b => if j = 0 then nI b.1 else nI b.2
def zBg (A : zCr) (Y : zMm) (a : Nat) : Bool := decide (a &&& ((zAll (cN A) &&& (mG Y ^^^ 4294967295)) ^^^ 4294967295) = 0) && decide (zWr A 7 (mG Y ||| a) = zAll (cN A))
noncomputable def a_begin (S : zAb) : Int32 := nI (zArg (zBg S.1 S.2.1) (zAll (cN S.1)))
def zOd (p k n : Nat) : Nat → Nat
  | 0 => 0
  | i + 1 => if zp8 i ≤ k then zOd p k n i + p ^ zp8 i * (10 - p) ^ (n - zp8 i) else zOd p k n i
def zSl (S : zAb) : Nat := zp8 (zAll (cN S.1) &&& (mG S.2.1 ^^^ 4294967295))
def a_odds (S : zAb) (p k w : Int32) : Int32 := match zIdx p 11, zIdx k 8, zIdx w 2 with
  | some a, some b, some j => zFr (zOd a b (zSl S) (1 <<< zSl S)) (10 ^ zSl S) j
  | _, _, _ => -1
def zBo (A : zCr) (b : Nat) : Nat → Nat
  | 0 => 0
  | i + 1 => if cC A i ≤ b then zBo A b i + 1 else zBo A b i
def a_bold (S : zAb) (x : Int32) : Int32 := match zIdx x 8 with
  | none => -1
  | some b => nI (zBo S.1 b (cN S.1))
def a_clique (S : zAb) (w : Int32) : Int32 := match zIdx w 2 with
  | none => -1
  | some j => if j = 0 then nI (zp8 (zCl S.1 (zAll (cN S.1) + 1))) else nI (zCl S.1 (zAll (cN S.1) + 1))
def zRv (A : zCr) (Y : zMm) (i : Nat) : Nat → Int32
  | 0 => nI (cC A i)
  | 1 => nI (cC A i + zInkS Y i)
  | 2 => nI (cC A i) - nI (zp8 (zTm A i))
  | 3 => nI (2 * (cC A i + zInkS Y i))
  | 4 => nI (cC A i) - nI (zp8 (zTm A i)) + nI i
  | _ => nI (cC A i + mH Y)
def zRt : Nat → Int64
  | 0 => 1
  | 1 => 11
  | 2 => 101
  | 3 => 1011
  | 4 => 10101
  | _ => 100001
def zAddT (S : zAb) (x : Int64) : zAb := (S.1, S.2.1, S.2.2.1, S.2.2.2.1, S.2.2.2.2.1, S.2.2.2.2.2 + x)
def a_rate (S : zAb) (k s : Int32) : Int32 × zAb := match zIdx s (cN S.1), zIdx k 6 with
  | some i, some j => (zRv S.1 S.2.1 i j, zAddT S (zRt j))
  | _, _ => (-1000000, S)
def zKp (I : zIm) (Y : zMm) (j : Nat) : zIm := if j = 0 then (some Y, I.2) else (I.1, some Y)
def a_keep (S : zAb) (x : Int32) : Int32 × zAb := match zIdx x 2 with
  | none => (-1, S)
  | some j => (nI (mH S.2.1), (S.1, S.2.1, S.2.2.1, zKp S.2.2.2.1 S.2.1 j, S.2.2.2.2))
def zGt (I : zIm) (j : Nat) : Option zMm := if j = 0 then I.1 else I.2
def a_back (S : zAb) (x : Int32) : Int32 × zAb := match zIdx x 2 with
  | none => (-1, S)
  | some j => match zGt S.2.2.2.1 j with
    | none => (-2, S)
    | some Y => (nI (mH Y), (S.1, Y, [], S.2.2.2))
def a_type (S : zAb) (x : Int32) : Int32 × zAb := match zIdx x 256 with
  | none => (-1, S)
  | some a => if S.2.2.2.2.1.1 < 200 then (nI (S.2.2.2.2.1.1 + 1), (S.1, S.2.1, S.2.2.1, S.2.2.2.1, (S.2.2.2.2.1.1 + 1, fun i => if i = S.2.2.2.2.1.1 then a else S.2.2.2.2.1.2 i), S.2.2.2.2.2)) else (-3, S)
def zTx0 (S : zAb) : zAb := (S.1, S.2.1, S.2.2.1, S.2.2.2.1, (0, S.2.2.2.2.1.2), S.2.2.2.2.2)
def a_clear (S : zAb) : Int32 × zAb := (nI S.2.2.2.2.1.1, zTx0 S)
def zY0 : zMm := (0, 0, (fun _ => none), fun _ => 0)
def zPr (S : zAb) : Bool × Nat × zDr := zRun S.2.2.2.2.1.2 S.2.2.2.2.1.1 201 0 0 zD0
def a_crew (S : zAb) : Int32 × zAb := if (zPr S).1 = true then (nI (zPr S).2.1, ((zPr S).2.2.1, zY0, [], (none, none), (0, S.2.2.2.2.1.2), S.2.2.2.2.2)) else (-10 - nI (zPr S).2.1, S)
