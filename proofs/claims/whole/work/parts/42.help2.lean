theorem zIdx_gt {x : Int32} {n : Nat} (hn : n < 1000) (h : ¬ x ≤ nI n) : zIdx x (n + 1) = none := zIdx_none fun j hj e => h (by rw [e]; exact nI_le (by omega) (by omega))
theorem zIdx_le {x : Int32} {n : Nat} (hn : n < 1000) (h1 : ¬ x < 0) (h2 : x ≤ nI n) : ∃ j, j < n + 1 ∧ x = nI j ∧ zIdx x (n + 1) = some j := by
  rcases pk_ix x (n := n + 1) (by omega) with h | h | ⟨j, hj, e⟩
  · exact absurd h h1
  · have h3 := Int32.le_iff_toInt_le.mp h
    have h4 := Int32.le_iff_toInt_le.mp h2
    rw [nI_toInt (by omega)] at h3 h4
    omega
  · exact ⟨j, hj, e, by rw [e]; exact zIdx_n (by omega) hj⟩
theorem zgt_le {x : Int32} {n : Nat} (h : ¬ nI n < x) : x ≤ nI n := by
  rw [Int32.le_iff_toInt_le]
  rw [Int32.lt_iff_toInt_lt] at h
  omega
theorem zgt_nle {x : Int32} {n : Nat} (h : nI n < x) : ¬ x ≤ nI n := by
  rw [Int32.le_iff_toInt_le]
  rw [Int32.lt_iff_toInt_lt] at h
  omega
theorem zsub_all {n m : Nat} (hm : m < 1 <<< n) : ∀ q, m.testBit q = true → q < n := by
  intro q hq
  refine Nat.lt_of_not_le fun h => ?_
  have : m.testBit q = false := Nat.testBit_lt_two_pow (Nat.lt_of_lt_of_le hm (by rw [Nat.shiftLeft_eq, Nat.one_mul]; exact Nat.pow_le_pow_right (by decide) h))
  rw [this] at hq
  cases hq
theorem zAll_bit (n q : Nat) : (zAll n).testBit q = decide (q < n) := by
  unfold zAll
  rw [Nat.shiftLeft_eq, Nat.one_mul, Nat.testBit_two_pow_sub_one]
theorem zor_all {n m : Nat} (hn : n ≤ 7) (hm : m < 1 <<< n) : m ||| (zAll n &&& (m ^^^ 4294967295)) = zAll n := by
  refine Nat.eq_of_testBit_eq fun q => ?_
  rw [Nat.testBit_or, zAll_bit]
  by_cases hq : q < n
  · rw [zan_bit _ _ (by omega), zAll_bit, decide_eq_true hq]
    cases m.testBit q <;> rfl
  · have h1 : m.testBit q = false := by
      cases h : m.testBit q with
      | false => rfl
      | true => exact absurd (zsub_all hm q h) hq
    rw [Nat.testBit_and, zAll_bit, decide_eq_false hq, h1]
    rfl
theorem zWi_all (A : zCr) : ∀ s, s ≤ cN A → zWi A s (zAll (cN A)) = zAll (cN A)
  | 0, _ => rfl
  | s + 1, h => by
    unfold zWi
    rw [zWi_all A s (by omega)]
    split
    · refine Nat.eq_of_testBit_eq fun q => ?_
      rw [zor_bit, zAll_bit]
      by_cases e : q = s
      · subst e; rw [decide_eq_true (show q < cN A by omega)]; rfl
      · rw [decide_eq_false e, Bool.or_false]
    · rfl
theorem zWr_all (A : zCr) : ∀ r, zWr A r (zAll (cN A)) = zAll (cN A)
  | 0 => rfl
  | r + 1 => by
    unfold zWr
    rw [zWr_all A r]
    exact zWi_all A _ (Nat.le_refl _)
theorem zself_and {x : Nat} (hx : x < 128) : x &&& (x ^^^ 4294967295) = 0 := of_decide_eq_true (zSub_self x hx)
theorem zBg_top {A : zCr} {Y : zMm} (ok : OkA A) (hY : mG Y < 1 <<< cN A) : zBg A Y (zAll (cN A) &&& (mG Y ^^^ 4294967295)) = true := by
  unfold zBg
  have hlt : zAll (cN A) &&& (mG Y ^^^ 4294967295) < 128 := zand_l (zAll_lt ok.1)
  rw [zself_and hlt, zor_all ok.1 hY, zWr_all]
  simp
theorem zp8_lt {n i : Nat} (hn : n ≤ 8) (h : i < 1 <<< n) : zp8 i ≤ n := by
  have key : ∀ d, zpc (n + d) i = zpc n i := by
    intro d
    induction d with
    | zero => rfl
    | succ d ih =>
      show zpc (n + d) i + _ = _
      have : i.testBit (n + d) = false := Nat.testBit_lt_two_pow (Nat.lt_of_lt_of_le h (by rw [Nat.shiftLeft_eq, Nat.one_mul]; exact Nat.pow_le_pow_right (by decide) (by omega)))
      rw [ih]
      show zpc n i + (i.testBit (n + d)).toNat = _
      rw [this]
      rfl
  have h8 := key (8 - n)
  rw [show n + (8 - n) = 8 by omega] at h8
  rw [show zp8 i = zpc n i from h8]
  exact zp8_le n i
theorem zOd_le {p k n : Nat} (hp : p ≤ 10) (hn : n ≤ 7) : ∀ i, i ≤ 1 <<< n → zOd p k n i ≤ i * 10 ^ n
  | 0, _ => Nat.zero_le _
  | i + 1, h => by
    have ih := zOd_le (k := k) hp hn i (by omega)
    have hz := zp8_lt (n := n) (i := i) (by omega) (by omega)
    have ht : p ^ zp8 i * (10 - p) ^ (n - zp8 i) ≤ 10 ^ n := by
      calc p ^ zp8 i * (10 - p) ^ (n - zp8 i) ≤ 10 ^ zp8 i * 10 ^ (n - zp8 i) := Nat.mul_le_mul (Nat.pow_le_pow_left hp _) (Nat.pow_le_pow_left (by omega) _)
        _ = 10 ^ n := by rw [← Nat.pow_add, show zp8 i + (n - zp8 i) = n by omega]
    unfold zOd
    rw [Nat.add_mul, Nat.one_mul]
    split <;> omega
theorem zOd_lt {p k n : Nat} (hp : p ≤ 10) (hn : n ≤ 7) : zOd p k n (1 <<< n) < 2 ^ 31 ∧ 10 ^ n < 2 ^ 31 ∧ 0 < 10 ^ n := by
  have h1 := zOd_le (k := k) hp hn (1 <<< n) (Nat.le_refl _)
  have h2 := zs_le hn
  have h3 : 10 ^ n ≤ 10 ^ 7 := Nat.pow_le_pow_right (by decide) hn
  have h4 : 1 <<< n * 10 ^ n ≤ 128 * 10 ^ 7 := Nat.mul_le_mul h2 h3
  exact ⟨by omega, by omega, Nat.pow_pos (by decide)⟩
theorem zSl_le {S : zAb} (hS : OkS S) : zSl S ≤ 7 := by
  unfold zSl
  exact zp8_7 (zand_l (zAll_lt hS.1.1))
def zB1 : Option (Nat × Nat) → Int32
  | none => -9
  | some b => nI b.1
def zB2 : Option (Nat × Nat) → Int32
  | none => -9
  | some b => nI b.2
theorem zShf_le (A : zCr) (Y : zMm) : ∀ k b, zShf A Y k = some b → b.2 ≤ 8 ∧ b.1 < k
  | 0, b, h => by cases h
  | k + 1, b, h => by
    have key : zFk A Y k ≤ 8 := zp8_8 _
    unfold zShf at h
    split at h
    · have := zShf_le A Y k b h; omega
    · split at h
      · cases h; exact ⟨key, by show k < k + 1; omega⟩
      · next b' hb' =>
        split at h
        · cases h; exact ⟨key, by show k < k + 1; omega⟩
        · cases h; have := zShf_le A Y k _ hb'; omega
theorem zf_m9 : ∀ f, f ≤ 8 → ¬ nI f ≤ (-9 : Int32) := by decide
theorem zMo_im : ∀ j, j < 2 → zMo (46 + 3 * j) := by
  intro j hj
  match j, hj with
  | 0, _ => exact zMo_46
  | 1, _ => exact zMo_49
  | n + 2, h => omega
theorem zKm_bit (I : zIm) : ∀ j, j < 2 → (zKm I).testBit j = (zGt I j).isSome := by
  intro j hj
  unfold zKm zGt
  match j, hj with
  | 0, _ => cases h1 : I.1.isSome <;> cases h2 : I.2.isSome <;> simp [h1, h2] <;> decide
  | 1, _ => cases h1 : I.1.isSome <;> cases h2 : I.2.isSome <;> simp [h1, h2] <;> decide
  | n + 2, h => omega
theorem zKm_or (I : zIm) (Y : zMm) : ∀ j, j < 2 → zKm I ||| (1 <<< j) = zKm (zKp I Y j) := by
  intro j hj
  unfold zKm zKp
  match j, hj with
  | 0, _ => cases h1 : I.1.isSome <;> cases h2 : I.2.isSome <;> simp [h1, h2] <;> decide
  | 1, _ => cases h1 : I.1.isSome <;> cases h2 : I.2.isSome <;> simp [h1, h2] <;> decide
  | n + 2, h => omega
theorem zKm_lt (I : zIm) : zKm I < 4 := by
  unfold zKm
  cases h1 : I.1.isSome <;> cases h2 : I.2.isSome <;> simp <;> decide
theorem RepC.keep {c : Nat → Nat → Int32} {t : Nat → Int64} {S : zAb} (h : RepC c t S) {j : Nat} (hj : j < 2) : RepC (z_up (zBec c (46 + 3 * j) 11) 0 7 (nI (zKm S.2.2.2.1 ||| (1 <<< j)))) t (S.1, S.2.1, S.2.2.1, zKp S.2.2.2.1 S.2.1 j, S.2.2.2.2) := by
  obtain ⟨h1, h2, h3, h4, h5, h6⟩ := h
  have he : ∀ a, a < 46 → a ≠ 0 → z_up (zBec c (46 + 3 * j) 11) 0 7 (nI (zKm S.2.2.2.1 ||| (1 <<< j))) a = c a := fun a h h0 => by rw [up_K h0, zBec_o (by omega)]
  have hm : ∀ m M, MoC m (zBec c (46 + 3 * j) 11) M → 0 < m → MoC m (z_up (zBec c (46 + 3 * j) 11) 0 7 (nI (zKm S.2.2.2.1 ||| (1 <<< j)))) M := fun m M hM h0 => hM.eq (up_K (by omega)) (up_K (by omega)) (up_K (by omega))
  refine ⟨h1.eq (he _ (by decide) (by decide)) (he _ (by decide) (by decide)) (he _ (by decide) (by decide)) (he _ (by decide) (by decide)), h2.eq (he _ (by decide) (by decide)) (he _ (by decide) (by decide)) (he _ (by decide) (by decide)), h3.eq fun a p q => he a (by omega) (by omega), ⟨by rw [up_s, zKm_or _ S.2.1 j hj], fun M hM => ?_, fun M hM => ?_⟩, ?_, h6⟩
  · refine hm 46 M ?_ (by decide)
    rcases (show j = 0 ∨ j = 1 by omega) with rfl | rfl
    · cases hM; exact zBec_mo h2
    · exact (h4.2.1 M hM).eq (zBec_o (by decide)) (zBec_o (by decide)) (zBec_o (by decide))
  · refine hm 49 M ?_ (by decide)
    rcases (show j = 0 ∨ j = 1 by omega) with rfl | rfl
    · exact (h4.2.2 M hM).eq (zBec_o (by decide)) (zBec_o (by decide)) (zBec_o (by decide))
    · cases hM; exact zBec_mo h2
  · rw [he 1 (by decide) (by decide), he 2 (by decide) (by decide)]
    exact h5
theorem ImC.get {c : Nat → Nat → Int32} {I : zIm} (h : ImC c I) {j : Nat} (hj : j < 2) {M : zMm} (hM : zGt I j = some M) : MoC (46 + 3 * j) c M := by
  rcases (show j = 0 ∨ j = 1 by omega) with rfl | rfl
  · exact h.2.1 M hM
  · exact h.2.2 M hM
set_option maxRecDepth 100000 in
theorem zcr_neg : ∀ k, k ≤ 200 → ¬ (0 : Int32) ≤ -10 - nI k := by decide +kernel
theorem zRt_4 : zRt 4 = 10101 := by decide +kernel
theorem zRt_5 : zRt 5 = 100001 := by decide +kernel
theorem RepC.add {c : Nat → Nat → Int32} {t : Nat → Int64} {S : zAb} (h : RepC c t S) {x y : Int64} (e : x = S.2.2.2.2.2 + y) : RepC c (z_upL t 0 x) (zAddT S y) := ⟨h.1, h.2.1, h.2.2.1, h.2.2.2.1, h.2.2.2.2.1, (upL_s _ _ _).trans e⟩
