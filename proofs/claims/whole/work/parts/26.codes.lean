/-! orders as numbers, read again; how many they are -/
theorem zor_bit (m s q : Nat) : (m ||| (1 <<< s)).testBit q = (m.testBit q || decide (q = s)) := by
  rw [Nat.testBit_or, Nat.shiftLeft_eq, Nat.one_mul, Nat.testBit_two_pow]
  congr 1
  exact decide_eq_decide.mpr ⟨fun h => h.symm, fun h => h.symm⟩
theorem zd_sh : ∀ d, d < 8 → ∀ s, s < 7 → ∀ q, q < 7 → ((d <<< (3 * s)) >>> (3 * q)) &&& 7 = if q = s then d else 0 := by decide +kernel
theorem zd_sh21 : ∀ d, d < 8 → ∀ s, s < 7 → (d <<< (3 * s)) >>> 21 = 0 ∧ d <<< (3 * s) < 2 ^ 24 := by decide +kernel
theorem zf_sh21 : ∀ s, s < 8 → (s <<< 21) >>> 21 = s ∧ s <<< 21 < 2 ^ 24 ∧ ∀ q, q < 7 → ((s <<< 21) >>> (3 * q)) &&& 7 = 0 := by decide +kernel
theorem zor_sh (o : Nat) {d s q : Nat} (hd : d < 8) (hs : s < 7) (hq : q < 7) : ((o ||| (d <<< (3 * s))) >>> (3 * q)) &&& 7 = ((o >>> (3 * q)) &&& 7) ||| if q = s then d else 0 := by
  rw [Nat.shiftRight_or_distrib, Nat.and_or_distrib_right, zd_sh d hd s hs q hq]
theorem zor_21 (o : Nat) {d s : Nat} (hd : d < 8) (hs : s < 7) : (o ||| (d <<< (3 * s))) >>> 21 = o >>> 21 := by
  rw [Nat.shiftRight_or_distrib, (zd_sh21 d hd s hs).1, Nat.or_zero]
def zIx : List Nat → Nat → Nat
  | [], _ => 0
  | s :: l, q => if q = s then 0 else zIx l q + 1
/-- a sailor's place in an order, 0 for who is not in it -/
def zPl (l : List Nat) (q : Nat) : Nat := if q ∈ l then zIx l q else 0
def zHd (l : List Nat) : Nat := l.headD 7
def zVal (l : List Nat) : Prop := (∀ s ∈ l, s < 7) ∧ l.Nodup ∧ l.length ≤ 7
theorem zEn_first : ∀ (l : List Nat) (d o : Nat), 0 < d → (∀ s ∈ l, s < 7) → d + l.length ≤ 8 → zEn d o l >>> 21 = o >>> 21
  | [], _, _, _, _, _ => rfl
  | s :: l, d, o, hd, hs, hl => by
    unfold zEn
    rw [if_neg (by omega), zEn_first l (d + 1) _ (by omega) (fun x hx => hs x (List.mem_cons_of_mem _ hx)) (by simp at hl; omega), zor_21 o (by simp at hl; omega) (hs s List.mem_cons_self)]
theorem zEn_place : ∀ (l : List Nat) (d o q : Nat), 0 < d → (∀ s ∈ l, s < 7) → l.Nodup → d + l.length ≤ 8 → q < 7 → (zEn d o l >>> (3 * q)) &&& 7 = ((o >>> (3 * q)) &&& 7) ||| if q ∈ l then d + zIx l q else 0
  | [], d, o, q, _, _, _, _, _ => by simp [zEn]
  | s :: l, d, o, q, hd, hs, hn, hl, hq => by
    unfold zEn
    rw [if_neg (by omega), zEn_place l (d + 1) _ q (by omega) (fun x hx => hs x (List.mem_cons_of_mem _ hx)) (List.nodup_cons.mp hn).2 (by simp at hl; omega) hq, zor_sh o (by simp at hl; omega) (hs s List.mem_cons_self) hq, Nat.or_assoc]
    congr 1
    by_cases h : q = s
    · subst h
      rw [if_pos rfl, if_neg (List.nodup_cons.mp hn).1, if_pos List.mem_cons_self, Nat.or_zero, zIx, if_pos rfl]
      rfl
    · rw [if_neg h, Nat.zero_or]
      by_cases h2 : q ∈ l
      · rw [if_pos h2, if_pos (List.mem_cons_of_mem _ h2), zIx, if_neg h]
        omega
      · rw [if_neg h2, if_neg (by simp [h, h2])]
theorem zEn_lt : ∀ (l : List Nat) (d o : Nat), 0 < d → (∀ s ∈ l, s < 7) → d + l.length ≤ 8 → o < 2 ^ 24 → zEn d o l < 2 ^ 24
  | [], _, _, _, _, _, ho => ho
  | s :: l, d, o, hd, hs, hl, ho => by
    unfold zEn
    rw [if_neg (by omega)]
    exact zEn_lt l (d + 1) _ (by omega) (fun x hx => hs x (List.mem_cons_of_mem _ hx)) (by simp at hl; omega) (Nat.or_lt_two_pow ho (zd_sh21 d (by simp at hl; omega) s (hs s List.mem_cons_self)).2)
theorem zCod_cons (s : Nat) (l : List Nat) : zCod (s :: l) = zEn 1 (s <<< 21) l := by
  show zEn 0 zNob (s :: l) = _
  rw [zEn, if_pos rfl]
theorem zCod_first {l : List Nat} (h : zVal l) : zCod l >>> 21 = zHd l := by
  cases l with
  | nil => rfl
  | cons s l =>
    have hs := h.1 s List.mem_cons_self
    rw [zCod_cons, zEn_first l 1 _ (by decide) (fun x hx => h.1 x (List.mem_cons_of_mem _ hx)) (by have := h.2.2; simp at this; omega), (zf_sh21 s (by omega)).1]
    rfl
theorem zCod_place {l : List Nat} (h : zVal l) {q : Nat} (hq : q < 7) : (zCod l >>> (3 * q)) &&& 7 = zPl l q := by
  cases l with
  | nil => exact ((zf_sh21 7 (by decide)).2.2 q hq).trans (by simp [zPl])
  | cons s l =>
    have hs := h.1 s List.mem_cons_self
    have hn := List.nodup_cons.mp h.2.1
    rw [zCod_cons, zEn_place l 1 _ q (by decide) (fun x hx => h.1 x (List.mem_cons_of_mem _ hx)) hn.2 (by have := h.2.2; simp at this; omega) hq, (zf_sh21 s (by omega)).2.2 q hq, Nat.zero_or]
    unfold zPl
    by_cases e : q = s
    · subst e
      rw [if_neg hn.1, if_pos List.mem_cons_self, zIx, if_pos rfl]
    · by_cases h2 : q ∈ l
      · rw [if_pos h2, if_pos (List.mem_cons_of_mem _ h2), zIx, if_neg e]
        omega
      · rw [if_neg h2, if_neg (by simp [e, h2])]
theorem zCod_lt {l : List Nat} (h : zVal l) : zCod l < 2 ^ 24 := by
  cases l with
  | nil => decide
  | cons s l =>
    rw [zCod_cons]
    exact zEn_lt l 1 _ (by decide) (fun x hx => h.1 x (List.mem_cons_of_mem _ hx)) (by have := h.2.2; simp at this; omega) (zf_sh21 s (by have := h.1 s List.mem_cons_self; omega)).2.1
theorem zHd_le {l : List Nat} (h : zVal l) : zHd l ≤ 7 := by
  cases l with
  | nil => exact Nat.le_refl 7
  | cons s l => have := h.1 s List.mem_cons_self; show s ≤ 7; omega
/-! counts of bits -/
theorem zpc_or : ∀ (k m s : Nat), m.testBit s = false → zpc k (m ||| (1 <<< s)) = zpc k m + if s < k then 1 else 0
  | 0, m, s, _ => by simp [zpc]
  | k + 1, m, s, h => by
    unfold zpc
    rw [zpc_or k m s h, zor_bit]
    by_cases e : k = s
    · subst e
      rw [if_neg (by omega), if_pos (by omega), h]
      simp
    · rw [decide_eq_false e, Bool.or_false]
      by_cases e2 : s < k
      · rw [if_pos e2, if_pos (by omega)]; omega
      · rw [if_neg e2, if_neg (by omega)]; omega
theorem zpc_split : ∀ (k T m : Nat), k ≤ 32 → (∀ s, s < k → m.testBit s = true → T.testBit s = true) → zpc k T = zpc k m + zpc k (T &&& (m ^^^ 4294967295))
  | 0, _, _, _, _ => rfl
  | k + 1, T, m, hk, h => by
    unfold zpc
    rw [zpc_split k T m (by omega) (fun s hs => h s (by omega)), zan_bit T m (by omega)]
    have := h k (by omega)
    cases hm : m.testBit k
    · simp; omega
    · rw [this hm]; simp; omega
theorem zpc_eq {k a b : Nat} (h : ∀ s, s < k → a.testBit s = b.testBit s) : zpc k a = zpc k b := by
  induction k with
  | zero => rfl
  | succ k ih =>
    unfold zpc
    rw [ih fun s hs => h s (by omega), h k (by omega)]
def zFac : Nat → Nat
  | 0 => 1
  | n + 1 => (n + 1) * zFac n
theorem zFac_le : ∀ n, n ≤ 7 → zFac n ≤ 5040 := by decide
/-- what every order of the search is -/
theorem zOx_val (A : zCr) (ik : Nat → Nat) {T : Nat} (H : Nat) (hT : T < 128) : ∀ (f d m h : Nat), (∀ s, m.testBit s = true → T.testBit s = true) → ∀ l ∈ zOx A ik T H f d m h, (∀ s ∈ l, s < 7 ∧ T.testBit s = true ∧ m.testBit s = false) ∧ l.Nodup ∧ l.length ≤ f ∧ (∀ s, T.testBit s = true → m.testBit s = true ∨ s ∈ l) ∧ zp8 m + l.length = zp8 T := by
  have base : ∀ (m : Nat) (l : List Nat), l ∈ (if m = T then [[]] else [] : List (List Nat)) → ∀ f, (∀ s ∈ l, s < 7 ∧ T.testBit s = true ∧ m.testBit s = false) ∧ l.Nodup ∧ l.length ≤ f ∧ (∀ s, T.testBit s = true → m.testBit s = true ∨ s ∈ l) ∧ zp8 m + l.length = zp8 T := by
    intro m l hl f
    split at hl
    · next e =>
      rw [List.mem_singleton] at hl
      subst hl e
      exact ⟨fun s hs => (List.not_mem_nil hs).elim, List.nodup_nil, Nat.zero_le _, fun s hs => Or.inl hs, rfl⟩
    · exact (List.not_mem_nil hl).elim
  intro f
  induction f with
  | zero => intro d m h _ l hl; exact base m l hl 0
  | succ f ih =>
    intro d m h hm l hl
    by_cases e : m = T
    · refine base m l ?_ (f + 1)
      have : zOx A ik T H (f + 1) d m h = [[]] := by show (if m = T then _ else _) = _; rw [if_pos e]
      rw [if_pos e]
      rw [this] at hl
      exact hl
    · rw [zOx_s A ik T H f d m h e] at hl
      unfold zOs at hl
      obtain ⟨s, hs7, hl⟩ := List.mem_flatMap.mp hl
      rw [List.mem_range] at hs7
      split at hl
      · next hok =>
        obtain ⟨q, hq, rfl⟩ := List.mem_map.mp hl
        have hb : (T &&& (m ^^^ 4294967295)).testBit s = true := by
          unfold zOk at hok
          simp only [Bool.and_eq_true] at hok
          exact hok.1
        rw [zan_bit T m (by omega)] at hb
        simp only [Bool.and_eq_true, Bool.not_eq_true'] at hb
        obtain ⟨i1, i2, i3, i4, i5⟩ := ih _ _ _ (fun x hx => by
          rw [zor_bit] at hx
          simp only [Bool.or_eq_true, decide_eq_true_eq] at hx
          rcases hx with hx | hx
          · exact hm x hx
          · rw [hx]; exact hb.1) q hq
        refine ⟨fun x hx => ?_, ?_, ?_, fun x hx => ?_, ?_⟩
        · rcases List.mem_cons.mp hx with rfl | hx
          · exact ⟨hs7, hb.1, hb.2⟩
          · obtain ⟨j1, j2, j3⟩ := i1 x hx
            rw [zor_bit] at j3
            simp only [Bool.or_eq_false_iff] at j3
            exact ⟨j1, j2, j3.1⟩
        · refine List.nodup_cons.mpr ⟨fun hx => ?_, i2⟩
          have j3 := (i1 s hx).2.2
          rw [zor_bit] at j3
          simp at j3
        · simp only [List.length_cons]; omega
        · rcases i4 x hx with h1 | h1
          · rw [zor_bit] at h1
            simp only [Bool.or_eq_true, decide_eq_true_eq] at h1
            rcases h1 with h1 | h1
            · exact Or.inl h1
            · exact Or.inr (by rw [h1]; exact List.mem_cons_self)
          · exact Or.inr (List.mem_cons_of_mem _ h1)
        · have h9 := zpc_or 8 m s hb.2
          rw [if_pos (by omega)] at h9
          have h8 : zp8 (m ||| (1 <<< s)) = zp8 m + 1 := h9
          rw [h8] at i5
          simp only [List.length_cons]
          omega
      · exact (List.not_mem_nil hl).elim
theorem zOx_len (A : zCr) (ik : Nat → Nat) {T : Nat} (H : Nat) (hT : T < 128) : ∀ (f d m h : Nat), (∀ s, m.testBit s = true → T.testBit s = true) → (zOx A ik T H f d m h).length ≤ zFac (zp8 T - zp8 m) := by
  have pos : ∀ n, 1 ≤ zFac n := by
    intro n
    induction n with
    | zero => decide
    | succ n ih => unfold zFac; exact Nat.le_trans ih (Nat.le_mul_of_pos_left _ (by omega))
  intro f
  induction f with
  | zero =>
    intro d m h _
    show (if m = T then [[]] else [] : List (List Nat)).length ≤ _
    split
    · exact pos _
    · exact Nat.zero_le _
  | succ f ih =>
    intro d m h hm
    by_cases e : m = T
    · have : zOx A ik T H (f + 1) d m h = [[]] := by show (if m = T then _ else _) = _; rw [if_pos e]
      rw [this]
      exact pos _
    · rw [zOx_s A ik T H f d m h e]
      have hsp := zpc_split 8 T m (by decide) (fun s _ => hm s)
      have key : ∀ n, n ≤ 7 → (zOs A ik T H f d m h n).length ≤ zpc n (T &&& (m ^^^ 4294967295)) * zFac (zp8 T - zp8 m - 1) := by
        intro n hn
        induction n with
        | zero => exact Nat.zero_le _
        | succ n ih2 =>
          have ih2 := ih2 (by omega)
          rw [zOs_s, List.length_append]
          unfold zpc
          rw [Nat.add_mul]
          refine Nat.add_le_add ih2 ?_
          split
          · next hok =>
            have hb : (T &&& (m ^^^ 4294967295)).testBit n = true := by
              unfold zOk at hok
              simp only [Bool.and_eq_true] at hok
              exact hok.1
            have hb2 := hb
            rw [zan_bit T m (by omega)] at hb2
            simp only [Bool.and_eq_true, Bool.not_eq_true'] at hb2
            have h9 := zpc_or 8 m n hb2.2
            rw [if_pos (by omega)] at h9
            have h8 : zp8 (m ||| (1 <<< n)) = zp8 m + 1 := h9
            rw [hb, List.length_map]
            have := ih (d + 1) (m ||| (1 <<< n)) (zSg A h n + 1) (fun x hx => by
              rw [zor_bit] at hx
              simp only [Bool.or_eq_true, decide_eq_true_eq] at hx
              rcases hx with hx | hx
              · exact hm x hx
              · rw [hx]; exact hb2.1)
            rw [h8, ← Nat.sub_sub] at this
            rw [show Bool.toNat true = 1 from rfl, Nat.one_mul]
            exact this
          · exact Nat.zero_le _
      have k7 := key 7 (Nat.le_refl _)
      have h78 : zpc 8 (T &&& (m ^^^ 4294967295)) = zpc 7 (T &&& (m ^^^ 4294967295)) := by
        have h0 : (T &&& (m ^^^ 4294967295)).testBit 7 = false := Nat.testBit_lt_two_pow (zand_l (by omega))
        show zpc 7 _ + Bool.toNat _ = _
        rw [h0]
        rfl
      rw [← h78] at k7
      have hr : zp8 T - zp8 m = zpc 8 (T &&& (m ^^^ 4294967295)) := by
        show zpc 8 T - zpc 8 m = _
        omega
      rw [hr] at k7 ⊢
      generalize zpc 8 (T &&& (m ^^^ 4294967295)) = r at k7 ⊢
      cases r with
      | zero => simp at k7; rw [k7]; exact Nat.zero_le _
      | succ r => exact k7
theorem zp8_7 {T : Nat} (hT : T < 128) : zp8 T ≤ 7 := by
  have h0 : T.testBit 7 = false := Nat.testBit_lt_two_pow (by omega)
  have : zp8 T = zpc 7 T := by
    show zpc 7 _ + Bool.toNat _ = _
    rw [h0]
    rfl
  rw [this]
  exact zp8_le 7 T
/-- all orders of those there -/
def zOrd (A : zCr) (Y : zMm) (T : Nat) : List (List Nat) := zOx A (zInkS Y) T (mH Y) 7 0 0 0
theorem zOrd_len (A : zCr) (Y : zMm) {T : Nat} (hT : T < 128) : (zOrd A Y T).length ≤ 5040 := by
  refine Nat.le_trans (zOx_len A (zInkS Y) (mH Y) hT 7 0 0 0 (fun s h => by simp at h)) (zFac_le _ ?_)
  have := zp8_7 hT
  omega
theorem zOrd_val (A : zCr) (Y : zMm) {T : Nat} (hT : T < 128) {l : List Nat} (h : l ∈ zOrd A Y T) : zVal l ∧ (∀ s, s ∈ l ↔ T.testBit s = true) ∧ l.length = zp8 T := by
  obtain ⟨h1, h2, h3, h4, h5⟩ := zOx_val A (zInkS Y) (mH Y) hT 7 0 0 0 (fun s h => by simp at h) l h
  refine ⟨⟨fun s hs => (h1 s hs).1, h2, h3⟩, fun s => ⟨fun hs => (h1 s hs).2.1, fun hs => ?_⟩, ?_⟩
  · rcases h4 s hs with h | h
    · simp at h
    · exact h
  · have : zp8 0 = 0 := by decide
    omega
