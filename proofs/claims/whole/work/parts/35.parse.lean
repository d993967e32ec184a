/-! the text: what is told -/
abbrev zDr : Type := zCr × Bool × Bool
def zEnl (A : zCr) (x y z : Nat) : zCr := (cN A + 1, (fun i => if i = cN A then x else cW A i), (fun i => if i = cN A then y else cC A i), (fun i => if i = cN A then z else cT A i), cD A, cS A)
def zD0 : zDr := ((0, (fun _ => 0), (fun _ => 0), (fun _ => 0), 3, 8), false, false)
abbrev zRs : Type := Bool × Nat × Nat × zDr
def zSemi (f : Nat → Nat) (len p : Nat) (D : zDr) : zRs := (decide ((zTok f len p).2.2 = 187), (zTok f len p).1, (zTok f len p).2.1, D)
def zSail (f : Nat → Nat) (len s0 p : Nat) (D : zDr) : zRs :=
  if 7 ≤ cN D.1 then (false, s0, p, D)
  else if (zTok f len p).2.2 ≤ 2 then
    if (zTok f len (zTok f len p).2.1).2.2 ≤ 7 then
      if (zTok f len (zTok f len (zTok f len p).2.1).2.1).2.2 ≤ 127 then zSemi f len (zTok f len (zTok f len (zTok f len p).2.1).2.1).2.1 (zEnl D.1 (zTok f len p).2.2 (zTok f len (zTok f len p).2.1).2.2 (zTok f len (zTok f len (zTok f len p).2.1).2.1).2.2, D.2)
      else (false, (zTok f len (zTok f len (zTok f len p).2.1).2.1).1, 0, D)
    else (false, (zTok f len (zTok f len p).2.1).1, 0, D)
  else (false, (zTok f len p).1, 0, D)
def zDip (f : Nat → Nat) (len s0 p : Nat) (D : zDr) : zRs :=
  if D.2.1 = true then (false, s0, p, D)
  else if 1 ≤ (zTok f len p).2.2 ∧ (zTok f len p).2.2 ≤ 4 then zSemi f len (zTok f len p).2.1 ((cN D.1, cW D.1, cC D.1, cT D.1, (zTok f len p).2.2, cS D.1), true, D.2.2)
  else (false, (zTok f len p).1, 0, D)
def zSea (f : Nat → Nat) (len s0 p : Nat) (D : zDr) : zRs :=
  if D.2.2 = true then (false, s0, p, D)
  else if 1 ≤ (zTok f len p).2.2 ∧ (zTok f len p).2.2 ≤ 8 then zSemi f len (zTok f len p).2.1 ((cN D.1, cW D.1, cC D.1, cT D.1, cD D.1, (zTok f len p).2.2), D.2.1, true)
  else (false, (zTok f len p).1, 0, D)
def zIt (f : Nat → Nat) (len p : Nat) (D : zDr) : zRs :=
  if (zTok f len p).2.2 = 243 then zSail f len (zTok f len p).1 (zTok f len p).2.1 D
  else if (zTok f len p).2.2 = 228 then zDip f len (zTok f len p).1 (zTok f len p).2.1 D
  else if (zTok f len p).2.2 = 238 then zSea f len (zTok f len p).1 (zTok f len p).2.1 D
  else (false, (zTok f len p).1, 0, D)
def zRun (f : Nat → Nat) (len : Nat) : Nat → Nat → Nat → zDr → Bool × Nat × zDr
  | 0, _, _, D => (false, 0, D)
  | n + 1, p, it, D => if (zTok f len p).2.2 = 1000 then (true, it, D) else if (zIt f len p D).1 = true then zRun f len n (zIt f len p D).2.2.1 (it + 1) (zIt f len p D).2.2.2 else (false, (zIt f len p D).2.1, D)
def OkD (D : zDr) : Prop := OkA D.1
theorem OkD0 : OkD zD0 := ⟨by decide, fun i h => absurd h (Nat.not_lt_zero i), fun i h => absurd h (Nat.not_lt_zero i), fun i h => absurd h (Nat.not_lt_zero i), by decide, by decide⟩
theorem zSemi_nx {f : Nat → Nat} {len p : Nat} {D : zDr} (h : (zSemi f len p D).1 = true) (hp : p ≤ len) : p + 1 ≤ (zSemi f len p D).2.2.1 ∧ (zSemi f len p D).2.2.1 ≤ len := by
  have h1 := zTok_pos f hp
  have h2 : (zTok f len p).2.2 = 187 := of_decide_eq_true h
  have h3 := h1.2.2.2 (by rw [h2]; decide)
  exact ⟨by show p + 1 ≤ (zTok f len p).2.1; omega, h1.2.2.1⟩
/-- an item that stands: two letters at least, and a draft that is as it may be -/
theorem zIt_ok {f : Nat → Nat} {len p : Nat} {D : zDr} (hp : p ≤ len) (hD : OkD D) (h : (zIt f len p D).1 = true) : p + 2 ≤ (zIt f len p D).2.2.1 ∧ (zIt f len p D).2.2.1 ≤ len ∧ OkD (zIt f len p D).2.2.2 := by
  have h1 := zTok_pos f hp
  unfold zIt at h ⊢
  by_cases e1 : (zTok f len p).2.2 = 243
  · rw [if_pos e1] at h ⊢
    have h2 := h1.2.2.2 (by rw [e1]; decide)
    have p1 := zTok_pos f (p := (zTok f len p).2.1) h1.2.2.1
    unfold zSail at h ⊢
    by_cases c1 : 7 ≤ cN D.1
    · rw [if_pos c1] at h; cases h
    · rw [if_neg c1] at h ⊢
      by_cases c2 : (zTok f len (zTok f len p).2.1).2.2 ≤ 2
      · rw [if_pos c2] at h ⊢
        have p2 := zTok_pos f (p := (zTok f len (zTok f len p).2.1).2.1) p1.2.2.1
        by_cases c3 : (zTok f len (zTok f len (zTok f len p).2.1).2.1).2.2 ≤ 7
        · rw [if_pos c3] at h ⊢
          have p3 := zTok_pos f (p := (zTok f len (zTok f len (zTok f len p).2.1).2.1).2.1) p2.2.2.1
          by_cases c4 : (zTok f len (zTok f len (zTok f len (zTok f len p).2.1).2.1).2.1).2.2 ≤ 127
          · rw [if_pos c4] at h ⊢
            have p4 := zSemi_nx h p3.2.2.1
            refine ⟨by omega, p4.2, ?_⟩
            obtain ⟨d1, d2, d3, d4, d5, d6⟩ := hD
            refine ⟨by show cN D.1 + 1 ≤ 7; omega, fun i hi => ?_, fun i hi => ?_, fun i hi => ?_, d5, d6⟩
            · show (if i = cN D.1 then _ else _) ≤ 2
              have hi' : i < cN D.1 + 1 := hi
              split
              · exact c2
              · exact d2 i (by omega)
            · show (if i = cN D.1 then _ else _) ≤ 7
              have hi' : i < cN D.1 + 1 := hi
              split
              · exact c3
              · exact d3 i (by omega)
            · show (if i = cN D.1 then _ else _) ≤ 127
              have hi' : i < cN D.1 + 1 := hi
              split
              · exact c4
              · exact d4 i (by omega)
          · rw [if_neg c4] at h; cases h
        · rw [if_neg c3] at h; cases h
      · rw [if_neg c2] at h; cases h
  · rw [if_neg e1] at h ⊢
    by_cases e2 : (zTok f len p).2.2 = 228
    · rw [if_pos e2] at h ⊢
      have h2 := h1.2.2.2 (by rw [e2]; decide)
      have p1 := zTok_pos f (p := (zTok f len p).2.1) h1.2.2.1
      unfold zDip at h ⊢
      by_cases c1 : D.2.1 = true
      · rw [if_pos c1] at h; cases h
      · rw [if_neg c1] at h ⊢
        by_cases c2 : 1 ≤ (zTok f len (zTok f len p).2.1).2.2 ∧ (zTok f len (zTok f len p).2.1).2.2 ≤ 4
        · rw [if_pos c2] at h ⊢
          have p4 := zSemi_nx h p1.2.2.1
          obtain ⟨d1, d2, d3, d4, d5, d6⟩ := hD
          exact ⟨by omega, p4.2, d1, d2, d3, d4, c2, d6⟩
        · rw [if_neg c2] at h; cases h
    · rw [if_neg e2] at h ⊢
      by_cases e3 : (zTok f len p).2.2 = 238
      · rw [if_pos e3] at h ⊢
        have h2 := h1.2.2.2 (by rw [e3]; decide)
        have p1 := zTok_pos f (p := (zTok f len p).2.1) h1.2.2.1
        unfold zSea at h ⊢
        by_cases c1 : D.2.2 = true
        · rw [if_pos c1] at h; cases h
        · rw [if_neg c1] at h ⊢
          by_cases c2 : 1 ≤ (zTok f len (zTok f len p).2.1).2.2 ∧ (zTok f len (zTok f len p).2.1).2.2 ≤ 8
          · rw [if_pos c2] at h ⊢
            have p4 := zSemi_nx h p1.2.2.1
            obtain ⟨d1, d2, d3, d4, d5, d6⟩ := hD
            exact ⟨by omega, p4.2, d1, d2, d3, d4, d5, c2⟩
          · rw [if_neg c2] at h; cases h
      · rw [if_neg e3] at h; cases h
def DrC (c : Nat → Nat → Int32) (D : zDr) : Prop := CrC 7 c D.1 ∧ c 1 4 = nI D.2.1.toNat ∧ c 1 5 = nI D.2.2.toNat
/-- what reading changes -/
def zTF (c c' : Nat → Nat → Int32) : Prop := (∀ a, a ≠ 1 → (a < 7 ∨ 10 < a) → c' a = c a) ∧ c' 1 1 = c 1 1
theorem zTF.rf (c : Nat → Nat → Int32) : zTF c c := ⟨fun _ _ _ => rfl, rfl⟩
theorem zTF.tr {a b c : Nat → Nat → Int32} (h : zTF a b) (h2 : zTF b c) : zTF a c := ⟨fun x p q => (h2.1 x p q).trans (h.1 x p q), h2.2.trans h.2⟩
theorem zTF.pt (c : Nat → Nat → Int32) (p s : Int32) : zTF c (zPT c p s) := ⟨fun _ h _ => zPT_o h, zPT_1 (by decide) (by decide)⟩
theorem zTF.u1 {c : Nat → Nat → Int32} {b : Nat} {v : Int32} (h : b ≠ 1) : zTF c (z_up c 1 b v) := ⟨fun _ h _ => up_K h, up_j _ (fun e => h e.symm)⟩
theorem zTF.u7 {c : Nat → Nat → Int32} {k b : Nat} {v : Int32} (h : 7 ≤ k ∧ k ≤ 10) : zTF c (z_up c k b v) := ⟨fun a _ h2 => up_K (by omega), up_k (by omega) _⟩
theorem TxC.tf {c c' : Nat → Nat → Int32} {len : Nat} {f : Nat → Nat} (h : TxC c len f) (hk : zTF c c') : TxC c' len f := ⟨hk.2.trans h.1, h.2.1, fun i hi => (congrFun (hk.1 2 (by decide) (by decide)) i).trans (h.2.2.1 i hi), h.2.2.2⟩
theorem DrC.pt {c : Nat → Nat → Int32} {D : zDr} (h : DrC c D) (p s : Int32) : DrC (zPT c p s) D := ⟨h.1.eq (zPT_o (by decide)) (zPT_o (by decide)) (zPT_o (by decide)) (zPT_o (by decide)), (zPT_1 (by decide) (by decide)).trans h.2.1, (zPT_1 (by decide) (by decide)).trans h.2.2⟩
theorem DrC.enl {c : Nat → Nat → Int32} {D : zDr} (h : DrC c D) (x y z : Nat) : DrC (z_up (z_up (z_up (z_up c 8 (cN D.1) (nI x)) 9 (cN D.1) (nI y)) 10 (cN D.1) (nI z)) 7 3 (nI (cN D.1 + 1))) (zEnl D.1 x y z, D.2) := by
  obtain ⟨⟨h1, h2, h3, h4, h5, h6⟩, h7, h8⟩ := h
  refine ⟨⟨up_s _ _ _ _, ?_, ?_, fun i hi => ?_, fun i hi => ?_, fun i hi => ?_⟩, ?_, ?_⟩
  · rw [up_j _ (by decide), up_k (by decide), up_k (by decide), up_k (by decide)]; exact h2
  · rw [up_j _ (by decide), up_k (by decide), up_k (by decide), up_k (by decide)]; exact h3
  · show z_up _ 7 3 _ 8 i = nI (if i = cN D.1 then x else cW D.1 i)
    have hi' : i < cN D.1 + 1 := hi
    rw [up_k (by decide), up_k (by decide), up_k (by decide)]
    by_cases e : i = cN D.1
    · rw [if_pos e, e, up_s]
    · rw [if_neg e, up_j _ e]; exact h4 i (by omega)
  · show z_up _ 7 3 _ 9 i = nI (if i = cN D.1 then y else cC D.1 i)
    have hi' : i < cN D.1 + 1 := hi
    rw [up_k (by decide), up_k (by decide)]
    by_cases e : i = cN D.1
    · rw [if_pos e, e, up_s]
    · rw [if_neg e, up_j _ e, up_k (by decide)]; exact h5 i (by omega)
  · show z_up _ 7 3 _ 10 i = nI (if i = cN D.1 then z else cT D.1 i)
    have hi' : i < cN D.1 + 1 := hi
    rw [up_k (by decide)]
    by_cases e : i = cN D.1
    · rw [if_pos e, e, up_s]
    · rw [if_neg e, up_j _ e, up_k (by decide), up_k (by decide)]; exact h6 i (by omega)
  · rw [up_k (by decide), up_k (by decide), up_k (by decide), up_k (by decide)]; exact h7
  · rw [up_k (by decide), up_k (by decide), up_k (by decide), up_k (by decide)]; exact h8
theorem zn_m2 : ∀ k, k < 128 → nI k ≠ (-2 : Int32) := by decide
theorem zlsw_d : ∀ k, k < 128 → Op.lookupswitch.offset [(-1, 42), (228, 53), (238, 62), (243, 44)] 71 (nI k).toInt = 71 := by decide +kernel
theorem zSemi_st {f : Nat → Nat} {len p : Nat} {D : zDr} (hp : p ≤ len) : (zSemi f len p D).2.1 ≤ len := by
  have h1 := zTok_pos f hp
  show (zTok f len p).1 ≤ len
  omega
theorem zIt_st {f : Nat → Nat} {len p : Nat} {D : zDr} (hp : p ≤ len) : (zIt f len p D).2.1 ≤ len := by
  have p0 := zTok_pos f hp
  have p1 := zTok_pos f p0.2.2.1
  have p2 := zTok_pos f p1.2.2.1
  have p3 := zTok_pos f p2.2.2.1
  unfold zIt zSail zDip zSea
  split
  · split
    · show (zTok f len p).1 ≤ len; omega
    · split
      · split
        · split
          · exact zSemi_st p3.2.2.1
          · show (zTok f len _).1 ≤ len; omega
        · show (zTok f len _).1 ≤ len; omega
      · show (zTok f len _).1 ≤ len; omega
  · split
    · split
      · show (zTok f len p).1 ≤ len; omega
      · split
        · exact zSemi_st p1.2.2.1
        · show (zTok f len _).1 ≤ len; omega
    · split
      · split
        · show (zTok f len p).1 ≤ len; omega
        · split
          · exact zSemi_st p1.2.2.1
          · show (zTok f len _).1 ≤ len; omega
      · show (zTok f len p).1 ≤ len; omega
theorem zRun_ok {f : Nat → Nat} {len : Nat} (hl : len ≤ 200) : ∀ (n p it : Nat) (D : zDr), p ≤ len → 2 * it ≤ p → OkD D → (zRun f len n p it D).2.1 ≤ 200 ∧ OkD (zRun f len n p it D).2.2
  | 0, _, _, D, _, _, h => ⟨Nat.zero_le _, h⟩
  | n + 1, p, it, D, hp, hi, hD => by
    unfold zRun
    split
    · exact ⟨by show it ≤ 200; omega, hD⟩
    · split
      · next h =>
        obtain ⟨h1, h2, h3⟩ := zIt_ok hp hD h
        exact zRun_ok hl n _ _ _ h2 (by omega) h3
      · exact ⟨by have := zIt_st (f := f) (D := D) hp; show (zIt f len p D).2.1 ≤ 200; omega, hD⟩
