/-! what every call keeps of the value, second part -/
theorem OkS.keep {S : zAb} (h : OkS S) (x : Int32) : OkS (a_keep S x).2 := by
  unfold a_keep
  split
  · exact h
  · next j hz =>
    refine ⟨h.1, h.2.1, h.2.2.1, h.2.2.2.1, ?_, h.2.2.2.2.2.1, h.2.2.2.2.2.2⟩
    show OkI _ _ (zKp S.2.2.2.1 S.2.1 j)
    unfold zKp
    split
    · exact ⟨fun M hM => by cases hM; exact h.2.1, h.2.2.2.2.1.2⟩
    · exact ⟨h.2.2.2.2.1.1, fun M hM => by cases hM; exact h.2.1⟩
theorem OkS.back {S : zAb} (h : OkS S) (x : Int32) : OkS (a_back S x).2 := by
  unfold a_back
  split
  · exact h
  · next j hz =>
    split
    · exact h
    · next Y hY =>
      refine ⟨h.1, ?_, fun M hM => (by cases hM), Nat.zero_le _, h.2.2.2.2.1, h.2.2.2.2.2.1, h.2.2.2.2.2.2⟩
      unfold zGt at hY
      split at hY
      · exact h.2.2.2.2.1.1 Y hY
      · exact h.2.2.2.2.1.2 Y hY
theorem OkS.rate {S : zAb} (h : OkS S) (k s : Int32) : OkS (a_rate S k s).2 := by
  unfold a_rate
  split
  · exact h
  · exact h
theorem OkS.crew {S : zAb} (h : OkS S) : OkS (a_crew S).2 := by
  unfold a_crew
  split
  · have hb2 := zRun_ok (f := S.2.2.2.2.1.2) h.2.2.2.2.2.1 201 0 0 zD0 (Nat.zero_le _) (Nat.le_refl _) OkD0
    refine ⟨hb2.2, ⟨Nat.zero_le _, zs_pos _, fun k s _ e => (by cases e), fun k j s _ _ e => (by cases e), fun k _ => Nat.zero_le _, fun k _ _ => rfl⟩, fun M hM => (by cases hM), Nat.zero_le _, ⟨fun M hM => (by cases hM), fun M hM => (by cases hM)⟩, Nat.zero_le _, fun i hi => absurd hi (Nat.not_lt_zero i)⟩
  · exact h
theorem OkS.scrape {S : zAb} (h : OkS S) (k : Int32) : OkS (a_scrape S k).2 := by
  unfold a_scrape
  split
  · exact h
  · next j hz =>
    split
    · exact h
    · next i hi =>
      obtain ⟨h1, h2, h3, h4, h5, h6⟩ := h.2.1
      refine h.go ⟨h1, h2, fun k s hk e => ?_, fun k q s hk hq e1 e2 => ?_, fun k hk => ?_, fun k hk e => ?_⟩
      · have e : (if k = j then none else mW S.2.1 k) = some s := e
        split at e
        · cases e
        · exact h3 k s hk e
      · have e1 : (if k = j then none else mW S.2.1 k) = some s := e1
        have e2 : (if q = j then none else mW S.2.1 q) = some s := e2
        split at e1
        · cases e1
        · split at e2
          · cases e2
          · exact h4 k q s hk hq e1 e2
      · show (if k = j then 0 else mI S.2.1 k) ≤ 4
        split
        · omega
        · exact h5 k hk
      · have e : (if k = j then none else mW S.2.1 k) = none := e
        show (if k = j then 0 else mI S.2.1 k) = 0
        split
        · rfl
        · next hk2 => rw [if_neg hk2] at e; exact h6 k hk e
