/-! what every call keeps of the value -/
theorem OkS.go {S : zAb} (h : OkS S) {Y : zMm} (hY : OkM (cN S.1) (cS S.1) Y) : OkS (zGo S Y) := ⟨h.1, hY, fun M hM => by
  have hM : M ∈ (S.2.1 :: S.2.2.1).take 10 := hM
  have := List.mem_of_mem_take hM
  cases this with
  | head => exact h.2.1
  | tail _ h2 => exact h.2.2.1 M h2, by show (zRem S.2.1 S.2.2.1).length ≤ 10; unfold zRem; rw [List.length_take]; omega, h.2.2.2.2.1, h.2.2.2.2.2.1, h.2.2.2.2.2.2⟩
theorem OkS.hour {S : zAb} (h : OkS S) : OkS (a_hour S).2 := by
  unfold a_hour
  split
  · next hl => exact h.go ⟨by show mH S.2.1 + 1 ≤ 99; omega, h.2.1.2⟩
  · exact h
theorem OkS.clear {S : zAb} (h : OkS S) : OkS (a_clear S).2 := ⟨h.1, h.2.1, h.2.2.1, h.2.2.2.1, h.2.2.2.2.1, Nat.zero_le _, fun i hi => absurd hi (Nat.not_lt_zero i)⟩
theorem OkS.undo {S : zAb} (h : OkS S) : OkS (a_undo S).2 := by
  unfold a_undo
  split
  · exact h
  · next Y P hP => exact ⟨h.1, h.2.2.1 Y (by rw [hP]; exact List.mem_cons_self ..), fun M hM => h.2.2.1 M (by rw [hP]; exact List.mem_cons_of_mem _ hM), by have := h.2.2.2.1; rw [hP, List.length_cons] at this; show P.length ≤ 10; omega, h.2.2.2.2.1, h.2.2.2.2.2.1, h.2.2.2.2.2.2⟩
theorem OkS.type {S : zAb} (h : OkS S) (x : Int32) : OkS (a_type S x).2 := by
  unfold a_type
  split
  · exact h
  · next a hz =>
    have ha := (zIdx_iff hz).1
    split
    · next hl => exact ⟨h.1, h.2.1, h.2.2.1, h.2.2.2.1, h.2.2.2.2.1, by show S.2.2.2.2.1.1 + 1 ≤ 200; omega, fun i hi => by
        show (if i = S.2.2.2.2.1.1 then a else S.2.2.2.2.1.2 i) ≤ 255
        have hi : i < S.2.2.2.2.1.1 + 1 := hi
        split
        · omega
        · exact h.2.2.2.2.2.2 i (by omega)⟩
    · exact h
