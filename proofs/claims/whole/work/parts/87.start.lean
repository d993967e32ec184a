/-! the law: its start -/
set_option maxRecDepth 100000 in
theorem lw_nest : ∀ q ∈ nestL, Cond.methodLinkNest q.1 q.2.1 q.2.2.1 q.2.2.2 ∈ lw_tbl := by decide +kernel
set_option maxRecDepth 100000 in
theorem lw_over : Cond.arrayOver (.object RX1) ∈ lw_tbl := by decide +kernel
theorem lw_known1 {s : State} {args : Array Value} (htb : ∀ w ∈ tb, w.before args s = true) {own : String} {idx ci N : Nat} {fs : List zF} (h : z_NL own idx ci fs N) {q : vw_C} (hc : vwCl[ci]? = some q) : ∃ (cC : ClassId) (iS : Nat → Nat), u_Kn s q.1 q.2.1 q.2.2 cC iS := by
  obtain ⟨q', hc', hN, -, -, l2, -⟩ := h
  have e : q' = q := Option.some.inj (hc'.symm.trans hc)
  subst e
  exact u_known htb (z_cls hc).1 (htb _ l2)
theorem lw_known {s : State} {args : Array Value} (htb : ∀ w ∈ tb, w.before args s = true) (ci : Nat) (q : vw_C) (hc : vwCl[ci]? = some q) : ∃ (cC : ClassId) (iS : Nat → Nat), u_Kn s q.1 q.2.1 q.2.2 cC iS := by
  match ci, hc with
  | 0, hc => exact lw_known1 htb nlX5_16 hc
  | 1, hc => exact lw_known1 htb nlX5_26 hc
  | 2, hc => exact lw_known1 htb nlX5_46 hc
  | 3, hc => exact lw_known1 htb nlX5_33 hc
  | 4, hc => exact lw_known1 htb nlX5_7 hc
  | 5, hc => exact lw_known1 htb nlL_7 hc
  | 6, hc => exact lw_known1 htb nlL_10 hc
  | k + 7, h => simp [vwCl] at h
theorem lw_world {s : State} {args : Array Value} (hts : ∀ w ∈ lw_tbl, w.before args s = true) : ∃ (dC : Nat → ClassId) (dI : Nat → Nat → Nat) (dA : Nat → ClassId), ∀ (l : Launch) (h b : Nat), z_KK (l, dC, dI, dA, h, b) s := by
  have htb : ∀ w ∈ tb, w.before args s = true := fun w hw => hts w (List.mem_filter.mp hw).1
  obtain ⟨x0, y0, -⟩ := lw_known htb 0 _ rfl
  have h1 : ∀ ci : Nat, ∃ d : ClassId × (Nat → Nat), ∀ q, vwCl[ci]? = some q → u_Kn s q.1 q.2.1 q.2.2 d.1 d.2 := by
    intro ci
    cases hq : vwCl[ci]? with
    | none => exact ⟨(x0, y0), fun q e => by cases e⟩
    | some q =>
      obtain ⟨cC, iS, h⟩ := lw_known htb ci q hq
      exact ⟨(cC, iS), fun q' e => by cases e; exact h⟩
  obtain ⟨f, hf⟩ := Classical.axiomOfChoice h1
  obtain ⟨cI, kI, pI, i1, i2, i3⟩ := Cond.arrayClass_spec (htb _ ka_int)
  obtain ⟨cB, kB, pB, b1, b2, b3⟩ := Cond.arrayClass_spec (htb _ ka_boolean)
  obtain ⟨pO, cO, kO, o1, o2, o3, o4, o5⟩ := Cond.arrayOver_spec (hts _ lw_over)
  refine ⟨fun k => (f k).1, fun k => (f k).2, fun k => if k = 0 then cI else if k = 1 then cB else cO, fun l h b => ⟨⟨fun ci q hc => hf ci q hc, fun k q hk => ?_⟩, va_AO.of (hts _ lw_over), fun q hq => va_Nw.of rfl (hts _ (lw_nest q hq))⟩⟩
  match k, hk with
  | 0, hk => cases hk; exact ⟨fun n z => ⟨fun k h => (by cases h), kI, i2, pI, i3⟩, i1⟩
  | 1, hk => cases hk; exact ⟨fun n z => ⟨fun k h => (by cases h), kB, b2, pB, b3⟩, b1⟩
  | 2, hk => cases hk; exact ⟨fun n z => ⟨fun k h => (by cases h), kO, o3, pO, o4⟩, kO, pO, o3, o4, o1, o5⟩
  | k + 3, hk => simp [z_tys] at hk
set_option maxRecDepth 100000 in
set_option maxHeartbeats 4000000 in
theorem law_entry {Γ : zG} {K : zK} (C : z_C Γ K cL_law RL 4) (hKd : z_d K = 100) {n : Nat} {xs : Nat → Int32} (hX : z_X Γ K n xs) (hn : n ≤ 2048) (hE : ∀ (w : zW) (L : List (Option Value)), GG Γ K 0 0 w 745 L [.int 1]) : GG Γ K 68 48967 (0, sF, fun _ _ => 0, fun _ => 0) 0 [some (.ref 1000), none, none, none] [] := by
  refine g_new C dL_law_0 nlL_7 (by decide) (Nat.le_of_ble_eq_true rfl) (Nat.le_of_ble_eq_true rfl) ?_
  refine g_dup C dL_law_3 rfl ?_
  refine g_callI0v C dL_law_4 ilL_9 (k_ring (by rw [zr_s]) (upL_s _ _ _)) hKd (by decide) rfl (Nat.le_of_ble_eq_true rfl) (Nat.le_of_ble_eq_true rfl) (Nat.le_of_ble_eq_true rfl) (Nat.lt_succ_self _) ?_
  rintro _ ⟨c1, t1, rfl, hC⟩
  refine g_astore1 C dL_law_7 ?_
  refine g_new C dL_law_8 nlL_10 (by decide) (Nat.le_of_ble_eq_true rfl) (Nat.le_of_ble_eq_true rfl) ?_
  refine g_dup C dL_law_11 rfl ?_
  refine g_callI0v C dL_law_12 ilL_12 (k_model (by rw [zr_s]) (upL_s _ _ _)) hKd (by decide) rfl (Nat.le_of_ble_eq_true rfl) (Nat.le_of_ble_eq_true rfl) (Nat.le_of_ble_eq_true rfl) (Nat.lt_succ_self _) ?_
  rintro _ ⟨c2, t2, rfl, hM, f, g⟩
  refine g_astore2 C dL_law_15 ?_
  refine g_iconst C (nI 0) dL_law_16 (by decide) ?_
  refine g_istore3 C dL_law_17 ?_
  refine g_room 0 0 (Nat.zero_le _) (Nat.zero_le _) ?_
  exact law_loop C hKd hX hn hE (n + 1) 0 c2 t2 zS0 (Nat.zero_le _) (by omega) OkS0 (hC.irr (fun a h _ _ => (f a h).trans (zr_k (by omega))) ((g 0 (by decide)).trans (upL_k (by decide)))) hM
