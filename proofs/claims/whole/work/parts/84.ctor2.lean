/-! constructors: the past, the ring, the reference -/
def zX (i : Nat) : zS := .inl (2, 10, fun j => if j < i then some (16 + 3 * j) else none)
theorem zX_0 : (.inl (2, 10, fun _ => none) : zS) = zX 0 := congrArg (fun f => (.inl (2, 10, f) : zS)) (funext fun j => (if_neg (Nat.not_lt_zero j)).symm)
theorem zX_s (i : Nat) : (.inl (2, 10, fun b => if b = i then some (16 + 3 * i) else if b < i then some (16 + 3 * b) else none) : zS) = zX (i + 1) := congrArg (fun f => (.inl (2, 10, f) : zS)) (funext fun b => by
  by_cases h : b = i
  · subst h; rw [if_pos rfl, if_pos (Nat.lt_succ_self b)]
  · rw [if_neg h]
    by_cases h2 : b < i
    · rw [if_pos h2, if_pos (by omega)]
    · rw [if_neg h2, if_neg (by omega)])
set_option maxRecDepth 100000 in
set_option maxHeartbeats 4000000 in
theorem k_past {Γ : zG} {σ : Nat → zS} {c : Nat → Nat → Int32} {t : Nat → Int64} (hσ : ∀ k, 14 ≤ k → k < 46 → σ k = sF k) : Sp Γ 2 mX3_init [.ref 14] 31 210 (14 + 1, z_upS σ 14 (.inr (3, [.inr none, .inl 0, .inl 0])), c, t) (z_pv fun w => ∃ c' t', w = (46, σ, c', t') ∧ (∀ a, a ≤ 14 → c' a = c a) ∧ ∀ a, a ≤ 14 → t' a = t a) := by
  refine Sp.of (own := RX3) 1 true rfl (by decide +kernel) rfl rfl (fun _ => rfl) (fun K hKd M => ?_)
  have C := M.1
  show GG Γ K 31 210 (14 + 1, z_upS σ 14 (.inr (3, [.inr none, .inl 0, .inl 0])), c, t) 0 [some (.ref 14), none] []
  have h14 : σ 14 = .inr (3, [.inr (some 15), .inl 0, .inl 0]) := hσ 14 (by decide) (by decide)
  have h15 : σ 15 = zX 10 := hσ 15 (by decide) (by decide)
  have H15 : ∀ (n i : Nat) (c' : Nat → Nat → Int32) (t' : Nat → Int64), i ≤ 10 → 10 - i < n → (∀ a, a ≤ 14 → c' a = c a) → (∀ a, a ≤ 14 → t' a = t a) → GG Γ K (3 * (10 - i)) (20 * (10 - i)) (16 + 3 * i, z_upS σ 15 (zX i), c', t') 15 [some (.ref 14), some (.int (nI i))] [] := by
    intro n
    induction n with
    | zero => intro i c' t' hi hm; exact absurd hm (by omega)
    | succ n ih =>
      intro i c' t' hi hm hc ht
      refine g_iload1 C dX3_init_15 ?_
      refine g_aload0 C dX3_init_16 ?_
      refine g_getRT C dX3_init_17 flX3_11 (by omega) ((uS_k (by decide)).trans h14) rfl (by decide) ?_
      refine g_alen C dX3_init_20 (by omega) (uS_s _ _ _) ?_
      refine g_icmp_geN C 43 (by omega) (by decide) dX3_init_21 (by decide) (fun h21 => ?_) (fun h21 => ?_)
      · have : i = 10 := by omega
        subst this
        refine g_shape σ (fun k _ => uS_e h15) ?_
        exact g_retv M dX3_init_43 ⟨_, _, rfl, hc, ht⟩
      · have hi10 : i < 10 := by omega
        have hz := zMo_past i hi10
        refine g_aload0 C dX3_init_24 ?_
        refine g_getRT C dX3_init_25 flX3_11 (by omega) ((uS_k (by decide)).trans h14) rfl (by decide) ?_
        refine g_iload1 C dX3_init_28 ?_
        refine g_new C dX3_init_29 nlX3_9 (by omega) (by omega) (by omega) ?_
        refine g_dup C dX3_init_32 rfl ?_
        refine g_callI0v C dX3_init_33 ilX3_17 (k_moment (n := 16 + 3 * i) (σ := z_upS σ 15 (zX i)) (by omega) ((uS_k (by omega)).trans ((hσ _ (by omega) (by omega)).trans hz.2.1)) ((uS_k (by omega)).trans ((hσ _ (by omega) (by omega)).trans hz.2.2.1)) ((uS_k (by omega)).trans ((hσ _ (by omega) (by omega)).trans hz.2.2.2))) hKd (by decide) rfl (Nat.le_of_ble_eq_true rfl) (by omega) (by omega) (Nat.lt_succ_self _) ?_
        rintro _ ⟨c2, t2, rfl, f1, g1, -, -⟩
        refine g_aast C dX3_init_36 (by omega) (uS_s _ _ _) hi10 (by decide) (by omega) ((uS_k (by omega)).trans ((hσ _ (by omega) (by omega)).trans hz.2.1)) ?_
        refine g_shape (z_upS σ 15 (zX (i + 1))) (fun k _ => (uS_u _ _ _ _ _).trans (congrArg (fun x => z_upS σ 15 x k) (zX_s i))) ?_
        refine g_iinc1N C dX3_init_37 ?_
        refine g_goto C 15 dX3_init_40 (by decide) ?_
        refine g_room (3 * (10 - (i + 1))) (20 * (10 - (i + 1))) (by omega) (by omega) ?_
        rw [show 16 + 3 * i + 3 = 16 + 3 * (i + 1) by omega]
        exact ih (i + 1) c2 t2 (by omega) (by omega) (fun a ha => (f1 a (by omega)).trans ((zr_k (by omega)).trans (hc a ha))) (fun a ha => (g1 a (by omega)).trans ((upL_k (by omega)).trans (ht a ha)))
  refine g_aload0 C dX3_init_0 ?_
  refine g_objInit C dX3_init_1 olX3_3 hKd (by decide) rfl (Nat.le_of_ble_eq_true rfl) ?_
  refine g_aload0 C dX3_init_4 ?_
  refine g_bipush C (nI 10) dX3_init_5 (by decide) ?_
  refine g_anew C dX3_init_7 klX3_9 (by decide) (by decide) (Nat.le_of_ble_eq_true rfl) (Nat.le_of_ble_eq_true rfl) ?_
  refine g_putR C M dX3_init_10 fpX3_11 (by decide) (by decide) ((uS_k (by decide)).trans (uS_s _ _ _)) rfl (fun _ => rfl) (fun _ => rfl) ?_
  refine g_shape (z_upS σ 15 (zX 0)) (fun k _ => (uS_p (by decide)).trans ((uS_e ((uS_k (by decide)).trans h14)).trans (congrArg (fun x => z_upS σ 15 x k) zX_0))) ?_
  refine g_iconst C (nI 0) dX3_init_13 (by decide) ?_
  refine g_istore1 C dX3_init_14 ?_
  exact H15 11 0 _ _ (by decide) (by decide) (fun a ha => zr_k (by omega)) (fun a ha => upL_k (by omega))
def zS0 : zAb := (zD0.1, zY0, [], (none, none), (0, fun _ => 0), 0)
theorem OkS0 : OkS zS0 := ⟨OkD0, ⟨Nat.zero_le _, zs_pos _, fun k s _ e => (by cases e), fun k j s _ _ e => (by cases e), fun k _ => Nat.zero_le _, fun k _ _ => rfl⟩, fun M hM => (by cases hM), Nat.zero_le _, ⟨fun M hM => (by cases hM), fun M hM => (by cases hM)⟩, Nat.zero_le _, fun i hi => absurd hi (Nat.not_lt_zero i)⟩
set_option maxRecDepth 100000 in
set_option maxHeartbeats 4000000 in
theorem k_ring {Γ : zG} {c : Nat → Nat → Int32} {t : Nat → Int64} (hc : c 0 7 = 0) (ht : t 0 = 0) : Sp Γ 3 mX5_init [.ref 0] 55 10626 (0 + 1, z_upS sF 0 (.inr (5, [.inr none, .inr none, .inr none, .inr none, .inr none, .inr none, .inr none, .inl 0, .inr none, .inl 1])), c, t) (z_pv fun w => ∃ c' t', w = (56, sF, c', t') ∧ RepC c' t' zS0) := by
  refine Sp.of (own := RX5) 0 true rfl (by decide +kernel) rfl rfl (fun _ => rfl) (fun K hKd M => ?_)
  have C := M.1
  show GG Γ K 55 10626 (0 + 1, z_upS sF 0 (.inr (5, [.inr none, .inr none, .inr none, .inr none, .inr none, .inr none, .inr none, .inl 0, .inr none, .inl 1])), c, t) 0 [some (.ref 0)] []
  refine g_aload0 C dX5_init_0 ?_
  refine g_objInit C dX5_init_1 olX5_1 hKd (by decide) rfl (Nat.le_of_ble_eq_true rfl) ?_
  refine g_aload0 C dX5_init_4 ?_
  refine g_new C dX5_init_5 nlX5_7 (by decide) (Nat.le_of_ble_eq_true rfl) (Nat.le_of_ble_eq_true rfl) ?_
  refine g_dup C dX5_init_8 rfl ?_
  refine g_callI0v C dX5_init_9 ilX5_9 (k_text (n := 1) (σ := z_upS sF 0 (.inr (5, [.inr none, .inr none, .inr none, .inr none, .inr none, .inr none, .inr none, .inl 0, .inr none, .inl 1]))) (by decide) rfl rfl) hKd (by decide) rfl (Nat.le_of_ble_eq_true rfl) (Nat.le_of_ble_eq_true rfl) (Nat.le_of_ble_eq_true rfl) (Nat.lt_succ_self _) ?_
  rintro _ ⟨c1, t1, rfl, f1, g1⟩
  have e1 : ∀ a, a < 1 → c1 a = c a := fun a ha => (f1 a (by omega)).trans (zr_k (by omega))
  have d1 : ∀ a, a < 1 → t1 a = t a := fun a ha => (g1 a (by omega)).trans (upL_k (by omega))
  have n1 : c1 1 = fun _ => 0 := (f1 1 (by decide)).trans (zr_s _ _ _)
  refine g_putR C M dX5_init_12 fpX5_10 (by decide) (by decide) (uS_s _ _ _) rfl (fun _ => rfl) (fun _ => rfl) ?_
  refine g_shape (z_upS sF 0 (.inr (5, [.inr (some 1), .inr none, .inr none, .inr none, .inr none, .inr none, .inr none, .inl 0, .inr none, .inl 1]))) (fun k _ => uS_u _ _ _ _ _) ?_
  refine g_aload0 C dX5_init_15 ?_
  refine g_new C dX5_init_16 nlX5_16 (by decide) (Nat.le_of_ble_eq_true rfl) (Nat.le_of_ble_eq_true rfl) ?_
  refine g_dup C dX5_init_19 rfl ?_
  refine g_callI0v C dX5_init_20 ilX5_18 (k_crew (n := 3) (σ := z_upS sF 0 (.inr (5, [.inr (some 1), .inr none, .inr none, .inr none, .inr none, .inr none, .inr none, .inl 0, .inr none, .inl 1]))) (by decide) rfl rfl rfl rfl) hKd (by decide) rfl (Nat.le_of_ble_eq_true rfl) (Nat.le_of_ble_eq_true rfl) (Nat.le_of_ble_eq_true rfl) (Nat.lt_succ_self _) ?_
  rintro _ ⟨c2, t2, rfl, f2, g2, x2, y2, z2⟩
  have e2 : ∀ a, a < 3 → c2 a = c1 a := fun a ha => (f2 a (by omega)).trans (zr_k (by omega))
  have d2 : ∀ a, a < 3 → t2 a = t1 a := fun a ha => (g2 a (by omega)).trans (upL_k (by omega))
  refine g_putR C M dX5_init_23 fpX5_19 (by decide) (by decide) (uS_s _ _ _) rfl (fun _ => rfl) (fun _ => rfl) ?_
  refine g_shape (z_upS sF 0 (.inr (5, [.inr (some 1), .inr (some 3), .inr none, .inr none, .inr none, .inr none, .inr none, .inl 0, .inr none, .inl 1]))) (fun k _ => uS_u _ _ _ _ _) ?_
  refine g_aload0 C dX5_init_26 ?_
  refine g_new C dX5_init_27 nlX5_16 (by decide) (Nat.le_of_ble_eq_true rfl) (Nat.le_of_ble_eq_true rfl) ?_
  refine g_dup C dX5_init_30 rfl ?_
  refine g_callI0v C dX5_init_31 ilX5_18 (k_crew (n := 7) (σ := z_upS sF 0 (.inr (5, [.inr (some 1), .inr (some 3), .inr none, .inr none, .inr none, .inr none, .inr none, .inl 0, .inr none, .inl 1]))) (by decide) rfl rfl rfl rfl) hKd (by decide) rfl (Nat.le_of_ble_eq_true rfl) (Nat.le_of_ble_eq_true rfl) (Nat.le_of_ble_eq_true rfl) (Nat.lt_succ_self _) ?_
  rintro _ ⟨c3, t3, rfl, f3, g3, x3, y3, z3⟩
  have e3 : ∀ a, a < 7 → c3 a = c2 a := fun a ha => (f3 a (by omega)).trans (zr_k (by omega))
  have d3 : ∀ a, a < 7 → t3 a = t2 a := fun a ha => (g3 a (by omega)).trans (upL_k (by omega))
  refine g_putR C M dX5_init_34 fpX5_23 (by decide) (by decide) (uS_s _ _ _) rfl (fun _ => rfl) (fun _ => rfl) ?_
  refine g_shape (z_upS sF 0 (.inr (5, [.inr (some 1), .inr (some 3), .inr (some 7), .inr none, .inr none, .inr none, .inr none, .inl 0, .inr none, .inl 1]))) (fun k _ => uS_u _ _ _ _ _) ?_
  refine g_aload0 C dX5_init_37 ?_
  refine g_new C dX5_init_38 nlX5_26 (by decide) (Nat.le_of_ble_eq_true rfl) (Nat.le_of_ble_eq_true rfl) ?_
  refine g_dup C dX5_init_41 rfl ?_
  refine g_callI0v C dX5_init_42 ilX5_28 (k_moment (n := 11) (σ := z_upS sF 0 (.inr (5, [.inr (some 1), .inr (some 3), .inr (some 7), .inr none, .inr none, .inr none, .inr none, .inl 0, .inr none, .inl 1]))) (by decide) rfl rfl rfl) hKd (by decide) rfl (Nat.le_of_ble_eq_true rfl) (Nat.le_of_ble_eq_true rfl) (Nat.le_of_ble_eq_true rfl) (Nat.lt_succ_self _) ?_
  rintro _ ⟨c4, t4, rfl, f4, g4, x4, y4⟩
  have e4 : ∀ a, a < 11 → c4 a = c3 a := fun a ha => (f4 a (by omega)).trans (zr_k (by omega))
  have d4 : ∀ a, a < 11 → t4 a = t3 a := fun a ha => (g4 a (by omega)).trans (upL_k (by omega))
  have n4 : c4 11 = fun _ => 0 := (f4 11 (by decide)).trans (zr_s _ _ _)
  refine g_putR C M dX5_init_45 fpX5_29 (by decide) (by decide) (uS_s _ _ _) rfl (fun _ => rfl) (fun _ => rfl) ?_
  refine g_shape (z_upS sF 0 (.inr (5, [.inr (some 1), .inr (some 3), .inr (some 7), .inr (some 11), .inr none, .inr none, .inr none, .inl 0, .inr none, .inl 1]))) (fun k _ => uS_u _ _ _ _ _) ?_
  refine g_aload0 C dX5_init_48 ?_
  refine g_new C dX5_init_49 nlX5_33 (by decide) (Nat.le_of_ble_eq_true rfl) (Nat.le_of_ble_eq_true rfl) ?_
  refine g_dup C dX5_init_52 rfl ?_
  refine g_callI0v C dX5_init_53 ilX5_35 (k_past (σ := z_upS sF 0 (.inr (5, [.inr (some 1), .inr (some 3), .inr (some 7), .inr (some 11), .inr none, .inr none, .inr none, .inl 0, .inr none, .inl 1]))) (fun k h1 _ => uS_k (by omega))) hKd (by decide) rfl (Nat.le_of_ble_eq_true rfl) (Nat.le_of_ble_eq_true rfl) (Nat.le_of_ble_eq_true rfl) (Nat.lt_succ_self _) ?_
  rintro _ ⟨c5, t5, rfl, f5, g5⟩
  have e5 : ∀ a, a < 14 → c5 a = c4 a := fun a ha => (f5 a (by omega)).trans (zr_k (by omega))
  have d5 : ∀ a, a < 14 → t5 a = t4 a := fun a ha => (g5 a (by omega)).trans (upL_k (by omega))
  have n5 : c5 14 = fun _ => 0 := (f5 14 (by decide)).trans (zr_s _ _ _)
  refine g_putR C M dX5_init_56 fpX5_36 (by decide) (by decide) (uS_s _ _ _) rfl (fun _ => rfl) (fun _ => rfl) ?_
  refine g_shape (z_upS sF 0 (.inr (5, [.inr (some 1), .inr (some 3), .inr (some 7), .inr (some 11), .inr (some 14), .inr none, .inr none, .inl 0, .inr none, .inl 1]))) (fun k _ => uS_u _ _ _ _ _) ?_
  refine g_aload0 C dX5_init_59 ?_
  refine g_new C dX5_init_60 nlX5_26 (by decide) (Nat.le_of_ble_eq_true rfl) (Nat.le_of_ble_eq_true rfl) ?_
  refine g_dup C dX5_init_63 rfl ?_
  refine g_callI0v C dX5_init_64 ilX5_28 (k_moment (n := 46) (σ := z_upS sF 0 (.inr (5, [.inr (some 1), .inr (some 3), .inr (some 7), .inr (some 11), .inr (some 14), .inr none, .inr none, .inl 0, .inr none, .inl 1]))) (by decide) rfl rfl rfl) hKd (by decide) rfl (Nat.le_of_ble_eq_true rfl) (Nat.le_of_ble_eq_true rfl) (Nat.le_of_ble_eq_true rfl) (Nat.lt_succ_self _) ?_
  rintro _ ⟨c6, t6, rfl, f6, g6, x6, y6⟩
  have e6 : ∀ a, a < 46 → c6 a = c5 a := fun a ha => (f6 a (by omega)).trans (zr_k (by omega))
  have d6 : ∀ a, a < 46 → t6 a = t5 a := fun a ha => (g6 a (by omega)).trans (upL_k (by omega))
  have n6 : c6 46 = fun _ => 0 := (f6 46 (by decide)).trans (zr_s _ _ _)
  refine g_putR C M dX5_init_67 fpX5_40 (by decide) (by decide) (uS_s _ _ _) rfl (fun _ => rfl) (fun _ => rfl) ?_
  refine g_shape (z_upS sF 0 (.inr (5, [.inr (some 1), .inr (some 3), .inr (some 7), .inr (some 11), .inr (some 14), .inr (some 46), .inr none, .inl 0, .inr none, .inl 1]))) (fun k _ => uS_u _ _ _ _ _) ?_
  refine g_aload0 C dX5_init_70 ?_
  refine g_new C dX5_init_71 nlX5_26 (by decide) (Nat.le_of_ble_eq_true rfl) (Nat.le_of_ble_eq_true rfl) ?_
  refine g_dup C dX5_init_74 rfl ?_
  refine g_callI0v C dX5_init_75 ilX5_28 (k_moment (n := 49) (σ := z_upS sF 0 (.inr (5, [.inr (some 1), .inr (some 3), .inr (some 7), .inr (some 11), .inr (some 14), .inr (some 46), .inr none, .inl 0, .inr none, .inl 1]))) (by decide) rfl rfl rfl) hKd (by decide) rfl (Nat.le_of_ble_eq_true rfl) (Nat.le_of_ble_eq_true rfl) (Nat.le_of_ble_eq_true rfl) (Nat.lt_succ_self _) ?_
  rintro _ ⟨c7, t7, rfl, f7, g7, x7, y7⟩
  have e7 : ∀ a, a < 49 → c7 a = c6 a := fun a ha => (f7 a (by omega)).trans (zr_k (by omega))
  have d7 : ∀ a, a < 49 → t7 a = t6 a := fun a ha => (g7 a (by omega)).trans (upL_k (by omega))
  have n7 : c7 49 = fun _ => 0 := (f7 49 (by decide)).trans (zr_s _ _ _)
  refine g_putR C M dX5_init_78 fpX5_43 (by decide) (by decide) (uS_s _ _ _) rfl (fun _ => rfl) (fun _ => rfl) ?_
  refine g_shape (z_upS sF 0 (.inr (5, [.inr (some 1), .inr (some 3), .inr (some 7), .inr (some 11), .inr (some 14), .inr (some 46), .inr (some 49), .inl 0, .inr none, .inl 1]))) (fun k _ => uS_u _ _ _ _ _) ?_
  refine g_aload0 C dX5_init_81 ?_
  refine g_new C dX5_init_82 nlX5_46 (by decide) (Nat.le_of_ble_eq_true rfl) (Nat.le_of_ble_eq_true rfl) ?_
  refine g_dup C dX5_init_85 rfl ?_
  refine g_callI0v C dX5_init_86 ilX5_48 (k_orders (n := 52) (σ := z_upS sF 0 (.inr (5, [.inr (some 1), .inr (some 3), .inr (some 7), .inr (some 11), .inr (some 14), .inr (some 46), .inr (some 49), .inl 0, .inr none, .inl 1]))) (by decide) rfl rfl rfl rfl) hKd (by decide) rfl (Nat.le_of_ble_eq_true rfl) (Nat.le_of_ble_eq_true rfl) (Nat.le_of_ble_eq_true rfl) (Nat.lt_succ_self _) ?_
  rintro _ ⟨c8, t8, rfl, f8, g8⟩
  have e8 : ∀ a, a < 52 → c8 a = c7 a := fun a ha => (f8 a (by omega)).trans (zr_k (by omega))
  have d8 : ∀ a, a < 52 → t8 a = t7 a := fun a ha => (g8 a (by omega)).trans (upL_k (by omega))
  refine g_putR C M dX5_init_89 fpX5_49 (by decide) (by decide) (uS_s _ _ _) rfl (fun _ => rfl) (fun _ => rfl) ?_
  refine g_shape (z_upS sF 0 (.inr (5, [.inr (some 1), .inr (some 3), .inr (some 7), .inr (some 11), .inr (some 14), .inr (some 46), .inr (some 49), .inl 0, .inr (some 52), .inl 1]))) (fun k _ => uS_u _ _ _ _ _) ?_
  refine g_shape sF (fun k _ => uS_e rfl) ?_
  have q0 : c8 0 = c 0 := ((e8 0 (by decide)).trans ((e7 0 (by decide)).trans ((e6 0 (by decide)).trans ((e5 0 (by decide)).trans ((e4 0 (by decide)).trans ((e3 0 (by decide)).trans ((e2 0 (by decide)).trans ((e1 0 (by decide))))))))))
  have q1 : c8 1 = c1 1 := ((e8 1 (by decide)).trans ((e7 1 (by decide)).trans ((e6 1 (by decide)).trans ((e5 1 (by decide)).trans ((e4 1 (by decide)).trans ((e3 1 (by decide)).trans ((e2 1 (by decide)))))))))
  have q3 : c8 3 = c2 3 := ((e8 3 (by decide)).trans ((e7 3 (by decide)).trans ((e6 3 (by decide)).trans ((e5 3 (by decide)).trans ((e4 3 (by decide)).trans ((e3 3 (by decide))))))))
  have q11 : c8 11 = c4 11 := ((e8 11 (by decide)).trans ((e7 11 (by decide)).trans ((e6 11 (by decide)).trans ((e5 11 (by decide))))))
  have q12 : c8 12 = c4 12 := ((e8 12 (by decide)).trans ((e7 12 (by decide)).trans ((e6 12 (by decide)).trans ((e5 12 (by decide))))))
  have q13 : c8 13 = c4 13 := ((e8 13 (by decide)).trans ((e7 13 (by decide)).trans ((e6 13 (by decide)).trans ((e5 13 (by decide))))))
  have q14 : c8 14 = c5 14 := ((e8 14 (by decide)).trans ((e7 14 (by decide)).trans ((e6 14 (by decide)))))
  have r0 : t8 0 = t 0 := ((d8 0 (by decide)).trans ((d7 0 (by decide)).trans ((d6 0 (by decide)).trans ((d5 0 (by decide)).trans ((d4 0 (by decide)).trans ((d3 0 (by decide)).trans ((d2 0 (by decide)).trans ((d1 0 (by decide))))))))))
  exact g_retv M dX5_init_92 ⟨c8, t8, rfl, ⟨by rw [q3, x2, zr_s]; rfl, by rw [q3]; exact y2, by rw [q3]; exact z2, fun i h => absurd h (Nat.not_lt_zero i), fun i h => absurd h (Nat.not_lt_zero i), fun i h => absurd h (Nat.not_lt_zero i)⟩, ⟨by rw [q11, n4]; rfl, by rw [q11, n4]; rfl, fun k hk => by rw [q12]; exact x4 k hk, fun k hk => by rw [q13]; exact y4 k⟩, ⟨0, by decide, by rw [q14, n5]; rfl, by rw [q14, n5]; rfl, fun i M h => by cases h⟩, ⟨by rw [q0, hc]; rfl, fun M h => (by cases h), fun M h => (by cases h)⟩, ⟨by rw [q1, n1]; rfl, fun i h => absurd h (Nat.not_lt_zero i)⟩, r0.trans ht⟩
theorem zRun_0 : zRun (fun _ => 0) 0 201 0 0 zD0 = (true, 0, zD0) := if_pos (by decide)
set_option maxRecDepth 100000 in
set_option maxHeartbeats 4000000 in
theorem k_model {Γ : zG} {c : Nat → Nat → Int32} {t : Nat → Int64} (hc : c 56 2 = 0) (ht : t 56 = 0) : Sp Γ 7 mX6_init [.ref 56] 11 38312 (56 + 1, z_upS sF 56 (.inr (6, [.inl 1, .inr none, .inl 0, .inr none, .inr none, .inr none, .inr none, .inl 0, .inr none, .inr none, .inl 0, .inl 0, .inl 0, .inl 0, .inr none, .inl 0, .inr none, .inr none, .inr none])), c, t) (z_pv fun w => ∃ c' t', w = wF c' t' ∧ RepM c' t' zS0 ∧ (∀ a, a < 56 → c' a = c a) ∧ ∀ a, a < 56 → t' a = t a) := by
  refine Sp.of (own := RX6) 0 true rfl (by decide +kernel) rfl rfl (fun _ => rfl) (fun K hKd M => ?_)
  have C := M.1
  show GG Γ K 11 38312 (56 + 1, z_upS sF 56 (.inr (6, [.inl 1, .inr none, .inl 0, .inr none, .inr none, .inr none, .inr none, .inl 0, .inr none, .inr none, .inl 0, .inl 0, .inl 0, .inl 0, .inr none, .inl 0, .inr none, .inr none, .inr none])), c, t) 0 [some (.ref 56)] []
  refine g_aload0 C dX6_init_0 ?_
  refine g_objInit C dX6_init_1 olX6_1 hKd (by decide) rfl (Nat.le_of_ble_eq_true rfl) ?_
  refine g_aload0 C dX6_init_4 ?_
  refine g_sipush C (nI 200) dX6_init_5 (by decide) ?_
  refine z_newA C 0 (Or.inl ⟨rfl, rfl⟩) dX6_init_8 ka_int (by decide) (by decide) (Nat.le_of_ble_eq_true rfl) (Nat.le_of_ble_eq_true rfl) ?_
  refine g_putR C M dX6_init_10 fpX6_7 (by decide) (by decide) ((uS_k (by decide)).trans (uS_s _ _ _)) rfl (fun _ => rfl) (fun _ => rfl) ?_
  refine g_shape (z_upS sF 56 (.inr (6, [.inl 1, .inr (some 57), .inl 0, .inr none, .inr none, .inr none, .inr none, .inl 0, .inr none, .inr none, .inl 0, .inl 0, .inl 0, .inl 0, .inr none, .inl 0, .inr none, .inr none, .inr none]))) (fun k _ => (uS_p (by decide)).trans (uS_q rfl)) ?_
  refine g_aload0 C dX6_init_13 ?_
  refine g_bipush C (nI 26) dX6_init_14 (by decide) ?_
  refine z_newA C 0 (Or.inl ⟨rfl, rfl⟩) dX6_init_16 ka_int (by decide) (by decide) (Nat.le_of_ble_eq_true rfl) (Nat.le_of_ble_eq_true rfl) ?_
  refine g_putR C M dX6_init_18 fpX6_13 (by decide) (by decide) ((uS_k (by decide)).trans (uS_s _ _ _)) rfl (fun _ => rfl) (fun _ => rfl) ?_
  refine g_shape (z_upS sF 56 (.inr (6, [.inl 1, .inr (some 57), .inl 0, .inr (some 58), .inr none, .inr none, .inr none, .inl 0, .inr none, .inr none, .inl 0, .inl 0, .inl 0, .inl 0, .inr none, .inl 0, .inr none, .inr none, .inr none]))) (fun k _ => (uS_p (by decide)).trans (uS_q rfl)) ?_
  refine g_aload0 C dX6_init_21 ?_
  refine g_bipush C (nI 26) dX6_init_22 (by decide) ?_
  refine z_newA C 0 (Or.inl ⟨rfl, rfl⟩) dX6_init_24 ka_int (by decide) (by decide) (Nat.le_of_ble_eq_true rfl) (Nat.le_of_ble_eq_true rfl) ?_
  refine g_putR C M dX6_init_26 fpX6_16 (by decide) (by decide) ((uS_k (by decide)).trans (uS_s _ _ _)) rfl (fun _ => rfl) (fun _ => rfl) ?_
  refine g_shape (z_upS sF 56 (.inr (6, [.inl 1, .inr (some 57), .inl 0, .inr (some 58), .inr (some 59), .inr none, .inr none, .inl 0, .inr none, .inr none, .inl 0, .inl 0, .inl 0, .inl 0, .inr none, .inl 0, .inr none, .inr none, .inr none]))) (fun k _ => (uS_p (by decide)).trans (uS_q rfl)) ?_
  refine g_aload0 C dX6_init_29 ?_
  refine g_bipush C (nI 18) dX6_init_30 (by decide) ?_
  refine z_newA C 0 (Or.inl ⟨rfl, rfl⟩) dX6_init_32 ka_int (by decide) (by decide) (Nat.le_of_ble_eq_true rfl) (Nat.le_of_ble_eq_true rfl) ?_
  refine g_putR C M dX6_init_34 fpX6_19 (by decide) (by decide) ((uS_k (by decide)).trans (uS_s _ _ _)) rfl (fun _ => rfl) (fun _ => rfl) ?_
  refine g_shape (z_upS sF 56 (.inr (6, [.inl 1, .inr (some 57), .inl 0, .inr (some 58), .inr (some 59), .inr (some 60), .inr none, .inl 0, .inr none, .inr none, .inl 0, .inl 0, .inl 0, .inl 0, .inr none, .inl 0, .inr none, .inr none, .inr none]))) (fun k _ => (uS_p (by decide)).trans (uS_q rfl)) ?_
  refine g_aload0 C dX6_init_37 ?_
  refine g_sipush C (nI 180) dX6_init_38 (by decide) ?_
  refine z_newA C 0 (Or.inl ⟨rfl, rfl⟩) dX6_init_41 ka_int (by decide) (by decide) (Nat.le_of_ble_eq_true rfl) (Nat.le_of_ble_eq_true rfl) ?_
  refine g_putR C M dX6_init_43 fpX6_22 (by decide) (by decide) ((uS_k (by decide)).trans (uS_s _ _ _)) rfl (fun _ => rfl) (fun _ => rfl) ?_
  refine g_shape (z_upS sF 56 (.inr (6, [.inl 1, .inr (some 57), .inl 0, .inr (some 58), .inr (some 59), .inr (some 60), .inr (some 61), .inl 0, .inr none, .inr none, .inl 0, .inl 0, .inl 0, .inl 0, .inr none, .inl 0, .inr none, .inr none, .inr none]))) (fun k _ => (uS_p (by decide)).trans (uS_q rfl)) ?_
  refine g_aload0 C dX6_init_46 ?_
  refine g_bipush C (nI 36) dX6_init_47 (by decide) ?_
  refine z_newA C 0 (Or.inl ⟨rfl, rfl⟩) dX6_init_49 ka_int (by decide) (by decide) (Nat.le_of_ble_eq_true rfl) (Nat.le_of_ble_eq_true rfl) ?_
  refine g_putR C M dX6_init_51 fpX6_25 (by decide) (by decide) ((uS_k (by decide)).trans (uS_s _ _ _)) rfl (fun _ => rfl) (fun _ => rfl) ?_
  refine g_shape (z_upS sF 56 (.inr (6, [.inl 1, .inr (some 57), .inl 0, .inr (some 58), .inr (some 59), .inr (some 60), .inr (some 61), .inl 0, .inr (some 62), .inr none, .inl 0, .inl 0, .inl 0, .inl 0, .inr none, .inl 0, .inr none, .inr none, .inr none]))) (fun k _ => (uS_p (by decide)).trans (uS_q rfl)) ?_
  refine g_aload0 C dX6_init_54 ?_
  refine g_iconst C (nI 2) dX6_init_55 (by decide) ?_
  refine z_newA C 1 (Or.inr ⟨rfl, rfl⟩) dX6_init_56 ka_boolean (by decide) (by decide) (Nat.le_of_ble_eq_true rfl) (Nat.le_of_ble_eq_true rfl) ?_
  refine g_putR C M dX6_init_58 fpX6_28 (by decide) (by decide) ((uS_k (by decide)).trans (uS_s _ _ _)) rfl (fun _ => rfl) (fun _ => rfl) ?_
  refine g_shape (z_upS sF 56 (.inr (6, [.inl 1, .inr (some 57), .inl 0, .inr (some 58), .inr (some 59), .inr (some 60), .inr (some 61), .inl 0, .inr (some 62), .inr (some 63), .inl 0, .inl 0, .inl 0, .inl 0, .inr none, .inl 0, .inr none, .inr none, .inr none]))) (fun k _ => (uS_p (by decide)).trans (uS_q rfl)) ?_
  refine g_aload0 C dX6_init_61 ?_
  refine g_sipush C (nI 5040) dX6_init_62 (by decide) ?_
  refine z_newA C 0 (Or.inl ⟨rfl, rfl⟩) dX6_init_65 ka_int (by decide) (by decide) (Nat.le_of_ble_eq_true rfl) (Nat.le_of_ble_eq_true rfl) ?_
  refine g_putR C M dX6_init_67 fpX6_32 (by decide) (by decide) ((uS_k (by decide)).trans (uS_s _ _ _)) rfl (fun _ => rfl) (fun _ => rfl) ?_
  refine g_shape (z_upS sF 56 (.inr (6, [.inl 1, .inr (some 57), .inl 0, .inr (some 58), .inr (some 59), .inr (some 60), .inr (some 61), .inl 0, .inr (some 62), .inr (some 63), .inl 0, .inl 0, .inl 0, .inl 0, .inr (some 64), .inl 0, .inr none, .inr none, .inr none]))) (fun k _ => (uS_p (by decide)).trans (uS_q rfl)) ?_
  refine g_aload0 C dX6_init_70 ?_
  refine g_bipush C (nI 8) dX6_init_71 (by decide) ?_
  refine z_newA C 0 (Or.inl ⟨rfl, rfl⟩) dX6_init_73 ka_int (by decide) (by decide) (Nat.le_of_ble_eq_true rfl) (Nat.le_of_ble_eq_true rfl) ?_
  refine g_putR C M dX6_init_75 fpX6_35 (by decide) (by decide) ((uS_k (by decide)).trans (uS_s _ _ _)) rfl (fun _ => rfl) (fun _ => rfl) ?_
  refine g_shape (z_upS sF 56 (.inr (6, [.inl 1, .inr (some 57), .inl 0, .inr (some 58), .inr (some 59), .inr (some 60), .inr (some 61), .inl 0, .inr (some 62), .inr (some 63), .inl 0, .inl 0, .inl 0, .inl 0, .inr (some 64), .inl 0, .inr (some 65), .inr none, .inr none]))) (fun k _ => (uS_p (by decide)).trans (uS_q rfl)) ?_
  refine g_aload0 C dX6_init_78 ?_
  refine g_bipush C (nI 8) dX6_init_79 (by decide) ?_
  refine z_newA C 0 (Or.inl ⟨rfl, rfl⟩) dX6_init_81 ka_int (by decide) (by decide) (Nat.le_of_ble_eq_true rfl) (Nat.le_of_ble_eq_true rfl) ?_
  refine g_putR C M dX6_init_83 fpX6_38 (by decide) (by decide) ((uS_k (by decide)).trans (uS_s _ _ _)) rfl (fun _ => rfl) (fun _ => rfl) ?_
  refine g_shape (z_upS sF 56 (.inr (6, [.inl 1, .inr (some 57), .inl 0, .inr (some 58), .inr (some 59), .inr (some 60), .inr (some 61), .inl 0, .inr (some 62), .inr (some 63), .inl 0, .inl 0, .inl 0, .inl 0, .inr (some 64), .inl 0, .inr (some 65), .inr (some 66), .inr none]))) (fun k _ => (uS_p (by decide)).trans (uS_q rfl)) ?_
  refine g_aload0 C dX6_init_86 ?_
  refine g_ldc C (nI 32768) dX6_init_87 kkX6_41 ?_
  refine z_newA C 0 (Or.inl ⟨rfl, rfl⟩) dX6_init_89 ka_int (by decide) (by decide) (Nat.le_of_ble_eq_true rfl) (Nat.le_of_ble_eq_true rfl) ?_
  refine g_putR C M dX6_init_91 fpX6_42 (by decide) (by decide) ((uS_k (by decide)).trans (uS_s _ _ _)) rfl (fun _ => rfl) (fun _ => rfl) ?_
  refine g_shape (z_upS sF 56 (.inr (6, [.inl 1, .inr (some 57), .inl 0, .inr (some 58), .inr (some 59), .inr (some 60), .inr (some 61), .inl 0, .inr (some 62), .inr (some 63), .inl 0, .inl 0, .inl 0, .inl 0, .inr (some 64), .inl 0, .inr (some 65), .inr (some 66), .inr (some 67)]))) (fun k _ => (uS_p (by decide)).trans (uS_q rfl)) ?_
  refine g_shape sF (fun k _ => uS_e rfl) ?_
  have hcc : ∀ a, a ≤ 56 → (z_row (z_row (z_row (z_row (z_row (z_row (z_row (z_row (z_row (z_row (z_row c 57 (fun _ => 0)) 58 (fun _ => 0)) 59 (fun _ => 0)) 60 (fun _ => 0)) 61 (fun _ => 0)) 62 (fun _ => 0)) 63 (fun _ => 0)) 64 (fun _ => 0)) 65 (fun _ => 0)) 66 (fun _ => 0)) 67 (fun _ => 0)) a = c a := fun a ha => by rw [zr_k (by omega), zr_k (by omega), zr_k (by omega), zr_k (by omega), zr_k (by omega), zr_k (by omega), zr_k (by omega), zr_k (by omega), zr_k (by omega), zr_k (by omega), zr_k (by omega)]
  have htt : ∀ a, a ≤ 56 → (z_upL (z_upL (z_upL (z_upL (z_upL (z_upL (z_upL (z_upL (z_upL (z_upL (z_upL t 57 0) 58 0) 59 0) 60 0) 61 0) 62 0) 63 0) 64 0) 65 0) 66 0) 67 0) a = t a := fun a ha => by rw [upL_k (by omega), upL_k (by omega), upL_k (by omega), upL_k (by omega), upL_k (by omega), upL_k (by omega), upL_k (by omega), upL_k (by omega), upL_k (by omega), upL_k (by omega), upL_k (by omega)]
  show GG Γ K _ _ (68, sF, (z_row (z_row (z_row (z_row (z_row (z_row (z_row (z_row (z_row (z_row (z_row c 57 (fun _ => 0)) 58 (fun _ => 0)) 59 (fun _ => 0)) 60 (fun _ => 0)) 61 (fun _ => 0)) 62 (fun _ => 0)) 63 (fun _ => 0)) 64 (fun _ => 0)) 65 (fun _ => 0)) 66 (fun _ => 0)) 67 (fun _ => 0)), (z_upL (z_upL (z_upL (z_upL (z_upL (z_upL (z_upL (z_upL (z_upL (z_upL (z_upL t 57 0) 58 0) 59 0) 60 0) 61 0) 62 0) 63 0) 64 0) 65 0) 66 0) 67 0)) 94 _ _
  generalize (z_row (z_row (z_row (z_row (z_row (z_row (z_row (z_row (z_row (z_row (z_row c 57 (fun _ => 0)) 58 (fun _ => 0)) 59 (fun _ => 0)) 60 (fun _ => 0)) 61 (fun _ => 0)) 62 (fun _ => 0)) 63 (fun _ => 0)) 64 (fun _ => 0)) 65 (fun _ => 0)) 66 (fun _ => 0)) 67 (fun _ => 0)) = c0 at hcc ⊢
  generalize (z_upL (z_upL (z_upL (z_upL (z_upL (z_upL (z_upL (z_upL (z_upL (z_upL (z_upL t 57 0) 58 0) 59 0) 60 0) 61 0) 62 0) 63 0) 64 0) 65 0) 66 0) 67 0) = t0 at htt ⊢
  have hX : TmC c0 0 (fun _ => 0) := ⟨by rw [hcc 56 (by decide), hc]; rfl, by decide, fun i h => absurd h (Nat.not_lt_zero i), fun i h => absurd h (Nat.not_lt_zero i)⟩
  refine g_aload0 C dX6_init_94 ?_
  refine g_callV0i C dX6_init_95 vlX6_45 (n_reads hX) hKd (by decide) rfl (Nat.le_of_ble_eq_true rfl) (show 56 < 68 by decide) rfl ?_
  rintro _ _ ⟨c1, rfl, hF1, rfl, hDr, hNo⟩
  rw [zRun_0] at hDr
  have hDr : DrM (c1 59) zD0 0 := hDr rfl
  refine g_pop C dX6_init_98 rfl ?_
  refine g_aload0 C dX6_init_99 ?_
  refine g_callV0v C dX6_init_100 vlX6_49 (n_tells hDr OkD0) hKd (by decide) rfl (Nat.le_of_ble_eq_true rfl) (show 56 < 68 by decide) rfl ?_
  rintro _ ⟨c2, rfl, hTo, h3, hRo, h7, hke, hsa, hs56⟩
  exact g_retv M dX6_init_103 ⟨c2, t0, rfl, ⟨hTo, hRo, ⟨h7, fun i M h => by cases h⟩, fun j hj => ⟨by rw [hke j hj]; rcases (show j = 0 ∨ j = 1 by omega) with rfl | rfl <;> rfl, fun M h => by rcases (show j = 0 ∨ j = 1 by omega) with rfl | rfl <;> cases h⟩, ⟨by rw [hs56 2 (by decide), hF1.2 2 (by decide) (by decide) (by decide) (by decide), hcc 56 (by decide), hc]; rfl, fun i hi => absurd hi (Nat.not_lt_zero i)⟩, (htt 56 (by decide)).trans ht⟩, fun a ha => (hsa a (by omega) (by omega) (by omega) (by omega)).trans ((hF1.1 a (by omega) (by omega)).trans (hcc a (by omega))), fun a ha => htt a (by omega)⟩
