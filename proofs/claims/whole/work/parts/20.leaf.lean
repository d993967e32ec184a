/-! leaves: rows, bits, small numbers -/
set_option maxRecDepth 100000 in
set_option maxHeartbeats 4000000 in
theorem s_at {Γ : zG} {c : Nat → Nat → Int32} {t : Nat → Int64} {k n j : Nat} {x : Int32} {f : Nat → Option Nat} (hk : k < 68) (hs : sF k = .inl (0, n, f)) (hj : j < n) (hn : n < 2 ^ 31) (hx : c k j = x) : Sp Γ 0 mX5_at [.ref k, .int (nI j)] 0 0 (wF c t) (z_pi (fun v w => w = wF c t ∧ v = x)) := by
  refine Sp.of (own := RX5) 0 false rfl (by decide +kernel) rfl rfl (fun h => by cases h) (fun K hKd M => ?_)
  have C := M.1
  show GG Γ K 0 0 (wF c t) 0 [some (.ref k), some (.int (nI j))] []
  refine g_iload1 C dX5_at_0 ?_
  refine g_if_ltN C 16 (by omega) dX5_at_1 (by decide) (fun h => h.elim) (fun _ => ?_)
  refine g_iload1 C dX5_at_4 ?_
  refine g_aload0 C dX5_at_5 ?_
  refine g_alen C dX5_at_6 hk hs ?_
  refine g_icmp_geN C 16 (by omega) (by omega) dX5_at_7 (by decide) (fun h7 => absurd h7 (by omega)) (fun h7 => ?_)
  refine g_aload0 C dX5_at_10 ?_
  refine g_iload1 C dX5_at_11 ?_
  refine g_ialdE C hx (by omega) hn dX5_at_12 hk hs ?_
  refine g_goto C 17 dX5_at_13 (by decide) ?_
  exact g_reti M dX5_at_17 (⟨rfl, rfl⟩)
set_option maxRecDepth 100000 in
set_option maxHeartbeats 4000000 in
theorem s_put {Γ : zG} {c : Nat → Nat → Int32} {t : Nat → Int64} {k n j : Nat} {x : Int32} {f : Nat → Option Nat} (hk : k < 68) (hs : sF k = .inl (0, n, f)) (hj : j < n) (hn : n < 2 ^ 31) : Sp Γ 0 mX5_put [.ref k, .int (nI j), .int x] 0 0 (wF c t) (z_pv (fun w => w = wF (z_up c k j x) t)) := by
  refine Sp.of (own := RX5) 0 false rfl (by decide +kernel) rfl rfl (fun h => by cases h) (fun K hKd M => ?_)
  have C := M.1
  show GG Γ K 0 0 (wF c t) 0 [some (.ref k), some (.int (nI j)), some (.int x)] []
  refine g_iload1 C dX5_put_0 ?_
  refine g_if_ltN C 14 (by omega) dX5_put_1 (by decide) (fun h => h.elim) (fun _ => ?_)
  refine g_iload1 C dX5_put_4 ?_
  refine g_aload0 C dX5_put_5 ?_
  refine g_alen C dX5_put_6 hk hs ?_
  refine g_icmp_geN C 14 (by omega) (by omega) dX5_put_7 (by decide) (fun h7 => absurd h7 (by omega)) (fun h7 => ?_)
  refine g_aload0 C dX5_put_10 ?_
  refine g_iload1 C dX5_put_11 ?_
  refine g_iload2 C dX5_put_12 ?_
  refine g_iastN C (by omega) hn dX5_put_13 hk hs ?_
  exact g_retv M dX5_put_14 (rfl)
set_option maxRecDepth 100000 in
set_option maxHeartbeats 4000000 in
theorem s_has {Γ : zG} {w0 : zW} {a i : Nat} (ha : a < 2 ^ 31) (hi : i < 32) : Sp Γ 0 mX5_has [.int (nI a), .int (nI i)] 0 0 (w0) (z_pi (fun v w => w = w0 ∧ v = nI (a.testBit i).toNat)) := by
  refine Sp.of (own := RX5) 0 false rfl (by decide +kernel) rfl rfl (fun h => by cases h) (fun K hKd M => ?_)
  have C := M.1
  show GG Γ K 0 0 (w0) 0 [some (.int (nI a)), some (.int (nI i))] []
  refine g_iload1 C dX5_has_0 ?_
  refine g_if_ltN C 22 (by omega) dX5_has_1 (by decide) (fun h => h.elim) (fun _ => ?_)
  refine g_iload1 C dX5_has_4 ?_
  refine g_bipush C (nI 32) dX5_has_5 (by decide) ?_
  refine g_icmp_geN C 22 (by omega) (by omega) dX5_has_7 (by decide) (fun h7 => absurd h7 (by omega)) (fun h7 => ?_)
  refine g_iload0 C dX5_has_10 ?_
  refine g_iload1 C dX5_has_11 ?_
  refine g_iushrN C dX5_has_12 (by omega) (by omega) ?_
  refine g_iconst C (nI 1) dX5_has_13 (by decide) ?_
  refine g_iandN C dX5_has_14 ?_
  refine g_top (by rw [zn_bit]) ?_
  refine g_if_eqB C 22 dX5_has_15 (by decide) (fun h15 => ?_) (fun h15 => ?_)
  · -- X5_has 15t
    
    refine g_iconst C (nI 0) dX5_has_22 (by decide) ?_
    exact g_ret0 M dX5_has_23 (⟨rfl, by rw [h15]; rfl⟩)
  · -- X5_has 15f
    
    refine g_iconst C (nI 1) dX5_has_18 (by decide) ?_
    refine g_goto C 23 dX5_has_19 (by decide) ?_
    exact g_ret1 M dX5_has_23 (⟨rfl, by rw [h15]; rfl⟩)
set_option maxRecDepth 100000 in
set_option maxHeartbeats 4000000 in
theorem s_isPart {Γ : zG} {w0 : zW} {x : Int32} : Sp Γ 0 mX5_isPart [.int x] 0 0 (w0) (z_pi (fun v w => w = w0 ∧ v = nI (decide (x = nI 0 ∨ x = nI 1)).toNat)) := by
  refine Sp.of (own := RX5) 0 false rfl (by decide +kernel) rfl rfl (fun h => by cases h) (fun K hKd M => ?_)
  have C := M.1
  show GG Γ K 0 0 (w0) 0 [some (.int x)] []
  refine g_iload0 C dX5_isPart_0 ?_
  refine g_if_eq C 9 dX5_isPart_1 (by decide) (fun h1 => ?_) (fun h1 => ?_)
  · -- X5_isPart 1t
    refine g_iconst C (nI 1) dX5_isPart_9 (by decide) ?_
    refine g_goto C 14 dX5_isPart_10 (by decide) ?_
    exact g_ret1 M dX5_isPart_14 ⟨rfl, by rw [decide_eq_true (Or.inl (show x = nI 0 from h1))]; rfl⟩
  · -- X5_isPart 1f
    refine g_iload0 C dX5_isPart_4 ?_
    refine g_iconst C (nI 1) dX5_isPart_5 (by decide) ?_
    refine g_icmp_ne C 13 dX5_isPart_6 (by decide) (fun h6 => ?_) (fun h6 => ?_)
    · -- X5_isPart 6t
      refine g_iconst C (nI 0) dX5_isPart_13 (by decide) ?_
      exact g_ret0 M dX5_isPart_14 ⟨rfl, by rw [decide_eq_false (by rintro (h | h); exact h1 h; exact h6 h)]; rfl⟩
    · -- X5_isPart 6f
      refine g_iconst C (nI 1) dX5_isPart_9 (by decide) ?_
      refine g_goto C 14 dX5_isPart_10 (by decide) ?_
      exact g_ret1 M dX5_isPart_14 (⟨rfl, by rw [decide_eq_true (Or.inr h6)]; rfl⟩)
set_option maxRecDepth 100000 in
set_option maxHeartbeats 4000000 in
theorem s_bc {Γ : zG} {w0 : zW} {a : Nat} (ha : a < 256) : Sp Γ 0 mJ6_bitCount_0f7a4 [.int (nI a)] 0 0 (w0) (z_pi (fun v w => w = w0 ∧ v = nI (zp8 a))) := by
  refine Sp.of (own := RJ6) 0 false rfl (by decide +kernel) rfl rfl (fun h => by cases h) (fun K hKd M => ?_)
  have C := M.1
  show GG Γ K 0 0 (w0) 0 [some (.int (nI a))] []
  refine g_iload0 C dJ6_bitCount_0f7a4_0 ?_
  refine g_iload0 C dJ6_bitCount_0f7a4_1 ?_
  refine g_iconst C (nI 1) dJ6_bitCount_0f7a4_2 (by decide) ?_
  refine g_iushr C dJ6_bitCount_0f7a4_3 ?_
  refine g_ldcw C _ dJ6_bitCount_0f7a4_4 kkJ6_265 ?_
  refine g_top (show (1431655765 : Int32) = nI 1431655765 by decide) ?_
  refine g_iand C dJ6_bitCount_0f7a4_7 ?_
  refine g_isub C dJ6_bitCount_0f7a4_8 ?_
  refine g_istore0 C dJ6_bitCount_0f7a4_9 ?_
  refine g_iload0 C dJ6_bitCount_0f7a4_10 ?_
  refine g_ldcw C _ dJ6_bitCount_0f7a4_11 kkJ6_266 ?_
  refine g_top (show (858993459 : Int32) = nI 858993459 by decide) ?_
  refine g_iand C dJ6_bitCount_0f7a4_14 ?_
  refine g_iload0 C dJ6_bitCount_0f7a4_15 ?_
  refine g_iconst C (nI 2) dJ6_bitCount_0f7a4_16 (by decide) ?_
  refine g_iushr C dJ6_bitCount_0f7a4_17 ?_
  refine g_ldcw C _ dJ6_bitCount_0f7a4_18 kkJ6_266 ?_
  refine g_top (show (858993459 : Int32) = nI 858993459 by decide) ?_
  refine g_iand C dJ6_bitCount_0f7a4_21 ?_
  refine g_iadd C dJ6_bitCount_0f7a4_22 ?_
  refine g_istore0 C dJ6_bitCount_0f7a4_23 ?_
  refine g_iload0 C dJ6_bitCount_0f7a4_24 ?_
  refine g_iload0 C dJ6_bitCount_0f7a4_25 ?_
  refine g_iconst C (nI 4) dJ6_bitCount_0f7a4_26 (by decide) ?_
  refine g_iushr C dJ6_bitCount_0f7a4_27 ?_
  refine g_iadd C dJ6_bitCount_0f7a4_28 ?_
  refine g_ldcw C _ dJ6_bitCount_0f7a4_29 kkJ6_267 ?_
  refine g_top (show (252645135 : Int32) = nI 252645135 by decide) ?_
  refine g_iand C dJ6_bitCount_0f7a4_32 ?_
  refine g_istore0 C dJ6_bitCount_0f7a4_33 ?_
  refine g_iload0 C dJ6_bitCount_0f7a4_34 ?_
  refine g_iload0 C dJ6_bitCount_0f7a4_35 ?_
  refine g_bipush C (nI 8) dJ6_bitCount_0f7a4_36 (by decide) ?_
  refine g_iushr C dJ6_bitCount_0f7a4_38 ?_
  refine g_iadd C dJ6_bitCount_0f7a4_39 ?_
  refine g_istore0 C dJ6_bitCount_0f7a4_40 ?_
  refine g_iload0 C dJ6_bitCount_0f7a4_41 ?_
  refine g_iload0 C dJ6_bitCount_0f7a4_42 ?_
  refine g_bipush C (nI 16) dJ6_bitCount_0f7a4_43 (by decide) ?_
  refine g_iushr C dJ6_bitCount_0f7a4_45 ?_
  refine g_iadd C dJ6_bitCount_0f7a4_46 ?_
  refine g_istore0 C dJ6_bitCount_0f7a4_47 ?_
  refine g_iload0 C dJ6_bitCount_0f7a4_48 ?_
  refine g_bipush C (nI 63) dJ6_bitCount_0f7a4_49 (by decide) ?_
  refine g_iand C dJ6_bitCount_0f7a4_51 ?_
  exact g_reti M dJ6_bitCount_0f7a4_52 (⟨rfl, z_bc8 a ha⟩)
set_option maxRecDepth 100000 in
set_option maxHeartbeats 4000000 in
theorem s_fill {Γ : zG} {c : Nat → Nat → Int32} {t : Nat → Int64} {k n0 : Nat} {x : Int32} {f : Nat → Option Nat} (hk : k < 68) (hs : sF k = .inl (0, n0, f)) (hn : n0 < 2 ^ 31) : Sp Γ 0 mJ7_fill_53178 [.ref k, .int x] 0 0 (wF c t) (z_pv (fun w => w = wF (z_fill c k n0 x) t)) := by
  refine Sp.of (own := RJ7) 2 false rfl (by decide +kernel) rfl rfl (fun h => by cases h) (fun K hKd M => ?_)
  have C := M.1
  show GG Γ K 0 0 (wF c t) 0 [some (.ref k), some (.int x), none, none] []
  have H5 : ∀ (n : Nat) (i : Nat), i ≤ n0 → n0 - i < n → GG Γ K 0 0 (wF (z_fill c k i x) t) 5 [some (.ref k), some (.int x), some (.int (nI i)), some (.int (nI n0))] [] := by
    intro n
    induction n with
    | zero => intro i hi hm; exact absurd hm (by omega)
    | succ n ih =>
      intro i hi hm
      refine g_iload2 C dJ7_fill_53178_5 ?_
      refine g_iload3 C dJ7_fill_53178_6 ?_
      refine g_icmp_geN C 20 (by omega) (by omega) dJ7_fill_53178_7 (by decide) (fun h7 => ?_) (fun h7 => ?_)
      · -- J7_fill_53178 7t
        have : i = n0 := by omega
        subst this
        exact g_retv M dJ7_fill_53178_20 rfl
      · -- J7_fill_53178 7f
        refine g_aload0 C dJ7_fill_53178_10 ?_
        refine g_iload2 C dJ7_fill_53178_11 ?_
        refine g_iload1 C dJ7_fill_53178_12 ?_
        refine g_iastN C (by omega) hn dJ7_fill_53178_13 hk hs ?_
        refine g_con (z_fill_s c k _ x) rfl ?_
        refine g_iinc2N C dJ7_fill_53178_14 ?_
        refine g_goto C 5 dJ7_fill_53178_17 (by decide) ?_
        exact ih (i + 1) (by omega) (by omega)
  refine g_iconst C (nI 0) dJ7_fill_53178_0 (by decide) ?_
  refine g_istore2 C dJ7_fill_53178_1 ?_
  refine g_aload0 C dJ7_fill_53178_2 ?_
  refine g_alen C dJ7_fill_53178_3 hk hs ?_
  refine g_istore3 C dJ7_fill_53178_4 ?_
  refine g_con (z_fill_0 c k x).symm rfl ?_
  exact H5 (n0 + 1) 0 (by omega) (by omega)
