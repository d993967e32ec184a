/-! the crew -/
set_option maxRecDepth 100000 in
set_option maxHeartbeats 4000000 in
theorem s_all {Γ : zG} {c : Nat → Nat → Int32} {t : Nat → Int64} {A : zCr} (ok : OkA A) (hA : CrC 3 c A)  : Sp Γ 0 mX0_all [.ref 3] 0 0 (wF c t) (z_pi (fun v w => w = wF c t ∧ v = nI (zAll (cN A)))) := by
  refine Sp.of (own := RX0) 0 false rfl (by decide +kernel) rfl rfl (fun h => by cases h) (fun K hKd M => ?_)
  have C := M.1
  show GG Γ K 0 0 (wF c t) 0 [some (.ref 3)] []
  refine g_iconst C (nI 1) dX0_all_0 (by decide) ?_
  refine g_aload0 C dX0_all_1 ?_
  refine g_getIE C hA.1 dX0_all_2 flX0_28 (show 3 < 68 by decide) rfl rfl ?_
  refine g_ishlN C dX0_all_5 (by have := ok.1; omega) ?_
  refine g_iconst C (nI 1) dX0_all_6 (by decide) ?_
  refine g_isubN C dX0_all_7 (zs_pos _) ?_
  exact g_reti M dX0_all_8 (⟨rfl, rfl⟩)
set_option maxRecDepth 100000 in
set_option maxHeartbeats 4000000 in
theorem s_trusted {Γ : zG} {c : Nat → Nat → Int32} {t : Nat → Int64} {A : zCr} (ok : OkA A) (hA : CrC 3 c A) {s : Nat} (hs : s < cN A) : Sp Γ 1 mX0_trusted [.ref 3, .int (nI s)] 0 0 (wF c t) (z_pi (fun v w => w = wF c t ∧ v = nI (zTm A s))) := by
  refine Sp.of (own := RX0) 0 false rfl (by decide +kernel) rfl rfl (fun h => by cases h) (fun K hKd M => ?_)
  have C := M.1
  show GG Γ K 0 0 (wF c t) 0 [some (.ref 3), some (.int (nI s))] []
  refine g_aload0 C dX0_trusted_0 ?_
  refine g_getRT C dX0_trusted_1 flX0_18 (show 3 < 68 by decide) rfl rfl (by decide) ?_
  refine g_iload1 C dX0_trusted_4 ?_
  refine g_callS2i C dX0_trusted_5 slX0_38 (s_at (by decide) rfl (by have := ok.1; omega) (by decide) (hA.2.2.2.2.2 s hs)) hKd (by first | decide | omega) rfl (Nat.le_of_ble_eq_true rfl) ?_
  rintro _ _ ⟨rfl, rfl⟩
  refine g_aload0 C dX0_trusted_8 ?_
  refine g_callV0i C dX0_trusted_9 vlX0_46 (s_all ok hA) hKd (by first | decide | omega) rfl (Nat.le_of_ble_eq_true rfl) (show 3 < 68 by decide) rfl ?_
  rintro _ _ ⟨rfl, rfl⟩
  refine g_iandN C dX0_trusted_12 ?_
  refine g_iconst C (nI 1) dX0_trusted_13 (by decide) ?_
  refine g_iload1 C dX0_trusted_14 ?_
  refine g_ishlN C dX0_trusted_15 (by have := ok.1; omega) ?_
  refine g_iconst C (nI 4294967295) dX0_trusted_16 (by decide) ?_
  refine g_ixorN C dX0_trusted_17 ?_
  refine g_iandN C dX0_trusted_18 ?_
  exact g_reti M dX0_trusted_19 (⟨rfl, rfl⟩)
set_option maxRecDepth 100000 in
set_option maxHeartbeats 4000000 in
theorem s_isOnDeck {Γ : zG} {c : Nat → Nat → Int32} {t : Nat → Int64} {A : zCr} (ok : OkA A) (hA : CrC 3 c A) {s h : Nat} (hs : s < cN A) (hh : h < 2 ^ 31) : Sp Γ 1 mX0_isOnDeck [.ref 3, .int (nI s), .int (nI h)] 0 0 (wF c t) (z_pi (fun v w => w = wF c t ∧ v = nI (decide (h % 3 = cW A s)).toNat)) := by
  refine Sp.of (own := RX0) 0 false rfl (by decide +kernel) rfl rfl (fun h => by cases h) (fun K hKd M => ?_)
  have C := M.1
  show GG Γ K 0 0 (wF c t) 0 [some (.ref 3), some (.int (nI s)), some (.int (nI h))] []
  refine g_iload2 C dX0_isOnDeck_0 ?_
  refine g_iconst C (nI 3) dX0_isOnDeck_1 (by decide) ?_
  refine g_iremN C dX0_isOnDeck_2 (by omega) (by omega) (by omega) ?_
  refine g_aload0 C dX0_isOnDeck_3 ?_
  refine g_getRT C dX0_isOnDeck_4 flX0_9 (show 3 < 68 by decide) rfl rfl (by decide) ?_
  refine g_iload1 C dX0_isOnDeck_7 ?_
  refine g_callS2i C dX0_isOnDeck_8 slX0_38 (s_at (by decide) rfl (by have := ok.1; omega) (by decide) (hA.2.2.2.1 s hs)) hKd (by first | decide | omega) rfl (Nat.le_of_ble_eq_true rfl) ?_
  rintro _ _ ⟨rfl, rfl⟩
  refine g_icmp_neN C 18 (by omega) (by have := ok.2.1 s hs; omega) dX0_isOnDeck_11 (by decide) (fun h11 => ?_) (fun h11 => ?_)
  · -- X0_isOnDeck 11t
    refine g_iconst C (nI 0) dX0_isOnDeck_18 (by decide) ?_
    exact g_ret0 M dX0_isOnDeck_19 (⟨rfl, z_b0 h11⟩)
  · -- X0_isOnDeck 11f
    refine g_iconst C (nI 1) dX0_isOnDeck_14 (by decide) ?_
    refine g_goto C 19 dX0_isOnDeck_15 (by decide) ?_
    exact g_ret1 M dX0_isOnDeck_19 (⟨rfl, z_b1 h11⟩)
set_option maxRecDepth 100000 in
set_option maxHeartbeats 4000000 in
theorem s_dares {Γ : zG} {c : Nat → Nat → Int32} {t : Nat → Int64} {A : zCr} (ok : OkA A) (hA : CrC 3 c A) {s m : Nat} (hs : s < cN A) (hm : m < 128) : Sp Γ 2 mX0_dares [.ref 3, .int (nI s), .int (nI m)] 0 0 (wF c t) (z_pi (fun v w => w = wF c t ∧ v = nI (zDare A s m).toNat)) := by
  refine Sp.of (own := RX0) 1 false rfl (by decide +kernel) rfl rfl (fun h => by cases h) (fun K hKd M => ?_)
  have C := M.1
  show GG Γ K 0 0 (wF c t) 0 [some (.ref 3), some (.int (nI s)), some (.int (nI m)), none] []
  refine g_aload0 C dX0_dares_0 ?_
  refine g_getRT C dX0_dares_1 flX0_15 (show 3 < 68 by decide) rfl rfl (by decide) ?_
  refine g_iload1 C dX0_dares_4 ?_
  refine g_callS2i C dX0_dares_5 slX0_38 (s_at (by decide) rfl (by have := ok.1; omega) (by decide) (hA.2.2.2.2.1 s hs)) hKd (by first | decide | omega) rfl (Nat.le_of_ble_eq_true rfl) ?_
  rintro _ _ ⟨rfl, rfl⟩
  refine g_istore3 C dX0_dares_8 ?_
  refine g_iload2 C dX0_dares_9 ?_
  refine g_callS1i C dX0_dares_10 slX0_50 (s_bc (by omega)) hKd (by first | decide | omega) rfl (Nat.le_of_ble_eq_true rfl) ?_
  rintro _ _ ⟨rfl, rfl⟩
  refine g_iload3 C dX0_dares_13 ?_
  refine g_icmp_ltN C 35 (by have := zp8_8 m; omega) (by have := ok.2.2.1 s hs; omega) dX0_dares_14 (by decide) (fun h14 => ?_) (fun h14 => ?_)
  · -- X0_dares 14t
    
    refine g_iconst C (nI 0) dX0_dares_35 (by decide) ?_
    exact g_ret0 M dX0_dares_36 (⟨rfl, z_t0 (by unfold zDare; simp; omega)⟩)
  · -- X0_dares 14f
    refine g_iload3 C dX0_dares_17 ?_
    refine g_if_eqN C 31 (by have := ok.2.2.1 s hs; omega) dX0_dares_18 (by decide) (fun h18 => ?_) (fun h18 => ?_)
    · -- X0_dares 18t
      refine g_iconst C (nI 1) dX0_dares_31 (by decide) ?_
      refine g_goto C 36 dX0_dares_32 (by decide) ?_
      exact g_ret1 M dX0_dares_36 (⟨rfl, z_t1 (by unfold zDare; simp; omega)⟩)
    · -- X0_dares 18f
      refine g_aload0 C dX0_dares_21 ?_
      refine g_iload1 C dX0_dares_22 ?_
      refine g_callV1i C dX0_dares_23 vlX0_56 (s_trusted ok hA hs) hKd (by first | decide | omega) rfl (Nat.le_of_ble_eq_true rfl) (show 3 < 68 by decide) rfl ?_
      rintro _ _ ⟨rfl, rfl⟩
      refine g_iload2 C dX0_dares_26 ?_
      refine g_iandN C dX0_dares_27 ?_
      refine g_if_eqN C 35 (zand_r (by omega)) dX0_dares_28 (by decide) (fun h28 => ?_) (fun h28 => ?_)
      · -- X0_dares 28t
        refine g_iconst C (nI 0) dX0_dares_35 (by decide) ?_
        exact g_ret0 M dX0_dares_36 (⟨rfl, z_t0 (by unfold zDare; simp; omega)⟩)
      · -- X0_dares 28f
        refine g_iconst C (nI 1) dX0_dares_31 (by decide) ?_
        refine g_goto C 36 dX0_dares_32 (by decide) ?_
        exact g_ret1 M dX0_dares_36 (⟨rfl, z_t1 (by unfold zDare; simp; omega)⟩)
set_option maxRecDepth 100000 in
set_option maxHeartbeats 4000000 in
theorem s_inkBehind {Γ : zG} {c : Nat → Nat → Int32} {t : Nat → Int64} {A : zCr} (ok : OkA A) (hA : CrC 3 c A) {k : Nat} (hk : k < 2 ^ 31) : Sp Γ 0 mX0_inkBehind [.ref 3, .int (nI k)] 0 0 (wF c t) (z_pi (fun v w => w = wF c t ∧ v = nI (zInk A k))) := by
  refine Sp.of (own := RX0) 0 false rfl (by decide +kernel) rfl rfl (fun h => by cases h) (fun K hKd M => ?_)
  have C := M.1
  show GG Γ K 0 0 (wF c t) 0 [some (.ref 3), some (.int (nI k))] []
  refine g_aload0 C dX0_inkBehind_0 ?_
  refine g_getIE C hA.2.1 dX0_inkBehind_1 flX0_21 (show 3 < 68 by decide) rfl rfl ?_
  refine g_if_leN C 21 (by have := ok.2.2.2.2.1; omega) dX0_inkBehind_4 (by decide) (fun h4 => absurd h4 (by have := ok.2.2.2.2.1; omega)) (fun h4 => ?_)
  refine g_aload0 C dX0_inkBehind_7 ?_
  refine g_getIE C hA.2.1 dX0_inkBehind_8 flX0_21 (show 3 < 68 by decide) rfl rfl ?_
  refine g_iload1 C dX0_inkBehind_11 ?_
  refine g_aload0 C dX0_inkBehind_12 ?_
  refine g_getIE C hA.2.1 dX0_inkBehind_13 flX0_21 (show 3 < 68 by decide) rfl rfl ?_
  refine g_iremN C dX0_inkBehind_16 (by omega) (by have := ok.2.2.2.2.1; omega) (by have := ok.2.2.2.2.1; omega) ?_
  refine g_isubN C dX0_inkBehind_17 (Nat.le_of_lt (Nat.mod_lt _ (by have := ok.2.2.2.2.1; omega))) ?_
  refine g_goto C 22 dX0_inkBehind_18 (by decide) ?_
  exact g_reti M dX0_inkBehind_22 (⟨rfl, rfl⟩)
set_option maxRecDepth 100000 in
set_option maxHeartbeats 4000000 in
theorem s_send {Γ : zG} {c : Nat → Nat → Int32} {t : Nat → Int64} {A : zCr} (ok : OkA A) (hA : CrC 3 c A) {m : Nat} (hm : m < 128) : Sp Γ 3 mX0_signedInTheEnd [.ref 3, .int (nI m)] 0 0 (wF c t) (z_pi (fun v w => w = wF c t ∧ v = nI (zWr A 7 m))) := by
  refine Sp.of (own := RX0) 3 false rfl (by decide +kernel) rfl rfl (fun h => by cases h) (fun K hKd M => ?_)
  have C := M.1
  show GG Γ K 0 0 (wF c t) 0 [some (.ref 3), some (.int (nI m)), none, none, none] []
  have H13a : ∀ r, r < 7 → GG Γ K 0 0 (wF c t) 45 [some (.ref 3), some (.int (nI m)), some (.int (nI (zWr A (r + 1) m))), some (.int (nI r)), some (.int (nI (cN A)))] [] → GG Γ K 0 0 (wF c t) 13 [some (.ref 3), some (.int (nI m)), some (.int (nI (zWr A r m))), some (.int (nI r)), some (.int (nI 0))] [] := by
    intro r hr hexit
    have H13 : ∀ (n : Nat) (s : Nat), s ≤ cN A → cN A - s < n → GG Γ K 0 0 (wF c t) 13 [some (.ref 3), some (.int (nI m)), some (.int (nI (zWi A s (zWr A r m)))), some (.int (nI r)), some (.int (nI s))] [] := by
      intro n
      induction n with
      | zero => intro s hs hm2; exact absurd hm2 (by omega)
      | succ n ih =>
        intro s hs hm2
        refine g_iload4 C dX0_signedInTheEnd_13 ?_
        refine g_aload0 C dX0_signedInTheEnd_15 ?_
        refine g_getIE C hA.1 dX0_signedInTheEnd_16 flX0_28 (show 3 < 68 by decide) rfl rfl ?_
        refine g_icmp_geN C 45 (by have := ok.1; omega) (by have := ok.1; omega) dX0_signedInTheEnd_19 (by decide) (fun h19 => ?_) (fun h19 => ?_)
        · -- X0_signedInTheEnd 19t
          obtain rfl : s = cN A := by omega
          exact hexit
        · -- X0_signedInTheEnd 19f
          refine g_aload0 C dX0_signedInTheEnd_22 ?_
          refine g_iload4 C dX0_signedInTheEnd_23 ?_
          refine g_iload2 C dX0_signedInTheEnd_25 ?_
          refine g_callV2i C dX0_signedInTheEnd_26 vlX0_59 (s_dares ok hA (by omega) (zWi_lt (zWr_lt ok hm r) s (by have := ok.1; omega))) hKd (by first | decide | omega) rfl (Nat.le_of_ble_eq_true rfl) (show 3 < 68 by decide) rfl ?_
          rintro _ _ ⟨rfl, rfl⟩
          refine g_if_eqB C 39 dX0_signedInTheEnd_29 (by decide) (fun h29 => ?_) (fun h29 => ?_)
          · -- X0_signedInTheEnd 29t
            refine g_set (L' := [some (.ref 3), some (.int (nI m)), some (.int (nI (zWi A (s + 1) (zWr A r m)))), some (.int (nI r)), some (.int (nI s))]) rfl (by rw [show zWi A (s + 1) (zWr A r m) = zWi A s (zWr A r m) by rw [zWi, if_neg (by rw [h29]; decide)]]) rfl ?_
            refine g_iinc4N C dX0_signedInTheEnd_39 ?_
            refine g_goto C 13 dX0_signedInTheEnd_42 (by decide) ?_
            exact ih (s + 1) (by omega) (by omega)
          · -- X0_signedInTheEnd 29f
            
            refine g_iload2 C dX0_signedInTheEnd_32 ?_
            refine g_iconst C (nI 1) dX0_signedInTheEnd_33 (by decide) ?_
            refine g_iload4 C dX0_signedInTheEnd_34 ?_
            refine g_ishlN C dX0_signedInTheEnd_36 (by have := ok.1; omega) ?_
            refine g_iorN C dX0_signedInTheEnd_37 ?_
            refine g_istore2 C dX0_signedInTheEnd_38 ?_
            refine g_set (L' := [some (.ref 3), some (.int (nI m)), some (.int (nI (zWi A (s + 1) (zWr A r m)))), some (.int (nI r)), some (.int (nI s))]) rfl (by rw [show zWi A (s + 1) (zWr A r m) = zWi A s (zWr A r m) ||| (1 <<< s) by rw [zWi, if_pos h29]]) rfl ?_
            refine g_iinc4N C dX0_signedInTheEnd_39 ?_
            refine g_goto C 13 dX0_signedInTheEnd_42 (by decide) ?_
            exact ih (s + 1) (by omega) (by omega)
    exact H13 (cN A + 1) 0 (Nat.zero_le _) (by omega)
  have H4 : ∀ (n : Nat) (r : Nat) (x : Option Value), r ≤ 7 → 7 - r < n → GG Γ K 0 0 (wF c t) 4 [some (.ref 3), some (.int (nI m)), some (.int (nI (zWr A r m))), some (.int (nI r)), x] [] := by
    intro n
    induction n with
    | zero => intro r x hr hm3; exact absurd hm3 (by omega)
    | succ n ih =>
      intro r x hr hm3
      refine g_iload3 C dX0_signedInTheEnd_4 ?_
      refine g_bipush C (nI 7) dX0_signedInTheEnd_5 (by decide) ?_
      refine g_icmp_geN C 51 (by omega) (by omega) dX0_signedInTheEnd_7 (by decide) (fun h7 => ?_) (fun h7 => ?_)
      · -- X0_signedInTheEnd 7t
        obtain rfl : r = 7 := by omega
        refine g_iload2 C dX0_signedInTheEnd_51 ?_
        exact g_reti M dX0_signedInTheEnd_52 (⟨rfl, rfl⟩)
      · -- X0_signedInTheEnd 7f
        refine g_iconst C (nI 0) dX0_signedInTheEnd_10 (by decide) ?_
        refine g_istore4 C dX0_signedInTheEnd_11 ?_
        refine H13a r (by omega) ?_
        refine g_iinc3N C dX0_signedInTheEnd_45 ?_
        refine g_goto C 4 dX0_signedInTheEnd_48 (by decide) ?_
        exact ih (r + 1) _ (by omega) (by omega)
  refine g_iload1 C dX0_signedInTheEnd_0 ?_
  refine g_istore2 C dX0_signedInTheEnd_1 ?_
  refine g_iconst C (nI 0) dX0_signedInTheEnd_2 (by decide) ?_
  refine g_istore3 C dX0_signedInTheEnd_3 ?_
  exact H4 8 0 _ (by omega) (by omega)
set_option maxRecDepth 100000 in
set_option maxHeartbeats 4000000 in
theorem s_isClique {Γ : zG} {c : Nat → Nat → Int32} {t : Nat → Int64} {A : zCr} (ok : OkA A) (hA : CrC 3 c A) {k : Nat} (hk : k < 128) : Sp Γ 2 mX0_isClique [.ref 3, .int (nI k)] 0 0 (wF c t) (z_pi (fun v w => w = wF c t ∧ v = nI (zIsC A k).toNat)) := by
  refine Sp.of (own := RX0) 1 false rfl (by decide +kernel) rfl rfl (fun h => by cases h) (fun K hKd M => ?_)
  have C := M.1
  show GG Γ K 0 0 (wF c t) 0 [some (.ref 3), some (.int (nI k)), none] []
  have H2 : ∀ (n : Nat) (s : Nat), s ≤ cN A → (∀ q, q < s → k.testBit q = true → zNC A k q = 0) → cN A - s < n → GG Γ K 0 0 (wF c t) 2 [some (.ref 3), some (.int (nI k)), some (.int (nI s))] [] := by
    intro n
    induction n with
    | zero => intro s hs hq hm2; exact absurd hm2 (by omega)
    | succ n ih =>
      intro s hs hq hm2
      refine g_iload2 C dX0_isClique_2 ?_
      refine g_aload0 C dX0_isClique_3 ?_
      refine g_getIE C hA.1 dX0_isClique_4 flX0_28 (show 3 < 68 by decide) rfl rfl ?_
      refine g_icmp_geN C 44 (by have := ok.1; omega) (by have := ok.1; omega) dX0_isClique_7 (by decide) (fun h7 => ?_) (fun h7 => ?_)
      · -- X0_isClique 7t
        refine g_iconst C (nI 1) dX0_isClique_44 (by decide) ?_
        exact g_ret1 M dX0_isClique_45 (⟨rfl, z_b1 (fun q h1 h2 => hq q (by omega) h2)⟩)
      · -- X0_isClique 7f
        refine g_iload1 C dX0_isClique_10 ?_
        refine g_iload2 C dX0_isClique_11 ?_
        refine g_callS2i C dX0_isClique_12 slX0_67 (s_has (by omega) (by have := ok.1; omega)) hKd (by first | decide | omega) rfl (Nat.le_of_ble_eq_true rfl) ?_
        rintro _ _ ⟨rfl, rfl⟩
        refine g_if_eqB C 38 dX0_isClique_15 (by decide) (fun h15 => ?_) (fun h15 => ?_)
        · -- X0_isClique 15t
          refine g_iinc2N C dX0_isClique_38 ?_
          refine g_goto C 2 dX0_isClique_41 (by decide) ?_
          exact ih (s + 1) (by omega) (fun q h1 h2 => by by_cases e : q = s; (subst e; rw [h15] at h2; cases h2); exact hq q (by omega) h2) (by omega)
        · -- X0_isClique 15f
          refine g_iload1 C dX0_isClique_18 ?_
          refine g_iconst C (nI 1) dX0_isClique_19 (by decide) ?_
          refine g_iload2 C dX0_isClique_20 ?_
          refine g_ishlN C dX0_isClique_21 (by have := ok.1; omega) ?_
          refine g_iconst C (nI 4294967295) dX0_isClique_22 (by decide) ?_
          refine g_ixorN C dX0_isClique_23 ?_
          refine g_iandN C dX0_isClique_24 ?_
          refine g_aload0 C dX0_isClique_25 ?_
          refine g_iload2 C dX0_isClique_26 ?_
          refine g_callV1i C dX0_isClique_27 vlX0_56 (s_trusted ok hA (by omega)) hKd (by first | decide | omega) rfl (Nat.le_of_ble_eq_true rfl) (show 3 < 68 by decide) rfl ?_
          rintro _ _ ⟨rfl, rfl⟩
          refine g_iconst C (nI 4294967295) dX0_isClique_30 (by decide) ?_
          refine g_ixorN C dX0_isClique_31 ?_
          refine g_iandN C dX0_isClique_32 ?_
          refine g_if_eqN C 38 (zand_l (zand_l (by omega))) dX0_isClique_33 (by decide) (fun h33 => ?_) (fun h33 => ?_)
          · -- X0_isClique 33t
            refine g_iinc2N C dX0_isClique_38 ?_
            refine g_goto C 2 dX0_isClique_41 (by decide) ?_
            exact ih (s + 1) (by omega) (fun q h1 h2 => by by_cases e : q = s; (subst e; exact h33); exact hq q (by omega) h2) (by omega)
          · -- X0_isClique 33f
            refine g_iconst C (nI 0) dX0_isClique_36 (by decide) ?_
            exact g_ret0 M dX0_isClique_37 (⟨rfl, z_b0 (fun q => absurd (q s (by omega) h15) (by unfold zNC; omega))⟩)
  refine g_iconst C (nI 0) dX0_isClique_0 (by decide) ?_
  refine g_istore2 C dX0_isClique_1 ?_
  exact H2 (cN A + 1) 0 (Nat.zero_le _) (fun q h => absurd h (by omega)) (by omega)
set_option maxRecDepth 100000 in
set_option maxHeartbeats 4000000 in
theorem s_lcl {Γ : zG} {c : Nat → Nat → Int32} {t : Nat → Int64} {A : zCr} (ok : OkA A) (hA : CrC 3 c A)  : Sp Γ 3 mX0_largestClique [.ref 3] 0 0 (wF c t) (z_pi (fun v w => w = wF c t ∧ v = nI (zCl A (zAll (cN A) + 1)))) := by
  refine Sp.of (own := RX0) 2 false rfl (by decide +kernel) rfl rfl (fun h => by cases h) (fun K hKd M => ?_)
  have C := M.1
  show GG Γ K 0 0 (wF c t) 0 [some (.ref 3), none, none] []
  have H4 : ∀ (n : Nat) (k : Nat), k ≤ zAll (cN A) + 1 → zAll (cN A) + 1 - k < n → GG Γ K 0 0 (wF c t) 4 [some (.ref 3), some (.int (nI (zCl A k))), some (.int (nI k))] [] := by
    intro n
    induction n with
    | zero => intro k hk hm2; exact absurd hm2 (by omega)
    | succ n ih =>
      intro k hk hm2
      have hal := zAll_lt ok.1
      refine g_iload2 C dX0_largestClique_4 ?_
      refine g_aload0 C dX0_largestClique_5 ?_
      refine g_callV0i C dX0_largestClique_6 vlX0_46 (s_all ok hA) hKd (by first | decide | omega) rfl (Nat.le_of_ble_eq_true rfl) (show 3 < 68 by decide) rfl ?_
      rintro _ _ ⟨rfl, rfl⟩
      refine g_icmp_gtN C 39 (by omega) (by omega) dX0_largestClique_9 (by decide) (fun h9 => ?_) (fun h9 => ?_)
      · -- X0_largestClique 9t
        obtain rfl : k = zAll (cN A) + 1 := by omega
        refine g_iload1 C dX0_largestClique_39 ?_
        exact g_reti M dX0_largestClique_40 (⟨rfl, rfl⟩)
      · -- X0_largestClique 9f
        have hcl := zCl_le (A := A) k
        refine g_iload2 C dX0_largestClique_12 ?_
        refine g_callS1i C dX0_largestClique_13 slX0_50 (s_bc (by omega)) hKd (by first | decide | omega) rfl (Nat.le_of_ble_eq_true rfl) ?_
        rintro _ _ ⟨rfl, rfl⟩
        refine g_iload1 C dX0_largestClique_16 ?_
        refine g_callS1i C dX0_largestClique_17 slX0_50 (s_bc (by omega)) hKd (by first | decide | omega) rfl (Nat.le_of_ble_eq_true rfl) ?_
        rintro _ _ ⟨rfl, rfl⟩
        refine g_icmp_leN C 33 (by have := zp8_8 k; omega) (by have := zp8_8 (zCl A k); omega) dX0_largestClique_20 (by decide) (fun h20 => ?_) (fun h20 => ?_)
        · -- X0_largestClique 20t
          refine g_set (L' := [some (.ref 3), some (.int (nI (zCl A (k + 1)))), some (.int (nI k))]) rfl (by rw [show zCl A (k + 1) = zCl A k by rw [zCl, if_neg (by omega)]]) rfl ?_
          refine g_iinc2N C dX0_largestClique_33 ?_
          refine g_goto C 4 dX0_largestClique_36 (by decide) ?_
          exact ih (k + 1) (by omega) (by omega)
        · -- X0_largestClique 20f
          refine g_aload0 C dX0_largestClique_23 ?_
          refine g_iload2 C dX0_largestClique_24 ?_
          refine g_callV1i C dX0_largestClique_25 vlX0_63 (s_isClique ok hA (by omega)) hKd (by first | decide | omega) rfl (Nat.le_of_ble_eq_true rfl) (show 3 < 68 by decide) rfl ?_
          rintro _ _ ⟨rfl, rfl⟩
          refine g_if_eqB C 33 dX0_largestClique_28 (by decide) (fun h28 => ?_) (fun h28 => ?_)
          · -- X0_largestClique 28t
            refine g_set (L' := [some (.ref 3), some (.int (nI (zCl A (k + 1)))), some (.int (nI k))]) rfl (by rw [show zCl A (k + 1) = zCl A k by rw [zCl, if_neg (by rw [h28]; simp)]]) rfl ?_
            refine g_iinc2N C dX0_largestClique_33 ?_
            refine g_goto C 4 dX0_largestClique_36 (by decide) ?_
            exact ih (k + 1) (by omega) (by omega)
          · -- X0_largestClique 28f
            
            refine g_iload2 C dX0_largestClique_31 ?_
            refine g_istore1 C dX0_largestClique_32 ?_
            refine g_set (L' := [some (.ref 3), some (.int (nI (zCl A (k + 1)))), some (.int (nI k))]) rfl (by rw [show zCl A (k + 1) = k by rw [zCl, if_pos ⟨h20, h28⟩]]) rfl ?_
            refine g_iinc2N C dX0_largestClique_33 ?_
            refine g_goto C 4 dX0_largestClique_36 (by decide) ?_
            exact ih (k + 1) (by omega) (by omega)
  refine g_iconst C (nI 0) dX0_largestClique_0 (by decide) ?_
  refine g_istore1 C dX0_largestClique_1 ?_
  refine g_iconst C (nI 0) dX0_largestClique_2 (by decide) ?_
  refine g_istore2 C dX0_largestClique_3 ?_
  exact H4 (zAll (cN A) + 2) 0 (by omega) (by omega)
