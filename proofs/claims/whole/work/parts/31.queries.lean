/-! the orders that were found: queries -/
set_option maxRecDepth 100000 in
set_option maxHeartbeats 4000000 in
theorem s_firsts {Γ : zG} {c : Nat → Nat → Int32} {t : Nat → Int64} {O : List (List Nat)} {T : Nat} (hQ : zQ c O T)  : Sp Γ 1 mX2_firsts [.ref 52] 0 0 (wF c t) (z_pi (fun v w => w = wF c t ∧ v = nI (zFb O O.length &&& T))) := by
  refine Sp.of (own := RX2) 2 false rfl (by decide +kernel) rfl rfl (fun h => by cases h) (fun K hKd M => ?_)
  have C := M.1
  show GG Γ K 0 0 (wF c t) 0 [some (.ref 52), none, none] []
  have H4 : ∀ (n : Nat) (i : Nat), i ≤ O.length → O.length - i < n → GG Γ K 0 0 (wF c t) 4 [some (.ref 52), some (.int (nI (zFb O i))), some (.int (nI i))] [] := by
    intro n
    induction n with
    | zero => intro i hi hn; exact absurd hn (by omega)
    | succ n ih =>
      intro i hi hn
      refine g_iload2 C dX2_firsts_4 ?_
      refine g_aload0 C dX2_firsts_5 ?_
      refine g_getIE C hQ.len dX2_firsts_6 flX2_21 (show 52 < 68 by decide) rfl rfl ?_
      refine g_icmp_geN C 34 (by have := hQ.2.2.2.1; omega) (by have := hQ.2.2.2.1; omega) dX2_firsts_9 (by decide) (fun h9 => ?_) (fun h9 => ?_)
      · -- X2_firsts 9t
        obtain rfl : i = O.length := by omega
        refine g_iload1 C dX2_firsts_34 ?_
        refine g_aload0 C dX2_firsts_35 ?_
        refine g_getIE C hQ.2.1 dX2_firsts_36 flX2_25 (show 52 < 68 by decide) rfl rfl ?_
        refine g_iandN C dX2_firsts_39 ?_
        exact g_reti M dX2_firsts_40 (⟨rfl, rfl⟩)
      · -- X2_firsts 9f
        refine g_iload1 C dX2_firsts_12 ?_
        refine g_iconst C (nI 1) dX2_firsts_13 (by decide) ?_
        refine g_aload0 C dX2_firsts_14 ?_
        refine g_getRT C dX2_firsts_15 flX2_11 (show 52 < 68 by decide) rfl rfl (by decide) ?_
        refine g_iload2 C dX2_firsts_18 ?_
        refine g_callS2i C dX2_firsts_19 slX2_37 (s_at (show 53 < 68 by decide) rfl (by have := hQ.2.2.2.1; omega) (by decide) (hQ.at h9)) hKd (by first | decide | omega) rfl (Nat.le_of_ble_eq_true rfl) ?_
        rintro _ _ ⟨rfl, rfl⟩
        refine g_callS1i C dX2_firsts_22 slX2_71 (s_firstOf (hQ.lt h9)) hKd (by first | decide | omega) rfl (Nat.le_of_ble_eq_true rfl) ?_
        rintro _ _ ⟨rfl, rfl⟩
        rw [hQ.first h9]
        refine g_ishlN C dX2_firsts_25 (by have := hQ.hd h9; omega) ?_
        refine g_iorN C dX2_firsts_26 ?_
        refine g_istore1 C dX2_firsts_27 ?_
        refine g_iinc2N C dX2_firsts_28 ?_
        refine g_goto C 4 dX2_firsts_31 (by decide) ?_
        exact ih (i + 1) (by omega) (by omega)
  refine g_iconst C (nI 0) dX2_firsts_0 (by decide) ?_
  refine g_istore1 C dX2_firsts_1 ?_
  refine g_iconst C (nI 0) dX2_firsts_2 (by decide) ?_
  refine g_istore2 C dX2_firsts_3 ?_
  exact H4 (O.length + 1) 0 (Nat.zero_le _) (by omega)
set_option maxRecDepth 100000 in
set_option maxHeartbeats 4000000 in
theorem s_times {Γ : zG} {c : Nat → Nat → Int32} {t : Nat → Int64} {O : List (List Nat)} {T : Nat} (hQ : zQ c O T) {s : Nat} (hs : s ≤ 7) : Sp Γ 1 mX2_timesFirst [.ref 52, .int (nI s)] 0 0 (wF c t) (z_pi (fun v w => w = wF c t ∧ v = nI (zTi O s O.length))) := by
  refine Sp.of (own := RX2) 2 false rfl (by decide +kernel) rfl rfl (fun h => by cases h) (fun K hKd M => ?_)
  have C := M.1
  show GG Γ K 0 0 (wF c t) 0 [some (.ref 52), some (.int (nI s)), none, none] []
  have H4 : ∀ (n : Nat) (i : Nat), i ≤ O.length → O.length - i < n → GG Γ K 0 0 (wF c t) 4 [some (.ref 52), some (.int (nI s)), some (.int (nI (zTi O s i))), some (.int (nI i))] [] := by
    intro n
    induction n with
    | zero => intro i hi hn; exact absurd hn (by omega)
    | succ n ih =>
      intro i hi hn
      refine g_iload3 C dX2_timesFirst_4 ?_
      refine g_aload0 C dX2_timesFirst_5 ?_
      refine g_getIE C hQ.len dX2_timesFirst_6 flX2_21 (show 52 < 68 by decide) rfl rfl ?_
      refine g_icmp_geN C 36 (by have := hQ.2.2.2.1; omega) (by have := hQ.2.2.2.1; omega) dX2_timesFirst_9 (by decide) (fun h9 => ?_) (fun h9 => ?_)
      · -- X2_timesFirst 9t
        obtain rfl : i = O.length := by omega
        refine g_iload2 C dX2_timesFirst_36 ?_
        exact g_reti M dX2_timesFirst_37 (⟨rfl, rfl⟩)
      · -- X2_timesFirst 9f
        refine g_aload0 C dX2_timesFirst_12 ?_
        refine g_getRT C dX2_timesFirst_13 flX2_11 (show 52 < 68 by decide) rfl rfl (by decide) ?_
        refine g_iload3 C dX2_timesFirst_16 ?_
        refine g_callS2i C dX2_timesFirst_17 slX2_37 (s_at (show 53 < 68 by decide) rfl (by have := hQ.2.2.2.1; omega) (by decide) (hQ.at h9)) hKd (by first | decide | omega) rfl (Nat.le_of_ble_eq_true rfl) ?_
        rintro _ _ ⟨rfl, rfl⟩
        refine g_callS1i C dX2_timesFirst_20 slX2_71 (s_firstOf (hQ.lt h9)) hKd (by first | decide | omega) rfl (Nat.le_of_ble_eq_true rfl) ?_
        rintro _ _ ⟨rfl, rfl⟩
        rw [hQ.first h9]
        refine g_iload1 C dX2_timesFirst_23 ?_
        refine g_icmp_neN C 30 (by have := hQ.hd h9; omega) (by omega) dX2_timesFirst_24 (by decide) (fun h24 => ?_) (fun h24 => ?_)
        · -- X2_timesFirst 24t
          refine g_set (L' := [some (.ref 52), some (.int (nI s)), some (.int (nI (zTi O s (i + 1)))), some (.int (nI i))]) rfl (by rw [zTi, if_neg h24]) rfl ?_
          refine g_iinc3N C dX2_timesFirst_30 ?_
          refine g_goto C 4 dX2_timesFirst_33 (by decide) ?_
          exact ih (i + 1) (by omega) (by omega)
        · -- X2_timesFirst 24f
          
          refine g_iinc2N C dX2_timesFirst_27 ?_
          refine g_set (L' := [some (.ref 52), some (.int (nI s)), some (.int (nI (zTi O s (i + 1)))), some (.int (nI i))]) rfl (by rw [zTi, if_pos h24]) rfl ?_
          refine g_iinc3N C dX2_timesFirst_30 ?_
          refine g_goto C 4 dX2_timesFirst_33 (by decide) ?_
          exact ih (i + 1) (by omega) (by omega)
  refine g_iconst C (nI 0) dX2_timesFirst_0 (by decide) ?_
  refine g_istore2 C dX2_timesFirst_1 ?_
  refine g_iconst C (nI 0) dX2_timesFirst_2 (by decide) ?_
  refine g_istore3 C dX2_timesFirst_3 ?_
  exact H4 (O.length + 1) 0 (Nat.zero_le _) (by omega)
set_option maxRecDepth 100000 in
set_option maxHeartbeats 4000000 in
theorem s_likeliest {Γ : zG} {c : Nat → Nat → Int32} {t : Nat → Int64} {O : List (List Nat)} {T : Nat} (hQ : zQ c O T)  : Sp Γ 2 mX2_likeliestFirst [.ref 52] 0 0 (wF c t) (z_pi (fun v w => w = wF c t ∧ v = zE (zLk O 7).1)) := by
  refine Sp.of (own := RX2) 4 false rfl (by decide +kernel) rfl rfl (fun h => by cases h) (fun K hKd M => ?_)
  have C := M.1
  show GG Γ K 0 0 (wF c t) 0 [some (.ref 52), none, none, none, none] []
  have H7 : ∀ (n : Nat) (s : Nat) (x : Option Value), s ≤ 7 → (zLk O s).2 ≤ 5040 → 7 - s < n → GG Γ K 0 0 (wF c t) 7 [some (.ref 52), some (.int (zE (zLk O s).1)), some (.int (nI (zLk O s).2)), some (.int (nI s)), x] [] := by
    intro n
    induction n with
    | zero => intro s x hs hb hn; exact absurd hn (by omega)
    | succ n ih =>
      intro s x hs hb hn
      refine g_iload3 C dX2_likeliestFirst_7 ?_
      refine g_bipush C (nI 7) dX2_likeliestFirst_8 (by decide) ?_
      refine g_icmp_geN C 37 (by omega) (by omega) dX2_likeliestFirst_10 (by decide) (fun h10 => ?_) (fun h10 => ?_)
      · -- X2_likeliestFirst 10t
        obtain rfl : s = 7 := by omega
        refine g_iload1 C dX2_likeliestFirst_37 ?_
        exact g_reti M dX2_likeliestFirst_38 (⟨rfl, rfl⟩)
      · -- X2_likeliestFirst 10f
        refine g_aload0 C dX2_likeliestFirst_13 ?_
        refine g_iload3 C dX2_likeliestFirst_14 ?_
        refine g_callV1i C dX2_likeliestFirst_15 vlX2_74 (s_times hQ (by omega)) hKd (by first | decide | omega) rfl (Nat.le_of_ble_eq_true rfl) (show 52 < 68 by decide) rfl ?_
        rintro _ _ ⟨rfl, rfl⟩
        refine g_istore4 C dX2_likeliestFirst_18 ?_
        refine g_iload4 C dX2_likeliestFirst_20 ?_
        refine g_iload2 C dX2_likeliestFirst_22 ?_
        refine g_icmp_leN C 31 (by have := zTi_le O s O.length; have := hQ.2.2.2.1; omega) (by omega) dX2_likeliestFirst_23 (by decide) (fun h23 => ?_) (fun h23 => ?_)
        · -- X2_likeliestFirst 23t
          refine g_set (L' := [some (.ref 52), some (.int (zE (zLk O (s + 1)).1)), some (.int (nI (zLk O (s + 1)).2)), some (.int (nI s)), some (.int (nI (zTi O s O.length)))]) rfl (by rw [zLk, if_neg (by omega)]) rfl ?_
          refine g_iinc3N C dX2_likeliestFirst_31 ?_
          refine g_goto C 7 dX2_likeliestFirst_34 (by decide) ?_
          exact ih (s + 1) _ (by omega) (by rw [zLk]; have := zTi_le O s O.length; have := hQ.2.2.2.1; split <;> simp <;> omega) (by omega)
        · -- X2_likeliestFirst 23f
          
          refine g_iload4 C dX2_likeliestFirst_26 ?_
          refine g_istore2 C dX2_likeliestFirst_28 ?_
          refine g_iload3 C dX2_likeliestFirst_29 ?_
          refine g_istore1 C dX2_likeliestFirst_30 ?_
          refine g_set (L' := [some (.ref 52), some (.int (zE (zLk O (s + 1)).1)), some (.int (nI (zLk O (s + 1)).2)), some (.int (nI s)), some (.int (nI (zTi O s O.length)))]) rfl (by rw [zLk, if_pos h23]; rfl) rfl ?_
          refine g_iinc3N C dX2_likeliestFirst_31 ?_
          refine g_goto C 7 dX2_likeliestFirst_34 (by decide) ?_
          exact ih (s + 1) _ (by omega) (by rw [zLk]; have := zTi_le O s O.length; have := hQ.2.2.2.1; split <;> simp <;> omega) (by omega)
  refine g_bipush C (-9) dX2_likeliestFirst_0 (by decide) ?_
  refine g_istore1 C dX2_likeliestFirst_2 ?_
  refine g_iconst C (nI 0) dX2_likeliestFirst_3 (by decide) ?_
  refine g_istore2 C dX2_likeliestFirst_4 ?_
  refine g_iconst C (nI 0) dX2_likeliestFirst_5 (by decide) ?_
  refine g_istore3 C dX2_likeliestFirst_6 ?_
  exact H7 8 0 _ (by omega) (Nat.zero_le _) (by omega)
set_option maxRecDepth 100000 in
set_option maxHeartbeats 4000000 in
theorem s_ahead {Γ : zG} {c : Nat → Nat → Int32} {t : Nat → Int64} {T : Nat} (h4 : c 52 4 = nI T) (hT : T < 128) {l : List Nat} (hl : zVal l) {s : Nat} (hs : s < 7) : Sp Γ 1 mX2_aheadOf [.ref 52, .int (nI (zCod l)), .int (nI s)] 0 0 (wF c t) (z_pi (fun v w => w = wF c t ∧ v = nI (zAh T l s 7))) := by
  refine Sp.of (own := RX2) 3 false rfl (by decide +kernel) rfl rfl (fun h => by cases h) (fun K hKd M => ?_)
  have C := M.1
  show GG Γ K 0 0 (wF c t) 0 [some (.ref 52), some (.int (nI (zCod l))), some (.int (nI s)), none, none, none] []
  have H12 : ∀ (n : Nat) (q : Nat), q ≤ 7 → 7 - q < n → GG Γ K 0 0 (wF c t) 12 [some (.ref 52), some (.int (nI (zCod l))), some (.int (nI s)), some (.int (nI (zPl l s))), some (.int (nI (zAh T l s q))), some (.int (nI q))] [] := by
    intro n
    induction n with
    | zero => intro q hq hn; exact absurd hn (by omega)
    | succ n ih =>
      intro q hq hn
      refine g_iload5 C dX2_aheadOf_12 ?_
      refine g_bipush C (nI 7) dX2_aheadOf_14 (by decide) ?_
      refine g_icmp_geN C 56 (by omega) (by omega) dX2_aheadOf_16 (by decide) (fun h16 => ?_) (fun h16 => ?_)
      · -- X2_aheadOf 16t
        obtain rfl : q = 7 := by omega
        refine g_iload4 C dX2_aheadOf_56 ?_
        exact g_reti M dX2_aheadOf_58 (⟨rfl, rfl⟩)
      · -- X2_aheadOf 16f
        refine g_aload0 C dX2_aheadOf_19 ?_
        refine g_getIE C h4 dX2_aheadOf_20 flX2_25 (show 52 < 68 by decide) rfl rfl ?_
        refine g_iload5 C dX2_aheadOf_23 ?_
        refine g_callS2i C dX2_aheadOf_25 slX2_61 (s_has (by omega) (by omega)) hKd (by first | decide | omega) rfl (Nat.le_of_ble_eq_true rfl) ?_
        rintro _ _ ⟨rfl, rfl⟩
        refine g_if_eqB C 50 dX2_aheadOf_28 (by decide) (fun h28 => ?_) (fun h28 => ?_)
        · -- X2_aheadOf 28t
          refine g_set (L' := [some (.ref 52), some (.int (nI (zCod l))), some (.int (nI s)), some (.int (nI (zPl l s))), some (.int (nI (zAh T l s (q + 1)))), some (.int (nI q))]) rfl (by rw [zAh, if_neg (by rw [h28]; simp)]) rfl ?_
          refine g_iinc5N C dX2_aheadOf_50 ?_
          refine g_goto C 12 dX2_aheadOf_53 (by decide) ?_
          exact ih (q + 1) (by omega) (by omega)
        · -- X2_aheadOf 28f
          
          refine g_iload1 C dX2_aheadOf_31 ?_
          refine g_iload5 C dX2_aheadOf_32 ?_
          refine g_callS2i C dX2_aheadOf_34 slX2_81 (s_placeOf (by have := zCod_lt hl; omega) h16) hKd (by first | decide | omega) rfl (Nat.le_of_ble_eq_true rfl) ?_
          rintro _ _ ⟨rfl, rfl⟩
          rw [zCod_place hl h16]
          refine g_iload3 C dX2_aheadOf_37 ?_
          refine g_icmp_geN C 50 (by have := (zPl_lt hl q).1; omega) (by have := (zPl_lt hl s).1; omega) dX2_aheadOf_38 (by decide) (fun h38 => ?_) (fun h38 => ?_)
          · -- X2_aheadOf 38t
            refine g_set (L' := [some (.ref 52), some (.int (nI (zCod l))), some (.int (nI s)), some (.int (nI (zPl l s))), some (.int (nI (zAh T l s (q + 1)))), some (.int (nI q))]) rfl (by rw [zAh, if_neg (by omega)]) rfl ?_
            refine g_iinc5N C dX2_aheadOf_50 ?_
            refine g_goto C 12 dX2_aheadOf_53 (by decide) ?_
            exact ih (q + 1) (by omega) (by omega)
          · -- X2_aheadOf 38f
            
            refine g_iload4 C dX2_aheadOf_41 ?_
            refine g_iconst C (nI 1) dX2_aheadOf_43 (by decide) ?_
            refine g_iload5 C dX2_aheadOf_44 ?_
            refine g_ishlN C dX2_aheadOf_46 (by omega) ?_
            refine g_iorN C dX2_aheadOf_47 ?_
            refine g_istore4 C dX2_aheadOf_48 ?_
            refine g_set (L' := [some (.ref 52), some (.int (nI (zCod l))), some (.int (nI s)), some (.int (nI (zPl l s))), some (.int (nI (zAh T l s (q + 1)))), some (.int (nI q))]) rfl (by rw [zAh, if_pos ⟨h28, h38⟩]) rfl ?_
            refine g_iinc5N C dX2_aheadOf_50 ?_
            refine g_goto C 12 dX2_aheadOf_53 (by decide) ?_
            exact ih (q + 1) (by omega) (by omega)
  refine g_iload1 C dX2_aheadOf_0 ?_
  refine g_iload2 C dX2_aheadOf_1 ?_
  refine g_callS2i C dX2_aheadOf_2 slX2_81 (s_placeOf (by have := zCod_lt hl; omega) hs) hKd (by first | decide | omega) rfl (Nat.le_of_ble_eq_true rfl) ?_
  rintro _ _ ⟨rfl, rfl⟩
  rw [zCod_place hl hs]
  refine g_istore3 C dX2_aheadOf_5 ?_
  refine g_iconst C (nI 0) dX2_aheadOf_6 (by decide) ?_
  refine g_istore4 C dX2_aheadOf_7 ?_
  refine g_iconst C (nI 0) dX2_aheadOf_9 (by decide) ?_
  refine g_istore5 C dX2_aheadOf_10 ?_
  exact H12 8 0 (by omega) (by omega)
set_option maxRecDepth 100000 in
set_option maxHeartbeats 4000000 in
theorem s_always {Γ : zG} {c : Nat → Nat → Int32} {t : Nat → Int64} {O : List (List Nat)} {T : Nat} (hQ : zQ c O T) {s : Nat} (hs : s < 7) : Sp Γ 2 mX2_alwaysAheadOf [.ref 52, .int (nI s)] 0 0 (wF c t) (z_pi (fun v w => w = wF c t ∧ v = nI (zSure O T s))) := by
  refine Sp.of (own := RX2) 2 false rfl (by decide +kernel) rfl rfl (fun h => by cases h) (fun K hKd M => ?_)
  have C := M.1
  show GG Γ K 0 0 (wF c t) 0 [some (.ref 52), some (.int (nI s)), none, none] []
  have H24 : ∀ (n : Nat) (i : Nat), 0 < O.length → i ≤ O.length → O.length - i < n → GG Γ K 0 0 (wF c t) 24 [some (.ref 52), some (.int (nI s)), some (.int (nI (zSu O T s i))), some (.int (nI i))] [] := by
    intro n
    induction n with
    | zero => intro i h0 hi hn; exact absurd hn (by omega)
    | succ n ih =>
      intro i h0 hi hn
      refine g_iload3 C dX2_alwaysAheadOf_24 ?_
      refine g_aload0 C dX2_alwaysAheadOf_25 ?_
      refine g_getIE C hQ.len dX2_alwaysAheadOf_26 flX2_21 (show 52 < 68 by decide) rfl rfl ?_
      refine g_icmp_geN C 58 (by have := hQ.2.2.2.1; omega) (by have := hQ.2.2.2.1; omega) dX2_alwaysAheadOf_29 (by decide) (fun h29 => ?_) (fun h29 => ?_)
      · -- X2_alwaysAheadOf 29t
        obtain rfl : i = O.length := by omega
        have hz : zSure O T s = zSu O T s O.length := if_neg (by omega)
        refine g_iload2 C dX2_alwaysAheadOf_58 ?_
        exact g_reti M dX2_alwaysAheadOf_59 (⟨rfl, by rw [hz]⟩)
      · -- X2_alwaysAheadOf 29f
        
        refine g_iload2 C dX2_alwaysAheadOf_32 ?_
        refine g_if_eqN C 58 (by have := zSu_lt (O := O) (s := s) hQ.2.2.1 i; omega) dX2_alwaysAheadOf_33 (by decide) (fun h33 => ?_) (fun h33 => ?_)
        · -- X2_alwaysAheadOf 33t
          have hz : zSure O T s = zSu O T s i := by
            rw [h33]
            unfold zSure
            rw [if_neg (by omega)]
            have := zSu_0 h33 (O.length - i)
            rwa [show i + (O.length - i) = O.length by omega] at this
          refine g_iload2 C dX2_alwaysAheadOf_58 ?_
          exact g_reti M dX2_alwaysAheadOf_59 (⟨rfl, by rw [hz]⟩)
        · -- X2_alwaysAheadOf 33f
          
          refine g_iload2 C dX2_alwaysAheadOf_36 ?_
          refine g_aload0 C dX2_alwaysAheadOf_37 ?_
          refine g_aload0 C dX2_alwaysAheadOf_38 ?_
          refine g_getRT C dX2_alwaysAheadOf_39 flX2_11 (show 52 < 68 by decide) rfl rfl (by decide) ?_
          refine g_iload3 C dX2_alwaysAheadOf_42 ?_
          refine g_callS2i C dX2_alwaysAheadOf_43 slX2_37 (s_at (show 53 < 68 by decide) rfl (by have := hQ.2.2.2.1; omega) (by decide) (hQ.at h29)) hKd (by first | decide | omega) rfl (Nat.le_of_ble_eq_true rfl) ?_
          rintro _ _ ⟨rfl, rfl⟩
          refine g_iload1 C dX2_alwaysAheadOf_46 ?_
          refine g_callV2i C dX2_alwaysAheadOf_47 vlX2_77 (s_ahead hQ.2.1 hQ.2.2.1 (hQ.val h29).1 hs) hKd (by first | decide | omega) rfl (Nat.le_of_ble_eq_true rfl) (show 52 < 68 by decide) rfl ?_
          rintro _ _ ⟨rfl, rfl⟩
          refine g_iandN C dX2_alwaysAheadOf_50 ?_
          refine g_istore2 C dX2_alwaysAheadOf_51 ?_
          refine g_iinc3N C dX2_alwaysAheadOf_52 ?_
          refine g_goto C 24 dX2_alwaysAheadOf_55 (by decide) ?_
          exact ih (i + 1) h0 (by omega) (by omega)
  refine g_aload0 C dX2_alwaysAheadOf_0 ?_
  refine g_getIE C hQ.len dX2_alwaysAheadOf_1 flX2_21 (show 52 < 68 by decide) rfl rfl ?_
  refine g_if_leN C 20 (by have := hQ.2.2.2.1; omega) dX2_alwaysAheadOf_4 (by decide) (fun h4 => ?_) (fun h4 => ?_)
  · -- X2_alwaysAheadOf 4t
    
    
    refine g_iconst C (nI 0) dX2_alwaysAheadOf_20 (by decide) ?_
    refine g_istore2 C dX2_alwaysAheadOf_21 ?_
    refine g_iconst C (nI 0) dX2_alwaysAheadOf_22 (by decide) ?_
    refine g_istore3 C dX2_alwaysAheadOf_23 ?_
    refine g_iload3 C dX2_alwaysAheadOf_24 ?_
    refine g_aload0 C dX2_alwaysAheadOf_25 ?_
    refine g_getIE C hQ.len dX2_alwaysAheadOf_26 flX2_21 (show 52 < 68 by decide) rfl rfl ?_
    refine g_icmp_geN C 58 (by have := hQ.2.2.2.1; omega) (by omega) dX2_alwaysAheadOf_29 (by decide) (fun h29 => ?_) (fun h29 => absurd h29 (by omega))
    refine g_iload2 C dX2_alwaysAheadOf_58 ?_
    exact g_reti M dX2_alwaysAheadOf_59 (⟨rfl, by unfold zSure; rw [if_pos h4]⟩)
  · -- X2_alwaysAheadOf 4f
    
    refine g_aload0 C dX2_alwaysAheadOf_7 ?_
    refine g_getIE C hQ.2.1 dX2_alwaysAheadOf_8 flX2_25 (show 52 < 68 by decide) rfl rfl ?_
    refine g_iconst C (nI 1) dX2_alwaysAheadOf_11 (by decide) ?_
    refine g_iload1 C dX2_alwaysAheadOf_12 ?_
    refine g_ishlN C dX2_alwaysAheadOf_13 (by omega) ?_
    refine g_iconst C (nI 4294967295) dX2_alwaysAheadOf_14 (by decide) ?_
    refine g_ixorN C dX2_alwaysAheadOf_15 ?_
    refine g_iandN C dX2_alwaysAheadOf_16 ?_
    refine g_goto C 21 dX2_alwaysAheadOf_17 (by decide) ?_
    refine g_istore2 C dX2_alwaysAheadOf_21 ?_
    refine g_iconst C (nI 0) dX2_alwaysAheadOf_22 (by decide) ?_
    refine g_istore3 C dX2_alwaysAheadOf_23 ?_
    exact H24 (O.length + 1) 0 (by omega) (Nat.zero_le _) (by omega)
set_option maxRecDepth 100000 in
set_option maxHeartbeats 4000000 in
theorem s_rank {Γ : zG} {c : Nat → Nat → Int32} {t : Nat → Int64} {T : Nat} (h4 : c 52 4 = nI T) (hT : T < 128) {l : List Nat} (hl : zVal l) (hm : ∀ s, s ∈ l ↔ T.testBit s = true) (hn : l.length = zp8 T) {a : Nat} (ha7 : a < 128) (ha : ∀ q, a.testBit q = true → T.testBit q = true) : Sp Γ 1 mX2_rankOfPlaces [.ref 52, .int (nI (zCod l)), .int (nI a)] 0 0 (wF c t) (z_pi (fun v w => w = wF c t ∧ v = nI (zRk T l a 7).1)) := by
  refine Sp.of (own := RX2) 5 false rfl (by decide +kernel) rfl rfl (fun h => by cases h) (fun K hKd M => ?_)
  have C := M.1
  show GG Γ K 0 0 (wF c t) 0 [some (.ref 52), some (.int (nI (zCod l))), some (.int (nI a)), none, none, none, none, none] []
  have hI := zRI_all hl hm hn ha
  have H17 : ∀ (n : Nat) (s : Nat) (x : Option Value), s ≤ 7 → 7 - s < n → GG Γ K 0 0 (wF c t) 17 [some (.ref 52), some (.int (nI (zCod l))), some (.int (nI a)), some (.int (nI (zRk T l a s).2.2)), some (.int (nI (zRk T l a s).2.1)), some (.int (nI (zRk T l a s).1)), some (.int (nI s)), x] [] := by
    intro n
    induction n with
    | zero => intro s x hs hn2; exact absurd hn2 (by omega)
    | succ n ih =>
      intro s x hs hn2
      refine g_iload6 C dX2_rankOfPlaces_17 ?_
      refine g_bipush C (nI 7) dX2_rankOfPlaces_19 (by decide) ?_
      refine g_icmp_geN C 81 (by omega) (by omega) dX2_rankOfPlaces_21 (by decide) (fun h21 => ?_) (fun h21 => ?_)
      · -- X2_rankOfPlaces 21t
        obtain rfl : s = 7 := by omega
        refine g_iload5 C dX2_rankOfPlaces_81 ?_
        exact g_reti M dX2_rankOfPlaces_83 (⟨rfl, rfl⟩)
      · -- X2_rankOfPlaces 21f
        refine g_iload2 C dX2_rankOfPlaces_24 ?_
        refine g_iload6 C dX2_rankOfPlaces_25 ?_
        refine g_callS2i C dX2_rankOfPlaces_27 slX2_61 (s_has (by omega) (by omega)) hKd (by first | decide | omega) rfl (Nat.le_of_ble_eq_true rfl) ?_
        rintro _ _ ⟨rfl, rfl⟩
        refine g_if_eqB C 75 dX2_rankOfPlaces_30 (by decide) (fun h30 => ?_) (fun h30 => ?_)
        · -- X2_rankOfPlaces 30t
          refine g_set (L' := [some (.ref 52), some (.int (nI (zCod l))), some (.int (nI a)), some (.int (nI (zRk T l a (s + 1)).2.2)), some (.int (nI (zRk T l a (s + 1)).2.1)), some (.int (nI (zRk T l a (s + 1)).1)), some (.int (nI s)), x]) rfl (by rw [zRk, if_neg (by rw [h30]; decide)]) rfl ?_
          refine g_iinc6N C dX2_rankOfPlaces_75 ?_
          refine g_goto C 17 dX2_rankOfPlaces_78 (by decide) ?_
          exact ih (s + 1) _ (by omega) (by omega)
        · -- X2_rankOfPlaces 30f
          have hd := zRk_digit hl hm hn ha (hI s) h30
          have hp7 := (zPl_lt hl s).1
          have ht7 := (hI s).2.2.2.2
          refine g_iload1 C dX2_rankOfPlaces_33 ?_
          refine g_iload6 C dX2_rankOfPlaces_34 ?_
          refine g_callS2i C dX2_rankOfPlaces_36 slX2_81 (s_placeOf (by have := zCod_lt hl; omega) h21) hKd (by first | decide | omega) rfl (Nat.le_of_ble_eq_true rfl) ?_
          rintro _ _ ⟨rfl, rfl⟩
          rw [zCod_place hl h21]
          refine g_istore7 C dX2_rankOfPlaces_39 ?_
          refine g_iload5 C dX2_rankOfPlaces_41 ?_
          refine g_iload3 C dX2_rankOfPlaces_43 ?_
          refine g_imulN C dX2_rankOfPlaces_44 ?_
          refine g_iload7 C dX2_rankOfPlaces_45 ?_
          refine g_iaddN C dX2_rankOfPlaces_47 ?_
          refine g_iload4 C dX2_rankOfPlaces_48 ?_
          refine g_iconst C (nI 1) dX2_rankOfPlaces_50 (by decide) ?_
          refine g_iload7 C dX2_rankOfPlaces_51 ?_
          refine g_ishlN C dX2_rankOfPlaces_53 (by omega) ?_
          refine g_iconst C (nI 1) dX2_rankOfPlaces_54 (by decide) ?_
          refine g_isubN C dX2_rankOfPlaces_55 (zs_pos _) ?_
          refine g_iandN C dX2_rankOfPlaces_56 ?_
          refine g_callS1i C dX2_rankOfPlaces_57 slX2_90 (s_bc (zand_l (by omega))) hKd (by first | decide | omega) rfl (Nat.le_of_ble_eq_true rfl) ?_
          rintro _ _ ⟨rfl, rfl⟩
          refine g_isubN C dX2_rankOfPlaces_60 (by rw [show zp8 (_ &&& _) = _ from zpc_low 8 _ _ (by omega)]; have := hd.2.1; omega) ?_
          refine g_istore5 C dX2_rankOfPlaces_61 ?_
          refine g_iload4 C dX2_rankOfPlaces_63 ?_
          refine g_iconst C (nI 1) dX2_rankOfPlaces_65 (by decide) ?_
          refine g_iload7 C dX2_rankOfPlaces_66 ?_
          refine g_ishlN C dX2_rankOfPlaces_68 (by omega) ?_
          refine g_iorN C dX2_rankOfPlaces_69 ?_
          refine g_istore4 C dX2_rankOfPlaces_70 ?_
          refine g_iinc3 C dX2_rankOfPlaces_72 ?_
          refine g_set (L' := [some (.ref 52), some (.int (nI (zCod l))), some (.int (nI a)), some (.int (nI (zRk T l a (s + 1)).2.2)), some (.int (nI (zRk T l a (s + 1)).2.1)), some (.int (nI (zRk T l a (s + 1)).1)), some (.int (nI s)), some (.int (nI (zPl l s)))]) rfl (by rw [zRk, if_pos h30]; obtain ⟨f, hf⟩ : ∃ f, (zRk T l a s).2.2 = f + 1 := ⟨(zRk T l a s).2.2 - 1, by have := hd.2.2.1; omega⟩; rw [hf]; rw [show nI (f + 1) + Int32.ofInt (-1) = nI f from pk_m1 f]; rfl) rfl ?_
          refine g_iinc6N C dX2_rankOfPlaces_75 ?_
          refine g_goto C 17 dX2_rankOfPlaces_78 (by decide) ?_
          exact ih (s + 1) _ (by omega) (by omega)
  refine g_aload0 C dX2_rankOfPlaces_0 ?_
  refine g_getIE C h4 dX2_rankOfPlaces_1 flX2_25 (show 52 < 68 by decide) rfl rfl ?_
  refine g_callS1i C dX2_rankOfPlaces_4 slX2_90 (s_bc (by omega)) hKd (by first | decide | omega) rfl (Nat.le_of_ble_eq_true rfl) ?_
  rintro _ _ ⟨rfl, rfl⟩
  refine g_istore3 C dX2_rankOfPlaces_7 ?_
  refine g_iconst C (nI 0) dX2_rankOfPlaces_8 (by decide) ?_
  refine g_istore4 C dX2_rankOfPlaces_9 ?_
  refine g_iconst C (nI 0) dX2_rankOfPlaces_11 (by decide) ?_
  refine g_istore5 C dX2_rankOfPlaces_12 ?_
  refine g_iconst C (nI 0) dX2_rankOfPlaces_14 (by decide) ?_
  refine g_istore6 C dX2_rankOfPlaces_15 ?_
  exact H17 8 0 _ (by omega) (by omega)
set_option maxRecDepth 100000 in
set_option maxHeartbeats 4000000 in
theorem s_tell {Γ : zG} {c : Nat → Nat → Int32} {t : Nat → Int64} {O : List (List Nat)} {T : Nat} (hQ : zQ c O T) {a : Nat} (ha : a < 128) (hs : ∀ q, a.testBit q = true → T.testBit q = true) {V : Nat → Prop} (hMk : zMk V c) (hV : ¬ V a) : Sp Γ 2 mX2_tellWhoWasFirst [.ref 52, .int (nI a)] 0 0 (wF c t) (z_pi (fun v w => v = nI (zKn O a).toNat ∧ ∃ c', w = wF c' t ∧ zMk (fun x => V x ∨ x = a) c' ∧ ∀ x, x ≠ 54 → c' x = c x)) := by
  refine Sp.of (own := RX2) 5 false rfl (by decide +kernel) rfl rfl (fun h => by cases h) (fun K hKd M => ?_)
  have C := M.1
  show GG Γ K 0 0 (wF c t) 0 [some (.ref 52), some (.int (nI a)), none, none, none, none, none] []
  have hd8 : ∀ j, j < O.length → zHd (zAt O j) < 8 := fun j hj => by have := hQ.hd hj; omega
  have H2 : ∀ (n : Nat) (c' : Nat → Nat → Int32) (i : Nat) (x3 x4 x5 x6 : Option Value), i ≤ O.length → zPs O T a i c' → zMk (fun x => V x ∨ x = a) c' → (∀ x, x ≠ 54 → c' x = c x) → O.length - i < n → GG Γ K 0 0 (wF c' t) 2 [some (.ref 52), some (.int (nI a)), some (.int (nI i)), x3, x4, x5, x6] [] := by
    intro n
    induction n with
    | zero => intro c' i x3 x4 x5 x6 hi hP hM fr hn2; exact absurd hn2 (by omega)
    | succ n ih =>
      intro c' i x3 x4 x5 x6 hi hP hM fr hn2
      have hQ' := hQ.eq (fr 52 (by decide)) (fr 53 (by decide))
      refine g_iload2 C dX2_tellWhoWasFirst_2 ?_
      refine g_aload0 C dX2_tellWhoWasFirst_3 ?_
      refine g_getIE C hQ'.len dX2_tellWhoWasFirst_4 flX2_21 (show 52 < 68 by decide) rfl rfl ?_
      refine g_icmp_geN C 94 (by have := hQ.2.2.2.1; omega) (by have := hQ.2.2.2.1; omega) dX2_tellWhoWasFirst_7 (by decide) (fun h9 => ?_) (fun h9 => ?_)
      · -- X2_tellWhoWasFirst 7t
        obtain rfl : i = O.length := by omega
        have hk := zPs_end hQ ha hs hP
        refine g_iconst C (nI 1) dX2_tellWhoWasFirst_94 (by decide) ?_
        exact g_ret1 M dX2_tellWhoWasFirst_95 (⟨z_t1 hk, c', rfl, hM, fr⟩)
      · -- X2_tellWhoWasFirst 7f
        have h8 := hd8 i h9
        refine g_aload0 C dX2_tellWhoWasFirst_10 ?_
        refine g_getRT C dX2_tellWhoWasFirst_11 flX2_11 (show 52 < 68 by decide) rfl rfl (by decide) ?_
        refine g_iload2 C dX2_tellWhoWasFirst_14 ?_
        refine g_callS2i C dX2_tellWhoWasFirst_15 slX2_37 (s_at (show 53 < 68 by decide) rfl (by have := hQ.2.2.2.1; omega) (by decide) (hQ'.at h9)) hKd (by first | decide | omega) rfl (Nat.le_of_ble_eq_true rfl) ?_
        rintro _ _ ⟨rfl, rfl⟩
        refine g_istore3 C dX2_tellWhoWasFirst_18 ?_
        refine g_iload3 C dX2_tellWhoWasFirst_19 ?_
        refine g_callS1i C dX2_tellWhoWasFirst_20 slX2_71 (s_firstOf (hQ.lt h9)) hKd (by first | decide | omega) rfl (Nat.le_of_ble_eq_true rfl) ?_
        rintro _ _ ⟨rfl, rfl⟩
        rw [hQ.first h9]
        refine g_istore4 C dX2_tellWhoWasFirst_23 ?_
        refine g_iload1 C dX2_tellWhoWasFirst_25 ?_
        refine g_iload4 C dX2_tellWhoWasFirst_26 ?_
        refine g_callS2i C dX2_tellWhoWasFirst_28 slX2_61 (s_has (by omega) (by omega)) hKd (by first | decide | omega) rfl (Nat.le_of_ble_eq_true rfl) ?_
        rintro _ _ ⟨rfl, rfl⟩
        refine g_if_neB C 88 dX2_tellWhoWasFirst_31 (by decide) (fun h31 => ?_) (fun h31 => ?_)
        · -- X2_tellWhoWasFirst 31t
          
          refine g_iinc2N C dX2_tellWhoWasFirst_88 ?_
          refine g_goto C 2 dX2_tellWhoWasFirst_91 (by decide) ?_
          exact ih c' (i + 1) _ _ _ _ (by omega) (zPs_skip hP h31) (hM) (fr) (by omega)
        · -- X2_tellWhoWasFirst 31f
          have hv := hQ.val h9
          have hr := zRk_lt hQ.2.2.1 hv.1 hv.2.1 hv.2.2 hs 7
          refine g_aload0 C dX2_tellWhoWasFirst_34 ?_
          refine g_iload3 C dX2_tellWhoWasFirst_35 ?_
          refine g_iload1 C dX2_tellWhoWasFirst_36 ?_
          refine g_callV2i C dX2_tellWhoWasFirst_37 vlX2_99 (s_rank hQ'.2.1 hQ.2.2.1 hv.1 hv.2.1 hv.2.2 ha hs) hKd (by first | decide | omega) rfl (Nat.le_of_ble_eq_true rfl) (show 52 < 68 by decide) rfl ?_
          rintro _ _ ⟨rfl, rfl⟩
          refine g_istore5 C dX2_tellWhoWasFirst_40 ?_
          refine g_aload0 C dX2_tellWhoWasFirst_42 ?_
          refine g_getRT C dX2_tellWhoWasFirst_43 flX2_15 (show 52 < 68 by decide) rfl rfl (by decide) ?_
          refine g_iload5 C dX2_tellWhoWasFirst_46 ?_
          refine g_callS2i C dX2_tellWhoWasFirst_48 slX2_37 (s_at (show 54 < 68 by decide) rfl hr (by decide) rfl) hKd (by first | decide | omega) rfl (Nat.le_of_ble_eq_true rfl) ?_
          rintro _ _ ⟨rfl, rfl⟩
          refine g_istore6 C dX2_tellWhoWasFirst_51 ?_
          rcases hM (zRk T (zAt O i) a 7).1 hr with hc | ⟨a', f', ha', hf', hV', hc⟩ <;> rw [hc]
          · -- case
            
            refine g_iload6 C dX2_tellWhoWasFirst_53 ?_
            refine g_iconst C (nI 3) dX2_tellWhoWasFirst_55 (by decide) ?_
            refine g_ishr C dX2_tellWhoWasFirst_56 ?_
            refine g_iload1 C dX2_tellWhoWasFirst_57 ?_
            refine g_icmp_ne C 73 dX2_tellWhoWasFirst_58 (by decide) (fun h58 => ?_) (fun h58 => ?_)
            · -- X2_tellWhoWasFirst 58t
              
              refine g_aload0 C dX2_tellWhoWasFirst_73 ?_
              refine g_getRT C dX2_tellWhoWasFirst_74 flX2_15 (show 52 < 68 by decide) rfl rfl (by decide) ?_
              refine g_iload5 C dX2_tellWhoWasFirst_77 ?_
              refine g_iload1 C dX2_tellWhoWasFirst_79 ?_
              refine g_iconst C (nI 3) dX2_tellWhoWasFirst_80 (by decide) ?_
              refine g_ishlN C dX2_tellWhoWasFirst_81 (by omega) ?_
              refine g_iload4 C dX2_tellWhoWasFirst_82 ?_
              refine g_iorN C dX2_tellWhoWasFirst_84 ?_
              refine g_callS3v C dX2_tellWhoWasFirst_85 slX2_42 (s_put (show 54 < 68 by decide) rfl hr (by decide)) hKd (by first | decide | omega) rfl (Nat.le_of_ble_eq_true rfl) ?_
              rintro _ rfl
              refine g_iinc2N C dX2_tellWhoWasFirst_88 ?_
              refine g_goto C 2 dX2_tellWhoWasFirst_91 (by decide) ?_
              exact ih _ (i + 1) _ _ _ _ (by omega) (zPs_put hQ ha h9 h31 hP (fun f hf he => absurd (he.symm.trans hc) ((zTag_m9 a ha).2 f hf))) (zMk_put hM ha h8 (Or.inr rfl)) (fun x hx => (up_K hx).trans (fr x hx)) (by omega)
            · -- X2_tellWhoWasFirst 58f
              exact absurd h58 (zTag_m9 a ha).1
          · -- case
            have htg := zTag_all a' ha' f' hf'
            refine g_iload6 C dX2_tellWhoWasFirst_53 ?_
            refine g_iconst C (nI 3) dX2_tellWhoWasFirst_55 (by decide) ?_
            refine g_ishrN C dX2_tellWhoWasFirst_56 (by decide) htg.2.2 ?_
            refine g_top (by rw [htg.1]) ?_
            refine g_iload1 C dX2_tellWhoWasFirst_57 ?_
            refine g_icmp_neN C 73 (by omega) (by omega) dX2_tellWhoWasFirst_58 (by decide) (fun h58 => ?_) (fun h58 => ?_)
            · -- X2_tellWhoWasFirst 58t
              
              refine g_aload0 C dX2_tellWhoWasFirst_73 ?_
              refine g_getRT C dX2_tellWhoWasFirst_74 flX2_15 (show 52 < 68 by decide) rfl rfl (by decide) ?_
              refine g_iload5 C dX2_tellWhoWasFirst_77 ?_
              refine g_iload1 C dX2_tellWhoWasFirst_79 ?_
              refine g_iconst C (nI 3) dX2_tellWhoWasFirst_80 (by decide) ?_
              refine g_ishlN C dX2_tellWhoWasFirst_81 (by omega) ?_
              refine g_iload4 C dX2_tellWhoWasFirst_82 ?_
              refine g_iorN C dX2_tellWhoWasFirst_84 ?_
              refine g_callS3v C dX2_tellWhoWasFirst_85 slX2_42 (s_put (show 54 < 68 by decide) rfl hr (by decide)) hKd (by first | decide | omega) rfl (Nat.le_of_ble_eq_true rfl) ?_
              rintro _ rfl
              refine g_iinc2N C dX2_tellWhoWasFirst_88 ?_
              refine g_goto C 2 dX2_tellWhoWasFirst_91 (by decide) ?_
              exact ih _ (i + 1) _ _ _ _ (by omega) (zPs_put hQ ha h9 h31 hP (fun f hf he => by have e := zTag_inj ha hf ha' hf' (he.symm.trans hc); first | (rw [e.2]; exact h68) | (exact absurd e.1.symm h58))) (zMk_put hM ha h8 (Or.inr rfl)) (fun x hx => (up_K hx).trans (fr x hx)) (by omega)
            · -- X2_tellWhoWasFirst 58f
              
              refine g_iload6 C dX2_tellWhoWasFirst_61 ?_
              refine g_bipush C (nI 7) dX2_tellWhoWasFirst_63 (by decide) ?_
              refine g_iandN C dX2_tellWhoWasFirst_65 ?_
              refine g_top (by rw [htg.2.1]) ?_
              refine g_iload4 C dX2_tellWhoWasFirst_66 ?_
              refine g_icmp_eqN C 73 (by omega) (by omega) dX2_tellWhoWasFirst_68 (by decide) (fun h68 => ?_) (fun h68 => ?_)
              · -- X2_tellWhoWasFirst 68t
                
                refine g_aload0 C dX2_tellWhoWasFirst_73 ?_
                refine g_getRT C dX2_tellWhoWasFirst_74 flX2_15 (show 52 < 68 by decide) rfl rfl (by decide) ?_
                refine g_iload5 C dX2_tellWhoWasFirst_77 ?_
                refine g_iload1 C dX2_tellWhoWasFirst_79 ?_
                refine g_iconst C (nI 3) dX2_tellWhoWasFirst_80 (by decide) ?_
                refine g_ishlN C dX2_tellWhoWasFirst_81 (by omega) ?_
                refine g_iload4 C dX2_tellWhoWasFirst_82 ?_
                refine g_iorN C dX2_tellWhoWasFirst_84 ?_
                refine g_callS3v C dX2_tellWhoWasFirst_85 slX2_42 (s_put (show 54 < 68 by decide) rfl hr (by decide)) hKd (by first | decide | omega) rfl (Nat.le_of_ble_eq_true rfl) ?_
                rintro _ rfl
                refine g_iinc2N C dX2_tellWhoWasFirst_88 ?_
                refine g_goto C 2 dX2_tellWhoWasFirst_91 (by decide) ?_
                exact ih _ (i + 1) _ _ _ _ (by omega) (zPs_put hQ ha h9 h31 hP (fun f hf he => by have e := zTag_inj ha hf ha' hf' (he.symm.trans hc); first | (rw [e.2]; exact h68) | (exact absurd e.1.symm h58))) (zMk_put hM ha h8 (Or.inr rfl)) (fun x hx => (up_K hx).trans (fr x hx)) (by omega)
              · -- X2_tellWhoWasFirst 68f
                subst h58
                obtain ⟨j, hj1, hj2, hj3, hj4⟩ := hP.2 _ f' hr hf' hc
                have hk := zPs_no hQ hs (by omega) h9 hj3 (by rw [hj4]; exact h68)
                refine g_iconst C (nI 0) dX2_tellWhoWasFirst_71 (by decide) ?_
                exact g_ret0 M dX2_tellWhoWasFirst_72 (⟨z_t0 hk, c', rfl, hM, fr⟩)
  refine g_iconst C (nI 0) dX2_tellWhoWasFirst_0 (by decide) ?_
  refine g_istore2 C dX2_tellWhoWasFirst_1 ?_
  exact H2 (O.length + 1) c 0 _ _ _ _ (Nat.zero_le _) (zPs_0 hMk ha hV) (zMk_mono hMk fun _ h => Or.inl h) (fun _ _ => rfl) (by omega)
