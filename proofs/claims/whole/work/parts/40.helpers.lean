/-! the class: what its calls use -/
set_option maxRecDepth 100000 in
set_option maxHeartbeats 4000000 in
theorem s_isSailor {Γ : zG} {c : Nat → Nat → Int32} {t : Nat → Int64} {S : zAb} (hS : OkS S) (hR : RepC c t S) {x : Int32} : Sp Γ 0 mX5_isSailor [.ref 0, .int x] 0 0 (wF c t) (z_pi (fun v w => w = wF c t ∧ v = nI (zIdx x (cN S.1)).isSome.toNat)) := by
  refine Sp.of (own := RX5) 0 false rfl (by decide +kernel) rfl rfl (fun h => by cases h) (fun K hKd M => ?_)
  have C := M.1
  show GG Γ K 0 0 (wF c t) 0 [some (.ref 0), some (.int x)] []
  refine g_iload1 C dX5_isSailor_0 ?_
  refine g_if_lt C 19 dX5_isSailor_1 (by decide) (fun h1 => ?_) (fun h1 => ?_)
  · -- X5_isSailor 1t
    have hz := zIdx_lt (x := x) (n := cN S.1) (by have := hS.1.1; omega) (Or.inl h1)
    refine g_iconst C (nI 0) dX5_isSailor_19 (by decide) ?_
    exact g_ret0 M dX5_isSailor_20 (⟨rfl, by rw [hz]; rfl⟩)
  · -- X5_isSailor 1f
    
    refine g_iload1 C dX5_isSailor_4 ?_
    refine g_aload0 C dX5_isSailor_5 ?_
    refine g_getRT C dX5_isSailor_6 flX5_19 (show 0 < 68 by decide) rfl rfl (by decide) ?_
    refine g_getIE C hR.1.1 dX5_isSailor_9 flX5_196 (show 3 < 68 by decide) rfl rfl ?_
    refine g_icmp_ge C 19 dX5_isSailor_12 (by decide) (fun h12 => ?_) (fun h12 => ?_)
    · -- X5_isSailor 12t
      have hz := zIdx_lt (x := x) (n := cN S.1) (by have := hS.1.1; omega) (Or.inr h12)
      refine g_iconst C (nI 0) dX5_isSailor_19 (by decide) ?_
      exact g_ret0 M dX5_isSailor_20 (⟨rfl, by rw [hz]; rfl⟩)
    · -- X5_isSailor 12f
      obtain ⟨j, -, -, hz⟩ := zIdx_ge (x := x) (n := cN S.1) (by have := hS.1.1; omega) h1 h12
      refine g_iconst C (nI 1) dX5_isSailor_15 (by decide) ?_
      refine g_goto C 20 dX5_isSailor_16 (by decide) ?_
      exact g_ret1 M dX5_isSailor_20 (⟨rfl, by rw [hz]; rfl⟩)
set_option maxRecDepth 100000 in
set_option maxHeartbeats 4000000 in
theorem s_isSeat {Γ : zG} {c : Nat → Nat → Int32} {t : Nat → Int64} {S : zAb} (hS : OkS S) (hR : RepC c t S) {x : Int32} : Sp Γ 0 mX5_isSeat [.ref 0, .int x] 0 0 (wF c t) (z_pi (fun v w => w = wF c t ∧ v = nI (zIdx x (cS S.1)).isSome.toNat)) := by
  refine Sp.of (own := RX5) 0 false rfl (by decide +kernel) rfl rfl (fun h => by cases h) (fun K hKd M => ?_)
  have C := M.1
  show GG Γ K 0 0 (wF c t) 0 [some (.ref 0), some (.int x)] []
  refine g_iload1 C dX5_isSeat_0 ?_
  refine g_if_lt C 19 dX5_isSeat_1 (by decide) (fun h1 => ?_) (fun h1 => ?_)
  · -- X5_isSeat 1t
    have hz := zIdx_lt (x := x) (n := cS S.1) (by have := hS.1.2.2.2.2.2.2; omega) (Or.inl h1)
    refine g_iconst C (nI 0) dX5_isSeat_19 (by decide) ?_
    exact g_ret0 M dX5_isSeat_20 (⟨rfl, by rw [hz]; rfl⟩)
  · -- X5_isSeat 1f
    
    refine g_iload1 C dX5_isSeat_4 ?_
    refine g_aload0 C dX5_isSeat_5 ?_
    refine g_getRT C dX5_isSeat_6 flX5_19 (show 0 < 68 by decide) rfl rfl (by decide) ?_
    refine g_getIE C hR.1.2.2.1 dX5_isSeat_9 flX5_228 (show 3 < 68 by decide) rfl rfl ?_
    refine g_icmp_ge C 19 dX5_isSeat_12 (by decide) (fun h12 => ?_) (fun h12 => ?_)
    · -- X5_isSeat 12t
      have hz := zIdx_lt (x := x) (n := cS S.1) (by have := hS.1.2.2.2.2.2.2; omega) (Or.inr h12)
      refine g_iconst C (nI 0) dX5_isSeat_19 (by decide) ?_
      exact g_ret0 M dX5_isSeat_20 (⟨rfl, by rw [hz]; rfl⟩)
    · -- X5_isSeat 12f
      obtain ⟨j, -, -, hz⟩ := zIdx_ge (x := x) (n := cS S.1) (by have := hS.1.2.2.2.2.2.2; omega) h1 h12
      refine g_iconst C (nI 1) dX5_isSeat_15 (by decide) ?_
      refine g_goto C 20 dX5_isSeat_16 (by decide) ?_
      exact g_ret1 M dX5_isSeat_20 (⟨rfl, by rw [hz]; rfl⟩)
set_option maxRecDepth 100000 in
set_option maxHeartbeats 4000000 in
theorem s_isThere {Γ : zG} {c : Nat → Nat → Int32} {t : Nat → Int64} {S : zAb} (hS : OkS S) (hR : RepC c t S) {x : Int32} : Sp Γ 2 mX5_isThere [.ref 0, .int x] 0 0 (wF c t) (z_pi (fun v w => w = wF c t ∧ v = nI (zTh' S x).isSome.toNat)) := by
  refine Sp.of (own := RX5) 0 false rfl (by decide +kernel) rfl rfl (fun h => by cases h) (fun K hKd M => ?_)
  have C := M.1
  show GG Γ K 0 0 (wF c t) 0 [some (.ref 0), some (.int x)] []
  refine g_aload0 C dX5_isThere_0 ?_
  refine g_iload1 C dX5_isThere_1 ?_
  refine g_callV1i C dX5_isThere_2 vlX5_78 (s_isSailor hS hR) hKd (by first | decide | omega) rfl (Nat.le_of_ble_eq_true rfl) (show 0 < 68 by decide) rfl ?_
  rintro _ _ ⟨rfl, rfl⟩
  refine g_if_eqB C 26 dX5_isThere_5 (by decide) (fun h5 => ?_) (fun h5 => ?_)
  · -- X5_isThere 5t
    have hz := zsome_f h5
    have hth : zTh' S x = none := by unfold zTh'; rw [hz]
    refine g_iconst C (nI 0) dX5_isThere_26 (by decide) ?_
    exact g_ret0 M dX5_isThere_27 (⟨rfl, by rw [hth]; rfl⟩)
  · -- X5_isThere 5f
    obtain ⟨i, hz⟩ := zsome_t h5
    obtain ⟨hi, rfl⟩ := zIdx_iff hz
    have hth := zTh'_i hS hi
    refine g_aload0 C dX5_isThere_8 ?_
    refine g_getRT C dX5_isThere_9 flX5_29 (show 0 < 68 by decide) rfl rfl (by decide) ?_
    refine g_callV0i C dX5_isThere_12 vlX5_121 (s_there zMo_11 hR.2.1 hS.w) hKd (by first | decide | omega) rfl (Nat.le_of_ble_eq_true rfl) (show 11 < 68 by decide) rfl ?_
    rintro _ _ ⟨rfl, rfl⟩
    refine g_iload1 C dX5_isThere_15 ?_
    refine g_callS2i C dX5_isThere_16 slX5_99 (s_has (by have : zThere S.2.1 < 128 := hS.t; omega) (by have := hS.1.1; omega)) hKd (by first | decide | omega) rfl (Nat.le_of_ble_eq_true rfl) ?_
    rintro _ _ ⟨rfl, rfl⟩
    refine g_if_eqB C 26 dX5_isThere_19 (by decide) (fun h19 => ?_) (fun h19 => ?_)
    · -- X5_isThere 19t
      rw [if_neg (by show ¬ (zThere S.2.1).testBit i = true; rw [h19]; decide)] at hth
      refine g_iconst C (nI 0) dX5_isThere_26 (by decide) ?_
      exact g_ret0 M dX5_isThere_27 (⟨rfl, by rw [hth]; rfl⟩)
    · -- X5_isThere 19f
      rw [if_pos (show (zT0 S).testBit i = true from h19)] at hth
      refine g_iconst C (nI 1) dX5_isThere_22 (by decide) ?_
      refine g_goto C 27 dX5_isThere_23 (by decide) ?_
      exact g_ret1 M dX5_isThere_27 (⟨rfl, by rw [hth]; rfl⟩)
set_option maxRecDepth 100000 in
set_option maxHeartbeats 4000000 in
theorem s_wouldSign {Γ : zG} {c : Nat → Nat → Int32} {t : Nat → Int64} {S : zAb} (hS : OkS S) (hR : RepC c t S) {i : Nat} (hi : i < cN S.1) : Sp Γ 3 mX5_wouldSign [.ref 0, .int (nI i)] 0 0 (wF c t) (z_pi (fun v w => w = wF c t ∧ v = nI (zWn S.1 S.2.1 i).toNat)) := by
  refine Sp.of (own := RX5) 0 false rfl (by decide +kernel) rfl rfl (fun h => by cases h) (fun K hKd M => ?_)
  have C := M.1
  show GG Γ K 0 0 (wF c t) 0 [some (.ref 0), some (.int (nI i))] []
  refine g_aload0 C dX5_wouldSign_0 ?_
  refine g_getRT C dX5_wouldSign_1 flX5_29 (show 0 < 68 by decide) rfl rfl (by decide) ?_
  refine g_getIE C hR.2.1.2.1 dX5_wouldSign_4 flX5_96 (show 11 < 68 by decide) rfl rfl ?_
  refine g_iload1 C dX5_wouldSign_7 ?_
  refine g_callS2i C dX5_wouldSign_8 slX5_99 (s_has (by have := hS.g; omega) (by have := hS.1.1; omega)) hKd (by first | decide | omega) rfl (Nat.le_of_ble_eq_true rfl) ?_
  rintro _ _ ⟨rfl, rfl⟩
  refine g_if_neB C 54 dX5_wouldSign_11 (by decide) (fun h11 => ?_) (fun h11 => ?_)
  · -- X5_wouldSign 11t
    
    refine g_iconst C (nI 0) dX5_wouldSign_54 (by decide) ?_
    exact g_ret0 M dX5_wouldSign_55 (⟨rfl, z_t0 (by unfold zWn; simp [*])⟩)
  · -- X5_wouldSign 11f
    
    refine g_aload0 C dX5_wouldSign_14 ?_
    refine g_getRT C dX5_wouldSign_15 flX5_19 (show 0 < 68 by decide) rfl rfl (by decide) ?_
    refine g_iload1 C dX5_wouldSign_18 ?_
    refine g_aload0 C dX5_wouldSign_19 ?_
    refine g_getRT C dX5_wouldSign_20 flX5_29 (show 0 < 68 by decide) rfl rfl (by decide) ?_
    refine g_getIE C hR.2.1.1 dX5_wouldSign_23 flX5_118 (show 11 < 68 by decide) rfl rfl ?_
    refine g_callV2i C dX5_wouldSign_26 vlX5_235 (s_isOnDeck hS.1 hR.1 hi (by have := hS.2.1.1; omega)) hKd (by first | decide | omega) rfl (Nat.le_of_ble_eq_true rfl) (show 3 < 68 by decide) rfl ?_
    rintro _ _ ⟨rfl, rfl⟩
    refine g_if_neB C 54 dX5_wouldSign_29 (by decide) (fun h29 => ?_) (fun h29 => ?_)
    · -- X5_wouldSign 29t
      
      refine g_iconst C (nI 0) dX5_wouldSign_54 (by decide) ?_
      exact g_ret0 M dX5_wouldSign_55 (⟨rfl, z_t0 (by unfold zWn; simp [*])⟩)
    · -- X5_wouldSign 29f
      
      refine g_aload0 C dX5_wouldSign_32 ?_
      refine g_getRT C dX5_wouldSign_33 flX5_19 (show 0 < 68 by decide) rfl rfl (by decide) ?_
      refine g_iload1 C dX5_wouldSign_36 ?_
      refine g_aload0 C dX5_wouldSign_37 ?_
      refine g_getRT C dX5_wouldSign_38 flX5_29 (show 0 < 68 by decide) rfl rfl (by decide) ?_
      refine g_getIE C hR.2.1.2.1 dX5_wouldSign_41 flX5_96 (show 11 < 68 by decide) rfl rfl ?_
      refine g_callV2i C dX5_wouldSign_44 vlX5_238 (s_dares hS.1 hR.1 hi hS.g) hKd (by first | decide | omega) rfl (Nat.le_of_ble_eq_true rfl) (show 3 < 68 by decide) rfl ?_
      rintro _ _ ⟨rfl, rfl⟩
      refine g_if_eqB C 54 dX5_wouldSign_47 (by decide) (fun h47 => ?_) (fun h47 => ?_)
      · -- X5_wouldSign 47t
        
        refine g_iconst C (nI 0) dX5_wouldSign_54 (by decide) ?_
        exact g_ret0 M dX5_wouldSign_55 (⟨rfl, z_t0 (by unfold zWn; simp [*])⟩)
      · -- X5_wouldSign 47f
        
        refine g_iconst C (nI 1) dX5_wouldSign_50 (by decide) ?_
        refine g_goto C 55 dX5_wouldSign_51 (by decide) ?_
        exact g_ret1 M dX5_wouldSign_55 (⟨rfl, z_t1 (by unfold zWn; rw [h11, h29, h47]; rfl)⟩)
set_option maxRecDepth 100000 in
set_option maxHeartbeats 4000000 in
theorem s_those {Γ : zG} {c : Nat → Nat → Int32} {t : Nat → Int64} {S : zAb} (hS : OkS S) (hR : RepC c t S)  : Sp Γ 4 mX5_thoseWhoWould [.ref 0] 0 0 (wF c t) (z_pi (fun v w => w = wF c t ∧ v = nI (zWb S.1 S.2.1 (cN S.1)))) := by
  refine Sp.of (own := RX5) 2 false rfl (by decide +kernel) rfl rfl (fun h => by cases h) (fun K hKd M => ?_)
  have C := M.1
  show GG Γ K 0 0 (wF c t) 0 [some (.ref 0), none, none] []
  have H4 : ∀ (n : Nat) (i : Nat), i ≤ cN S.1 → cN S.1 - i < n → GG Γ K 0 0 (wF c t) 4 [some (.ref 0), some (.int (nI (zWb S.1 S.2.1 i))), some (.int (nI i))] [] := by
    intro n
    induction n with
    | zero => intro i hi hn; exact absurd hn (by omega)
    | succ n ih =>
      intro i hi hn
      refine g_iload2 C dX5_thoseWhoWould_4 ?_
      refine g_aload0 C dX5_thoseWhoWould_5 ?_
      refine g_getRT C dX5_thoseWhoWould_6 flX5_19 (show 0 < 68 by decide) rfl rfl (by decide) ?_
      refine g_getIE C hR.1.1 dX5_thoseWhoWould_9 flX5_196 (show 3 < 68 by decide) rfl rfl ?_
      refine g_icmp_geN C 35 (by have := hS.1.1; omega) (by have := hS.1.1; omega) dX5_thoseWhoWould_12 (by decide) (fun h12 => ?_) (fun h12 => ?_)
      · -- X5_thoseWhoWould 12t
        obtain rfl : i = cN S.1 := by omega
        refine g_iload1 C dX5_thoseWhoWould_35 ?_
        exact g_reti M dX5_thoseWhoWould_36 (⟨rfl, rfl⟩)
      · -- X5_thoseWhoWould 12f
        
        refine g_aload0 C dX5_thoseWhoWould_15 ?_
        refine g_iload2 C dX5_thoseWhoWould_16 ?_
        refine g_callV1i C dX5_thoseWhoWould_17 vlX5_106 (s_wouldSign hS hR h12) hKd (by first | decide | omega) rfl (Nat.le_of_ble_eq_true rfl) (show 0 < 68 by decide) rfl ?_
        rintro _ _ ⟨rfl, rfl⟩
        refine g_if_eqB C 29 dX5_thoseWhoWould_20 (by decide) (fun h20 => ?_) (fun h20 => ?_)
        · -- X5_thoseWhoWould 20t
          refine g_set (L' := [some (.ref 0), some (.int (nI (zWb S.1 S.2.1 (i + 1)))), some (.int (nI i))]) rfl (by rw [zWb, if_neg (by rw [h20]; decide)]) rfl ?_
          refine g_iinc2N C dX5_thoseWhoWould_29 ?_
          refine g_goto C 4 dX5_thoseWhoWould_32 (by decide) ?_
          exact ih (i + 1) (by omega) (by omega)
        · -- X5_thoseWhoWould 20f
          
          refine g_iload1 C dX5_thoseWhoWould_23 ?_
          refine g_iconst C (nI 1) dX5_thoseWhoWould_24 (by decide) ?_
          refine g_iload2 C dX5_thoseWhoWould_25 ?_
          refine g_ishlN C dX5_thoseWhoWould_26 (by have := hS.1.1; omega) ?_
          refine g_iorN C dX5_thoseWhoWould_27 ?_
          refine g_istore1 C dX5_thoseWhoWould_28 ?_
          refine g_set (L' := [some (.ref 0), some (.int (nI (zWb S.1 S.2.1 (i + 1)))), some (.int (nI i))]) rfl (by rw [zWb, if_pos h20]) rfl ?_
          refine g_iinc2N C dX5_thoseWhoWould_29 ?_
          refine g_goto C 4 dX5_thoseWhoWould_32 (by decide) ?_
          exact ih (i + 1) (by omega) (by omega)
  refine g_iconst C (nI 0) dX5_thoseWhoWould_0 (by decide) ?_
  refine g_istore1 C dX5_thoseWhoWould_1 ?_
  refine g_iconst C (nI 0) dX5_thoseWhoWould_2 (by decide) ?_
  refine g_istore2 C dX5_thoseWhoWould_3 ?_
  exact H4 (cN S.1 + 1) 0 (Nat.zero_le _) (by omega)
set_option maxRecDepth 100000 in
set_option maxHeartbeats 4000000 in
theorem s_imageAt {Γ : zG} {c : Nat → Nat → Int32} {t : Nat → Int64} {j : Nat} (hj : j < 2) : Sp Γ 0 mX5_imageAt [.ref 0, .int (nI j)] 0 0 (wF c t) (z_pr' (fun v w => w = wF c t ∧ v = 46 + 3 * j)) := by
  refine Sp.of (own := RX5) 0 false rfl (by decide +kernel) rfl rfl (fun h => by cases h) (fun K hKd M => ?_)
  have C := M.1
  show GG Γ K 0 0 (wF c t) 0 [some (.ref 0), some (.int (nI j))] []
  refine g_iload1 C dX5_imageAt_0 ?_
  refine g_if_neN C 11 (by omega) dX5_imageAt_1 (by decide) (fun h1 => ?_) (fun h1 => ?_)
  · -- X5_imageAt 1t
    
    refine g_aload0 C dX5_imageAt_11 ?_
    refine g_getRT C dX5_imageAt_12 flX5_43 (show 0 < 68 by decide) rfl rfl (by decide) ?_
    exact g_reta M dX5_imageAt_15 (⟨rfl, by omega⟩)
  · -- X5_imageAt 1f
    obtain rfl : j = 0 := by omega
    refine g_aload0 C dX5_imageAt_4 ?_
    refine g_getRT C dX5_imageAt_5 flX5_40 (show 0 < 68 by decide) rfl rfl (by decide) ?_
    refine g_goto C 15 dX5_imageAt_8 (by decide) ?_
    exact g_reta M dX5_imageAt_15 (⟨rfl, by omega⟩)
set_option maxRecDepth 100000 in
set_option maxHeartbeats 4000000 in
theorem s_power {Γ : zG} {w0 : zW} {b e : Nat} (he : e < 2 ^ 31) : Sp Γ 0 mX5_power [.int (nI b), .int (nI e)] 0 0 (w0) (z_pi (fun v w => w = w0 ∧ v = nI (b ^ e))) := by
  refine Sp.of (own := RX5) 2 false rfl (by decide +kernel) rfl rfl (fun h => by cases h) (fun K hKd M => ?_)
  have C := M.1
  show GG Γ K 0 0 (w0) 0 [some (.int (nI b)), some (.int (nI e)), none, none] []
  have H4 : ∀ (n : Nat) (k : Nat), k ≤ e → e - k < n → GG Γ K 0 0 (w0) 4 [some (.int (nI b)), some (.int (nI e)), some (.int (nI (b ^ k))), some (.int (nI k))] [] := by
    intro n
    induction n with
    | zero => intro k hk hn; exact absurd hn (by omega)
    | succ n ih =>
      intro k hk hn
      refine g_iload3 C dX5_power_4 ?_
      refine g_iload1 C dX5_power_5 ?_
      refine g_icmp_geN C 19 (by omega) (by omega) dX5_power_6 (by decide) (fun h6 => ?_) (fun h6 => ?_)
      · -- X5_power 6t
        obtain rfl : k = e := by omega
        refine g_iload2 C dX5_power_19 ?_
        exact g_reti M dX5_power_20 (⟨rfl, rfl⟩)
      · -- X5_power 6f
        
        refine g_iload2 C dX5_power_9 ?_
        refine g_iload0 C dX5_power_10 ?_
        refine g_imulN C dX5_power_11 ?_
        refine g_istore2 C dX5_power_12 ?_
        refine g_iinc3N C dX5_power_13 ?_
        refine g_goto C 4 dX5_power_16 (by decide) ?_
        exact ih (k + 1) (by omega) (by omega)
  refine g_iconst C (nI 1) dX5_power_0 (by decide) ?_
  refine g_istore2 C dX5_power_1 ?_
  refine g_iconst C (nI 0) dX5_power_2 (by decide) ?_
  refine g_istore3 C dX5_power_3 ?_
  exact H4 (e + 1) 0 (Nat.zero_le _) (by omega)
set_option maxRecDepth 100000 in
set_option maxHeartbeats 4000000 in
theorem s_gcd {Γ : zG} {w0 : zW} {a b : Nat} (ha : a < 2 ^ 31) (hb : b < 2 ^ 31) : Sp Γ 0 mX5_commonDivisor [.int (nI a), .int (nI b)] 0 0 (w0) (z_pi (fun v w => w = w0 ∧ v = nI (Nat.gcd a b))) := by
  refine Sp.of (own := RX5) 4 false rfl (by decide +kernel) rfl rfl (fun h => by cases h) (fun K hKd M => ?_)
  have C := M.1
  show GG Γ K 0 0 (w0) 0 [some (.int (nI a)), some (.int (nI b)), none, none, none, none] []
  have H7 : ∀ (n : Nat) (a' b' i : Nat) (x : Option Value), i ≤ 100 → a' < 2 ^ 31 → b' < 2 ^ 31 → zEu i a' b' → Nat.gcd a' b' = Nat.gcd a b → 100 - i < n → GG Γ K 0 0 (w0) 7 [some (.int (nI a)), some (.int (nI b)), some (.int (nI a')), some (.int (nI b')), some (.int (nI i)), x] [] := by
    intro n
    induction n with
    | zero => intro a' b' i x hi ha2 hb2 hE hg hn; exact absurd hn (by omega)
    | succ n ih =>
      intro a' b' i x hi ha2 hb2 hE hg hn
      refine g_iload4 C dX5_commonDivisor_7 ?_
      refine g_bipush C (nI 100) dX5_commonDivisor_9 (by decide) ?_
      refine g_icmp_geN C 34 (by omega) (by omega) dX5_commonDivisor_11 (by decide) (fun h11 => ?_) (fun h11 => ?_)
      · -- X5_commonDivisor 11t
        obtain rfl : i = 100 := by omega
        obtain rfl := zEu_100 hE
        refine g_iload2 C dX5_commonDivisor_34 ?_
        exact g_reti M dX5_commonDivisor_35 (⟨rfl, by rw [← hg, Nat.gcd_zero_right]⟩)
      · -- X5_commonDivisor 11f
        
        refine g_iload3 C dX5_commonDivisor_14 ?_
        refine g_if_leN C 34 (by omega) dX5_commonDivisor_15 (by decide) (fun h15 => ?_) (fun h15 => ?_)
        · -- X5_commonDivisor 15t
          subst h15
          refine g_iload2 C dX5_commonDivisor_34 ?_
          exact g_reti M dX5_commonDivisor_35 (⟨rfl, by rw [← hg, Nat.gcd_zero_right]⟩)
        · -- X5_commonDivisor 15f
          
          refine g_iload2 C dX5_commonDivisor_18 ?_
          refine g_iload3 C dX5_commonDivisor_19 ?_
          refine g_iremN C dX5_commonDivisor_20 ha2 h15 hb2 ?_
          refine g_istore5 C dX5_commonDivisor_21 ?_
          refine g_iload3 C dX5_commonDivisor_23 ?_
          refine g_istore2 C dX5_commonDivisor_24 ?_
          refine g_iload5 C dX5_commonDivisor_25 ?_
          refine g_istore3 C dX5_commonDivisor_27 ?_
          refine g_iinc4N C dX5_commonDivisor_28 ?_
          refine g_goto C 7 dX5_commonDivisor_31 (by decide) ?_
          exact ih b' (a' % b') (i + 1) _ (by omega) hb2 (Nat.lt_trans (Nat.mod_lt _ h15) hb2) (zEu_s hE h15) ((zgcd_s a' b').trans hg) (by omega)
  refine g_iload0 C dX5_commonDivisor_0 ?_
  refine g_istore2 C dX5_commonDivisor_1 ?_
  refine g_iload1 C dX5_commonDivisor_2 ?_
  refine g_istore3 C dX5_commonDivisor_3 ?_
  refine g_iconst C (nI 0) dX5_commonDivisor_4 (by decide) ?_
  refine g_istore4 C dX5_commonDivisor_5 ?_
  exact H7 101 a b 0 _ (by omega) ha hb (Or.inl ⟨0, rfl, hb⟩) rfl (by omega)
set_option maxRecDepth 100000 in
set_option maxHeartbeats 4000000 in
theorem s_terms {Γ : zG} {w0 : zW} {a b j : Nat} (ha : a < 2 ^ 31) (hb : b < 2 ^ 31) (h0 : 0 < b) (hj : j < 2) : Sp Γ 1 mX5_inLeastTerms [.int (nI a), .int (nI b), .int (nI j)] 0 0 (w0) (z_pi (fun v w => w = w0 ∧ v = zFr a b j)) := by
  refine Sp.of (own := RX5) 2 false rfl (by decide +kernel) rfl rfl (fun h => by cases h) (fun K hKd M => ?_)
  have C := M.1
  show GG Γ K 0 0 (w0) 0 [some (.int (nI a)), some (.int (nI b)), some (.int (nI j)), none, none] []
  refine g_iload0 C dX5_inLeastTerms_0 ?_
  refine g_iload1 C dX5_inLeastTerms_1 ?_
  refine g_callS2i C dX5_inLeastTerms_2 slX5_254 (s_gcd ha hb) hKd (by first | decide | omega) rfl (Nat.le_of_ble_eq_true rfl) ?_
  rintro _ _ ⟨rfl, rfl⟩
  refine g_istore3 C dX5_inLeastTerms_5 ?_
  refine g_iload2 C dX5_inLeastTerms_6 ?_
  refine g_if_neN C 14 (by omega) dX5_inLeastTerms_7 (by decide) (fun h7 => ?_) (fun h7 => ?_)
  · -- X5_inLeastTerms 7t
    
    refine g_iload1 C dX5_inLeastTerms_14 ?_
    refine g_istore4 C dX5_inLeastTerms_15 ?_
    refine g_iload3 C dX5_inLeastTerms_17 ?_
    refine g_if_leN C 28 (by have := zgcd_le (a := a) h0; omega) dX5_inLeastTerms_18 (by decide) (fun h18 => absurd h18 (by have := zgcd_pos (a := a) h0; omega)) (fun h18 => ?_)
    refine g_iload4 C dX5_inLeastTerms_21 ?_
    refine g_iload3 C dX5_inLeastTerms_23 ?_
    refine g_idivN C dX5_inLeastTerms_24 (by omega) (zgcd_pos h0) (by have := zgcd_le (a := a) h0; omega) ?_
    refine g_goto C 30 dX5_inLeastTerms_25 (by decide) ?_
    exact g_reti M dX5_inLeastTerms_30 (⟨rfl, by unfold zFr; first | rw [if_pos h7] | rw [if_neg (by omega)]⟩)
  · -- X5_inLeastTerms 7f
    
    refine g_iload0 C dX5_inLeastTerms_10 ?_
    refine g_goto C 15 dX5_inLeastTerms_11 (by decide) ?_
    refine g_istore4 C dX5_inLeastTerms_15 ?_
    refine g_iload3 C dX5_inLeastTerms_17 ?_
    refine g_if_leN C 28 (by have := zgcd_le (a := a) h0; omega) dX5_inLeastTerms_18 (by decide) (fun h18 => absurd h18 (by have := zgcd_pos (a := a) h0; omega)) (fun h18 => ?_)
    refine g_iload4 C dX5_inLeastTerms_21 ?_
    refine g_iload3 C dX5_inLeastTerms_23 ?_
    refine g_idivN C dX5_inLeastTerms_24 (by omega) (zgcd_pos h0) (by have := zgcd_le (a := a) h0; omega) ?_
    refine g_goto C 30 dX5_inLeastTerms_25 (by decide) ?_
    exact g_reti M dX5_inLeastTerms_30 (⟨rfl, by unfold zFr; first | rw [if_pos h7] | rw [if_neg (by omega)]⟩)
set_option maxRecDepth 100000 in
set_option maxHeartbeats 4000000 in
theorem s_asSailor {Γ : zG} {c : Nat → Nat → Int32} {t : Nat → Int64} {A : zCr} (ok : OkA A) (hA : CrC 3 c A) {i : Nat} (hi : i < cN A)  : Sp Γ 1 mX5_asSailor [.ref 0, .int (nI i)] 0 0 (wF c t) (z_pi (fun v w => v = nI (cC A i) ∧ w = wF c (z_upL t 0 (t 0 + 1)))) := by
  refine Sp.of (own := RX5) 0 false rfl (by decide +kernel) rfl rfl (fun h => by cases h) (fun K hKd M => ?_)
  have C := M.1
  show GG Γ K 0 0 (wF c t) 0 [some (.ref 0), some (.int (nI i))] []
  refine g_aload0 C dX5_asSailor_0 ?_
  refine g_dup C dX5_asSailor_1 rfl ?_
  refine g_getLT C dX5_asSailor_2 flX5_231 (show 0 < 68 by decide) rfl rfl ?_
  refine g_lconst C 1 dX5_asSailor_5 (by decide) ?_
  refine g_ladd C dX5_asSailor_6 ?_
  refine g_putL C dX5_asSailor_7 fpX5_231 (show 0 < 68 by decide) rfl rfl (by intro i m h; match i, h with | 0, h => cases h | 1, h => cases h | 2, h => cases h | 3, h => cases h | 4, h => cases h | 5, h => cases h | 6, h => cases h | 7, h => cases h | 8, h => cases h | 9, _ => rfl | i + 10, h => simp at h) ?_
  refine g_aload0 C dX5_asSailor_10 ?_
  refine g_getRT C dX5_asSailor_11 flX5_19 (show 0 < 68 by decide) rfl rfl (by decide) ?_
  refine g_getRT C dX5_asSailor_14 flX5_89 (show 3 < 68 by decide) rfl rfl (by decide) ?_
  refine g_iload1 C dX5_asSailor_17 ?_
  refine g_callS2i C dX5_asSailor_18 slX5_85 (s_at (show 5 < 68 by decide) rfl (by have := ok.1; omega) (by decide) (hA.2.2.2.2.1 i hi)) hKd (by first | decide | omega) rfl (Nat.le_of_ble_eq_true rfl) ?_
  rintro _ _ ⟨rfl, rfl⟩
  exact g_reti M dX5_asSailor_21 (⟨rfl, rfl⟩)
set_option maxRecDepth 100000 in
set_option maxHeartbeats 4000000 in
theorem s_asCook {Γ : zG} {c : Nat → Nat → Int32} {t : Nat → Int64} {A : zCr} (ok : OkA A) (hA : CrC 3 c A) {i : Nat} (hi : i < cN A) {Y : zMm} (hY : MoC 11 c Y) (hw : ∀ k s, k < 8 → mW Y k = some s → s < 7)  : Sp Γ 3 mX5_asCook [.ref 0, .int (nI i)] 0 0 (wF c t) (z_pi (fun v w => v = nI (cC A i + zInkS Y i) ∧ w = wF c (z_upL t 0 (t 0 + 11)))) := by
  refine Sp.of (own := RX5) 0 false rfl (by decide +kernel) rfl rfl (fun h => by cases h) (fun K hKd M => ?_)
  have C := M.1
  show GG Γ K 0 0 (wF c t) 0 [some (.ref 0), some (.int (nI i))] []
  refine g_aload0 C dX5_asCook_0 ?_
  refine g_dup C dX5_asCook_1 rfl ?_
  refine g_getLT C dX5_asCook_2 flX5_231 (show 0 < 68 by decide) rfl rfl ?_
  refine g_ldc2 C _ dX5_asCook_5 kkX5_241 ?_
  refine g_ladd C dX5_asCook_8 ?_
  refine g_putL C dX5_asCook_9 fpX5_231 (show 0 < 68 by decide) rfl rfl (by intro i m h; match i, h with | 0, h => cases h | 1, h => cases h | 2, h => cases h | 3, h => cases h | 4, h => cases h | 5, h => cases h | 6, h => cases h | 7, h => cases h | 8, h => cases h | 9, _ => rfl | i + 10, h => simp at h) ?_
  refine g_aload0 C dX5_asCook_12 ?_
  refine g_iload1 C dX5_asCook_13 ?_
  refine g_callV1i C dX5_asCook_14 vlX5_201 (s_asSailor ok hA hi) hKd (by first | decide | omega) rfl (Nat.le_of_ble_eq_true rfl) (show 0 < 68 by decide) rfl ?_
  rintro _ _ ⟨rfl, rfl⟩
  refine g_con rfl (show z_upL (z_upL t 0 (t 0 + 10)) 0 (z_upL t 0 (t 0 + 10) 0 + 1) = z_upL t 0 (t 0 + 11) by rw [z_upL2, upL_s, Int64.add_assoc]; rfl) ?_
  refine g_aload0 C dX5_asCook_17 ?_
  refine g_getRT C dX5_asCook_18 flX5_29 (show 0 < 68 by decide) rfl rfl (by decide) ?_
  refine g_iload1 C dX5_asCook_21 ?_
  refine g_callV1i C dX5_asCook_22 vlX5_243 (s_inkOf zMo_11 hY hw (by have := ok.1; omega)) hKd (by first | decide | omega) rfl (Nat.le_of_ble_eq_true rfl) (show 11 < 68 by decide) rfl ?_
  rintro _ _ ⟨rfl, rfl⟩
  refine g_iaddN C dX5_asCook_25 ?_
  exact g_reti M dX5_asCook_26 (⟨rfl, rfl⟩)
set_option maxRecDepth 100000 in
set_option maxHeartbeats 4000000 in
theorem s_asMate {Γ : zG} {c : Nat → Nat → Int32} {t : Nat → Int64} {A : zCr} (ok : OkA A) (hA : CrC 3 c A) {i : Nat} (hi : i < cN A)  : Sp Γ 2 mX5_asMate [.ref 0, .int (nI i)] 0 0 (wF c t) (z_pi (fun v w => v = nI (cC A i) - nI (zp8 (zTm A i)) ∧ w = wF c (z_upL t 0 (t 0 + 101)))) := by
  refine Sp.of (own := RX5) 0 false rfl (by decide +kernel) rfl rfl (fun h => by cases h) (fun K hKd M => ?_)
  have C := M.1
  show GG Γ K 0 0 (wF c t) 0 [some (.ref 0), some (.int (nI i))] []
  refine g_aload0 C dX5_asMate_0 ?_
  refine g_dup C dX5_asMate_1 rfl ?_
  refine g_getLT C dX5_asMate_2 flX5_231 (show 0 < 68 by decide) rfl rfl ?_
  refine g_ldc2 C _ dX5_asMate_5 kkX5_246 ?_
  refine g_ladd C dX5_asMate_8 ?_
  refine g_putL C dX5_asMate_9 fpX5_231 (show 0 < 68 by decide) rfl rfl (by intro i m h; match i, h with | 0, h => cases h | 1, h => cases h | 2, h => cases h | 3, h => cases h | 4, h => cases h | 5, h => cases h | 6, h => cases h | 7, h => cases h | 8, h => cases h | 9, _ => rfl | i + 10, h => simp at h) ?_
  refine g_aload0 C dX5_asMate_12 ?_
  refine g_iload1 C dX5_asMate_13 ?_
  refine g_callV1i C dX5_asMate_14 vlX5_201 (s_asSailor ok hA hi) hKd (by first | decide | omega) rfl (Nat.le_of_ble_eq_true rfl) (show 0 < 68 by decide) rfl ?_
  rintro _ _ ⟨rfl, rfl⟩
  refine g_con rfl (show z_upL (z_upL t 0 (t 0 + 100)) 0 (z_upL t 0 (t 0 + 100) 0 + 1) = z_upL t 0 (t 0 + 101) by rw [z_upL2, upL_s, Int64.add_assoc]; rfl) ?_
  refine g_aload0 C dX5_asMate_17 ?_
  refine g_getRT C dX5_asMate_18 flX5_19 (show 0 < 68 by decide) rfl rfl (by decide) ?_
  refine g_iload1 C dX5_asMate_21 ?_
  refine g_callV1i C dX5_asMate_22 vlX5_92 (s_trusted ok hA hi) hKd (by first | decide | omega) rfl (Nat.le_of_ble_eq_true rfl) (show 3 < 68 by decide) rfl ?_
  rintro _ _ ⟨rfl, rfl⟩
  refine g_callS1i C dX5_asMate_25 slX5_135 (s_bc (by have := zTm_lt ok i; omega)) hKd (by first | decide | omega) rfl (Nat.le_of_ble_eq_true rfl) ?_
  rintro _ _ ⟨rfl, rfl⟩
  refine g_isub C dX5_asMate_28 ?_
  exact g_reti M dX5_asMate_29 (⟨rfl, rfl⟩)
set_option maxRecDepth 100000 in
set_option maxHeartbeats 4000000 in
theorem s_asBosun {Γ : zG} {c : Nat → Nat → Int32} {t : Nat → Int64} {A : zCr} (ok : OkA A) (hA : CrC 3 c A) {i : Nat} (hi : i < cN A) {Y : zMm} (hY : MoC 11 c Y) (hw : ∀ k s, k < 8 → mW Y k = some s → s < 7)  : Sp Γ 4 mX5_asBosun [.ref 0, .int (nI i)] 0 0 (wF c t) (z_pi (fun v w => v = nI (2 * (cC A i + zInkS Y i)) ∧ w = wF c (z_upL t 0 (t 0 + 1011)))) := by
  refine Sp.of (own := RX5) 0 false rfl (by decide +kernel) rfl rfl (fun h => by cases h) (fun K hKd M => ?_)
  have C := M.1
  show GG Γ K 0 0 (wF c t) 0 [some (.ref 0), some (.int (nI i))] []
  refine g_aload0 C dX5_asBosun_0 ?_
  refine g_dup C dX5_asBosun_1 rfl ?_
  refine g_getLT C dX5_asBosun_2 flX5_231 (show 0 < 68 by decide) rfl rfl ?_
  refine g_ldc2 C _ dX5_asBosun_5 kkX5_248 ?_
  refine g_ladd C dX5_asBosun_8 ?_
  refine g_putL C dX5_asBosun_9 fpX5_231 (show 0 < 68 by decide) rfl rfl (by intro i m h; match i, h with | 0, h => cases h | 1, h => cases h | 2, h => cases h | 3, h => cases h | 4, h => cases h | 5, h => cases h | 6, h => cases h | 7, h => cases h | 8, h => cases h | 9, _ => rfl | i + 10, h => simp at h) ?_
  refine g_iconst C (nI 2) dX5_asBosun_12 (by decide) ?_
  refine g_aload0 C dX5_asBosun_13 ?_
  refine g_iload1 C dX5_asBosun_14 ?_
  refine g_callV1i C dX5_asBosun_15 vlX5_204 (s_asCook ok hA hi hY hw) hKd (by first | decide | omega) rfl (Nat.le_of_ble_eq_true rfl) (show 0 < 68 by decide) rfl ?_
  rintro _ _ ⟨rfl, rfl⟩
  refine g_con rfl (show z_upL (z_upL t 0 (t 0 + 1000)) 0 (z_upL t 0 (t 0 + 1000) 0 + 11) = z_upL t 0 (t 0 + 1011) by rw [z_upL2, upL_s, Int64.add_assoc]; rfl) ?_
  refine g_imulN C dX5_asBosun_18 ?_
  exact g_reti M dX5_asBosun_19 (⟨rfl, rfl⟩)
set_option maxRecDepth 100000 in
set_option maxHeartbeats 4000000 in
theorem s_asGunner {Γ : zG} {c : Nat → Nat → Int32} {t : Nat → Int64} {A : zCr} (ok : OkA A) (hA : CrC 3 c A) {i : Nat} (hi : i < cN A)  : Sp Γ 3 mX5_asGunner [.ref 0, .int (nI i)] 0 0 (wF c t) (z_pi (fun v w => v = nI (cC A i) - nI (zp8 (zTm A i)) + nI i ∧ w = wF c (z_upL t 0 (t 0 + 10101)))) := by
  refine Sp.of (own := RX5) 0 false rfl (by decide +kernel) rfl rfl (fun h => by cases h) (fun K hKd M => ?_)
  have C := M.1
  show GG Γ K 0 0 (wF c t) 0 [some (.ref 0), some (.int (nI i))] []
  refine g_aload0 C dX5_asGunner_0 ?_
  refine g_dup C dX5_asGunner_1 rfl ?_
  refine g_getLT C dX5_asGunner_2 flX5_231 (show 0 < 68 by decide) rfl rfl ?_
  refine g_ldc2 C _ dX5_asGunner_5 kkX5_250 ?_
  refine g_ladd C dX5_asGunner_8 ?_
  refine g_putL C dX5_asGunner_9 fpX5_231 (show 0 < 68 by decide) rfl rfl (by intro i m h; match i, h with | 0, h => cases h | 1, h => cases h | 2, h => cases h | 3, h => cases h | 4, h => cases h | 5, h => cases h | 6, h => cases h | 7, h => cases h | 8, h => cases h | 9, _ => rfl | i + 10, h => simp at h) ?_
  refine g_aload0 C dX5_asGunner_12 ?_
  refine g_iload1 C dX5_asGunner_13 ?_
  refine g_callV1i C dX5_asGunner_14 vlX5_207 (s_asMate ok hA hi) hKd (by first | decide | omega) rfl (Nat.le_of_ble_eq_true rfl) (show 0 < 68 by decide) rfl ?_
  rintro _ _ ⟨rfl, rfl⟩
  refine g_con rfl (show z_upL (z_upL t 0 (t 0 + 10000)) 0 (z_upL t 0 (t 0 + 10000) 0 + 101) = z_upL t 0 (t 0 + 10101) by rw [z_upL2, upL_s, Int64.add_assoc]; rfl) ?_
  refine g_iload1 C dX5_asGunner_17 ?_
  refine g_iadd C dX5_asGunner_18 ?_
  exact g_reti M dX5_asGunner_19 (⟨rfl, rfl⟩)
set_option maxRecDepth 100000 in
set_option maxHeartbeats 4000000 in
theorem s_asBoy {Γ : zG} {c : Nat → Nat → Int32} {t : Nat → Int64} {A : zCr} (ok : OkA A) (hA : CrC 3 c A) {i : Nat} (hi : i < cN A) {Y : zMm} (hY : MoC 11 c Y)  : Sp Γ 2 mX5_asBoy [.ref 0, .int (nI i)] 0 0 (wF c t) (z_pi (fun v w => v = nI (cC A i + mH Y) ∧ w = wF c (z_upL t 0 (t 0 + 100001)))) := by
  refine Sp.of (own := RX5) 0 false rfl (by decide +kernel) rfl rfl (fun h => by cases h) (fun K hKd M => ?_)
  have C := M.1
  show GG Γ K 0 0 (wF c t) 0 [some (.ref 0), some (.int (nI i))] []
  refine g_aload0 C dX5_asBoy_0 ?_
  refine g_dup C dX5_asBoy_1 rfl ?_
  refine g_getLT C dX5_asBoy_2 flX5_231 (show 0 < 68 by decide) rfl rfl ?_
  refine g_ldc2 C _ dX5_asBoy_5 kkX5_252 ?_
  refine g_ladd C dX5_asBoy_8 ?_
  refine g_putL C dX5_asBoy_9 fpX5_231 (show 0 < 68 by decide) rfl rfl (by intro i m h; match i, h with | 0, h => cases h | 1, h => cases h | 2, h => cases h | 3, h => cases h | 4, h => cases h | 5, h => cases h | 6, h => cases h | 7, h => cases h | 8, h => cases h | 9, _ => rfl | i + 10, h => simp at h) ?_
  refine g_aload0 C dX5_asBoy_12 ?_
  refine g_iload1 C dX5_asBoy_13 ?_
  refine g_callV1i C dX5_asBoy_14 vlX5_201 (s_asSailor ok hA hi) hKd (by first | decide | omega) rfl (Nat.le_of_ble_eq_true rfl) (show 0 < 68 by decide) rfl ?_
  rintro _ _ ⟨rfl, rfl⟩
  refine g_con rfl (show z_upL (z_upL t 0 (t 0 + 100000)) 0 (z_upL t 0 (t 0 + 100000) 0 + 1) = z_upL t 0 (t 0 + 100001) by rw [z_upL2, upL_s, Int64.add_assoc]; rfl) ?_
  refine g_aload0 C dX5_asBoy_17 ?_
  refine g_getRT C dX5_asBoy_18 flX5_29 (show 0 < 68 by decide) rfl rfl (by decide) ?_
  refine g_getIE C hY.1 dX5_asBoy_21 flX5_118 (show 11 < 68 by decide) rfl rfl ?_
  refine g_iaddN C dX5_asBoy_24 ?_
  exact g_reti M dX5_asBoy_25 (⟨rfl, rfl⟩)
theorem zCr_enl {c : Nat → Nat → Int32} {s : Nat} {w co tr : Nat → Nat} {d e : Nat} {x y z : Nat} (h : CrC 3 c (s, w, co, tr, d, e)) (hx : w s = x) (hy : co s = y) (hz : tr s = z) : CrC 3 (z_up (z_up (z_up (z_up c 4 s (nI x)) 5 s (nI y)) 6 s (nI z)) 3 3 (nI (s + 1))) (s + 1, w, co, tr, d, e) := by
  subst hx hy hz
  obtain ⟨h1, h2, h3, h4, h5, h6⟩ := h
  refine ⟨up_s _ _ _ _, (up_j _ (by decide)).trans ((up_k (by decide) _).trans ((up_k (by decide) _).trans ((up_k (by decide) _).trans h2))), (up_j _ (by decide)).trans ((up_k (by decide) _).trans ((up_k (by decide) _).trans ((up_k (by decide) _).trans h3))), fun i hi => ?_, fun i hi => ?_, fun i hi => ?_⟩
  · show z_up _ 3 3 _ 4 i = nI (w i)
    have hi' : i < s + 1 := hi
    rw [up_k (by decide), up_k (by decide), up_k (by decide)]
    by_cases e : i = s
    · rw [e, up_s]
    · rw [up_j _ e]; exact h4 i (show i < s by omega)
  · show z_up _ 3 3 _ 5 i = nI (co i)
    have hi' : i < s + 1 := hi
    rw [up_k (by decide), up_k (by decide)]
    by_cases e : i = s
    · rw [e, up_s]
    · rw [up_j _ e, up_k (by decide)]; exact h5 i (show i < s by omega)
  · show z_up _ 3 3 _ 6 i = nI (tr i)
    have hi' : i < s + 1 := hi
    rw [up_k (by decide)]
    by_cases e : i = s
    · rw [e, up_s]
    · rw [up_j _ e, up_k (by decide), up_k (by decide)]; exact h6 i (show i < s by omega)
set_option maxRecDepth 100000 in
set_option maxHeartbeats 4000000 in
theorem s_cbec {Γ : zG} {c : Nat → Nat → Int32} {t : Nat → Int64} {B : zCr} (ok : OkA B) (hB : CrC 7 c B) : Sp Γ 2 mX0_become [.ref 3, .ref 7] 0 0 (wF c t) (z_pv (fun w => ∃ c', w = wF c' t ∧ CrC 3 c' B ∧ ∀ a, (a < 3 ∨ 6 < a) → c' a = c a)) := by
  refine Sp.of (own := RX0) 1 false rfl (by decide +kernel) rfl rfl (fun h => by cases h) (fun K hKd M => ?_)
  have C := M.1
  show GG Γ K 0 0 (wF c t) 0 [some (.ref 3), some (.ref 7), none] []
  have hN := ok.1
  have H6 : ∀ (n : Nat) (c' : Nat → Nat → Int32) (s : Nat), s ≤ cN B → CrC 3 c' (s, cW B, cC B, cT B, 3, 8) → (∀ a, (a < 3 ∨ 6 < a) → c' a = c a) → cN B - s < n → GG Γ K 0 0 (wF c' t) 6 [some (.ref 3), some (.ref 7), some (.int (nI s))] [] := by
    intro n
    induction n with
    | zero => intro c' s hs hA fr hn; exact absurd hn (by omega)
    | succ n ih =>
      intro c' s hs hA fr hn
      have hB' := hB.eq (fr 7 (by decide)) (fr 8 (by decide)) (fr 9 (by decide)) (fr 10 (by decide))
      refine g_iload2 C dX0_become_6 ?_
      refine g_aload1 C dX0_become_7 ?_
      refine g_getIE C hB'.1 dX0_become_8 flX0_28 (show 7 < 68 by decide) rfl rfl ?_
      refine g_icmp_geN C 48 (by omega) (by omega) dX0_become_11 (by decide) (fun h11 => ?_) (fun h11 => ?_)
      · -- X0_become 11t
        obtain rfl : s = cN B := by omega
        refine g_aload0 C dX0_become_48 ?_
        refine g_aload1 C dX0_become_49 ?_
        refine g_getIE C hB'.2.1 dX0_become_50 flX0_21 (show 7 < 68 by decide) rfl rfl ?_
        refine g_putI C dX0_become_53 fpX0_21 (show 3 < 68 by decide) rfl rfl rfl rfl ?_
        refine g_aload0 C dX0_become_56 ?_
        refine g_aload1 C dX0_become_57 ?_
        refine g_getIE C ((up_k (by decide) _).trans hB'.2.2.1) dX0_become_58 flX0_25 (show 7 < 68 by decide) rfl rfl ?_
        refine g_putI C dX0_become_61 fpX0_25 (show 3 < 68 by decide) rfl rfl rfl rfl ?_
        exact g_retv M dX0_become_64 (⟨_, rfl, ⟨(up_j _ (by decide)).trans ((up_j _ (by decide)).trans hA.1), (up_j _ (by decide)).trans (up_s _ _ _ _), up_s _ _ _ _, fun i hi => (up_k (by decide) i).trans ((up_k (by decide) i).trans (hA.2.2.2.1 i hi)), fun i hi => (up_k (by decide) i).trans ((up_k (by decide) i).trans (hA.2.2.2.2.1 i hi)), fun i hi => (up_k (by decide) i).trans ((up_k (by decide) i).trans (hA.2.2.2.2.2 i hi))⟩, fun a ha => by rw [up_K (by omega), up_K (by omega)]; exact fr a ha⟩)
      · -- X0_become 11f
        
        refine g_aload0 C dX0_become_14 ?_
        refine g_aload1 C dX0_become_15 ?_
        refine g_getRT C dX0_become_16 flX0_9 (show 7 < 68 by decide) rfl rfl (by decide) ?_
        refine g_iload2 C dX0_become_19 ?_
        refine g_callS2i C dX0_become_20 slX0_38 (s_at (show 8 < 68 by decide) rfl (by omega) (by decide) (hB'.2.2.2.1 s h11)) hKd (by first | decide | omega) rfl (Nat.le_of_ble_eq_true rfl) ?_
        rintro _ _ ⟨rfl, rfl⟩
        refine g_aload1 C dX0_become_23 ?_
        refine g_getRT C dX0_become_24 flX0_15 (show 7 < 68 by decide) rfl rfl (by decide) ?_
        refine g_iload2 C dX0_become_27 ?_
        refine g_callS2i C dX0_become_28 slX0_38 (s_at (show 9 < 68 by decide) rfl (by omega) (by decide) (hB'.2.2.2.2.1 s h11)) hKd (by first | decide | omega) rfl (Nat.le_of_ble_eq_true rfl) ?_
        rintro _ _ ⟨rfl, rfl⟩
        refine g_aload1 C dX0_become_31 ?_
        refine g_getRT C dX0_become_32 flX0_18 (show 7 < 68 by decide) rfl rfl (by decide) ?_
        refine g_iload2 C dX0_become_35 ?_
        refine g_callS2i C dX0_become_36 slX0_38 (s_at (show 10 < 68 by decide) rfl (by omega) (by decide) (hB'.2.2.2.2.2 s h11)) hKd (by first | decide | omega) rfl (Nat.le_of_ble_eq_true rfl) ?_
        rintro _ _ ⟨rfl, rfl⟩
        refine g_callV3v C dX0_become_39 vlX0_42 (s_enl3 (n := s) (by omega) hA.1) hKd (by first | decide | omega) rfl (Nat.le_of_ble_eq_true rfl) (show 3 < 68 by decide) rfl ?_
        rintro _ rfl
        refine g_iinc2N C dX0_become_42 ?_
        refine g_goto C 6 dX0_become_45 (by decide) ?_
        exact ih _ (s + 1) (by omega) (zCr_enl hA rfl rfl rfl) (fun a ha => by rw [up_K (by omega), up_K (by omega), up_K (by omega), up_K (by omega)]; exact fr a ha) (by omega)
  refine g_aload0 C dX0_become_0 ?_
  refine g_callV0v C dX0_become_1 vlX0_35 (s_crst3) hKd (by first | decide | omega) rfl (Nat.le_of_ble_eq_true rfl) (show 3 < 68 by decide) rfl ?_
  rintro _ rfl
  refine g_iconst C (nI 0) dX0_become_4 (by decide) ?_
  refine g_istore2 C dX0_become_5 ?_
  exact H6 (cN B + 1) _ 0 (Nat.zero_le _) ⟨(up_j _ (by decide)).trans ((up_j _ (by decide)).trans (up_s _ _ _ _)), (up_j _ (by decide)).trans (up_s _ _ _ _), up_s _ _ _ _, fun i h => absurd h (Nat.not_lt_zero i), fun i h => absurd h (Nat.not_lt_zero i), fun i h => absurd h (Nat.not_lt_zero i)⟩ (fun a ha => by rw [up_K (by omega), up_K (by omega), up_K (by omega)]) (by omega)
