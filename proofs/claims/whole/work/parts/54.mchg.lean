/-! the reference: changes -/
set_option maxRecDepth 100000 in
set_option maxHeartbeats 4000000 in
theorem n_keeps {Γ : zG} {c : Nat → Nat → Int32} {t : Nat → Int64} {S : zAb} (hS : OkS S) (hR : RepM c t S)  : Sp Γ 0 mX6_keeps [.ref 56] 0 0 (wF c t) (z_pv (zOutK c t S)) := by
  refine Sp.of (own := RX6) 1 false rfl (by decide +kernel) rfl rfl (fun h => by cases h) (fun K hKd M => ?_)
  have C := M.1
  show GG Γ K 0 0 (wF c t) 0 [some (.ref 56), none] []
  have H49 : ∀ (c1 : Nat → Nat → Int32) (P1 : List zMm) (x : Option Value), P1.length ≤ 9 → RepM c1 t (S.1, S.2.1, P1, S.2.2.2) → (∀ a, a < 56 → c1 a = c a) → S.2.1 :: P1 = zRem S.2.1 S.2.2.1 → GG Γ K 0 0 (wF c1 t) 49 [some (.ref 56), x] [] := by
    intro c1 P1 x hl hR1 hfr hz
    have hP := hR1.pa
    have h7 : c1 56 7 = nI P1.length := hP.1
    have H51 : ∀ (n : Nat) (k : Nat), k ≤ 18 → 18 - k < n → GG Γ K 0 0 (wF (zCy c1 61 (18 * P1.length) (c1 60) k) t) 51 [some (.ref 56), some (.int (nI k))] [] := by
      intro n
      induction n with
      | zero => intro k hk hn; exact absurd hn (by omega)
      | succ n ih =>
        intro k hk hn
        refine g_iload1 C dX6_keeps_51 ?_
        refine g_bipush C (nI 18) dX6_keeps_52 (by decide) ?_
        refine g_icmp_geN C 83 (by omega) (by omega) dX6_keeps_54 (by decide) (fun h54 => ?_) (fun h54 => ?_)
        · -- X6_keeps 54t
          obtain rfl : k = 18 := by omega
          refine g_aload0 C dX6_keeps_83 ?_
          refine g_dup C dX6_keeps_84 rfl ?_
          refine g_getIE C ((congrFun (zCy_k (by decide)) 7).trans h7) dX6_keeps_85 flX6_92 (show 56 < 68 by decide) rfl rfl ?_
          refine g_iconst C (nI 1) dX6_keeps_88 (by decide) ?_
          refine g_iaddN C dX6_keeps_89 ?_
          refine g_putI C dX6_keeps_90 fpX6_92 (show 56 < 68 by decide) rfl rfl rfl rfl ?_
          exact g_retv M dX6_keeps_93 (⟨_, rfl, by rw [← hz]; exact hR1.past (fun a _ _ h => by rw [up_K (by omega), zCy_k h]) (by rw [up_j _ (by decide), zCy_k (by decide)]) (hP.push hR1.2.1), fun a ha => by rw [up_K (by omega), zCy_k (by omega)]; exact hfr a ha⟩)
        · -- X6_keeps 54f
          
          refine g_aload0 C dX6_keeps_57 ?_
          refine g_getRT C dX6_keeps_58 flX6_22 (show 56 < 68 by decide) rfl rfl (by decide) ?_
          refine g_bipush C (nI 18) dX6_keeps_61 (by decide) ?_
          refine g_aload0 C dX6_keeps_63 ?_
          refine g_getIE C ((congrFun (zCy_k (by decide)) 7).trans h7) dX6_keeps_64 flX6_92 (show 56 < 68 by decide) rfl rfl ?_
          refine g_imulN C dX6_keeps_67 ?_
          refine g_iload1 C dX6_keeps_68 ?_
          refine g_iaddN C dX6_keeps_69 ?_
          refine g_aload0 C dX6_keeps_70 ?_
          refine g_getRT C dX6_keeps_71 flX6_19 (show 56 < 68 by decide) rfl rfl (by decide) ?_
          refine g_iload1 C dX6_keeps_74 ?_
          refine g_ialdE C (congrFun (zCy_k (by decide)) k) (by omega) (by decide) dX6_keeps_75 (show 60 < 68 by decide) rfl ?_
          refine g_iastN C (by omega) (by decide) dX6_keeps_76 (show 61 < 68 by decide) rfl ?_
          refine g_con (zCy_s _ _ _ _ _) rfl ?_
          refine g_iinc1N C dX6_keeps_77 ?_
          refine g_goto C 51 dX6_keeps_80 (by decide) ?_
          exact ih (k + 1) (by omega) (by omega)
    refine g_iconst C (nI 0) dX6_keeps_49 (by decide) ?_
    refine g_istore1 C dX6_keeps_50 ?_
    refine g_con (zCy_0 c1 61 (18 * P1.length) (c1 60)).symm rfl ?_
    exact H51 19 0 (Nat.zero_le _) (by omega)
  have H11a : S.2.2.1.length = 10 → GG Γ K 0 0 (wF c t) 11 [some (.ref 56), some (.int (nI 0))] [] := by
    intro hl
    have H11 : ∀ (n : Nat) (k : Nat), k ≤ 162 → 162 - k < n → GG Γ K 0 0 (wF (zCy c 61 0 (fun k => c 61 (k + 18)) k) t) 11 [some (.ref 56), some (.int (nI k))] [] := by
      intro n
      induction n with
      | zero => intro k hk hn; exact absurd hn (by omega)
      | succ n ih =>
        intro k hk hn
        refine g_iload1 C dX6_keeps_11 ?_
        refine g_sipush C (nI 162) dX6_keeps_12 (by decide) ?_
        refine g_icmp_geN C 39 (by omega) (by omega) dX6_keeps_15 (by decide) (fun h15 => ?_) (fun h15 => ?_)
        · -- X6_keeps 15t
          obtain rfl : k = 162 := by omega
          refine g_aload0 C dX6_keeps_39 ?_
          refine g_dup C dX6_keeps_40 rfl ?_
          refine g_getIE C ((congrFun (zCy_k (by decide)) 7).trans (hR.2.2.1.1.trans (congrArg nI hl))) dX6_keeps_41 flX6_92 (show 56 < 68 by decide) rfl rfl ?_
          refine g_iconst C (nI 1) dX6_keeps_44 (by decide) ?_
          refine g_isubN C dX6_keeps_45 (by omega) ?_
          refine g_putI C dX6_keeps_46 fpX6_92 (show 56 < 68 by decide) rfl rfl rfl rfl ?_
          exact H49 _ (S.2.2.1.take 9) _ (by rw [List.length_take]; omega) (hR.past (fun a _ _ h => by rw [up_K (by omega), zCy_k h]) (by rw [up_j _ (by decide), zCy_k (by decide)]) (hR.pa.shift hl)) (fun a ha => by rw [up_K (by omega), zCy_k (by omega)]) (zRem_10 hl)
        · -- X6_keeps 15f
          
          refine g_aload0 C dX6_keeps_18 ?_
          refine g_getRT C dX6_keeps_19 flX6_22 (show 56 < 68 by decide) rfl rfl (by decide) ?_
          refine g_iload1 C dX6_keeps_22 ?_
          refine g_aload0 C dX6_keeps_23 ?_
          refine g_getRT C dX6_keeps_24 flX6_22 (show 56 < 68 by decide) rfl rfl (by decide) ?_
          refine g_iload1 C dX6_keeps_27 ?_
          refine g_bipush C (nI 18) dX6_keeps_28 (by decide) ?_
          refine g_iaddN C dX6_keeps_30 ?_
          refine g_ialdE C (zCy_o (by omega)) (by omega) (by decide) dX6_keeps_31 (show 61 < 68 by decide) rfl ?_
          refine g_iastN C (by omega) (by decide) dX6_keeps_32 (show 61 < 68 by decide) rfl ?_
          refine g_con (zCy_s0 _ _ (fun k => c 61 (k + 18)) k) rfl ?_
          refine g_iinc1N C dX6_keeps_33 ?_
          refine g_goto C 11 dX6_keeps_36 (by decide) ?_
          exact ih (k + 1) (by omega) (by omega)
    refine g_con (zCy_0 c 61 0 (fun k => c 61 (k + 18))).symm rfl ?_
    exact H11 163 0 (Nat.zero_le _) (by omega)
  refine g_aload0 C dX6_keeps_0 ?_
  refine g_getIE C hR.2.2.1.1 dX6_keeps_1 flX6_92 (show 56 < 68 by decide) rfl rfl ?_
  refine g_bipush C (nI 10) dX6_keeps_4 (by decide) ?_
  refine g_icmp_neN C 49 (by have := hS.2.2.2.1; omega) (by decide) dX6_keeps_6 (by decide) (fun h6 => ?_) (fun h6 => ?_)
  · -- X6_keeps 6t
    
    exact H49 c S.2.2.1 _ (by have := hS.2.2.2.1; omega) hR (fun _ _ => rfl) (zRem_9 (by have := hS.2.2.2.1; omega))
  · -- X6_keeps 6f
    
    refine g_iconst C (nI 0) dX6_keeps_9 (by decide) ?_
    refine g_istore1 C dX6_keeps_10 ?_
    exact H11a h6
set_option maxRecDepth 100000 in
set_option maxHeartbeats 4000000 in
theorem q_hour {Γ : zG} {c : Nat → Nat → Int32} {t : Nat → Int64} {S : zAb} (hS : OkS S) (hR : RepM c t S)  : Sp Γ 2 mX6_hour [.ref 56] 0 0 (wF c t) (z_pi (zOutM c t ((a_hour S).1) ((a_hour S).2))) := by
  refine Sp.of (own := RX6) 0 false rfl (by decide +kernel) rfl rfl (fun h => by cases h) (fun K hKd M => ?_)
  have C := M.1
  show GG Γ K 0 0 (wF c t) 0 [some (.ref 56)] []
  refine g_aload0 C dX6_hour_0 ?_
  refine g_getRT C dX6_hour_1 flX6_19 (show 56 < 68 by decide) rfl rfl (by decide) ?_
  refine g_iconst C (nI 0) dX6_hour_4 (by decide) ?_
  refine g_ialdE C hR.2.1.1 (by omega) (by decide) dX6_hour_5 (show 60 < 68 by decide) rfl ?_
  refine g_bipush C (nI 99) dX6_hour_6 (by decide) ?_
  refine g_icmp_neN C 14 (by have := hS.2.1.1; omega) (by decide) dX6_hour_8 (by decide) (fun h8 => ?_) (fun h8 => ?_)
  · -- X6_hour 8t
    have hr : a_hour S = (nI (mH S.2.1 + 1), zGo S (mH S.2.1 + 1, S.2.1.2)) := by unfold a_hour; rw [if_pos (by have := hS.2.1.1; omega)] <;> rfl
    refine g_aload0 C dX6_hour_14 ?_
    refine g_callV0v C dX6_hour_15 vlX6_118 (n_keeps hS hR) hKd (by first | decide | omega) rfl (Nat.le_of_ble_eq_true rfl) (show 56 < 68 by decide) rfl ?_
    rintro _ ⟨c1, rfl, hR1, hfr⟩
    refine g_aload0 C dX6_hour_18 ?_
    refine g_getRT C dX6_hour_19 flX6_19 (show 56 < 68 by decide) rfl rfl (by decide) ?_
    refine g_iconst C (nI 0) dX6_hour_22 (by decide) ?_
    refine g_dup2 C dX6_hour_23 rfl rfl ?_
    refine g_ialdE C hR1.2.1.1 (by omega) (by decide) dX6_hour_24 (show 60 < 68 by decide) rfl ?_
    refine g_iconst C (nI 1) dX6_hour_25 (by decide) ?_
    refine g_iaddN C dX6_hour_26 ?_
    refine g_iastN C (by omega) (by decide) dX6_hour_27 (show 60 < 68 by decide) rfl ?_
    refine g_aload0 C dX6_hour_28 ?_
    refine g_getRT C dX6_hour_29 flX6_19 (show 56 < 68 by decide) rfl rfl (by decide) ?_
    refine g_iconst C (nI 0) dX6_hour_32 (by decide) ?_
    refine g_ialdE C (up_s _ _ _ _) (by omega) (by decide) dX6_hour_33 (show 60 < 68 by decide) rfl ?_
    exact g_reti M dX6_hour_34 (by rw [hr]; exact zOutM.mk' rfl (hR1.row (Y := (mH S.2.1 + 1, S.2.1.2)) (fun a _ _ h => up_K h) (up_k (by decide) _) (up_k (by decide) _) ⟨up_s _ _ _ _, (up_j _ (by decide)).trans hR1.2.1.2.1, fun k hk => (up_j _ (by omega)).trans (hR1.2.1.2.2.1 k hk), fun k hk => (up_j _ (by omega)).trans (hR1.2.1.2.2.2 k hk)⟩) (fun a ha => (up_K (by omega)).trans (hfr a ha)) (fun _ _ => rfl))
  · -- X6_hour 8f
    have hr : a_hour S = (-2, S) := by unfold a_hour; rw [if_neg (by omega)] <;> rfl
    refine g_bipush C (-2) dX6_hour_11 (by decide) ?_
    exact g_reti M dX6_hour_13 (by rw [hr]; exact zOutM.same hR)
set_option maxRecDepth 100000 in
set_option maxHeartbeats 4000000 in
theorem q_scrape {Γ : zG} {c : Nat → Nat → Int32} {t : Nat → Int64} {S : zAb} (hS : OkS S) (hR : RepM c t S) {k : Int32} : Sp Γ 2 mX6_scrape [.ref 56, .int k] 0 0 (wF c t) (z_pi (zOutM c t ((a_scrape S k).1) ((a_scrape S k).2))) := by
  refine Sp.of (own := RX6) 1 false rfl (by decide +kernel) rfl rfl (fun h => by cases h) (fun K hKd M => ?_)
  have C := M.1
  show GG Γ K 0 0 (wF c t) 0 [some (.ref 56), some (.int k), none] []
  refine g_aload0 C dX6_scrape_0 ?_
  refine g_iload1 C dX6_scrape_1 ?_
  refine g_callV1i C dX6_scrape_2 vlX6_111 (n_isSeat hS hR) hKd (by first | decide | omega) rfl (Nat.le_of_ble_eq_true rfl) (show 56 < 68 by decide) rfl ?_
  rintro _ _ ⟨rfl, rfl⟩
  refine g_if_neB C 10 dX6_scrape_5 (by decide) (fun h5 => ?_) (fun h5 => ?_)
  · -- X6_scrape 5t
    obtain ⟨j, hz⟩ := zsome_t h5
    obtain ⟨hj, rfl⟩ := zIdx_iff hz
    have hs8 := hS.1.2.2.2.2.2.2
    have hj8 : j < 8 := by omega
    refine g_aload0 C dX6_scrape_10 ?_
    refine g_getRT C dX6_scrape_11 flX6_19 (show 56 < 68 by decide) rfl rfl (by decide) ?_
    refine g_iconst C (nI 2) dX6_scrape_14 (by decide) ?_
    refine g_iload1 C dX6_scrape_15 ?_
    refine g_iaddN C dX6_scrape_16 ?_
    refine g_ialdE C (hR.2.1.2.2.1 j hj8) (by omega) (by decide) dX6_scrape_17 (show 60 < 68 by decide) rfl ?_
    refine g_if_ge C 24 dX6_scrape_18 (by decide) (fun h18 => ?_) (fun h18 => ?_)
    · -- X6_scrape 18t
      obtain ⟨s, hq⟩ := zS1_pos (fun e => zge_lt h18 e)
      have hr : a_scrape S (nI j) = (nI s, zGo S (zSc S.2.1 j)) := by unfold a_scrape; rw [hz]; simp only; rw [hq] <;> rfl
      refine g_aload0 C dX6_scrape_24 ?_
      refine g_callV0v C dX6_scrape_25 vlX6_118 (n_keeps hS hR) hKd (by first | decide | omega) rfl (Nat.le_of_ble_eq_true rfl) (show 56 < 68 by decide) rfl ?_
      rintro _ ⟨c1, rfl, hR1, hfr⟩
      refine g_aload0 C dX6_scrape_28 ?_
      refine g_getRT C dX6_scrape_29 flX6_19 (show 56 < 68 by decide) rfl rfl (by decide) ?_
      refine g_iconst C (nI 2) dX6_scrape_32 (by decide) ?_
      refine g_iload1 C dX6_scrape_33 ?_
      refine g_iaddN C dX6_scrape_34 ?_
      refine g_ialdE C ((hR1.2.1.2.2.1 j hj8).trans (show zS1 (mW S.2.1 j) = nI s from congrArg zS1 hq)) (by omega) (by decide) dX6_scrape_35 (show 60 < 68 by decide) rfl ?_
      refine g_istore2 C dX6_scrape_36 ?_
      refine g_aload0 C dX6_scrape_37 ?_
      refine g_getRT C dX6_scrape_38 flX6_19 (show 56 < 68 by decide) rfl rfl (by decide) ?_
      refine g_iconst C (nI 2) dX6_scrape_41 (by decide) ?_
      refine g_iload1 C dX6_scrape_42 ?_
      refine g_iaddN C dX6_scrape_43 ?_
      refine g_iconst C (-1) dX6_scrape_44 (by decide) ?_
      refine g_iastN C (by omega) (by decide) dX6_scrape_45 (show 60 < 68 by decide) rfl ?_
      refine g_aload0 C dX6_scrape_46 ?_
      refine g_getRT C dX6_scrape_47 flX6_19 (show 56 < 68 by decide) rfl rfl (by decide) ?_
      refine g_bipush C (nI 10) dX6_scrape_50 (by decide) ?_
      refine g_iload1 C dX6_scrape_52 ?_
      refine g_iaddN C dX6_scrape_53 ?_
      refine g_iconst C (nI 0) dX6_scrape_54 (by decide) ?_
      refine g_iastN C (by omega) (by decide) dX6_scrape_55 (show 60 < 68 by decide) rfl ?_
      refine g_iload2 C dX6_scrape_56 ?_
      exact g_reti M dX6_scrape_57 (by rw [hr]; exact zOutM.mk' rfl (hR1.row (Y := zSc S.2.1 j) (fun a _ _ h => by rw [up_K h, up_K h]) (by rw [up_k (by decide), up_k (by decide)]) (by rw [up_k (by decide), up_k (by decide)]) ⟨by rw [up_j _ (by omega), up_j _ (by omega)]; exact hR1.2.1.1, by rw [up_j _ (by omega), up_j _ (by omega)]; exact hR1.2.1.2.1, fun q hq => zmw (o := none) hq hj8 (hR1.2.1.2.2.1 q hq), fun q hq => zmi hq hj8 (hR1.2.1.2.2.2 q hq)⟩) (fun a ha => by rw [up_K (by omega), up_K (by omega)]; exact hfr a ha) (fun _ _ => rfl))
    · -- X6_scrape 18f
      have hq := zS1_neg (zlt_of_nge h18) (fun s h => by have := hS.w j s hj8 h; omega)
      have hr : a_scrape S (nI j) = (-2, S) := by unfold a_scrape; rw [hz]; simp only; rw [hq] <;> rfl
      refine g_bipush C (-2) dX6_scrape_21 (by decide) ?_
      exact g_reti M dX6_scrape_23 (by rw [hr]; exact zOutM.same hR)
  · -- X6_scrape 5f
    have hz := zsome_f h5
    have hr : a_scrape S k = (-1, S) := by unfold a_scrape; rw [hz] <;> rfl
    refine g_iconst C (-1) dX6_scrape_8 (by decide) ?_
    exact g_reti M dX6_scrape_9 (by rw [hr]; exact zOutM.same hR)
set_option maxRecDepth 100000 in
set_option maxHeartbeats 4000000 in
theorem q_signs {Γ : zG} {c : Nat → Nat → Int32} {t : Nat → Int64} {S : zAb} (hS : OkS S) (hR : RepM c t S) {s k : Int32} : Sp Γ 4 mX6_signs [.ref 56, .int s, .int k] 0 0 (wF c t) (z_pi (zOutM c t ((a_signs S s k).1) ((a_signs S s k).2))) := by
  refine Sp.of (own := RX6) 0 false rfl (by decide +kernel) rfl rfl (fun h => by cases h) (fun K hKd M => ?_)
  have C := M.1
  show GG Γ K 0 0 (wF c t) 0 [some (.ref 56), some (.int s), some (.int k)] []
  refine g_aload0 C dX6_signs_0 ?_
  refine g_iload1 C dX6_signs_1 ?_
  refine g_callV1i C dX6_signs_2 vlX6_102 (n_isSailor hS hR) hKd (by first | decide | omega) rfl (Nat.le_of_ble_eq_true rfl) (show 56 < 68 by decide) rfl ?_
  rintro _ _ ⟨rfl, rfl⟩
  refine g_if_eqB C 16 dX6_signs_5 (by decide) (fun h5 => ?_) (fun h5 => ?_)
  · -- X6_signs 5t
    have hz := zsome_f h5
    have hr : a_signs S s k = (-1, S) := by unfold a_signs; rw [hz] <;> rfl
    refine g_iconst C (-1) dX6_signs_16 (by decide) ?_
    exact g_reti M dX6_signs_17 (by rw [hr]; exact zOutM.same hR)
  · -- X6_signs 5f
    obtain ⟨i, hz⟩ := zsome_t h5
    obtain ⟨hi, rfl⟩ := zIdx_iff hz
    have hi7 : i < 7 := by have := hS.1.1; omega
    refine g_aload0 C dX6_signs_8 ?_
    refine g_iload2 C dX6_signs_9 ?_
    refine g_callV1i C dX6_signs_10 vlX6_111 (n_isSeat hS hR) hKd (by first | decide | omega) rfl (Nat.le_of_ble_eq_true rfl) (show 56 < 68 by decide) rfl ?_
    rintro _ _ ⟨rfl, rfl⟩
    refine g_if_neB C 18 dX6_signs_13 (by decide) (fun h13 => ?_) (fun h13 => ?_)
    · -- X6_signs 13t
      obtain ⟨j, hz2⟩ := zsome_t h13
      obtain ⟨hj, rfl⟩ := zIdx_iff hz2
      have hs8 := hS.1.2.2.2.2.2.2
      have hj8 : j < 8 := by omega
      have hno : zMay S i j = false → a_signs S (nI i) (nI j) = (-2, S) := fun h => by unfold a_signs; rw [hz, hz2]; simp only; rw [if_neg (by rw [h]; decide)]
      refine g_aload0 C dX6_signs_18 ?_
      refine g_iload1 C dX6_signs_19 ?_
      refine g_callV1i C dX6_signs_20 vlX6_108 (n_wouldNow hS hR hi) hKd (by first | decide | omega) rfl (Nat.le_of_ble_eq_true rfl) (show 56 < 68 by decide) rfl ?_
      rintro _ _ ⟨rfl, rfl⟩
      refine g_if_eqB C 48 dX6_signs_23 (by decide) (fun h23 => ?_) (fun h23 => ?_)
      · -- X6_signs 23t
        have hr := hno (by unfold zMay; rw [h23]; rfl)
        refine g_bipush C (-2) dX6_signs_48 (by decide) ?_
        exact g_reti M dX6_signs_50 (by rw [hr]; exact zOutM.same hR)
      · -- X6_signs 23f
        
        refine g_aload0 C dX6_signs_26 ?_
        refine g_getRT C dX6_signs_27 flX6_19 (show 56 < 68 by decide) rfl rfl (by decide) ?_
        refine g_iconst C (nI 2) dX6_signs_30 (by decide) ?_
        refine g_iload2 C dX6_signs_31 ?_
        refine g_iaddN C dX6_signs_32 ?_
        refine g_ialdE C (hR.2.1.2.2.1 j hj8) (by omega) (by decide) dX6_signs_33 (show 60 < 68 by decide) rfl ?_
        refine g_if_ge C 48 dX6_signs_34 (by decide) (fun h34 => ?_) (fun h34 => ?_)
        · -- X6_signs 34t
          have hr := hno (by obtain ⟨q, hq⟩ := zS1_pos (fun e => zge_lt h34 e); unfold zMay; rw [hq]; simp)
          refine g_bipush C (-2) dX6_signs_48 (by decide) ?_
          exact g_reti M dX6_signs_50 (by rw [hr]; exact zOutM.same hR)
        · -- X6_signs 34f
          have hq := zS1_neg (zlt_of_nge h34) (fun s h => by have := hS.w j s hj8 h; omega)
          refine g_aload0 C dX6_signs_37 ?_
          refine g_getRT C dX6_signs_38 flX6_19 (show 56 < 68 by decide) rfl rfl (by decide) ?_
          refine g_iconst C (nI 0) dX6_signs_41 (by decide) ?_
          refine g_ialdE C hR.2.1.1 (by omega) (by decide) dX6_signs_42 (show 60 < 68 by decide) rfl ?_
          refine g_bipush C (nI 99) dX6_signs_43 (by decide) ?_
          refine g_icmp_neN C 51 (by have := hS.2.1.1; omega) (by decide) dX6_signs_45 (by decide) (fun h45 => ?_) (fun h45 => ?_)
          · -- X6_signs 45t
            have h99 : mH S.2.1 < 99 := by have := hS.2.1.1; omega
            have hr : a_signs S (nI i) (nI j) = (nI (zInk S.1 (zp8 (mG S.2.1))), zGo S (zSg' S.2.1 i j (zInk S.1 (zp8 (mG S.2.1))))) := by unfold a_signs; rw [hz, hz2]; simp only; rw [if_pos (by unfold zMay; rw [h23, decide_eq_true hq, decide_eq_true h99]; rfl)] <;> rfl
            have hd := hS.1.2.2.2.2.1
            refine g_aload0 C dX6_signs_51 ?_
            refine g_callV0v C dX6_signs_52 vlX6_118 (n_keeps hS hR) hKd (by first | decide | omega) rfl (Nat.le_of_ble_eq_true rfl) (show 56 < 68 by decide) rfl ?_
            rintro _ ⟨c1, rfl, hR1, hfr⟩
            have hY1 : SoC (c1 60) S.2.1 := hR1.2.1
            have hT1 : ToC (c1 58) S.1 := hR1.1
            have hgg := hS.g
            have hp8 := zp8_8 (mG S.2.1)
            have hmo := Nat.mod_lt (zp8 (mG S.2.1)) (show 0 < cD S.1 by omega)
            refine g_aload0 C dX6_signs_55 ?_
            refine g_getRT C dX6_signs_56 flX6_19 (show 56 < 68 by decide) rfl rfl (by decide) ?_
            refine g_iconst C (nI 2) dX6_signs_59 (by decide) ?_
            refine g_iload2 C dX6_signs_60 ?_
            refine g_iaddN C dX6_signs_61 ?_
            refine g_iload1 C dX6_signs_62 ?_
            refine g_iastN C (by omega) (by decide) dX6_signs_63 (show 60 < 68 by decide) rfl ?_
            refine g_aload0 C dX6_signs_64 ?_
            refine g_getRT C dX6_signs_65 flX6_19 (show 56 < 68 by decide) rfl rfl (by decide) ?_
            refine g_bipush C (nI 10) dX6_signs_68 (by decide) ?_
            refine g_iload2 C dX6_signs_70 ?_
            refine g_iaddN C dX6_signs_71 ?_
            refine g_aload0 C dX6_signs_72 ?_
            refine g_getRT C dX6_signs_73 flX6_13 (show 56 < 68 by decide) rfl rfl (by decide) ?_
            refine g_iconst C (nI 1) dX6_signs_76 (by decide) ?_
            refine g_ialdE C ((congrFun (up_K (by decide)) 1).trans hT1.2.1) (by omega) (by decide) dX6_signs_77 (show 58 < 68 by decide) rfl ?_
            refine g_aload0 C dX6_signs_78 ?_
            refine g_getRT C dX6_signs_79 flX6_19 (show 56 < 68 by decide) rfl rfl (by decide) ?_
            refine g_iconst C (nI 1) dX6_signs_82 (by decide) ?_
            refine g_ialdE C ((up_j _ (by omega)).trans hY1.2.1) (by omega) (by decide) dX6_signs_83 (show 60 < 68 by decide) rfl ?_
            refine g_callS1i C dX6_signs_84 slX6_95 (n_ones (by omega)) hKd (by first | decide | omega) rfl (Nat.le_of_ble_eq_true rfl) ?_
            rintro _ _ ⟨rfl, rfl⟩
            refine g_aload0 C dX6_signs_87 ?_
            refine g_getRT C dX6_signs_88 flX6_13 (show 56 < 68 by decide) rfl rfl (by decide) ?_
            refine g_iconst C (nI 1) dX6_signs_91 (by decide) ?_
            refine g_ialdE C ((congrFun (up_K (by decide)) 1).trans hT1.2.1) (by omega) (by decide) dX6_signs_92 (show 58 < 68 by decide) rfl ?_
            refine g_iremN C dX6_signs_93 (by omega) (by omega) (by omega) ?_
            refine g_isubN C dX6_signs_94 (by omega) ?_
            refine g_iastN C (by omega) (by decide) dX6_signs_95 (show 60 < 68 by decide) rfl ?_
            refine g_aload0 C dX6_signs_96 ?_
            refine g_getRT C dX6_signs_97 flX6_19 (show 56 < 68 by decide) rfl rfl (by decide) ?_
            refine g_iconst C (nI 1) dX6_signs_100 (by decide) ?_
            refine g_dup2 C dX6_signs_101 rfl rfl ?_
            refine g_ialdE C ((up_j _ (by omega)).trans ((up_j _ (by omega)).trans hY1.2.1)) (by omega) (by decide) dX6_signs_102 (show 60 < 68 by decide) rfl ?_
            refine g_iconst C (nI 1) dX6_signs_103 (by decide) ?_
            refine g_iload1 C dX6_signs_104 ?_
            refine g_ishlN C dX6_signs_105 (by omega) ?_
            refine g_iorN C dX6_signs_106 ?_
            refine g_iastN C (by omega) (by decide) dX6_signs_107 (show 60 < 68 by decide) rfl ?_
            refine g_aload0 C dX6_signs_108 ?_
            refine g_getRT C dX6_signs_109 flX6_19 (show 56 < 68 by decide) rfl rfl (by decide) ?_
            refine g_iconst C (nI 0) dX6_signs_112 (by decide) ?_
            refine g_dup2 C dX6_signs_113 rfl rfl ?_
            refine g_ialdE C ((up_j _ (by omega)).trans ((up_j _ (by omega)).trans ((up_j _ (by omega)).trans hY1.1))) (by omega) (by decide) dX6_signs_114 (show 60 < 68 by decide) rfl ?_
            refine g_iconst C (nI 1) dX6_signs_115 (by decide) ?_
            refine g_iaddN C dX6_signs_116 ?_
            refine g_iastN C (by omega) (by decide) dX6_signs_117 (show 60 < 68 by decide) rfl ?_
            refine g_aload0 C dX6_signs_118 ?_
            refine g_getRT C dX6_signs_119 flX6_19 (show 56 < 68 by decide) rfl rfl (by decide) ?_
            refine g_bipush C (nI 10) dX6_signs_122 (by decide) ?_
            refine g_iload2 C dX6_signs_124 ?_
            refine g_iaddN C dX6_signs_125 ?_
            refine g_ialdE C ((up_j _ (by omega)).trans ((up_j _ (by omega)).trans (up_s _ _ _ _))) (by omega) (by decide) dX6_signs_126 (show 60 < 68 by decide) rfl ?_
            exact g_reti M dX6_signs_127 (by rw [hr]; exact zOutM.mk' rfl (hR1.row (Y := zSg' S.2.1 i j (zInk S.1 (zp8 (mG S.2.1)))) (fun a _ _ h => by rw [up_K h, up_K h, up_K h, up_K h]) (by rw [up_k (by decide), up_k (by decide), up_k (by decide), up_k (by decide)]) (by rw [up_k (by decide), up_k (by decide), up_k (by decide), up_k (by decide)]) ⟨up_s _ _ _ _, (up_j _ (by decide)).trans (up_s _ _ _ _), fun q hq => by rw [up_j _ (by omega), up_j _ (by omega)]; exact zmw (o := some i) hq hj8 (hR1.2.1.2.2.1 q hq), fun q hq => by rw [up_j _ (by omega), up_j _ (by omega)]; exact zmi hq hj8 (hR1.2.1.2.2.2 q hq)⟩) (fun a ha => by rw [up_K (by omega), up_K (by omega), up_K (by omega), up_K (by omega)]; exact hfr a ha) (fun _ _ => rfl))
          · -- X6_signs 45f
            have hr := hno (by unfold zMay; rw [decide_eq_false (show ¬ mH S.2.1 < 99 by omega)]; simp)
            refine g_bipush C (-2) dX6_signs_48 (by decide) ?_
            exact g_reti M dX6_signs_50 (by rw [hr]; exact zOutM.same hR)
    · -- X6_signs 13f
      have hz2 := zsome_f h13
      have hr : a_signs S (nI i) k = (-1, S) := by unfold a_signs; rw [hz, hz2] <;> rfl
      refine g_iconst C (-1) dX6_signs_16 (by decide) ?_
      exact g_reti M dX6_signs_17 (by rw [hr]; exact zOutM.same hR)
set_option maxRecDepth 100000 in
set_option maxHeartbeats 4000000 in
theorem q_undo {Γ : zG} {c : Nat → Nat → Int32} {t : Nat → Int64} {S : zAb} (hS : OkS S) (hR : RepM c t S)  : Sp Γ 2 mX6_undo [.ref 56] 0 0 (wF c t) (z_pi (zOutM c t ((a_undo S).1) ((a_undo S).2))) := by
  refine Sp.of (own := RX6) 1 false rfl (by decide +kernel) rfl rfl (fun h => by cases h) (fun K hKd M => ?_)
  have C := M.1
  show GG Γ K 0 0 (wF c t) 0 [some (.ref 56), none] []
  rcases hP : S.2.2.1 with _ | ⟨Y, P⟩
  · have hr : a_undo S = (-2, S) := by unfold a_undo; rw [hP] <;> rfl
    have h7 : c 56 7 = nI 0 := hR.2.2.1.1.trans (by rw [hP]; rfl)
    refine g_aload0 C dX6_undo_0 ?_
    refine g_getIE C h7 dX6_undo_1 flX6_92 (show 56 < 68 by decide) rfl rfl ?_
    refine g_if_neN C 10 (by omega) dX6_undo_4 (by decide) (fun h4 => absurd h4 (by decide)) (fun h4 => ?_)
    refine g_bipush C (-2) dX6_undo_7 (by decide) ?_
    exact g_reti M dX6_undo_9 (by rw [hr]; exact zOutM.same hR)
  · have hr : a_undo S = (nI P.length, (S.1, Y, P, S.2.2.2)) := by unfold a_undo; rw [hP] <;> rfl
    have hpa := hR.pa
    rw [hP] at hpa
    have h7 : c 56 7 = nI (P.length + 1) := hpa.1
    have hl : P.length < 10 := by have := hS.2.2.2.1; rw [hP, List.length_cons] at this; omega
    have hc7 : ∀ k, zCy (z_up c 56 7 (nI P.length)) 60 0 (fun k => c 61 (18 * P.length + k)) k 56 7 = nI P.length := fun k => (congrFun (zCy_k (by decide)) 7).trans (up_s _ _ _ _)
    have H22 : ∀ (n : Nat) (k : Nat), k ≤ 18 → 18 - k < n → GG Γ K 0 0 (wF (zCy (z_up c 56 7 (nI P.length)) 60 0 (fun k => c 61 (18 * P.length + k)) k) t) 22 [some (.ref 56), some (.int (nI k))] [] := by
      intro n
      induction n with
      | zero => intro k hk hn; exact absurd hn (by omega)
      | succ n ih =>
        intro k hk hn
        refine g_iload1 C dX6_undo_22 ?_
        refine g_bipush C (nI 18) dX6_undo_23 (by decide) ?_
        refine g_icmp_geN C 54 (by omega) (by omega) dX6_undo_25 (by decide) (fun h25 => ?_) (fun h25 => ?_)
        · -- X6_undo 25t
          obtain rfl : k = 18 := by omega
          refine g_aload0 C dX6_undo_54 ?_
          refine g_getIE C (hc7 18) dX6_undo_55 flX6_92 (show 56 < 68 by decide) rfl rfl ?_
          exact g_reti M dX6_undo_58 (by rw [hr]; exact zOutM.mk' rfl ((hR.row (Y := Y) (c' := zCy c 60 0 (fun k => c 61 (18 * P.length + k)) 18) (fun a _ _ h => zCy_k h) (congrFun (zCy_k (by decide)) 2) (congrFun (zCy_k (by decide)) 7) (hpa.pop.1.eq fun k hk => zCy_i0 hk)).past (P := P) (fun a _ _ h => by by_cases e : a = 60; (subst e; rfl); (rw [zCy_k e, up_K (by omega), zCy_k e])) (by rw [zCy_k (by decide), up_j _ (by decide), zCy_k (by decide)]) (hpa.pop.2 _ (by rw [zCy_k (by decide), up_K (by decide)]) (hc7 18))) (fun a ha => by rw [zCy_k (by omega), up_K (by omega)]) (fun _ _ => rfl))
        · -- X6_undo 25f
          
          refine g_aload0 C dX6_undo_28 ?_
          refine g_getRT C dX6_undo_29 flX6_19 (show 56 < 68 by decide) rfl rfl (by decide) ?_
          refine g_iload1 C dX6_undo_32 ?_
          refine g_aload0 C dX6_undo_33 ?_
          refine g_getRT C dX6_undo_34 flX6_22 (show 56 < 68 by decide) rfl rfl (by decide) ?_
          refine g_bipush C (nI 18) dX6_undo_37 (by decide) ?_
          refine g_aload0 C dX6_undo_39 ?_
          refine g_getIE C (hc7 k) dX6_undo_40 flX6_92 (show 56 < 68 by decide) rfl rfl ?_
          refine g_imulN C dX6_undo_43 ?_
          refine g_iload1 C dX6_undo_44 ?_
          refine g_iaddN C dX6_undo_45 ?_
          refine g_ialdE C ((congrFun (zCy_k (by decide)) _).trans (up_k (by decide) _)) (by omega) (by decide) dX6_undo_46 (show 61 < 68 by decide) rfl ?_
          refine g_iastN C (by omega) (by decide) dX6_undo_47 (show 60 < 68 by decide) rfl ?_
          refine g_con (zCy_s0 _ _ (fun k => c 61 (18 * P.length + k)) k) rfl ?_
          refine g_iinc1N C dX6_undo_48 ?_
          refine g_goto C 22 dX6_undo_51 (by decide) ?_
          exact ih (k + 1) (by omega) (by omega)
    refine g_aload0 C dX6_undo_0 ?_
    refine g_getIE C h7 dX6_undo_1 flX6_92 (show 56 < 68 by decide) rfl rfl ?_
    refine g_if_neN C 10 (by omega) dX6_undo_4 (by decide) (fun h4 => ?_) (fun h4 => absurd h4 (by omega))
    refine g_aload0 C dX6_undo_10 ?_
    refine g_dup C dX6_undo_11 rfl ?_
    refine g_getIE C h7 dX6_undo_12 flX6_92 (show 56 < 68 by decide) rfl rfl ?_
    refine g_iconst C (nI 1) dX6_undo_15 (by decide) ?_
    refine g_isubN C dX6_undo_16 (by omega) ?_
    refine g_putI C dX6_undo_17 fpX6_92 (show 56 < 68 by decide) rfl rfl rfl rfl ?_
    refine g_iconst C (nI 0) dX6_undo_20 (by decide) ?_
    refine g_istore1 C dX6_undo_21 ?_
    refine g_con ((zCy_0 (z_up c 56 7 (nI P.length)) 60 0 (fun k => c 61 (18 * P.length + k))).symm) rfl ?_
    exact H22 19 0 (Nat.zero_le _) (by omega)
theorem RepM.keepM {c : Nat → Nat → Int32} {t : Nat → Int64} {S : zAb} (h : RepM c t S) {j : Nat} (hj : j < 2) : RepM (z_up (zCy c 62 (18 * j) (c 60) 18) 63 j (nI true.toNat)) t (S.1, S.2.1, S.2.2.1, zKp S.2.2.2.1 S.2.1 j, S.2.2.2.2) := by
  obtain ⟨a1, a2, a3, a4, a5, a6⟩ := h
  have he : ∀ a, a ≠ 62 → a ≠ 63 → z_up (zCy c 62 (18 * j) (c 60) 18) 63 j (nI true.toNat) a = c a := fun a h1 h2 => by rw [up_K h2, zCy_k h1]
  refine ⟨by rw [he 58 (by decide) (by decide)]; exact a1, by rw [he 60 (by decide) (by decide)]; exact a2, ⟨by rw [he 56 (by decide) (by decide)]; exact a3.1, fun i M hM => ?_⟩, fun i hi => ?_, ⟨by rw [he 56 (by decide) (by decide)]; exact a5.1, ?_⟩, a6⟩
  · rw [he 61 (by decide) (by decide)]; exact a3.2 i M hM
  · by_cases e : i = j
    · subst e
      have hg : zGt (zKp S.2.2.2.1 S.2.1 i) i = some S.2.1 := by
        unfold zGt zKp
        by_cases e0 : i = 0
        · rw [if_pos e0, if_pos e0]
        · rw [if_neg e0, if_neg e0]
      show _ = nI (zGt (zKp S.2.2.2.1 S.2.1 i) i).isSome.toNat ∧ ∀ M, zGt (zKp S.2.2.2.1 S.2.1 i) i = some M → _
      rw [hg]
      refine ⟨up_s _ _ _ _, fun M hM => ?_⟩
      cases hM
      refine a2.eq fun k hk => ?_
      show z_up _ 63 i _ 62 _ = _
      rw [up_k (by decide), zCy_i hk]
    · have hg : zGt (zKp S.2.2.2.1 S.2.1 j) i = zGt S.2.2.2.1 i := by
        unfold zGt zKp
        by_cases e0 : i = 0
        · rw [if_pos e0, if_pos e0, if_neg (show ¬ j = 0 by omega)]
        · rw [if_neg e0, if_neg e0, if_pos (show j = 0 by omega)]
      show _ = nI (zGt (zKp S.2.2.2.1 S.2.1 j) i).isSome.toNat ∧ ∀ M, zGt (zKp S.2.2.2.1 S.2.1 j) i = some M → _
      rw [hg]
      refine ⟨(up_j _ e).trans ((congrFun (zCy_k (by decide)) i).trans (a4 i hi).1), fun M hM => ((a4 i hi).2 M hM).eq fun k hk => ?_⟩
      show z_up _ 63 j _ 62 _ = _
      rw [up_k (by decide), zCy_o (by omega)]
  · rw [he 57 (by decide) (by decide)]; exact a5.2
set_option maxRecDepth 100000 in
set_option maxHeartbeats 4000000 in
theorem q_keep {Γ : zG} {c : Nat → Nat → Int32} {t : Nat → Int64} {S : zAb} (hS : OkS S) (hR : RepM c t S) {x : Int32} : Sp Γ 1 mX6_keep [.ref 56, .int x] 0 0 (wF c t) (z_pi (zOutM c t ((a_keep S x).1) ((a_keep S x).2))) := by
  refine Sp.of (own := RX6) 1 false rfl (by decide +kernel) rfl rfl (fun h => by cases h) (fun K hKd M => ?_)
  have C := M.1
  show GG Γ K 0 0 (wF c t) 0 [some (.ref 56), some (.int x), none] []
  have H13a : ∀ j, j < 2 → a_keep S x = (nI (mH S.2.1), (S.1, S.2.1, S.2.2.1, zKp S.2.2.2.1 S.2.1 j, S.2.2.2.2)) → GG Γ K 0 0 (wF c t) 13 [some (.ref 56), some (.int (nI j)), some (.int (nI 0))] [] := by
    intro j hj hr
    have H13 : ∀ (n : Nat) (k : Nat), k ≤ 18 → 18 - k < n → GG Γ K 0 0 (wF (zCy c 62 (18 * j) (c 60) k) t) 13 [some (.ref 56), some (.int (nI j)), some (.int (nI k))] [] := by
      intro n
      induction n with
      | zero => intro k hk hn; exact absurd hn (by omega)
      | succ n ih =>
        intro k hk hn
        refine g_iload2 C dX6_keep_13 ?_
        refine g_bipush C (nI 18) dX6_keep_14 (by decide) ?_
        refine g_icmp_geN C 42 (by omega) (by omega) dX6_keep_16 (by decide) (fun h16 => ?_) (fun h16 => ?_)
        · -- X6_keep 16t
          obtain rfl : k = 18 := by omega
          refine g_aload0 C dX6_keep_42 ?_
          refine g_getRT C dX6_keep_43 flX6_28 (show 56 < 68 by decide) rfl rfl (by decide) ?_
          refine g_iload1 C dX6_keep_46 ?_
          refine g_iconst C (nI 1) dX6_keep_47 (by decide) ?_
          refine g_bastN (b := true) C hj (by decide) dX6_keep_48 (show 63 < 68 by decide) rfl ?_
          refine g_aload0 C dX6_keep_49 ?_
          refine g_getRT C dX6_keep_50 flX6_19 (show 56 < 68 by decide) rfl rfl (by decide) ?_
          refine g_iconst C (nI 0) dX6_keep_53 (by decide) ?_
          refine g_ialdE C ((up_k (by decide) _).trans ((congrFun (zCy_k (by decide)) 0).trans hR.2.1.1)) (by omega) (by decide) dX6_keep_54 (show 60 < 68 by decide) rfl ?_
          exact g_reti M dX6_keep_55 (by rw [hr]; exact zOutM.mk' rfl (hR.keepM hj) (fun a ha => by rw [up_K (by omega), zCy_k (by omega)]) (fun _ _ => rfl))
        · -- X6_keep 16f
          
          refine g_aload0 C dX6_keep_19 ?_
          refine g_getRT C dX6_keep_20 flX6_25 (show 56 < 68 by decide) rfl rfl (by decide) ?_
          refine g_bipush C (nI 18) dX6_keep_23 (by decide) ?_
          refine g_iload1 C dX6_keep_25 ?_
          refine g_imulN C dX6_keep_26 ?_
          refine g_iload2 C dX6_keep_27 ?_
          refine g_iaddN C dX6_keep_28 ?_
          refine g_aload0 C dX6_keep_29 ?_
          refine g_getRT C dX6_keep_30 flX6_19 (show 56 < 68 by decide) rfl rfl (by decide) ?_
          refine g_iload2 C dX6_keep_33 ?_
          refine g_ialdE C (congrFun (zCy_k (by decide)) k) (by omega) (by decide) dX6_keep_34 (show 60 < 68 by decide) rfl ?_
          refine g_iastN C (by omega) (by decide) dX6_keep_35 (show 62 < 68 by decide) rfl ?_
          refine g_con (zCy_s _ _ _ _ _) rfl ?_
          refine g_iinc2N C dX6_keep_36 ?_
          refine g_goto C 13 dX6_keep_39 (by decide) ?_
          exact ih (k + 1) (by omega) (by omega)
    refine g_con (zCy_0 c 62 (18 * j) (c 60)).symm rfl ?_
    exact H13 19 0 (Nat.zero_le _) (by omega)
  refine g_iload1 C dX6_keep_0 ?_
  refine g_iconst C (nI 0) dX6_keep_1 (by decide) ?_
  refine g_iconst C (nI 1) dX6_keep_2 (by decide) ?_
  refine g_callS3i C dX6_keep_3 slX6_52 (n_in) hKd (by first | decide | omega) rfl (Nat.le_of_ble_eq_true rfl) ?_
  rintro _ _ ⟨rfl, rfl⟩
  rw [zIn_ix (n := 2) (by decide) (by decide)]
  refine g_if_neB C 11 dX6_keep_6 (by decide) (fun h6 => ?_) (fun h6 => ?_)
  · -- X6_keep 6t
    obtain ⟨j, hz⟩ := zsome_t h6
    obtain ⟨hj, hx⟩ := zIdx_iff hz
    rw [hx]
    have hr : a_keep S x = (nI (mH S.2.1), (S.1, S.2.1, S.2.2.1, zKp S.2.2.2.1 S.2.1 j, S.2.2.2.2)) := by unfold a_keep; rw [hz]
    refine g_iconst C (nI 0) dX6_keep_11 (by decide) ?_
    refine g_istore2 C dX6_keep_12 ?_
    exact H13a j hj hr
  · -- X6_keep 6f
    have hz := zsome_f h6
    have hr : a_keep S x = (-1, S) := by unfold a_keep; rw [hz]
    refine g_iconst C (-1) dX6_keep_9 (by decide) ?_
    exact g_reti M dX6_keep_10 (by rw [hr]; exact zOutM.same hR)
set_option maxRecDepth 100000 in
set_option maxHeartbeats 4000000 in
theorem q_back {Γ : zG} {c : Nat → Nat → Int32} {t : Nat → Int64} {S : zAb} (hS : OkS S) (hR : RepM c t S) {x : Int32} : Sp Γ 1 mX6_back [.ref 56, .int x] 0 0 (wF c t) (z_pi (zOutM c t ((a_back S x).1) ((a_back S x).2))) := by
  refine Sp.of (own := RX6) 1 false rfl (by decide +kernel) rfl rfl (fun h => by cases h) (fun K hKd M => ?_)
  have C := M.1
  show GG Γ K 0 0 (wF c t) 0 [some (.ref 56), some (.int x), none] []
  have H25a : ∀ j Y, j < 2 → a_back S x = (nI (mH Y), (S.1, Y, [], S.2.2.2)) → SoC (fun k => c 62 (18 * j + k)) Y → GG Γ K 0 0 (wF c t) 25 [some (.ref 56), some (.int (nI j)), some (.int (nI 0))] [] := by
    intro j Y hj hr hY
    have H25 : ∀ (n : Nat) (k : Nat), k ≤ 18 → 18 - k < n → GG Γ K 0 0 (wF (zCy c 60 0 (fun k => c 62 (18 * j + k)) k) t) 25 [some (.ref 56), some (.int (nI j)), some (.int (nI k))] [] := by
      intro n
      induction n with
      | zero => intro k hk hn; exact absurd hn (by omega)
      | succ n ih =>
        intro k hk hn
        refine g_iload2 C dX6_back_25 ?_
        refine g_bipush C (nI 18) dX6_back_26 (by decide) ?_
        refine g_icmp_geN C 54 (by omega) (by omega) dX6_back_28 (by decide) (fun h28 => ?_) (fun h28 => ?_)
        · -- X6_back 28t
          obtain rfl : k = 18 := by omega
          refine g_aload0 C dX6_back_54 ?_
          refine g_iconst C (nI 0) dX6_back_55 (by decide) ?_
          refine g_putI C dX6_back_56 fpX6_92 (show 56 < 68 by decide) rfl rfl rfl rfl ?_
          refine g_aload0 C dX6_back_59 ?_
          refine g_getRT C dX6_back_60 flX6_19 (show 56 < 68 by decide) rfl rfl (by decide) ?_
          refine g_iconst C (nI 0) dX6_back_63 (by decide) ?_
          refine g_ialdE C ((up_k (by decide) _).trans ((zCy_i0 (by decide)).trans hY.1)) (by omega) (by decide) dX6_back_64 (show 60 < 68 by decide) rfl ?_
          exact g_reti M dX6_back_65 (by rw [hr]; exact zOutM.mk' rfl ((hR.row (Y := Y) (c' := zCy c 60 0 (fun k => c 62 (18 * j + k)) 18) (fun a _ _ h => zCy_k h) (congrFun (zCy_k (by decide)) 2) (congrFun (zCy_k (by decide)) 7) (hY.eq fun k hk => zCy_i0 hk)).past (P := []) (fun a _ _ h => up_K (by omega)) (up_j _ (by decide)) ⟨up_s _ _ _ _, fun i M hM => by cases hM⟩) (fun a ha => by rw [up_K (by omega), zCy_k (by omega)]) (fun _ _ => rfl))
        · -- X6_back 28f
          
          refine g_aload0 C dX6_back_31 ?_
          refine g_getRT C dX6_back_32 flX6_19 (show 56 < 68 by decide) rfl rfl (by decide) ?_
          refine g_iload2 C dX6_back_35 ?_
          refine g_aload0 C dX6_back_36 ?_
          refine g_getRT C dX6_back_37 flX6_25 (show 56 < 68 by decide) rfl rfl (by decide) ?_
          refine g_bipush C (nI 18) dX6_back_40 (by decide) ?_
          refine g_iload1 C dX6_back_42 ?_
          refine g_imulN C dX6_back_43 ?_
          refine g_iload2 C dX6_back_44 ?_
          refine g_iaddN C dX6_back_45 ?_
          refine g_ialdE C (congrFun (zCy_k (by decide)) _) (by omega) (by decide) dX6_back_46 (show 62 < 68 by decide) rfl ?_
          refine g_iastN C (by omega) (by decide) dX6_back_47 (show 60 < 68 by decide) rfl ?_
          refine g_con (zCy_s0 _ _ (fun k => c 62 (18 * j + k)) k) rfl ?_
          refine g_iinc2N C dX6_back_48 ?_
          refine g_goto C 25 dX6_back_51 (by decide) ?_
          exact ih (k + 1) (by omega) (by omega)
    refine g_con (zCy_0 c 60 0 (fun k => c 62 (18 * j + k))).symm rfl ?_
    exact H25 19 0 (Nat.zero_le _) (by omega)
  refine g_iload1 C dX6_back_0 ?_
  refine g_iconst C (nI 0) dX6_back_1 (by decide) ?_
  refine g_iconst C (nI 1) dX6_back_2 (by decide) ?_
  refine g_callS3i C dX6_back_3 slX6_52 (n_in) hKd (by first | decide | omega) rfl (Nat.le_of_ble_eq_true rfl) ?_
  rintro _ _ ⟨rfl, rfl⟩
  rw [zIn_ix (n := 2) (by decide) (by decide)]
  refine g_if_neB C 11 dX6_back_6 (by decide) (fun h6 => ?_) (fun h6 => ?_)
  · -- X6_back 6t
    obtain ⟨j, hz⟩ := zsome_t h6
    obtain ⟨hj, hx⟩ := zIdx_iff hz
    rw [hx]
    refine g_aload0 C dX6_back_11 ?_
    refine g_getRT C dX6_back_12 flX6_28 (show 56 < 68 by decide) rfl rfl (by decide) ?_
    refine g_iload1 C dX6_back_15 ?_
    refine g_baldE C (hR.2.2.2.1 j hj).1 (by omega) (by decide) dX6_back_16 (show 63 < 68 by decide) rfl ?_
    refine g_if_neB C 23 dX6_back_17 (by decide) (fun h17 => ?_) (fun h17 => ?_)
    · -- X6_back 17t
      obtain ⟨Y, hz2⟩ := Option.isSome_iff_exists.mp h17
      have hr : a_back S x = (nI (mH Y), (S.1, Y, [], S.2.2.2)) := by unfold a_back; rw [hz]; simp only; rw [hz2]
      refine g_iconst C (nI 0) dX6_back_23 (by decide) ?_
      refine g_istore2 C dX6_back_24 ?_
      exact H25a j Y hj hr ((hR.2.2.2.1 j hj).2 Y hz2)
    · -- X6_back 17f
      have hz2 : zGt S.2.2.2.1 j = none := by
        cases hq : zGt S.2.2.2.1 j with
        | none => rfl
        | some Y => rw [hq] at h17; cases h17
      have hr : a_back S x = (-2, S) := by unfold a_back; rw [hz]; simp only; rw [hz2]
      refine g_bipush C (-2) dX6_back_20 (by decide) ?_
      exact g_reti M dX6_back_22 (by rw [hr]; exact zOutM.same hR)
  · -- X6_back 6f
    have hz := zsome_f h6
    have hr : a_back S x = (-1, S) := by unfold a_back; rw [hz]
    refine g_iconst C (-1) dX6_back_9 (by decide) ?_
    exact g_reti M dX6_back_10 (by rw [hr]; exact zOutM.same hR)
