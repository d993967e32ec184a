/-! the reference: who, where, when; changes -/
theorem zlt_of_nge {x : Int32} (h : ¬ (0 : Int32) ≤ x) : x < 0 := by
  rw [Int32.lt_iff_toInt_lt]
  rw [Int32.le_iff_toInt_le] at h
  omega
theorem zge_lt {x : Int32} (h : (0 : Int32) ≤ x) (h2 : x < 0) : False := by
  rw [Int32.lt_iff_toInt_lt] at h2
  rw [Int32.le_iff_toInt_le] at h
  omega
theorem zni_m9 : ∀ k, k < 8 → nI k ≠ (-9 : Int32) := by decide
theorem zBo_le (A : zCr) (b : Nat) : ∀ i, zBo A b i ≤ i
  | 0 => Nat.le_refl 0
  | i + 1 => by
    have := zBo_le A b i
    unfold zBo
    split <;> omega
theorem zTh_mem {w : Nat → Option Nat} {k s : Nat} : ∀ n, k < n → w k = some s → (zTh w n).testBit s = true
  | 0, h, _ => by omega
  | n + 1, h, hw => by
    by_cases e : k = n
    · subst e
      unfold zTh
      rw [hw]
      simp only
      rw [zor_bit]
      simp
    · have ih := zTh_mem n (by omega) hw
      unfold zTh
      split
      · exact ih
      · rw [zor_bit, ih]; rfl
theorem zTh_bit {w : Nat → Option Nat} {s : Nat} : ∀ n, (zTh w n).testBit s = true → ∃ k, k < n ∧ w k = some s
  | 0, h => by simp [zTh] at h
  | n + 1, h => by
    unfold zTh at h
    split at h
    · obtain ⟨k, h1, h2⟩ := zTh_bit n h; exact ⟨k, by omega, h2⟩
    · next q hq =>
      rw [zor_bit] at h
      cases hb : (zTh w n).testBit s with
      | true => obtain ⟨k, h1, h2⟩ := zTh_bit n hb; exact ⟨k, by omega, h2⟩
      | false =>
        rw [hb, Bool.false_or] at h
        exact ⟨n, by omega, by rw [hq, of_decide_eq_true h]⟩
set_option maxRecDepth 100000 in
set_option maxHeartbeats 4000000 in
theorem n_there {Γ : zG} {c : Nat → Nat → Int32} {t : Nat → Int64} {S : zAb} (hS : OkS S) (hR : RepM c t S)  : Sp Γ 0 mX6_there [.ref 56] 0 0 (wF c t) (z_pi (fun v w => w = wF c t ∧ v = nI (zThere S.2.1))) := by
  refine Sp.of (own := RX6) 2 false rfl (by decide +kernel) rfl rfl (fun h => by cases h) (fun K hKd M => ?_)
  have C := M.1
  show GG Γ K 0 0 (wF c t) 0 [some (.ref 56), none, none] []
  have H4 : ∀ (n : Nat) (k : Nat), k ≤ 8 → 8 - k < n → GG Γ K 0 0 (wF c t) 4 [some (.ref 56), some (.int (nI (zTh (mW S.2.1) k))), some (.int (nI k))] [] := by
    intro n
    induction n with
    | zero => intro k hk hn; exact absurd hn (by omega)
    | succ n ih =>
      intro k hk hn
      refine g_iload2 C dX6_there_4 ?_
      refine g_bipush C (nI 8) dX6_there_5 (by decide) ?_
      refine g_icmp_geN C 44 (by omega) (by omega) dX6_there_7 (by decide) (fun h7 => ?_) (fun h7 => ?_)
      · -- X6_there 7t
        obtain rfl : k = 8 := by omega
        refine g_iload1 C dX6_there_44 ?_
        exact g_reti M dX6_there_45 (⟨rfl, rfl⟩)
      · -- X6_there 7f
        
        refine g_iload1 C dX6_there_10 ?_
        refine g_aload0 C dX6_there_11 ?_
        refine g_getRT C dX6_there_12 flX6_19 (show 56 < 68 by decide) rfl rfl (by decide) ?_
        refine g_iconst C (nI 2) dX6_there_15 (by decide) ?_
        refine g_iload2 C dX6_there_16 ?_
        refine g_iaddN C dX6_there_17 ?_
        refine g_ialdE C (hR.2.1.2.2.1 k h7) (by omega) (by decide) dX6_there_18 (show 60 < 68 by decide) rfl ?_
        refine g_if_ge C 26 dX6_there_19 (by decide) (fun h19 => ?_) (fun h19 => ?_)
        · -- X6_there 19t
          obtain ⟨s, hq⟩ := zS1_pos (fun e => zge_lt h19 e)
          have hs7 := hS.w k s h7 hq
          refine g_iconst C (nI 1) dX6_there_26 (by decide) ?_
          refine g_aload0 C dX6_there_27 ?_
          refine g_getRT C dX6_there_28 flX6_19 (show 56 < 68 by decide) rfl rfl (by decide) ?_
          refine g_iconst C (nI 2) dX6_there_31 (by decide) ?_
          refine g_iload2 C dX6_there_32 ?_
          refine g_iaddN C dX6_there_33 ?_
          refine g_ialdE C ((hR.2.1.2.2.1 k h7).trans (show zS1 (mW S.2.1 k) = nI s from congrArg zS1 hq)) (by omega) (by decide) dX6_there_34 (show 60 < 68 by decide) rfl ?_
          refine g_ishlN C dX6_there_35 (by omega) ?_
          refine g_iorN C dX6_there_36 ?_
          refine g_istore1 C dX6_there_37 ?_
          refine g_set (L' := [some (.ref 56), some (.int (nI (zTh (mW S.2.1) (k + 1)))), some (.int (nI k))]) rfl (by simp only [zTh, hq, Nat.or_zero]) rfl ?_
          refine g_iinc2N C dX6_there_38 ?_
          refine g_goto C 4 dX6_there_41 (by decide) ?_
          exact ih (k + 1) (by omega) (by omega)
        · -- X6_there 19f
          have hq := zS1_neg (zlt_of_nge h19) (fun s h => by have := hS.w k s h7 h; omega)
          refine g_iconst C (nI 0) dX6_there_22 (by decide) ?_
          refine g_goto C 36 dX6_there_23 (by decide) ?_
          refine g_iorN C dX6_there_36 ?_
          refine g_istore1 C dX6_there_37 ?_
          refine g_set (L' := [some (.ref 56), some (.int (nI (zTh (mW S.2.1) (k + 1)))), some (.int (nI k))]) rfl (by simp only [zTh, hq, Nat.or_zero]) rfl ?_
          refine g_iinc2N C dX6_there_38 ?_
          refine g_goto C 4 dX6_there_41 (by decide) ?_
          exact ih (k + 1) (by omega) (by omega)
  refine g_iconst C (nI 0) dX6_there_0 (by decide) ?_
  refine g_istore1 C dX6_there_1 ?_
  refine g_iconst C (nI 0) dX6_there_2 (by decide) ?_
  refine g_istore2 C dX6_there_3 ?_
  exact H4 9 0 (Nat.zero_le _) (by omega)
set_option maxRecDepth 100000 in
set_option maxHeartbeats 4000000 in
theorem n_inkOf {Γ : zG} {c : Nat → Nat → Int32} {t : Nat → Int64} {S : zAb} (hS : OkS S) (hR : RepM c t S) {i : Nat} (hi : i < cN S.1) : Sp Γ 1 mX6_inkOf [.ref 56, .int (nI i)] 0 0 (wF c t) (z_pi (fun v w => w = wF c t ∧ v = nI (zInkS S.2.1 i))) := by
  refine Sp.of (own := RX6) 0 false rfl (by decide +kernel) rfl rfl (fun h => by cases h) (fun K hKd M => ?_)
  have C := M.1
  show GG Γ K 0 0 (wF c t) 0 [some (.ref 56), some (.int (nI i))] []
  refine g_aload0 C dX6_inkOf_0 ?_
  refine g_iload1 C dX6_inkOf_1 ?_
  refine g_callV1i C dX6_inkOf_2 vlX6_105 (n_seatOf hS hR hi) hKd (by first | decide | omega) rfl (Nat.le_of_ble_eq_true rfl) (show 56 < 68 by decide) rfl ?_
  rintro _ _ ⟨rfl, rfl⟩
  refine g_bipush C (-9) dX6_inkOf_5 (by decide) ?_
  rcases hz : zSeat (mW S.2.1) i 8 with _ | k
  · -- case
    
    refine g_icmp_ne C 14 dX6_inkOf_7 (by decide) (fun h7 => absurd h7 (by exact fun h => h rfl)) (fun h7 => ?_)
    refine g_iconst C (nI 0) dX6_inkOf_10 (by decide) ?_
    refine g_goto C 27 dX6_inkOf_11 (by decide) ?_
    exact g_reti M dX6_inkOf_27 (⟨rfl, by unfold zInkS; rw [hz]⟩)
  · -- case
    obtain ⟨hk, hw⟩ := zSeat_lt 8 k hz
    refine g_icmp_ne C 14 dX6_inkOf_7 (by decide) (fun h7 => ?_) (fun h7 => absurd h7 (by exact zni_m9 _ hk))
    refine g_aload0 C dX6_inkOf_14 ?_
    refine g_getRT C dX6_inkOf_15 flX6_19 (show 56 < 68 by decide) rfl rfl (by decide) ?_
    refine g_bipush C (nI 10) dX6_inkOf_18 (by decide) ?_
    refine g_aload0 C dX6_inkOf_20 ?_
    refine g_iload1 C dX6_inkOf_21 ?_
    refine g_callV1i C dX6_inkOf_22 vlX6_105 (n_seatOf hS hR hi) hKd (by first | decide | omega) rfl (Nat.le_of_ble_eq_true rfl) (show 56 < 68 by decide) rfl ?_
    rintro _ _ ⟨rfl, rfl⟩
    rw [hz]
    refine g_top (show zE (some k) = nI k from rfl) ?_
    refine g_iaddN C dX6_inkOf_25 ?_
    refine g_ialdE C (hR.2.1.2.2.2 k hk) (by omega) (by decide) dX6_inkOf_26 (show 60 < 68 by decide) rfl ?_
    exact g_reti M dX6_inkOf_27 (⟨rfl, by unfold zInkS; rw [hz]⟩)
set_option maxRecDepth 100000 in
set_option maxHeartbeats 4000000 in
theorem n_isThere {Γ : zG} {c : Nat → Nat → Int32} {t : Nat → Int64} {S : zAb} (hS : OkS S) (hR : RepM c t S) {x : Int32} : Sp Γ 2 mX6_isThere [.ref 56, .int x] 0 0 (wF c t) (z_pi (fun v w => w = wF c t ∧ v = nI (zTh' S x).isSome.toNat)) := by
  refine Sp.of (own := RX6) 0 false rfl (by decide +kernel) rfl rfl (fun h => by cases h) (fun K hKd M => ?_)
  have C := M.1
  show GG Γ K 0 0 (wF c t) 0 [some (.ref 56), some (.int x)] []
  refine g_aload0 C dX6_isThere_0 ?_
  refine g_iload1 C dX6_isThere_1 ?_
  refine g_callV1i C dX6_isThere_2 vlX6_102 (n_isSailor hS hR) hKd (by first | decide | omega) rfl (Nat.le_of_ble_eq_true rfl) (show 56 < 68 by decide) rfl ?_
  rintro _ _ ⟨rfl, rfl⟩
  refine g_if_eqB C 22 dX6_isThere_5 (by decide) (fun h5 => ?_) (fun h5 => ?_)
  · -- X6_isThere 5t
    have hz := zsome_f h5
    have hth : zTh' S x = none := by unfold zTh'; rw [hz]
    refine g_iconst C (nI 0) dX6_isThere_22 (by decide) ?_
    exact g_ret0 M dX6_isThere_23 (⟨rfl, by rw [hth]; rfl⟩)
  · -- X6_isThere 5f
    obtain ⟨i, hz⟩ := zsome_t h5
    obtain ⟨hi, rfl⟩ := zIdx_iff hz
    have hth := zTh'_i hS hi
    refine g_aload0 C dX6_isThere_8 ?_
    refine g_iload1 C dX6_isThere_9 ?_
    refine g_callV1i C dX6_isThere_10 vlX6_105 (n_seatOf hS hR hi) hKd (by first | decide | omega) rfl (Nat.le_of_ble_eq_true rfl) (show 56 < 68 by decide) rfl ?_
    rintro _ _ ⟨rfl, rfl⟩
    refine g_bipush C (-9) dX6_isThere_13 (by decide) ?_
    refine g_icmp_eq C 22 dX6_isThere_15 (by decide) (fun h15 => ?_) (fun h15 => ?_)
    · -- X6_isThere 15t
      rw [if_neg (fun hb => by obtain ⟨k, hk, hw⟩ := zTh_bit 8 hb; have h := zSeat_of hS.inj hk hw; rw [h] at h15; exact zni_m9 _ hk h15)] at hth
      refine g_iconst C (nI 0) dX6_isThere_22 (by decide) ?_
      exact g_ret0 M dX6_isThere_23 (⟨rfl, by rw [hth]; rfl⟩)
    · -- X6_isThere 15f
      have hb : (zT0 S).testBit i = true := by
        cases hz2 : zSeat (mW S.2.1) i 8 with
        | none => rw [hz2] at h15; exact absurd rfl h15
        | some k => obtain ⟨hk, hw⟩ := zSeat_lt 8 k hz2; exact zTh_mem 8 hk hw
      rw [if_pos hb] at hth
      refine g_iconst C (nI 1) dX6_isThere_18 (by decide) ?_
      refine g_goto C 23 dX6_isThere_19 (by decide) ?_
      exact g_ret1 M dX6_isThere_23 (⟨rfl, by rw [hth]; rfl⟩)
set_option maxRecDepth 100000 in
set_option maxHeartbeats 4000000 in
theorem q_sailor {Γ : zG} {c : Nat → Nat → Int32} {t : Nat → Int64} {S : zAb} (hS : OkS S) (hR : RepM c t S) {s w : Int32} : Sp Γ 4 mX6_sailor [.ref 56, .int s, .int w] 0 0 (wF c t) (z_pi (zOutM c t (a_sailor S s w) (S))) := by
  refine Sp.of (own := RX6) 0 false rfl (by decide +kernel) rfl rfl (fun h => by cases h) (fun K hKd M => ?_)
  have C := M.1
  show GG Γ K 0 0 (wF c t) 0 [some (.ref 56), some (.int s), some (.int w)] []
  refine g_aload0 C dX6_sailor_0 ?_
  refine g_iload1 C dX6_sailor_1 ?_
  refine g_callV1i C dX6_sailor_2 vlX6_102 (n_isSailor hS hR) hKd (by first | decide | omega) rfl (Nat.le_of_ble_eq_true rfl) (show 56 < 68 by decide) rfl ?_
  rintro _ _ ⟨rfl, rfl⟩
  refine g_if_neB C 10 dX6_sailor_5 (by decide) (fun h5 => ?_) (fun h5 => ?_)
  · -- X6_sailor 5t
    obtain ⟨i, hz⟩ := zsome_t h5
    obtain ⟨hi, rfl⟩ := zIdx_iff hz
    have hi7 : i < 7 := by have := hS.1.1; omega
    refine g_iload2 C dX6_sailor_10 ?_
    by_cases hs0 : w = nI 0
    · -- X6_sailor 11 case 0
      subst hs0
      refine g_tswIn C 0 48 dX6_sailor_11 (by decide) rfl (by decide) ?_
      have hr : a_sailor S (nI i) (nI 0) = nI (cW S.1 i) := by unfold a_sailor; rw [hz, zIdx_n (n := 6) (by decide) (by decide)] <;> rfl
      refine g_aload0 C dX6_sailor_48 ?_
      refine g_getRT C dX6_sailor_49 flX6_13 (show 56 < 68 by decide) rfl rfl (by decide) ?_
      refine g_iconst C (nI 5) dX6_sailor_52 (by decide) ?_
      refine g_iload1 C dX6_sailor_53 ?_
      refine g_iaddN C dX6_sailor_54 ?_
      refine g_ialdE C (hR.1.2.2.2.1 i hi) (by omega) (by decide) dX6_sailor_55 (show 58 < 68 by decide) rfl ?_
      exact g_reti M dX6_sailor_56 (by rw [hr]; exact zOutM.same hR)
    by_cases hs1 : w = nI 1
    · -- X6_sailor 11 case 1
      subst hs1
      refine g_tswIn C 1 57 dX6_sailor_11 (by decide) rfl (by decide) ?_
      have hr : a_sailor S (nI i) (nI 1) = nI (cC S.1 i) := by unfold a_sailor; rw [hz, zIdx_n (n := 6) (by decide) (by decide)] <;> rfl
      refine g_aload0 C dX6_sailor_57 ?_
      refine g_getRT C dX6_sailor_58 flX6_13 (show 56 < 68 by decide) rfl rfl (by decide) ?_
      refine g_bipush C (nI 12) dX6_sailor_61 (by decide) ?_
      refine g_iload1 C dX6_sailor_63 ?_
      refine g_iaddN C dX6_sailor_64 ?_
      refine g_ialdE C (hR.1.2.2.2.2.1 i hi) (by omega) (by decide) dX6_sailor_65 (show 58 < 68 by decide) rfl ?_
      exact g_reti M dX6_sailor_66 (by rw [hr]; exact zOutM.same hR)
    by_cases hs2 : w = nI 2
    · -- X6_sailor 11 case 2
      subst hs2
      refine g_tswIn C 2 67 dX6_sailor_11 (by decide) rfl (by decide) ?_
      have hr : a_sailor S (nI i) (nI 2) = nI (zTm S.1 i) := by unfold a_sailor; rw [hz, zIdx_n (n := 6) (by decide) (by decide)] <;> rfl
      refine g_aload0 C dX6_sailor_67 ?_
      refine g_getRT C dX6_sailor_68 flX6_13 (show 56 < 68 by decide) rfl rfl (by decide) ?_
      refine g_bipush C (nI 19) dX6_sailor_71 (by decide) ?_
      refine g_iload1 C dX6_sailor_73 ?_
      refine g_iaddN C dX6_sailor_74 ?_
      refine g_ialdE C (hR.1.2.2.2.2.2 i hi) (by omega) (by decide) dX6_sailor_75 (show 58 < 68 by decide) rfl ?_
      exact g_reti M dX6_sailor_76 (by rw [hr]; exact zOutM.same hR)
    by_cases hs3 : w = nI 3
    · -- X6_sailor 11 case 3
      subst hs3
      refine g_tswIn C 3 77 dX6_sailor_11 (by decide) rfl (by decide) ?_
      have hr : a_sailor S (nI i) (nI 3) = nI ((mG S.2.1).testBit i).toNat := by unfold a_sailor; rw [hz, zIdx_n (n := 6) (by decide) (by decide)] <;> rfl
      refine g_aload0 C dX6_sailor_77 ?_
      refine g_getRT C dX6_sailor_78 flX6_19 (show 56 < 68 by decide) rfl rfl (by decide) ?_
      refine g_iconst C (nI 1) dX6_sailor_81 (by decide) ?_
      refine g_ialdE C hR.2.1.2.1 (by omega) (by decide) dX6_sailor_82 (show 60 < 68 by decide) rfl ?_
      refine g_iload1 C dX6_sailor_83 ?_
      refine g_ishrN C dX6_sailor_84 (by have := hS.g; omega) (by have := hS.g; omega) ?_
      refine g_iconst C (nI 1) dX6_sailor_85 (by decide) ?_
      refine g_iandN C dX6_sailor_86 ?_
      refine g_top (by rw [zn_bit]) ?_
      exact g_reti M dX6_sailor_87 (by rw [hr]; exact zOutM.same hR)
    by_cases hs4 : w = nI 4
    · -- X6_sailor 11 case 4
      subst hs4
      refine g_tswIn C 4 88 dX6_sailor_11 (by decide) rfl (by decide) ?_
      have hr : a_sailor S (nI i) (nI 4) = zE (zSeat (mW S.2.1) i 8) := by unfold a_sailor; rw [hz, zIdx_n (n := 6) (by decide) (by decide)] <;> rfl
      refine g_aload0 C dX6_sailor_88 ?_
      refine g_iload1 C dX6_sailor_89 ?_
      refine g_callV1i C dX6_sailor_90 vlX6_105 (n_seatOf hS hR hi) hKd (by first | decide | omega) rfl (Nat.le_of_ble_eq_true rfl) (show 56 < 68 by decide) rfl ?_
      rintro _ _ ⟨rfl, rfl⟩
      exact g_reti M dX6_sailor_93 (by rw [hr]; exact zOutM.same hR)
    by_cases hs5 : w = nI 5
    · -- X6_sailor 11 case 5
      subst hs5
      refine g_tswIn C 5 94 dX6_sailor_11 (by decide) rfl (by decide) ?_
      have hr : a_sailor S (nI i) (nI 5) = nI (zWn S.1 S.2.1 i).toNat := by unfold a_sailor; rw [hz, zIdx_n (n := 6) (by decide) (by decide)] <;> rfl
      refine g_aload0 C dX6_sailor_94 ?_
      refine g_iload1 C dX6_sailor_95 ?_
      refine g_callV1i C dX6_sailor_96 vlX6_108 (n_wouldNow hS hR hi) hKd (by first | decide | omega) rfl (Nat.le_of_ble_eq_true rfl) (show 56 < 68 by decide) rfl ?_
      rintro _ _ ⟨rfl, rfl⟩
      refine g_if_eqB C 106 dX6_sailor_99 (by decide) (fun h99 => ?_) (fun h99 => ?_)
      · -- X6_sailor 99t
        
        refine g_iconst C (nI 0) dX6_sailor_106 (by decide) ?_
        exact g_reti M dX6_sailor_107 (by rw [hr, h99]; exact zOutM.same hR)
      · -- X6_sailor 99f
        
        refine g_iconst C (nI 1) dX6_sailor_102 (by decide) ?_
        refine g_goto C 107 dX6_sailor_103 (by decide) ?_
        exact g_reti M dX6_sailor_107 (by rw [hr, h99]; exact zOutM.same hR)
    refine g_tswOut C 5 108 dX6_sailor_11 (fun j hj => ?_) (by decide) (by decide) ?_
    · match j, hj with
      | 0, _ => exact hs0
      | 1, _ => exact hs1
      | 2, _ => exact hs2
      | 3, _ => exact hs3
      | 4, _ => exact hs4
      | 5, _ => exact hs5
      | n + 6, q => exact absurd q (by omega)
    have hr : a_sailor S (nI i) w = -1 := by
      unfold a_sailor
      rw [hz, zIdx_none (n := 6) (fun j hj => by match j, hj with | 0, _ => exact hs0 | 1, _ => exact hs1 | 2, _ => exact hs2 | 3, _ => exact hs3 | 4, _ => exact hs4 | 5, _ => exact hs5 | n + 6, h => omega)] <;> rfl
    refine g_iconst C (-1) dX6_sailor_108 (by decide) ?_
    exact g_reti M dX6_sailor_109 (by rw [hr]; exact zOutM.same hR)
  · -- X6_sailor 5f
    have hz := zsome_f h5
    have hr : a_sailor S s w = -1 := by unfold a_sailor; rw [hz] <;> rfl
    refine g_iconst C (-1) dX6_sailor_8 (by decide) ?_
    exact g_reti M dX6_sailor_9 (by rw [hr]; exact zOutM.same hR)
set_option maxRecDepth 100000 in
set_option maxHeartbeats 4000000 in
theorem q_seat {Γ : zG} {c : Nat → Nat → Int32} {t : Nat → Int64} {S : zAb} (hS : OkS S) (hR : RepM c t S) {k w : Int32} : Sp Γ 3 mX6_seat [.ref 56, .int k, .int w] 0 0 (wF c t) (z_pi (zOutM c t (a_seat S k w) (S))) := by
  refine Sp.of (own := RX6) 0 false rfl (by decide +kernel) rfl rfl (fun h => by cases h) (fun K hKd M => ?_)
  have C := M.1
  show GG Γ K 0 0 (wF c t) 0 [some (.ref 56), some (.int k), some (.int w)] []
  refine g_aload0 C dX6_seat_0 ?_
  refine g_iload1 C dX6_seat_1 ?_
  refine g_callV1i C dX6_seat_2 vlX6_111 (n_isSeat hS hR) hKd (by first | decide | omega) rfl (Nat.le_of_ble_eq_true rfl) (show 56 < 68 by decide) rfl ?_
  rintro _ _ ⟨rfl, rfl⟩
  refine g_if_eqB C 17 dX6_seat_5 (by decide) (fun h5 => ?_) (fun h5 => ?_)
  · -- X6_seat 5t
    have hz := zsome_f h5
    have hr : a_seat S k w = -1 := by unfold a_seat; rw [hz] <;> rfl
    refine g_iconst C (-1) dX6_seat_17 (by decide) ?_
    exact g_reti M dX6_seat_18 (by rw [hr]; exact zOutM.same hR)
  · -- X6_seat 5f
    obtain ⟨i, hz⟩ := zsome_t h5
    obtain ⟨hi, rfl⟩ := zIdx_iff hz
    have hs8 := hS.1.2.2.2.2.2.2
    refine g_iload2 C dX6_seat_8 ?_
    refine g_iconst C (nI 0) dX6_seat_9 (by decide) ?_
    refine g_iconst C (nI 1) dX6_seat_10 (by decide) ?_
    refine g_callS3i C dX6_seat_11 slX6_52 (n_in) hKd (by first | decide | omega) rfl (Nat.le_of_ble_eq_true rfl) ?_
    rintro _ _ ⟨rfl, rfl⟩
    rw [zIn_ix (n := 2) (by decide) (by decide)]
    refine g_if_neB C 19 dX6_seat_14 (by decide) (fun h14 => ?_) (fun h14 => ?_)
    · -- X6_seat 14t
      obtain ⟨j, hz2⟩ := zsome_t h14
      obtain ⟨hj, rfl⟩ := zIdx_iff hz2
      refine g_iload2 C dX6_seat_19 ?_
      refine g_iconst C (nI 1) dX6_seat_20 (by decide) ?_
      refine g_icmp_neN C 36 (by omega) (by omega) dX6_seat_21 (by decide) (fun h21 => ?_) (fun h21 => ?_)
      · -- X6_seat 21t
        obtain rfl : j = 0 := by omega
        have hr : a_seat S (nI i) (nI 0) = zE (mW S.2.1 i) := by unfold a_seat; rw [hz, hz2] <;> rfl
        refine g_aload0 C dX6_seat_36 ?_
        refine g_getRT C dX6_seat_37 flX6_19 (show 56 < 68 by decide) rfl rfl (by decide) ?_
        refine g_iconst C (nI 2) dX6_seat_40 (by decide) ?_
        refine g_iload1 C dX6_seat_41 ?_
        refine g_iaddN C dX6_seat_42 ?_
        refine g_ialdE C (hR.2.1.2.2.1 i (by omega)) (by omega) (by decide) dX6_seat_43 (show 60 < 68 by decide) rfl ?_
        refine g_if_ge C 52 dX6_seat_44 (by decide) (fun h44 => ?_) (fun h44 => ?_)
        · -- X6_seat 44t
          obtain ⟨q, hq⟩ := zS1_pos (fun e => zge_lt h44 e)
          rw [hq] at hr
          refine g_aload0 C dX6_seat_52 ?_
          refine g_getRT C dX6_seat_53 flX6_19 (show 56 < 68 by decide) rfl rfl (by decide) ?_
          refine g_iconst C (nI 2) dX6_seat_56 (by decide) ?_
          refine g_iload1 C dX6_seat_57 ?_
          refine g_iaddN C dX6_seat_58 ?_
          refine g_ialdE C ((hR.2.1.2.2.1 i (by omega)).trans (show zS1 (mW S.2.1 i) = nI q from congrArg zS1 hq)) (by omega) (by decide) dX6_seat_59 (show 60 < 68 by decide) rfl ?_
          exact g_reti M dX6_seat_60 (by rw [hr]; exact zOutM.same hR)
        · -- X6_seat 44f
          have hq := zS1_neg (zlt_of_nge h44) (fun s h => by have := hS.w i s (by omega) h; omega)
          rw [hq] at hr
          refine g_bipush C (-9) dX6_seat_47 (by decide) ?_
          refine g_goto C 60 dX6_seat_49 (by decide) ?_
          exact g_reti M dX6_seat_60 (by rw [hr]; exact zOutM.same hR)
      · -- X6_seat 21f
        subst h21
        have hr : a_seat S (nI i) (nI 1) = nI (mI S.2.1 i) := by unfold a_seat; rw [hz, hz2] <;> rfl
        refine g_aload0 C dX6_seat_24 ?_
        refine g_getRT C dX6_seat_25 flX6_19 (show 56 < 68 by decide) rfl rfl (by decide) ?_
        refine g_bipush C (nI 10) dX6_seat_28 (by decide) ?_
        refine g_iload1 C dX6_seat_30 ?_
        refine g_iaddN C dX6_seat_31 ?_
        refine g_ialdE C (hR.2.1.2.2.2 i (by omega)) (by omega) (by decide) dX6_seat_32 (show 60 < 68 by decide) rfl ?_
        refine g_goto C 60 dX6_seat_33 (by decide) ?_
        exact g_reti M dX6_seat_60 (by rw [hr]; exact zOutM.same hR)
    · -- X6_seat 14f
      have hz2 := zsome_f h14
      have hr : a_seat S (nI i) w = -1 := by unfold a_seat; rw [hz, hz2] <;> rfl
      refine g_iconst C (-1) dX6_seat_17 (by decide) ?_
      exact g_reti M dX6_seat_18 (by rw [hr]; exact zOutM.same hR)
set_option maxRecDepth 100000 in
set_option maxHeartbeats 4000000 in
theorem q_now {Γ : zG} {c : Nat → Nat → Int32} {t : Nat → Int64} {S : zAb} (hS : OkS S) (hR : RepM c t S) {w : Int32} : Sp Γ 5 mX6_now [.ref 56, .int w] 0 0 (wF c t) (z_pi (zOutM c t (a_now S w) (S))) := by
  refine Sp.of (own := RX6) 2 false rfl (by decide +kernel) rfl rfl (fun h => by cases h) (fun K hKd M => ?_)
  have C := M.1
  show GG Γ K 0 0 (wF c t) 0 [some (.ref 56), some (.int w), none, none] []
  have hn7 : cN S.1 ≤ 7 := hS.1.1
  have H4 : ∀ (n : Nat) (i : Nat), i ≤ cN S.1 → cN S.1 - i < n → GG Γ K 0 0 (wF c t) 4 [some (.ref 56), some (.int w), some (.int (nI (zWb S.1 S.2.1 i))), some (.int (nI i))] [] := by
    intro n
    induction n with
    | zero => intro i hi hn; exact absurd hn (by omega)
    | succ n ih =>
      intro i hi hn
      refine g_iload3 C dX6_now_4 ?_
      refine g_aload0 C dX6_now_5 ?_
      refine g_getRT C dX6_now_6 flX6_13 (show 56 < 68 by decide) rfl rfl (by decide) ?_
      refine g_iconst C (nI 0) dX6_now_9 (by decide) ?_
      refine g_ialdE C hR.1.1 (by omega) (by decide) dX6_now_10 (show 58 < 68 by decide) rfl ?_
      refine g_icmp_geN C 38 (by omega) (by omega) dX6_now_11 (by decide) (fun h11 => ?_) (fun h11 => ?_)
      · -- X6_now 11t
        obtain rfl : i = cN S.1 := by omega
        refine g_iload1 C dX6_now_38 ?_
        by_cases hs0 : w = nI 0
        · -- X6_now 39 case 0
          subst hs0
          refine g_tswIn C 0 72 dX6_now_39 (by decide) rfl (by decide) ?_
          have hr : a_now S (nI 0) = nI (mH S.2.1) := by unfold a_now; rw [zIdx_n (n := 5) (by decide) (by decide)] <;> rfl
          refine g_aload0 C dX6_now_72 ?_
          refine g_getRT C dX6_now_73 flX6_19 (show 56 < 68 by decide) rfl rfl (by decide) ?_
          refine g_iconst C (nI 0) dX6_now_76 (by decide) ?_
          refine g_ialdE C hR.2.1.1 (by omega) (by decide) dX6_now_77 (show 60 < 68 by decide) rfl ?_
          exact g_reti M dX6_now_78 (by rw [hr]; exact zOutM.same hR)
        by_cases hs1 : w = nI 1
        · -- X6_now 39 case 1
          subst hs1
          refine g_tswIn C 1 79 dX6_now_39 (by decide) rfl (by decide) ?_
          have hr : a_now S (nI 1) = nI (mG S.2.1) := by unfold a_now; rw [zIdx_n (n := 5) (by decide) (by decide)] <;> rfl
          refine g_aload0 C dX6_now_79 ?_
          refine g_getRT C dX6_now_80 flX6_19 (show 56 < 68 by decide) rfl rfl (by decide) ?_
          refine g_iconst C (nI 1) dX6_now_83 (by decide) ?_
          refine g_ialdE C hR.2.1.2.1 (by omega) (by decide) dX6_now_84 (show 60 < 68 by decide) rfl ?_
          exact g_reti M dX6_now_85 (by rw [hr]; exact zOutM.same hR)
        by_cases hs2 : w = nI 2
        · -- X6_now 39 case 2
          subst hs2
          refine g_tswIn C 2 86 dX6_now_39 (by decide) rfl (by decide) ?_
          have hr : a_now S (nI 2) = nI (zThere S.2.1) := by unfold a_now; rw [zIdx_n (n := 5) (by decide) (by decide)] <;> rfl
          refine g_aload0 C dX6_now_86 ?_
          refine g_callV0i C dX6_now_87 vlX6_114 (n_there hS hR) hKd (by first | decide | omega) rfl (Nat.le_of_ble_eq_true rfl) (show 56 < 68 by decide) rfl ?_
          rintro _ _ ⟨rfl, rfl⟩
          exact g_reti M dX6_now_90 (by rw [hr]; exact zOutM.same hR)
        by_cases hs3 : w = nI 3
        · -- X6_now 39 case 3
          subst hs3
          refine g_tswIn C 3 91 dX6_now_39 (by decide) rfl (by decide) ?_
          have hr : a_now S (nI 3) = nI (zWb S.1 S.2.1 (cN S.1)) := by unfold a_now; rw [zIdx_n (n := 5) (by decide) (by decide)] <;> rfl
          refine g_iload2 C dX6_now_91 ?_
          exact g_reti M dX6_now_92 (by rw [hr]; exact zOutM.same hR)
        by_cases hs4 : w = nI 4
        · -- X6_now 39 case 4
          subst hs4
          refine g_tswIn C 4 93 dX6_now_39 (by decide) rfl (by decide) ?_
          have hr : a_now S (nI 4) = nI S.2.2.1.length := by unfold a_now; rw [zIdx_n (n := 5) (by decide) (by decide)] <;> rfl
          refine g_aload0 C dX6_now_93 ?_
          refine g_getIE C hR.2.2.1.1 dX6_now_94 flX6_92 (show 56 < 68 by decide) rfl rfl ?_
          exact g_reti M dX6_now_97 (by rw [hr]; exact zOutM.same hR)
        refine g_tswOut C 4 98 dX6_now_39 (fun j hj => ?_) (by decide) (by decide) ?_
        · match j, hj with
          | 0, _ => exact hs0
          | 1, _ => exact hs1
          | 2, _ => exact hs2
          | 3, _ => exact hs3
          | 4, _ => exact hs4
          | n + 5, q => exact absurd q (by omega)
        have hr : a_now S w = -1 := by
          unfold a_now
          rw [zIdx_none (n := 5) (fun j hj => by match j, hj with | 0, _ => exact hs0 | 1, _ => exact hs1 | 2, _ => exact hs2 | 3, _ => exact hs3 | 4, _ => exact hs4 | n + 5, h => omega)] <;> rfl
        refine g_iconst C (-1) dX6_now_98 (by decide) ?_
        exact g_reti M dX6_now_99 (by rw [hr]; exact zOutM.same hR)
      · -- X6_now 11f
        
        refine g_iload2 C dX6_now_14 ?_
        refine g_aload0 C dX6_now_15 ?_
        refine g_iload3 C dX6_now_16 ?_
        refine g_callV1i C dX6_now_17 vlX6_108 (n_wouldNow hS hR h11) hKd (by first | decide | omega) rfl (Nat.le_of_ble_eq_true rfl) (show 56 < 68 by decide) rfl ?_
        rintro _ _ ⟨rfl, rfl⟩
        refine g_if_eqB C 29 dX6_now_20 (by decide) (fun h20 => ?_) (fun h20 => ?_)
        · -- X6_now 20t
          
          refine g_iconst C (nI 0) dX6_now_29 (by decide) ?_
          refine g_iorN C dX6_now_30 ?_
          refine g_istore2 C dX6_now_31 ?_
          refine g_set (L' := [some (.ref 56), some (.int w), some (.int (nI (zWb S.1 S.2.1 (i + 1)))), some (.int (nI i))]) rfl (by rw [zWb, if_neg (by rw [h20]; decide), Nat.or_zero]) rfl ?_
          refine g_iinc3N C dX6_now_32 ?_
          refine g_goto C 4 dX6_now_35 (by decide) ?_
          exact ih (i + 1) (by omega) (by omega)
        · -- X6_now 20f
          
          refine g_iconst C (nI 1) dX6_now_23 (by decide) ?_
          refine g_iload3 C dX6_now_24 ?_
          refine g_ishlN C dX6_now_25 (by omega) ?_
          refine g_goto C 30 dX6_now_26 (by decide) ?_
          refine g_iorN C dX6_now_30 ?_
          refine g_istore2 C dX6_now_31 ?_
          refine g_set (L' := [some (.ref 56), some (.int w), some (.int (nI (zWb S.1 S.2.1 (i + 1)))), some (.int (nI i))]) rfl (by rw [zWb, if_pos h20]) rfl ?_
          refine g_iinc3N C dX6_now_32 ?_
          refine g_goto C 4 dX6_now_35 (by decide) ?_
          exact ih (i + 1) (by omega) (by omega)
  refine g_iconst C (nI 0) dX6_now_0 (by decide) ?_
  refine g_istore2 C dX6_now_1 ?_
  refine g_iconst C (nI 0) dX6_now_2 (by decide) ?_
  refine g_istore3 C dX6_now_3 ?_
  exact H4 (cN S.1 + 1) 0 (Nat.zero_le _) (by omega)
set_option maxRecDepth 100000 in
set_option maxHeartbeats 4000000 in
theorem q_count {Γ : zG} {c : Nat → Nat → Int32} {t : Nat → Int64} {S : zAb} (hS : OkS S) (hR : RepM c t S) {w : Int32} : Sp Γ 1 mX6_count [.ref 56, .int w] 0 0 (wF c t) (z_pi (zOutM c t (a_count S w) (S))) := by
  refine Sp.of (own := RX6) 0 false rfl (by decide +kernel) rfl rfl (fun h => by cases h) (fun K hKd M => ?_)
  have C := M.1
  show GG Γ K 0 0 (wF c t) 0 [some (.ref 56), some (.int w)] []
  refine g_iload1 C dX6_count_0 ?_
  refine g_iconst C (nI 0) dX6_count_1 (by decide) ?_
  refine g_iconst C (nI 3) dX6_count_2 (by decide) ?_
  refine g_callS3i C dX6_count_3 slX6_52 (n_in) hKd (by first | decide | omega) rfl (Nat.le_of_ble_eq_true rfl) ?_
  rintro _ _ ⟨rfl, rfl⟩
  rw [zIn_ix (n := 4) (by decide) (by decide)]
  refine g_if_neB C 11 dX6_count_6 (by decide) (fun h6 => ?_) (fun h6 => ?_)
  · -- X6_count 6t
    obtain ⟨j, hz⟩ := zsome_t h6
    obtain ⟨hj, rfl⟩ := zIdx_iff hz
    refine g_iload1 C dX6_count_11 ?_
    refine g_iconst C (nI 3) dX6_count_12 (by decide) ?_
    refine g_icmp_geN C 25 (by omega) (by omega) dX6_count_13 (by decide) (fun h13 => ?_) (fun h13 => ?_)
    · -- X6_count 13t
      obtain rfl : j = 3 := by omega
      have hr : a_count S (nI 3) = nI S.2.2.2.2.1.1 := by unfold a_count; rw [hz] <;> rfl
      refine g_aload0 C dX6_count_25 ?_
      refine g_getIE C hR.2.2.2.2.1.1 dX6_count_26 flX6_56 (show 56 < 68 by decide) rfl rfl ?_
      exact g_reti M dX6_count_29 (by first | exact zOutM.same hR | (rw [hr]; exact zOutM.same hR))
    · -- X6_count 13f
      have hr : c 58 j = a_count S (nI j) := by
        unfold a_count
        rw [hz]
        match j, h13 with
        | 0, _ => exact hR.1.1
        | 1, _ => exact hR.1.2.1
        | 2, _ => exact hR.1.2.2.1
        | j + 3, h => omega
      refine g_aload0 C dX6_count_16 ?_
      refine g_getRT C dX6_count_17 flX6_13 (show 56 < 68 by decide) rfl rfl (by decide) ?_
      refine g_iload1 C dX6_count_20 ?_
      refine g_ialdE C hr (by omega) (by decide) dX6_count_21 (show 58 < 68 by decide) rfl ?_
      refine g_goto C 29 dX6_count_22 (by decide) ?_
      exact g_reti M dX6_count_29 (by first | exact zOutM.same hR | (rw [hr]; exact zOutM.same hR))
  · -- X6_count 6f
    have hz := zsome_f h6
    have hr : a_count S w = -1 := by unfold a_count; rw [hz] <;> rfl
    refine g_iconst C (-1) dX6_count_9 (by decide) ?_
    exact g_reti M dX6_count_10 (by rw [hr]; exact zOutM.same hR)
set_option maxRecDepth 100000 in
set_option maxHeartbeats 4000000 in
theorem q_trace {Γ : zG} {c : Nat → Nat → Int32} {t : Nat → Int64} {S : zAb} (hR : RepM c t S) : Sp Γ 0 mX6_trace [.ref 56] 0 0 (wF c t) (z_pl (fun v w => v = S.2.2.2.2.2 ∧ w = wF c t)) := by
  refine Sp.of (own := RX6) 0 false rfl (by decide +kernel) rfl rfl (fun h => by cases h) (fun K hKd M => ?_)
  have C := M.1
  show GG Γ K 0 0 (wF c t) 0 [some (.ref 56)] []
  refine g_aload0 C dX6_trace_0 ?_
  refine g_getLT C dX6_trace_1 flX6_158 (show 56 < 68 by decide) rfl rfl ?_
  exact g_retl M dX6_trace_4 (⟨hR.2.2.2.2.2, rfl⟩)
set_option maxRecDepth 100000 in
set_option maxHeartbeats 4000000 in
theorem q_bold {Γ : zG} {c : Nat → Nat → Int32} {t : Nat → Int64} {S : zAb} (hS : OkS S) (hR : RepM c t S) {x : Int32} : Sp Γ 1 mX6_bold [.ref 56, .int x] 0 0 (wF c t) (z_pi (zOutM c t (a_bold S x) (S))) := by
  refine Sp.of (own := RX6) 2 false rfl (by decide +kernel) rfl rfl (fun h => by cases h) (fun K hKd M => ?_)
  have C := M.1
  show GG Γ K 0 0 (wF c t) 0 [some (.ref 56), some (.int x), none, none] []
  have hn7 : cN S.1 ≤ 7 := hS.1.1
  have H16 : ∀ (n : Nat) (b i : Nat), b < 8 → a_bold S x = nI (zBo S.1 b (cN S.1)) → i ≤ cN S.1 → cN S.1 - i < n → GG Γ K 0 0 (wF c t) 16 [some (.ref 56), some (.int (nI b)), some (.int (nI (zBo S.1 b i))), some (.int (nI i))] [] := by
    intro n
    induction n with
    | zero => intro b i hb hr hi hn; exact absurd hn (by omega)
    | succ n ih =>
      intro b i hb hr hi hn
      refine g_iload3 C dX6_bold_16 ?_
      refine g_aload0 C dX6_bold_17 ?_
      refine g_getRT C dX6_bold_18 flX6_13 (show 56 < 68 by decide) rfl rfl (by decide) ?_
      refine g_iconst C (nI 0) dX6_bold_21 (by decide) ?_
      refine g_ialdE C hR.1.1 (by omega) (by decide) dX6_bold_22 (show 58 < 68 by decide) rfl ?_
      refine g_icmp_geN C 53 (by have := hS.1.1; omega) (by have := hS.1.1; omega) dX6_bold_23 (by decide) (fun h23 => ?_) (fun h23 => ?_)
      · -- X6_bold 23t
        obtain rfl : i = cN S.1 := by omega
        refine g_iload2 C dX6_bold_53 ?_
        exact g_reti M dX6_bold_54 (by rw [hr]; exact zOutM.same hR)
      · -- X6_bold 23f
        have hbo := zBo_le S.1 b i
        refine g_iload2 C dX6_bold_26 ?_
        refine g_aload0 C dX6_bold_27 ?_
        refine g_getRT C dX6_bold_28 flX6_13 (show 56 < 68 by decide) rfl rfl (by decide) ?_
        refine g_bipush C (nI 12) dX6_bold_31 (by decide) ?_
        refine g_iload3 C dX6_bold_33 ?_
        refine g_iaddN C dX6_bold_34 ?_
        refine g_ialdE C (hR.1.2.2.2.2.1 i h23) (by omega) (by decide) dX6_bold_35 (show 58 < 68 by decide) rfl ?_
        refine g_iload1 C dX6_bold_36 ?_
        refine g_icmp_gtN C 44 (by have := hS.1.2.2.1 i h23; omega) (by omega) dX6_bold_37 (by decide) (fun h37 => ?_) (fun h37 => ?_)
        · -- X6_bold 37t
          
          refine g_iconst C (nI 0) dX6_bold_44 (by decide) ?_
          refine g_iaddN C dX6_bold_45 ?_
          refine g_istore2 C dX6_bold_46 ?_
          refine g_set (L' := [some (.ref 56), some (.int (nI b)), some (.int (nI (zBo S.1 b (i + 1)))), some (.int (nI i))]) rfl (by rw [zBo, if_neg (by omega), Nat.add_zero]) rfl ?_
          refine g_iinc3N C dX6_bold_47 ?_
          refine g_goto C 16 dX6_bold_50 (by decide) ?_
          exact ih b (i + 1) hb hr (by omega) (by omega)
        · -- X6_bold 37f
          
          refine g_iconst C (nI 1) dX6_bold_40 (by decide) ?_
          refine g_goto C 45 dX6_bold_41 (by decide) ?_
          refine g_iaddN C dX6_bold_45 ?_
          refine g_istore2 C dX6_bold_46 ?_
          refine g_set (L' := [some (.ref 56), some (.int (nI b)), some (.int (nI (zBo S.1 b (i + 1)))), some (.int (nI i))]) rfl (by rw [zBo, if_pos (by omega)]) rfl ?_
          refine g_iinc3N C dX6_bold_47 ?_
          refine g_goto C 16 dX6_bold_50 (by decide) ?_
          exact ih b (i + 1) hb hr (by omega) (by omega)
  refine g_iload1 C dX6_bold_0 ?_
  refine g_iconst C (nI 0) dX6_bold_1 (by decide) ?_
  refine g_bipush C (nI 7) dX6_bold_2 (by decide) ?_
  refine g_callS3i C dX6_bold_4 slX6_52 (n_in) hKd (by first | decide | omega) rfl (Nat.le_of_ble_eq_true rfl) ?_
  rintro _ _ ⟨rfl, rfl⟩
  rw [zIn_ix (n := 8) (by decide) (by decide)]
  refine g_if_neB C 12 dX6_bold_7 (by decide) (fun h7 => ?_) (fun h7 => ?_)
  · -- X6_bold 7t
    obtain ⟨b, hz⟩ := zsome_t h7
    obtain ⟨hb, rfl⟩ := zIdx_iff hz
    have hr : a_bold S (nI b) = nI (zBo S.1 b (cN S.1)) := by unfold a_bold; rw [hz] <;> rfl
    refine g_iconst C (nI 0) dX6_bold_12 (by decide) ?_
    refine g_istore2 C dX6_bold_13 ?_
    refine g_iconst C (nI 0) dX6_bold_14 (by decide) ?_
    refine g_istore3 C dX6_bold_15 ?_
    exact H16 (cN S.1 + 1) b 0 hb hr (Nat.zero_le _) (by omega)
  · -- X6_bold 7f
    have hz := zsome_f h7
    have hr : a_bold S x = -1 := by unfold a_bold; rw [hz] <;> rfl
    refine g_iconst C (-1) dX6_bold_10 (by decide) ?_
    exact g_reti M dX6_bold_11 (by rw [hr]; exact zOutM.same hR)
