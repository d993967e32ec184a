/-! the class: its public calls, of the mathematical value -/
theorem zlsw2 {x : Int32} (h0 : x ≠ nI 0) (h1 : x ≠ nI 1) : Op.lookupswitch.offset [(0, 25), (1, 37)] 49 x.toInt = 49 := by
  have e0 : ¬ x.toInt = 0 := fun e => h0 (Int32.toInt_inj.mp (e.trans (by decide)))
  have e1 : ¬ x.toInt = 1 := fun e => h1 (Int32.toInt_inj.mp (e.trans (by decide)))
  unfold Op.lookupswitch.offset
  rw [if_neg (fun h => e0 h.symm)]
  unfold Op.lookupswitch.offset
  rw [if_neg (fun h => e1 h.symm)]
  rfl
theorem zsc_w {c : Nat → Nat → Int32} {w : Nat → Option Nat} {o : Option Nat} {j k : Nat} {y : Int32} (h : c 12 k = zE (w k)) : z_up (z_up c (11 + 1) j (zE o)) (11 + 2) j y (11 + 1) k = zE (if k = j then o else w k) := by
  rw [up_k (by decide)]
  by_cases e : k = j
  · rw [e, up_s, if_pos rfl]
  · rw [up_j _ e, if_neg e]; exact h
theorem zsc_i {c : Nat → Nat → Int32} {g : Nat → Nat} {x : Int32} {j k y : Nat} (h : c 13 k = nI (g k)) : z_up (z_up c (11 + 1) j x) (11 + 2) j (nI y) (11 + 2) k = nI (if k = j then y else g k) := by
  by_cases e : k = j
  · rw [e, up_s, if_pos rfl]
  · rw [up_j _ e, if_neg e, up_k (by decide)]; exact h
set_option maxRecDepth 100000 in
set_option maxHeartbeats 4000000 in
theorem p_sailor {Γ : zG} {c : Nat → Nat → Int32} {t : Nat → Int64} {S : zAb} (hS : OkS S) (hR : RepC c t S) {s w : Int32} : Sp Γ 4 mX5_sailor [.ref 0, .int s, .int w] 0 0 (wF c t) (z_pi (zOutC c t (a_sailor S s w) (S))) := by
  refine Sp.of (own := RX5) 0 false rfl (by decide +kernel) rfl rfl (fun h => by cases h) (fun K hKd M => ?_)
  have C := M.1
  show GG Γ K 0 0 (wF c t) 0 [some (.ref 0), some (.int s), some (.int w)] []
  refine g_aload0 C dX5_sailor_0 ?_
  refine g_iload1 C dX5_sailor_1 ?_
  refine g_callV1i C dX5_sailor_2 vlX5_78 (s_isSailor hS hR) hKd (by first | decide | omega) rfl (Nat.le_of_ble_eq_true rfl) (show 0 < 68 by decide) rfl ?_
  rintro _ _ ⟨rfl, rfl⟩
  refine g_if_neB C 10 dX5_sailor_5 (by decide) (fun h5 => ?_) (fun h5 => ?_)
  · -- X5_sailor 5t
    obtain ⟨i, hz⟩ := zsome_t h5
    obtain ⟨hi, rfl⟩ := zIdx_iff hz
    refine g_iload2 C dX5_sailor_10 ?_
    by_cases hs0 : w = nI 0
    · -- X5_sailor 11 case 0
      subst hs0
      refine g_tswIn C 0 48 dX5_sailor_11 (by decide) rfl (by decide) ?_
      have hr : a_sailor S (nI i) (nI 0) = nI (cW S.1 i) := by unfold a_sailor; rw [hz, zIdx_n (n := 6) (by decide) (by decide)] <;> rfl
      refine g_aload0 C dX5_sailor_48 ?_
      refine g_getRT C dX5_sailor_49 flX5_19 (show 0 < 68 by decide) rfl rfl (by decide) ?_
      refine g_getRT C dX5_sailor_52 flX5_81 (show 3 < 68 by decide) rfl rfl (by decide) ?_
      refine g_iload1 C dX5_sailor_55 ?_
      refine g_callS2i C dX5_sailor_56 slX5_85 (s_at (show 4 < 68 by decide) rfl (by have := hS.1.1; omega) (by decide) (hR.1.2.2.2.1 i hi)) hKd (by first | decide | omega) rfl (Nat.le_of_ble_eq_true rfl) ?_
      rintro _ _ ⟨rfl, rfl⟩
      exact g_reti M dX5_sailor_59 (by rw [hr]; exact zOutC.same hR)
    by_cases hs1 : w = nI 1
    · -- X5_sailor 11 case 1
      subst hs1
      refine g_tswIn C 1 60 dX5_sailor_11 (by decide) rfl (by decide) ?_
      have hr : a_sailor S (nI i) (nI 1) = nI (cC S.1 i) := by unfold a_sailor; rw [hz, zIdx_n (n := 6) (by decide) (by decide)] <;> rfl
      refine g_aload0 C dX5_sailor_60 ?_
      refine g_getRT C dX5_sailor_61 flX5_19 (show 0 < 68 by decide) rfl rfl (by decide) ?_
      refine g_getRT C dX5_sailor_64 flX5_89 (show 3 < 68 by decide) rfl rfl (by decide) ?_
      refine g_iload1 C dX5_sailor_67 ?_
      refine g_callS2i C dX5_sailor_68 slX5_85 (s_at (show 5 < 68 by decide) rfl (by have := hS.1.1; omega) (by decide) (hR.1.2.2.2.2.1 i hi)) hKd (by first | decide | omega) rfl (Nat.le_of_ble_eq_true rfl) ?_
      rintro _ _ ⟨rfl, rfl⟩
      exact g_reti M dX5_sailor_71 (by rw [hr]; exact zOutC.same hR)
    by_cases hs2 : w = nI 2
    · -- X5_sailor 11 case 2
      subst hs2
      refine g_tswIn C 2 72 dX5_sailor_11 (by decide) rfl (by decide) ?_
      have hr : a_sailor S (nI i) (nI 2) = nI (zTm S.1 i) := by unfold a_sailor; rw [hz, zIdx_n (n := 6) (by decide) (by decide)] <;> rfl
      refine g_aload0 C dX5_sailor_72 ?_
      refine g_getRT C dX5_sailor_73 flX5_19 (show 0 < 68 by decide) rfl rfl (by decide) ?_
      refine g_iload1 C dX5_sailor_76 ?_
      refine g_callV1i C dX5_sailor_77 vlX5_92 (s_trusted hS.1 hR.1 hi) hKd (by first | decide | omega) rfl (Nat.le_of_ble_eq_true rfl) (show 3 < 68 by decide) rfl ?_
      rintro _ _ ⟨rfl, rfl⟩
      exact g_reti M dX5_sailor_80 (by rw [hr]; exact zOutC.same hR)
    by_cases hs3 : w = nI 3
    · -- X5_sailor 11 case 3
      subst hs3
      refine g_tswIn C 3 81 dX5_sailor_11 (by decide) rfl (by decide) ?_
      have hr : a_sailor S (nI i) (nI 3) = nI ((mG S.2.1).testBit i).toNat := by unfold a_sailor; rw [hz, zIdx_n (n := 6) (by decide) (by decide)] <;> rfl
      refine g_aload0 C dX5_sailor_81 ?_
      refine g_getRT C dX5_sailor_82 flX5_29 (show 0 < 68 by decide) rfl rfl (by decide) ?_
      refine g_getIE C hR.2.1.2.1 dX5_sailor_85 flX5_96 (show 11 < 68 by decide) rfl rfl ?_
      refine g_iload1 C dX5_sailor_88 ?_
      refine g_callS2i C dX5_sailor_89 slX5_99 (s_has (by have := hS.g; omega) (by have := hS.1.1; omega)) hKd (by first | decide | omega) rfl (Nat.le_of_ble_eq_true rfl) ?_
      rintro _ _ ⟨rfl, rfl⟩
      refine g_if_eqB C 99 dX5_sailor_92 (by decide) (fun h92 => ?_) (fun h92 => ?_)
      · -- X5_sailor 92t
        
        refine g_iconst C (nI 0) dX5_sailor_99 (by decide) ?_
        exact g_reti M dX5_sailor_100 (by rw [hr, h92]; exact zOutC.same hR)
      · -- X5_sailor 92f
        
        refine g_iconst C (nI 1) dX5_sailor_95 (by decide) ?_
        refine g_goto C 100 dX5_sailor_96 (by decide) ?_
        exact g_reti M dX5_sailor_100 (by rw [hr, h92]; exact zOutC.same hR)
    by_cases hs4 : w = nI 4
    · -- X5_sailor 11 case 4
      subst hs4
      refine g_tswIn C 4 101 dX5_sailor_11 (by decide) rfl (by decide) ?_
      have hr : a_sailor S (nI i) (nI 4) = zE (zSeat (mW S.2.1) i 8) := by unfold a_sailor; rw [hz, zIdx_n (n := 6) (by decide) (by decide)] <;> rfl
      refine g_aload0 C dX5_sailor_101 ?_
      refine g_getRT C dX5_sailor_102 flX5_29 (show 0 < 68 by decide) rfl rfl (by decide) ?_
      refine g_iload1 C dX5_sailor_105 ?_
      refine g_callV1i C dX5_sailor_106 vlX5_103 (s_seatOf zMo_11 hR.2.1 hS.w (by have := hS.1.1; omega)) hKd (by first | decide | omega) rfl (Nat.le_of_ble_eq_true rfl) (show 11 < 68 by decide) rfl ?_
      rintro _ _ ⟨rfl, rfl⟩
      exact g_reti M dX5_sailor_109 (by rw [hr]; exact zOutC.same hR)
    by_cases hs5 : w = nI 5
    · -- X5_sailor 11 case 5
      subst hs5
      refine g_tswIn C 5 110 dX5_sailor_11 (by decide) rfl (by decide) ?_
      have hr : a_sailor S (nI i) (nI 5) = nI (zWn S.1 S.2.1 i).toNat := by unfold a_sailor; rw [hz, zIdx_n (n := 6) (by decide) (by decide)] <;> rfl
      refine g_aload0 C dX5_sailor_110 ?_
      refine g_iload1 C dX5_sailor_111 ?_
      refine g_callV1i C dX5_sailor_112 vlX5_106 (s_wouldSign hS hR hi) hKd (by first | decide | omega) rfl (Nat.le_of_ble_eq_true rfl) (show 0 < 68 by decide) rfl ?_
      rintro _ _ ⟨rfl, rfl⟩
      refine g_if_eqB C 122 dX5_sailor_115 (by decide) (fun h115 => ?_) (fun h115 => ?_)
      · -- X5_sailor 115t
        
        refine g_iconst C (nI 0) dX5_sailor_122 (by decide) ?_
        exact g_reti M dX5_sailor_123 (by rw [hr, h115]; exact zOutC.same hR)
      · -- X5_sailor 115f
        
        refine g_iconst C (nI 1) dX5_sailor_118 (by decide) ?_
        refine g_goto C 123 dX5_sailor_119 (by decide) ?_
        exact g_reti M dX5_sailor_123 (by rw [hr, h115]; exact zOutC.same hR)
    refine g_tswOut C 5 124 dX5_sailor_11 (fun j hj => ?_) (by decide) (by decide) ?_
    · match j, hj with
      | 0, _ => exact hs0
      | 1, _ => exact hs1
      | 2, _ => exact hs2
      | 3, _ => exact hs3
      | 4, _ => exact hs4
      | 5, _ => exact hs5
      | n + 6, q => exact absurd q (by omega)
    have hr : a_sailor S (nI i) w = -1 := by
      unfold a_sailor
      rw [hz, zIdx_none (n := 6) (fun j hj => by match j, hj with | 0, _ => exact hs0 | 1, _ => exact hs1 | 2, _ => exact hs2 | 3, _ => exact hs3 | 4, _ => exact hs4 | 5, _ => exact hs5 | n + 6, h => omega)] <;> rfl
    refine g_iconst C (-1) dX5_sailor_124 (by decide) ?_
    exact g_reti M dX5_sailor_125 (by rw [hr]; exact zOutC.same hR)
  · -- X5_sailor 5f
    have hz := zsome_f h5
    have hr : a_sailor S s w = -1 := by unfold a_sailor; rw [hz] <;> rfl
    refine g_iconst C (-1) dX5_sailor_8 (by decide) ?_
    exact g_reti M dX5_sailor_9 (by rw [hr]; exact zOutC.same hR)
set_option maxRecDepth 100000 in
set_option maxHeartbeats 4000000 in
theorem p_seat {Γ : zG} {c : Nat → Nat → Int32} {t : Nat → Int64} {S : zAb} (hS : OkS S) (hR : RepC c t S) {k w : Int32} : Sp Γ 3 mX5_seat [.ref 0, .int k, .int w] 0 0 (wF c t) (z_pi (zOutC c t (a_seat S k w) (S))) := by
  refine Sp.of (own := RX5) 0 false rfl (by decide +kernel) rfl rfl (fun h => by cases h) (fun K hKd M => ?_)
  have C := M.1
  show GG Γ K 0 0 (wF c t) 0 [some (.ref 0), some (.int k), some (.int w)] []
  refine g_aload0 C dX5_seat_0 ?_
  refine g_iload1 C dX5_seat_1 ?_
  refine g_callV1i C dX5_seat_2 vlX5_109 (s_isSeat hS hR) hKd (by first | decide | omega) rfl (Nat.le_of_ble_eq_true rfl) (show 0 < 68 by decide) rfl ?_
  rintro _ _ ⟨rfl, rfl⟩
  refine g_if_neB C 10 dX5_seat_5 (by decide) (fun h5 => ?_) (fun h5 => ?_)
  · -- X5_seat 5t
    obtain ⟨i, hz⟩ := zsome_t h5
    obtain ⟨hi, rfl⟩ := zIdx_iff hz
    have hs8 := hS.1.2.2.2.2.2.2
    refine g_iload2 C dX5_seat_10 ?_
    rcases zIdx2 (x := w) with hw | ⟨hw, rfl⟩ | ⟨hw, rfl⟩
    · -- case
      have hr : a_seat S (nI i) w = -1 := by unfold a_seat; rw [hz, hw] <;> rfl
      have hne : ∀ j, j < 2 → w ≠ nI j := fun j hj e => by rw [e, zIdx_n (by decide) hj] at hw; cases hw
      refine g_lsw (off := 49) C 60 dX5_seat_11 rfl (zlsw2 (hne 0 (by decide)) (hne 1 (by decide))) (by decide) ?_
      refine g_iconst C (-1) dX5_seat_60 (by decide) ?_
      exact g_reti M dX5_seat_61 (by rw [hr]; exact zOutC.same hR)
    · -- case
      have hr : a_seat S (nI i) (nI 0) = zE (mW S.2.1 i) := by unfold a_seat; rw [hz, hw] <;> rfl
      refine g_lsw (off := 25) C 36 dX5_seat_11 rfl (by decide) (by decide) ?_
      refine g_aload0 C dX5_seat_36 ?_
      refine g_getRT C dX5_seat_37 flX5_29 (show 0 < 68 by decide) rfl rfl (by decide) ?_
      refine g_getRT C dX5_seat_40 flX5_112 (show 11 < 68 by decide) rfl rfl (by decide) ?_
      refine g_iload1 C dX5_seat_43 ?_
      refine g_callS2i C dX5_seat_44 slX5_85 (s_at (show 12 < 68 by decide) rfl (by omega) (by decide) (hR.2.1.2.2.1 i (by omega))) hKd (by first | decide | omega) rfl (Nat.le_of_ble_eq_true rfl) ?_
      rintro _ _ ⟨rfl, rfl⟩
      exact g_reti M dX5_seat_47 (by rw [hr]; exact zOutC.same hR)
    · -- case
      have hr : a_seat S (nI i) (nI 1) = nI (mI S.2.1 i) := by unfold a_seat; rw [hz, hw] <;> rfl
      refine g_lsw (off := 37) C 48 dX5_seat_11 rfl (by decide) (by decide) ?_
      refine g_aload0 C dX5_seat_48 ?_
      refine g_getRT C dX5_seat_49 flX5_29 (show 0 < 68 by decide) rfl rfl (by decide) ?_
      refine g_getRT C dX5_seat_52 flX5_115 (show 11 < 68 by decide) rfl rfl (by decide) ?_
      refine g_iload1 C dX5_seat_55 ?_
      refine g_callS2i C dX5_seat_56 slX5_85 (s_at (show 13 < 68 by decide) rfl (by omega) (by decide) (hR.2.1.2.2.2 i (by omega))) hKd (by first | decide | omega) rfl (Nat.le_of_ble_eq_true rfl) ?_
      rintro _ _ ⟨rfl, rfl⟩
      exact g_reti M dX5_seat_59 (by rw [hr]; exact zOutC.same hR)
  · -- X5_seat 5f
    have hz := zsome_f h5
    have hr : a_seat S k w = -1 := by unfold a_seat; rw [hz] <;> rfl
    refine g_iconst C (-1) dX5_seat_8 (by decide) ?_
    exact g_reti M dX5_seat_9 (by rw [hr]; exact zOutC.same hR)
set_option maxRecDepth 100000 in
set_option maxHeartbeats 4000000 in
theorem p_now {Γ : zG} {c : Nat → Nat → Int32} {t : Nat → Int64} {S : zAb} (hS : OkS S) (hR : RepC c t S) {w : Int32} : Sp Γ 5 mX5_now [.ref 0, .int w] 0 0 (wF c t) (z_pi (zOutC c t (a_now S w) (S))) := by
  refine Sp.of (own := RX5) 0 false rfl (by decide +kernel) rfl rfl (fun h => by cases h) (fun K hKd M => ?_)
  have C := M.1
  show GG Γ K 0 0 (wF c t) 0 [some (.ref 0), some (.int w)] []
  refine g_iload1 C dX5_now_0 ?_
  by_cases hs0 : w = nI 0
  · -- X5_now 1 case 0
    subst hs0
    refine g_tswIn C 0 36 dX5_now_1 (by decide) rfl (by decide) ?_
    have hr : a_now S (nI 0) = nI (mH S.2.1) := by unfold a_now; rw [zIdx_n (n := 5) (by decide) (by decide)] <;> rfl
    refine g_aload0 C dX5_now_36 ?_
    refine g_getRT C dX5_now_37 flX5_29 (show 0 < 68 by decide) rfl rfl (by decide) ?_
    refine g_getIE C hR.2.1.1 dX5_now_40 flX5_118 (show 11 < 68 by decide) rfl rfl ?_
    exact g_reti M dX5_now_43 (by rw [hr]; exact zOutC.same hR)
  by_cases hs1 : w = nI 1
  · -- X5_now 1 case 1
    subst hs1
    refine g_tswIn C 1 44 dX5_now_1 (by decide) rfl (by decide) ?_
    have hr : a_now S (nI 1) = nI (mG S.2.1) := by unfold a_now; rw [zIdx_n (n := 5) (by decide) (by decide)] <;> rfl
    refine g_aload0 C dX5_now_44 ?_
    refine g_getRT C dX5_now_45 flX5_29 (show 0 < 68 by decide) rfl rfl (by decide) ?_
    refine g_getIE C hR.2.1.2.1 dX5_now_48 flX5_96 (show 11 < 68 by decide) rfl rfl ?_
    exact g_reti M dX5_now_51 (by rw [hr]; exact zOutC.same hR)
  by_cases hs2 : w = nI 2
  · -- X5_now 1 case 2
    subst hs2
    refine g_tswIn C 2 52 dX5_now_1 (by decide) rfl (by decide) ?_
    have hr : a_now S (nI 2) = nI (zThere S.2.1) := by unfold a_now; rw [zIdx_n (n := 5) (by decide) (by decide)] <;> rfl
    refine g_aload0 C dX5_now_52 ?_
    refine g_getRT C dX5_now_53 flX5_29 (show 0 < 68 by decide) rfl rfl (by decide) ?_
    refine g_callV0i C dX5_now_56 vlX5_121 (s_there zMo_11 hR.2.1 hS.w) hKd (by first | decide | omega) rfl (Nat.le_of_ble_eq_true rfl) (show 11 < 68 by decide) rfl ?_
    rintro _ _ ⟨rfl, rfl⟩
    exact g_reti M dX5_now_59 (by rw [hr]; exact zOutC.same hR)
  by_cases hs3 : w = nI 3
  · -- X5_now 1 case 3
    subst hs3
    refine g_tswIn C 3 60 dX5_now_1 (by decide) rfl (by decide) ?_
    have hr : a_now S (nI 3) = nI (zWb S.1 S.2.1 (cN S.1)) := by unfold a_now; rw [zIdx_n (n := 5) (by decide) (by decide)] <;> rfl
    refine g_aload0 C dX5_now_60 ?_
    refine g_callV0i C dX5_now_61 vlX5_125 (s_those hS hR) hKd (by first | decide | omega) rfl (Nat.le_of_ble_eq_true rfl) (show 0 < 68 by decide) rfl ?_
    rintro _ _ ⟨rfl, rfl⟩
    exact g_reti M dX5_now_64 (by rw [hr]; exact zOutC.same hR)
  by_cases hs4 : w = nI 4
  · -- X5_now 1 case 4
    subst hs4
    refine g_tswIn C 4 65 dX5_now_1 (by decide) rfl (by decide) ?_
    have hr : a_now S (nI 4) = nI S.2.2.1.length := by unfold a_now; rw [zIdx_n (n := 5) (by decide) (by decide)] <;> rfl
    refine g_aload0 C dX5_now_65 ?_
    refine g_getRT C dX5_now_66 flX5_36 (show 0 < 68 by decide) rfl rfl (by decide) ?_
    refine g_getIE C (let ⟨_, _, _, h, _⟩ := hR.2.2.1; h) dX5_now_69 flX5_128 (show 14 < 68 by decide) rfl rfl ?_
    exact g_reti M dX5_now_72 (by rw [hr]; exact zOutC.same hR)
  refine g_tswOut C 4 73 dX5_now_1 (fun j hj => ?_) (by decide) (by decide) ?_
  · match j, hj with
    | 0, _ => exact hs0
    | 1, _ => exact hs1
    | 2, _ => exact hs2
    | 3, _ => exact hs3
    | 4, _ => exact hs4
    | n + 5, q => exact absurd q (by omega)
  have hr : a_now S w = -1 := by
    unfold a_now
    rw [zIdx_none (n := 5) (fun j hj => by match j, hj with | 0, _ => exact hs0 | 1, _ => exact hs1 | 2, _ => exact hs2 | 3, _ => exact hs3 | 4, _ => exact hs4 | n + 5, h => omega)] <;> rfl
  refine g_iconst C (-1) dX5_now_73 (by decide) ?_
  exact g_reti M dX5_now_74 (by rw [hr]; exact zOutC.same hR)
set_option maxRecDepth 100000 in
set_option maxHeartbeats 4000000 in
theorem p_count {Γ : zG} {c : Nat → Nat → Int32} {t : Nat → Int64} {S : zAb} (hS : OkS S) (hR : RepC c t S) {w : Int32} : Sp Γ 0 mX5_count [.ref 0, .int w] 0 0 (wF c t) (z_pi (zOutC c t (a_count S w) (S))) := by
  refine Sp.of (own := RX5) 0 false rfl (by decide +kernel) rfl rfl (fun h => by cases h) (fun K hKd M => ?_)
  have C := M.1
  show GG Γ K 0 0 (wF c t) 0 [some (.ref 0), some (.int w)] []
  refine g_iload1 C dX5_count_0 ?_
  by_cases hs0 : w = nI 0
  · -- X5_count 1 case 0
    subst hs0
    refine g_tswIn C 0 32 dX5_count_1 (by decide) rfl (by decide) ?_
    have hr : a_count S (nI 0) = nI (cN S.1) := by unfold a_count; rw [zIdx_n (n := 4) (by decide) (by decide)] <;> rfl
    refine g_aload0 C dX5_count_32 ?_
    refine g_getRT C dX5_count_33 flX5_19 (show 0 < 68 by decide) rfl rfl (by decide) ?_
    refine g_getIE C hR.1.1 dX5_count_36 flX5_196 (show 3 < 68 by decide) rfl rfl ?_
    exact g_reti M dX5_count_39 (by rw [hr]; exact zOutC.same hR)
  by_cases hs1 : w = nI 1
  · -- X5_count 1 case 1
    subst hs1
    refine g_tswIn C 1 40 dX5_count_1 (by decide) rfl (by decide) ?_
    have hr : a_count S (nI 1) = nI (cD S.1) := by unfold a_count; rw [zIdx_n (n := 4) (by decide) (by decide)] <;> rfl
    refine g_aload0 C dX5_count_40 ?_
    refine g_getRT C dX5_count_41 flX5_19 (show 0 < 68 by decide) rfl rfl (by decide) ?_
    refine g_getIE C hR.1.2.1 dX5_count_44 flX5_225 (show 3 < 68 by decide) rfl rfl ?_
    exact g_reti M dX5_count_47 (by rw [hr]; exact zOutC.same hR)
  by_cases hs2 : w = nI 2
  · -- X5_count 1 case 2
    subst hs2
    refine g_tswIn C 2 48 dX5_count_1 (by decide) rfl (by decide) ?_
    have hr : a_count S (nI 2) = nI (cS S.1) := by unfold a_count; rw [zIdx_n (n := 4) (by decide) (by decide)] <;> rfl
    refine g_aload0 C dX5_count_48 ?_
    refine g_getRT C dX5_count_49 flX5_19 (show 0 < 68 by decide) rfl rfl (by decide) ?_
    refine g_getIE C hR.1.2.2.1 dX5_count_52 flX5_228 (show 3 < 68 by decide) rfl rfl ?_
    exact g_reti M dX5_count_55 (by rw [hr]; exact zOutC.same hR)
  by_cases hs3 : w = nI 3
  · -- X5_count 1 case 3
    subst hs3
    refine g_tswIn C 3 56 dX5_count_1 (by decide) rfl (by decide) ?_
    have hr : a_count S (nI 3) = nI S.2.2.2.2.1.1 := by unfold a_count; rw [zIdx_n (n := 4) (by decide) (by decide)] <;> rfl
    refine g_aload0 C dX5_count_56 ?_
    refine g_getRT C dX5_count_57 flX5_10 (show 0 < 68 by decide) rfl rfl (by decide) ?_
    refine g_getIE C hR.2.2.2.2.1.1 dX5_count_60 flX5_57 (show 1 < 68 by decide) rfl rfl ?_
    exact g_reti M dX5_count_63 (by rw [hr]; exact zOutC.same hR)
  refine g_tswOut C 3 64 dX5_count_1 (fun j hj => ?_) (by decide) (by decide) ?_
  · match j, hj with
    | 0, _ => exact hs0
    | 1, _ => exact hs1
    | 2, _ => exact hs2
    | 3, _ => exact hs3
    | n + 4, q => exact absurd q (by omega)
  have hr : a_count S w = -1 := by
    unfold a_count
    rw [zIdx_none (n := 4) (fun j hj => by match j, hj with | 0, _ => exact hs0 | 1, _ => exact hs1 | 2, _ => exact hs2 | 3, _ => exact hs3 | n + 4, h => omega)] <;> rfl
  refine g_iconst C (-1) dX5_count_64 (by decide) ?_
  exact g_reti M dX5_count_65 (by rw [hr]; exact zOutC.same hR)
set_option maxRecDepth 100000 in
set_option maxHeartbeats 4000000 in
theorem p_hour {Γ : zG} {c : Nat → Nat → Int32} {t : Nat → Int64} {S : zAb} (hS : OkS S) (hR : RepC c t S)  : Sp Γ 4 mX5_hour [.ref 0] 0 0 (wF c t) (z_pi (zOutC c t ((a_hour S).1) ((a_hour S).2))) := by
  refine Sp.of (own := RX5) 0 false rfl (by decide +kernel) rfl rfl (fun h => by cases h) (fun K hKd M => ?_)
  have C := M.1
  show GG Γ K 0 0 (wF c t) 0 [some (.ref 0)] []
  refine g_aload0 C dX5_hour_0 ?_
  refine g_getRT C dX5_hour_1 flX5_29 (show 0 < 68 by decide) rfl rfl (by decide) ?_
  refine g_getIE C hR.2.1.1 dX5_hour_4 flX5_118 (show 11 < 68 by decide) rfl rfl ?_
  refine g_bipush C (nI 99) dX5_hour_7 (by decide) ?_
  refine g_icmp_ltN C 15 (by have := hS.2.1.1; omega) (by decide) dX5_hour_9 (by decide) (fun h9 => ?_) (fun h9 => ?_)
  · -- X5_hour 9t
    obtain ⟨nx, hnx, hn1, hn2, hR1⟩ := hR.rem hS.2.2.2.1
    have hr : a_hour S = (nI (mH S.2.1 + 1), zGo S (mH S.2.1 + 1, S.2.1.2)) := by unfold a_hour; rw [if_pos h9] <;> rfl
    refine g_aload0 C dX5_hour_15 ?_
    refine g_getRT C dX5_hour_16 flX5_36 (show 0 < 68 by decide) rfl rfl (by decide) ?_
    refine g_aload0 C dX5_hour_19 ?_
    refine g_getRT C dX5_hour_20 flX5_29 (show 0 < 68 by decide) rfl rfl (by decide) ?_
    refine g_callV1v C dX5_hour_23 vlX5_131 (s_remember hnx hS.2.2.2.1 hn1 hn2 zMo_11 (by decide)) hKd (by first | decide | omega) rfl (Nat.le_of_ble_eq_true rfl) (show 14 < 68 by decide) rfl ?_
    rintro _ rfl
    generalize hcr : z_up (z_up (zBec c (16 + 3 * nx) 11) 14 1 (nI ((nx + 1) % 10))) 14 2 (nI (min (S.2.2.1.length + 1) 10)) = c1
    rw [hcr] at hR1
    have hY1 : MoC 11 c1 S.2.1 := hR1.2.1
    have hfr : ∀ a, 56 ≤ a → c1 a = c a := fun a ha => by rw [← hcr, up_K (by omega), up_K (by omega), zBec_o (by omega)]
    refine g_aload0 C dX5_hour_26 ?_
    refine g_getRT C dX5_hour_27 flX5_29 (show 0 < 68 by decide) rfl rfl (by decide) ?_
    refine g_dup C dX5_hour_30 rfl ?_
    refine g_getIE C hY1.1 dX5_hour_31 flX5_118 (show 11 < 68 by decide) rfl rfl ?_
    refine g_iconst C (nI 1) dX5_hour_34 (by decide) ?_
    refine g_iaddN C dX5_hour_35 ?_
    refine g_putI C dX5_hour_36 fpX5_118 (show 11 < 68 by decide) rfl rfl rfl rfl ?_
    refine g_aload0 C dX5_hour_39 ?_
    refine g_getRT C dX5_hour_40 flX5_29 (show 0 < 68 by decide) rfl rfl (by decide) ?_
    refine g_getIE C (up_s _ _ _ _) dX5_hour_43 flX5_118 (show 11 < 68 by decide) rfl rfl ?_
    exact g_reti M dX5_hour_46 (by rw [hr]; exact ⟨rfl, _, t, rfl, hR1.mom (fun a _ h => up_K (by omega)) ⟨up_s _ _ _ _, (up_j _ (by decide)).trans hR1.2.1.2.1, fun k hk => (up_k (by decide) k).trans (hR1.2.1.2.2.1 k hk), fun k hk => (up_k (by decide) k).trans (hR1.2.1.2.2.2 k hk)⟩, fun a ha => (up_K (by omega)).trans (hfr a ha), fun _ _ => rfl⟩)
  · -- X5_hour 9f
    have hr : a_hour S = (-2, S) := by unfold a_hour; rw [if_neg (by omega)] <;> rfl
    refine g_bipush C (-2) dX5_hour_12 (by decide) ?_
    exact g_reti M dX5_hour_14 (by rw [hr]; exact zOutC.same hR)
set_option maxRecDepth 100000 in
set_option maxHeartbeats 4000000 in
theorem p_scrape {Γ : zG} {c : Nat → Nat → Int32} {t : Nat → Int64} {S : zAb} (hS : OkS S) (hR : RepC c t S) {k : Int32} : Sp Γ 4 mX5_scrape [.ref 0, .int k] 0 0 (wF c t) (z_pi (zOutC c t ((a_scrape S k).1) ((a_scrape S k).2))) := by
  refine Sp.of (own := RX5) 1 false rfl (by decide +kernel) rfl rfl (fun h => by cases h) (fun K hKd M => ?_)
  have C := M.1
  show GG Γ K 0 0 (wF c t) 0 [some (.ref 0), some (.int k), none] []
  refine g_aload0 C dX5_scrape_0 ?_
  refine g_iload1 C dX5_scrape_1 ?_
  refine g_callV1i C dX5_scrape_2 vlX5_109 (s_isSeat hS hR) hKd (by first | decide | omega) rfl (Nat.le_of_ble_eq_true rfl) (show 0 < 68 by decide) rfl ?_
  rintro _ _ ⟨rfl, rfl⟩
  refine g_if_neB C 10 dX5_scrape_5 (by decide) (fun h5 => ?_) (fun h5 => ?_)
  · -- X5_scrape 5t
    obtain ⟨j, hz⟩ := zsome_t h5
    obtain ⟨hj, rfl⟩ := zIdx_iff hz
    have hs8 := hS.1.2.2.2.2.2.2
    refine g_aload0 C dX5_scrape_10 ?_
    refine g_getRT C dX5_scrape_11 flX5_29 (show 0 < 68 by decide) rfl rfl (by decide) ?_
    refine g_getRT C dX5_scrape_14 flX5_112 (show 11 < 68 by decide) rfl rfl (by decide) ?_
    refine g_iload1 C dX5_scrape_17 ?_
    refine g_callS2i C dX5_scrape_18 slX5_85 (s_at (show 12 < 68 by decide) rfl (by omega) (by decide) (hR.2.1.2.2.1 j (by omega))) hKd (by first | decide | omega) rfl (Nat.le_of_ble_eq_true rfl) ?_
    rintro _ _ ⟨rfl, rfl⟩
    refine g_istore2 C dX5_scrape_21 ?_
    refine g_iload2 C dX5_scrape_22 ?_
    refine g_bipush C (-9) dX5_scrape_23 (by decide) ?_
    refine g_icmp_ne C 31 dX5_scrape_25 (by decide) (fun h25 => ?_) (fun h25 => ?_)
    · -- X5_scrape 25t
      obtain ⟨s, hq⟩ := zE_s h25
      rw [hq]
      have hr : a_scrape S (nI j) = (nI s, zGo S (zSc S.2.1 j)) := by unfold a_scrape; rw [hz]; simp only; rw [hq] <;> rfl
      obtain ⟨nx, hnx, hn1, hn2, hR1⟩ := hR.rem hS.2.2.2.1
      refine g_aload0 C dX5_scrape_31 ?_
      refine g_getRT C dX5_scrape_32 flX5_36 (show 0 < 68 by decide) rfl rfl (by decide) ?_
      refine g_aload0 C dX5_scrape_35 ?_
      refine g_getRT C dX5_scrape_36 flX5_29 (show 0 < 68 by decide) rfl rfl (by decide) ?_
      refine g_callV1v C dX5_scrape_39 vlX5_131 (s_remember hnx hS.2.2.2.1 hn1 hn2 zMo_11 (by decide)) hKd (by first | decide | omega) rfl (Nat.le_of_ble_eq_true rfl) (show 14 < 68 by decide) rfl ?_
      rintro _ rfl
      generalize hcr : z_up (z_up (zBec c (16 + 3 * nx) 11) 14 1 (nI ((nx + 1) % 10))) 14 2 (nI (min (S.2.2.1.length + 1) 10)) = c1
      rw [hcr] at hR1
      have hY1 : MoC 11 c1 S.2.1 := hR1.2.1
      have hfr : ∀ a, 56 ≤ a → c1 a = c a := fun a ha => by rw [← hcr, up_K (by omega), up_K (by omega), zBec_o (by omega)]
      refine g_aload0 C dX5_scrape_42 ?_
      refine g_getRT C dX5_scrape_43 flX5_29 (show 0 < 68 by decide) rfl rfl (by decide) ?_
      refine g_iload1 C dX5_scrape_46 ?_
      refine g_bipush C (-9) dX5_scrape_47 (by decide) ?_
      refine g_iconst C (nI 0) dX5_scrape_49 (by decide) ?_
      refine g_callV3v C dX5_scrape_50 vlX5_143 (s_write zMo_11 (by omega)) hKd (by first | decide | omega) rfl (Nat.le_of_ble_eq_true rfl) (show 11 < 68 by decide) rfl ?_
      rintro _ rfl
      refine g_iload2 C dX5_scrape_53 ?_
      exact g_reti M dX5_scrape_54 (by rw [hr]; exact ⟨rfl, _, t, rfl, hR1.mom (fun a _ h => by rw [up_K (by omega), up_K (by omega)]) ⟨(up_k (by decide) _).trans ((up_k (by decide) _).trans hR1.2.1.1), (up_k (by decide) _).trans ((up_k (by decide) _).trans hR1.2.1.2.1), fun k hk => zsc_w (o := none) (hY1.2.2.1 k hk), fun k hk => zsc_i (hY1.2.2.2 k hk)⟩, fun a ha => by rw [up_K (by omega), up_K (by omega)]; exact hfr a ha, fun _ _ => rfl⟩)
    · -- X5_scrape 25f
      have hq := zE_n h25 (fun s h => by have := hS.w j s (by omega) h; omega)
      have hr : a_scrape S (nI j) = (-2, S) := by unfold a_scrape; rw [hz]; simp only; rw [hq] <;> rfl
      refine g_bipush C (-2) dX5_scrape_28 (by decide) ?_
      exact g_reti M dX5_scrape_30 (by rw [hr]; exact zOutC.same hR)
  · -- X5_scrape 5f
    have hz := zsome_f h5
    have hr : a_scrape S k = (-1, S) := by unfold a_scrape; rw [hz] <;> rfl
    refine g_iconst C (-1) dX5_scrape_8 (by decide) ?_
    exact g_reti M dX5_scrape_9 (by rw [hr]; exact zOutC.same hR)
set_option maxRecDepth 100000 in
set_option maxHeartbeats 4000000 in
theorem p_signs {Γ : zG} {c : Nat → Nat → Int32} {t : Nat → Int64} {S : zAb} (hS : OkS S) (hR : RepC c t S) {s k : Int32} : Sp Γ 4 mX5_signs [.ref 0, .int s, .int k] 0 0 (wF c t) (z_pi (zOutC c t ((a_signs S s k).1) ((a_signs S s k).2))) := by
  refine Sp.of (own := RX5) 1 false rfl (by decide +kernel) rfl rfl (fun h => by cases h) (fun K hKd M => ?_)
  have C := M.1
  show GG Γ K 0 0 (wF c t) 0 [some (.ref 0), some (.int s), some (.int k), none] []
  refine g_aload0 C dX5_signs_0 ?_
  refine g_iload1 C dX5_signs_1 ?_
  refine g_callV1i C dX5_signs_2 vlX5_78 (s_isSailor hS hR) hKd (by first | decide | omega) rfl (Nat.le_of_ble_eq_true rfl) (show 0 < 68 by decide) rfl ?_
  rintro _ _ ⟨rfl, rfl⟩
  refine g_if_eqB C 16 dX5_signs_5 (by decide) (fun h5 => ?_) (fun h5 => ?_)
  · -- X5_signs 5t
    have hz := zsome_f h5
    have hr : a_signs S s k = (-1, S) := by unfold a_signs; rw [hz] <;> rfl
    refine g_iconst C (-1) dX5_signs_16 (by decide) ?_
    exact g_reti M dX5_signs_17 (by rw [hr]; exact zOutC.same hR)
  · -- X5_signs 5f
    obtain ⟨i, hz⟩ := zsome_t h5
    obtain ⟨hi, rfl⟩ := zIdx_iff hz
    refine g_aload0 C dX5_signs_8 ?_
    refine g_iload2 C dX5_signs_9 ?_
    refine g_callV1i C dX5_signs_10 vlX5_109 (s_isSeat hS hR) hKd (by first | decide | omega) rfl (Nat.le_of_ble_eq_true rfl) (show 0 < 68 by decide) rfl ?_
    rintro _ _ ⟨rfl, rfl⟩
    refine g_if_neB C 18 dX5_signs_13 (by decide) (fun h13 => ?_) (fun h13 => ?_)
    · -- X5_signs 13t
      obtain ⟨j, hz2⟩ := zsome_t h13
      obtain ⟨hj, rfl⟩ := zIdx_iff hz2
      have hs8 := hS.1.2.2.2.2.2.2
      have hno : zMay S i j = false → a_signs S (nI i) (nI j) = (-2, S) := fun h => by unfold a_signs; rw [hz, hz2]; simp only; rw [if_neg (by rw [h]; decide)]
      refine g_aload0 C dX5_signs_18 ?_
      refine g_iload1 C dX5_signs_19 ?_
      refine g_callV1i C dX5_signs_20 vlX5_106 (s_wouldSign hS hR hi) hKd (by first | decide | omega) rfl (Nat.le_of_ble_eq_true rfl) (show 0 < 68 by decide) rfl ?_
      rintro _ _ ⟨rfl, rfl⟩
      refine g_if_eqB C 54 dX5_signs_23 (by decide) (fun h23 => ?_) (fun h23 => ?_)
      · -- X5_signs 23t
        have hr := hno (by unfold zMay; rw [h23]; rfl)
        refine g_bipush C (-2) dX5_signs_54 (by decide) ?_
        exact g_reti M dX5_signs_56 (by rw [hr]; exact zOutC.same hR)
      · -- X5_signs 23f
        
        refine g_aload0 C dX5_signs_26 ?_
        refine g_getRT C dX5_signs_27 flX5_29 (show 0 < 68 by decide) rfl rfl (by decide) ?_
        refine g_getRT C dX5_signs_30 flX5_112 (show 11 < 68 by decide) rfl rfl (by decide) ?_
        refine g_iload2 C dX5_signs_33 ?_
        refine g_callS2i C dX5_signs_34 slX5_85 (s_at (show 12 < 68 by decide) rfl (by omega) (by decide) (hR.2.1.2.2.1 j (by omega))) hKd (by first | decide | omega) rfl (Nat.le_of_ble_eq_true rfl) ?_
        rintro _ _ ⟨rfl, rfl⟩
        refine g_bipush C (-9) dX5_signs_37 (by decide) ?_
        refine g_icmp_ne C 54 dX5_signs_39 (by decide) (fun h39 => ?_) (fun h39 => ?_)
        · -- X5_signs 39t
          have hr := hno (by unfold zMay; rw [decide_eq_false (fun e => h39 (by rw [e]; rfl))]; simp)
          refine g_bipush C (-2) dX5_signs_54 (by decide) ?_
          exact g_reti M dX5_signs_56 (by rw [hr]; exact zOutC.same hR)
        · -- X5_signs 39f
          have hq := zE_n h39 (fun s h => by have := hS.w j s (by omega) h; omega)
          refine g_aload0 C dX5_signs_42 ?_
          refine g_getRT C dX5_signs_43 flX5_29 (show 0 < 68 by decide) rfl rfl (by decide) ?_
          refine g_getIE C hR.2.1.1 dX5_signs_46 flX5_118 (show 11 < 68 by decide) rfl rfl ?_
          refine g_bipush C (nI 99) dX5_signs_49 (by decide) ?_
          refine g_icmp_ltN C 57 (by have := hS.2.1.1; omega) (by decide) dX5_signs_51 (by decide) (fun h51 => ?_) (fun h51 => ?_)
          · -- X5_signs 51t
            have hr : a_signs S (nI i) (nI j) = (nI (zInk S.1 (zp8 (mG S.2.1))), zGo S (zSg' S.2.1 i j (zInk S.1 (zp8 (mG S.2.1))))) := by unfold a_signs; rw [hz, hz2]; simp only; rw [if_pos (by unfold zMay; rw [h23, decide_eq_true hq, decide_eq_true h51]; rfl)] <;> rfl
            obtain ⟨nx, hnx, hn1, hn2, hR1⟩ := hR.rem hS.2.2.2.1
            refine g_aload0 C dX5_signs_57 ?_
            refine g_getRT C dX5_signs_58 flX5_36 (show 0 < 68 by decide) rfl rfl (by decide) ?_
            refine g_aload0 C dX5_signs_61 ?_
            refine g_getRT C dX5_signs_62 flX5_29 (show 0 < 68 by decide) rfl rfl (by decide) ?_
            refine g_callV1v C dX5_signs_65 vlX5_131 (s_remember hnx hS.2.2.2.1 hn1 hn2 zMo_11 (by decide)) hKd (by first | decide | omega) rfl (Nat.le_of_ble_eq_true rfl) (show 14 < 68 by decide) rfl ?_
            rintro _ rfl
            generalize hcr : z_up (z_up (zBec c (16 + 3 * nx) 11) 14 1 (nI ((nx + 1) % 10))) 14 2 (nI (min (S.2.2.1.length + 1) 10)) = c1
            rw [hcr] at hR1
            have hY1 : MoC 11 c1 S.2.1 := hR1.2.1
            have hfr : ∀ a, 56 ≤ a → c1 a = c a := fun a ha => by rw [← hcr, up_K (by omega), up_K (by omega), zBec_o (by omega)]
            refine g_aload0 C dX5_signs_68 ?_
            refine g_getRT C dX5_signs_69 flX5_19 (show 0 < 68 by decide) rfl rfl (by decide) ?_
            refine g_aload0 C dX5_signs_72 ?_
            refine g_getRT C dX5_signs_73 flX5_29 (show 0 < 68 by decide) rfl rfl (by decide) ?_
            refine g_getIE C hY1.2.1 dX5_signs_76 flX5_96 (show 11 < 68 by decide) rfl rfl ?_
            refine g_callS1i C dX5_signs_79 slX5_135 (s_bc (by have := hS.g; omega)) hKd (by first | decide | omega) rfl (Nat.le_of_ble_eq_true rfl) ?_
            rintro _ _ ⟨rfl, rfl⟩
            refine g_callV1i C dX5_signs_82 vlX5_140 (s_inkBehind hS.1 hR1.1 (by have := zp8_8 (mG S.2.1); omega)) hKd (by first | decide | omega) rfl (Nat.le_of_ble_eq_true rfl) (show 3 < 68 by decide) rfl ?_
            rintro _ _ ⟨rfl, rfl⟩
            refine g_istore3 C dX5_signs_85 ?_
            refine g_aload0 C dX5_signs_86 ?_
            refine g_getRT C dX5_signs_87 flX5_29 (show 0 < 68 by decide) rfl rfl (by decide) ?_
            refine g_iload2 C dX5_signs_90 ?_
            refine g_iload1 C dX5_signs_91 ?_
            refine g_iload3 C dX5_signs_92 ?_
            refine g_callV3v C dX5_signs_93 vlX5_143 (s_write zMo_11 (by omega)) hKd (by first | decide | omega) rfl (Nat.le_of_ble_eq_true rfl) (show 11 < 68 by decide) rfl ?_
            rintro _ rfl
            refine g_aload0 C dX5_signs_96 ?_
            refine g_getRT C dX5_signs_97 flX5_29 (show 0 < 68 by decide) rfl rfl (by decide) ?_
            refine g_dup C dX5_signs_100 rfl ?_
            refine g_getIE C ((up_k (by decide) _).trans ((up_k (by decide) _).trans hY1.2.1)) dX5_signs_101 flX5_96 (show 11 < 68 by decide) rfl rfl ?_
            refine g_iconst C (nI 1) dX5_signs_104 (by decide) ?_
            refine g_iload1 C dX5_signs_105 ?_
            refine g_ishlN C dX5_signs_106 (by have := hS.1.1; omega) ?_
            refine g_iorN C dX5_signs_107 ?_
            refine g_putI C dX5_signs_108 fpX5_96 (show 11 < 68 by decide) rfl rfl rfl rfl ?_
            refine g_aload0 C dX5_signs_111 ?_
            refine g_getRT C dX5_signs_112 flX5_29 (show 0 < 68 by decide) rfl rfl (by decide) ?_
            refine g_dup C dX5_signs_115 rfl ?_
            refine g_getIE C ((up_j _ (by decide)).trans ((up_k (by decide) _).trans ((up_k (by decide) _).trans hY1.1))) dX5_signs_116 flX5_118 (show 11 < 68 by decide) rfl rfl ?_
            refine g_iconst C (nI 1) dX5_signs_119 (by decide) ?_
            refine g_iaddN C dX5_signs_120 ?_
            refine g_putI C dX5_signs_121 fpX5_118 (show 11 < 68 by decide) rfl rfl rfl rfl ?_
            refine g_iload3 C dX5_signs_124 ?_
            exact g_reti M dX5_signs_125 (by rw [hr]; exact ⟨rfl, _, t, rfl, hR1.mom (fun a _ h => by rw [up_K (by omega), up_K (by omega), up_K (by omega), up_K (by omega)]) ⟨up_s _ _ _ _, (up_j _ (by decide)).trans (up_s _ _ _ _), fun k hk => by rw [up_k (by decide), up_k (by decide)]; exact zsc_w (o := some i) (hY1.2.2.1 k hk), fun k hk => by rw [up_k (by decide), up_k (by decide)]; exact zsc_i (hY1.2.2.2 k hk)⟩, fun a ha => by rw [up_K (by omega), up_K (by omega), up_K (by omega), up_K (by omega)]; exact hfr a ha, fun _ _ => rfl⟩)
          · -- X5_signs 51f
            have hr := hno (by unfold zMay; rw [decide_eq_false (show ¬ mH S.2.1 < 99 by omega)]; simp)
            refine g_bipush C (-2) dX5_signs_54 (by decide) ?_
            exact g_reti M dX5_signs_56 (by rw [hr]; exact zOutC.same hR)
    · -- X5_signs 13f
      have hz2 := zsome_f h13
      have hr : a_signs S (nI i) k = (-1, S) := by unfold a_signs; rw [hz, hz2] <;> rfl
      refine g_iconst C (-1) dX5_signs_16 (by decide) ?_
      exact g_reti M dX5_signs_17 (by rw [hr]; exact zOutC.same hR)
theorem zUndo {c : Nat → Nat → Int32} {t : Nat → Int64} {S : zAb} {Y : zMm} {P : List zMm} (hR : RepC c t S) (hP : S.2.2.1 = Y :: P) {nx : Nat} (hn : nx < 10) (h4 : ∀ i M, S.2.2.1[i]? = some M → MoC (16 + 3 * ((nx + 9 - i) % 10)) c M) (hl : S.2.2.1.length ≤ 10) : RepC (z_up (z_up (zBec c 11 (16 + 3 * ((nx + 9) % 10))) 14 1 (nI ((nx + 9) % 10))) 14 2 (nI (S.2.2.1.length - 1))) t (S.1, Y, P, S.2.2.2) := by
  have h0 := h4 0 Y (by rw [hP]; rfl)
  rw [Nat.sub_zero] at h0
  have h1 : RepC (zBec c 11 (16 + 3 * ((nx + 9) % 10))) t (S.1, Y, S.2.2) := hR.mom (fun a _ h => zBec_o (by omega)) (zBec_mo h0)
  refine h1.past (P := P) (fun a _ h => by rw [up_K (by omega), up_K (by omega)]) ⟨(nx + 9) % 10, by omega, by rw [up_j _ (by decide), up_s], by rw [up_s, hP]; rfl, fun i M hi => ?_⟩
  have hl9 : i < 9 := by
    have := (List.getElem?_eq_some_iff.mp hi).1
    rw [hP, List.length_cons] at hl
    omega
  have h5 := h4 (i + 1) M (by rw [hP]; exact hi)
  rw [show ((nx + 9) % 10 + 9 - i) % 10 = (nx + 9 - (i + 1)) % 10 by omega]
  refine h5.eq ?_ ?_ ?_ <;> rw [up_K (by omega), up_K (by omega), zBec_o (by omega)]
set_option maxRecDepth 100000 in
set_option maxHeartbeats 4000000 in
theorem p_undo {Γ : zG} {c : Nat → Nat → Int32} {t : Nat → Int64} {S : zAb} (hS : OkS S) (hR : RepC c t S)  : Sp Γ 4 mX5_undo [.ref 0] 0 0 (wF c t) (z_pi (zOutC c t ((a_undo S).1) ((a_undo S).2))) := by
  refine Sp.of (own := RX5) 0 false rfl (by decide +kernel) rfl rfl (fun h => by cases h) (fun K hKd M => ?_)
  have C := M.1
  show GG Γ K 0 0 (wF c t) 0 [some (.ref 0)] []
  obtain ⟨nx, hnx, hn1, hn2, hn4⟩ := hR.2.2.1
  refine g_aload0 C dX5_undo_0 ?_
  refine g_getRT C dX5_undo_1 flX5_36 (show 0 < 68 by decide) rfl rfl (by decide) ?_
  refine g_aload0 C dX5_undo_4 ?_
  refine g_getRT C dX5_undo_5 flX5_29 (show 0 < 68 by decide) rfl rfl (by decide) ?_
  refine g_callV1i C dX5_undo_8 vlX5_147 (s_giveBack hnx hS.2.2.2.1 hn1 hn2 zMo_11 (by decide)) hKd (by first | decide | omega) rfl (Nat.le_of_ble_eq_true rfl) (show 14 < 68 by decide) rfl ?_
  rintro _ _ ⟨rfl, rfl⟩
  refine g_if_eqB C 24 dX5_undo_11 (by decide) (fun h11 => ?_) (fun h11 => ?_)
  · -- X5_undo 11t
    replace h11 := of_decide_eq_false h11
    rw [if_neg h11]
    have hP : S.2.2.1 = [] := List.length_eq_zero_iff.mp (by omega)
    have hr : a_undo S = (-2, S) := by unfold a_undo; rw [hP] <;> rfl
    refine g_bipush C (-2) dX5_undo_24 (by decide) ?_
    exact g_reti M dX5_undo_26 (by first | (rw [hr]; exact zOutC.same hR) | (rw [hr]; exact ⟨by rw [hP]; rfl, _, t, rfl, zUndo hR hP hnx hn4 hS.2.2.2.1, fun a ha => by rw [up_K (by omega), up_K (by omega), zBec_o (by omega)], fun _ _ => rfl⟩))
  · -- X5_undo 11f
    replace h11 := of_decide_eq_true h11
    rw [if_pos h11]
    obtain ⟨Y, P, hP⟩ : ∃ Y P, S.2.2.1 = Y :: P := by
      cases hp : S.2.2.1 with
      | nil => rw [hp] at h11; exact absurd h11 (by decide)
      | cons Y P => exact ⟨Y, P, rfl⟩
    have hr : a_undo S = (nI P.length, (S.1, Y, P, S.2.2.2)) := by unfold a_undo; rw [hP] <;> rfl
    refine g_aload0 C dX5_undo_14 ?_
    refine g_getRT C dX5_undo_15 flX5_36 (show 0 < 68 by decide) rfl rfl (by decide) ?_
    refine g_getIE C (up_s _ _ _ _) dX5_undo_18 flX5_128 (show 14 < 68 by decide) rfl rfl ?_
    refine g_goto C 26 dX5_undo_21 (by decide) ?_
    exact g_reti M dX5_undo_26 (by first | (rw [hr]; exact zOutC.same hR) | (rw [hr]; exact ⟨by rw [hP]; rfl, _, t, rfl, zUndo hR hP hnx hn4 hS.2.2.2.1, fun a ha => by rw [up_K (by omega), up_K (by omega), zBec_o (by omega)], fun _ _ => rfl⟩))
set_option maxRecDepth 100000 in
set_option maxHeartbeats 4000000 in
theorem p_will {Γ : zG} {c : Nat → Nat → Int32} {t : Nat → Int64} {S : zAb} (hS : OkS S) (hR : RepC c t S)  : Sp Γ 4 mX5_will [.ref 0] 0 0 (wF c t) (z_pi (zOutC c t (nI (zWr S.1 7 (mG S.2.1))) (S))) := by
  refine Sp.of (own := RX5) 0 false rfl (by decide +kernel) rfl rfl (fun h => by cases h) (fun K hKd M => ?_)
  have C := M.1
  show GG Γ K 0 0 (wF c t) 0 [some (.ref 0)] []
  refine g_aload0 C dX5_will_0 ?_
  refine g_getRT C dX5_will_1 flX5_19 (show 0 < 68 by decide) rfl rfl (by decide) ?_
  refine g_aload0 C dX5_will_4 ?_
  refine g_getRT C dX5_will_5 flX5_29 (show 0 < 68 by decide) rfl rfl (by decide) ?_
  refine g_getIE C hR.2.1.2.1 dX5_will_8 flX5_96 (show 11 < 68 by decide) rfl rfl ?_
  refine g_callV1i C dX5_will_11 vlX5_151 (s_send hS.1 hR.1 hS.g) hKd (by first | decide | omega) rfl (Nat.le_of_ble_eq_true rfl) (show 3 < 68 by decide) rfl ?_
  rintro _ _ ⟨rfl, rfl⟩
  exact g_reti M dX5_will_14 (zOutC.same hR)
