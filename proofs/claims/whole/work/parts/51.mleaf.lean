/-! the reference: leaves -/
set_option maxRecDepth 100000 in
set_option maxHeartbeats 4000000 in
theorem n_in {Γ : zG} {w0 : zW} {x a b : Int32} : Sp Γ 0 mX6_in [.int x, .int a, .int b] 0 0 (w0) (z_pi (fun v w => w = w0 ∧ v = nI (zIn x a b).toNat)) := by
  refine Sp.of (own := RX6) 0 false rfl (by decide +kernel) rfl rfl (fun h => by cases h) (fun K hKd M => ?_)
  have C := M.1
  show GG Γ K 0 0 (w0) 0 [some (.int x), some (.int a), some (.int b)] []
  refine g_iload0 C dX6_in_0 ?_
  refine g_iload1 C dX6_in_1 ?_
  refine g_icmp_lt C 14 dX6_in_2 (by decide) (fun h2 => ?_) (fun h2 => ?_)
  · -- X6_in 2t
    have hz : zIn x a b = false := decide_eq_false fun h => h.1 h2
    refine g_iconst C (nI 0) dX6_in_14 (by decide) ?_
    exact g_ret0 M dX6_in_15 (⟨rfl, by rw [hz]; rfl⟩)
  · -- X6_in 2f
    
    refine g_iload0 C dX6_in_5 ?_
    refine g_iload2 C dX6_in_6 ?_
    refine g_icmp_gt C 14 dX6_in_7 (by decide) (fun h7 => ?_) (fun h7 => ?_)
    · -- X6_in 7t
      have hz : zIn x a b = false := decide_eq_false fun h => h.2 h7
      refine g_iconst C (nI 0) dX6_in_14 (by decide) ?_
      exact g_ret0 M dX6_in_15 (⟨rfl, by rw [hz]; rfl⟩)
    · -- X6_in 7f
      have hz : zIn x a b = true := decide_eq_true ⟨h2, h7⟩
      refine g_iconst C (nI 1) dX6_in_10 (by decide) ?_
      refine g_goto C 15 dX6_in_11 (by decide) ?_
      exact g_ret1 M dX6_in_15 (⟨rfl, by rw [hz]; rfl⟩)
set_option maxRecDepth 100000 in
set_option maxHeartbeats 4000000 in
theorem n_isSailor {Γ : zG} {c : Nat → Nat → Int32} {t : Nat → Int64} {S : zAb} (hS : OkS S) (hR : RepM c t S) {x : Int32} : Sp Γ 1 mX6_isSailor [.ref 56, .int x] 0 0 (wF c t) (z_pi (fun v w => w = wF c t ∧ v = nI (zIdx x (cN S.1)).isSome.toNat)) := by
  refine Sp.of (own := RX6) 0 false rfl (by decide +kernel) rfl rfl (fun h => by cases h) (fun K hKd M => ?_)
  have C := M.1
  show GG Γ K 0 0 (wF c t) 0 [some (.ref 56), some (.int x)] []
  refine g_iload1 C dX6_isSailor_0 ?_
  refine g_iconst C (nI 0) dX6_isSailor_1 (by decide) ?_
  refine g_aload0 C dX6_isSailor_2 ?_
  refine g_getRT C dX6_isSailor_3 flX6_13 (show 56 < 68 by decide) rfl rfl (by decide) ?_
  refine g_iconst C (nI 0) dX6_isSailor_6 (by decide) ?_
  refine g_ialdE C hR.1.1 (by omega) (by decide) dX6_isSailor_7 (show 58 < 68 by decide) rfl ?_
  refine g_iconst C (nI 1) dX6_isSailor_8 (by decide) ?_
  refine g_isub C dX6_isSailor_9 ?_
  refine g_callS3i C dX6_isSailor_10 slX6_52 (n_in) hKd (by first | decide | omega) rfl (Nat.le_of_ble_eq_true rfl) ?_
  rintro _ _ ⟨rfl, rfl⟩
  exact g_retb M dX6_isSailor_13 (⟨rfl, by rw [zIn_ix (n := cN S.1) (by have := hS.1.1; omega) rfl]⟩)
set_option maxRecDepth 100000 in
set_option maxHeartbeats 4000000 in
theorem n_isSeat {Γ : zG} {c : Nat → Nat → Int32} {t : Nat → Int64} {S : zAb} (hS : OkS S) (hR : RepM c t S) {x : Int32} : Sp Γ 1 mX6_isSeat [.ref 56, .int x] 0 0 (wF c t) (z_pi (fun v w => w = wF c t ∧ v = nI (zIdx x (cS S.1)).isSome.toNat)) := by
  refine Sp.of (own := RX6) 0 false rfl (by decide +kernel) rfl rfl (fun h => by cases h) (fun K hKd M => ?_)
  have C := M.1
  show GG Γ K 0 0 (wF c t) 0 [some (.ref 56), some (.int x)] []
  refine g_iload1 C dX6_isSeat_0 ?_
  refine g_iconst C (nI 0) dX6_isSeat_1 (by decide) ?_
  refine g_aload0 C dX6_isSeat_2 ?_
  refine g_getRT C dX6_isSeat_3 flX6_13 (show 56 < 68 by decide) rfl rfl (by decide) ?_
  refine g_iconst C (nI 2) dX6_isSeat_6 (by decide) ?_
  refine g_ialdE C hR.1.2.2.1 (by omega) (by decide) dX6_isSeat_7 (show 58 < 68 by decide) rfl ?_
  refine g_iconst C (nI 1) dX6_isSeat_8 (by decide) ?_
  refine g_isub C dX6_isSeat_9 ?_
  refine g_callS3i C dX6_isSeat_10 slX6_52 (n_in) hKd (by first | decide | omega) rfl (Nat.le_of_ble_eq_true rfl) ?_
  rintro _ _ ⟨rfl, rfl⟩
  exact g_retb M dX6_isSeat_13 (⟨rfl, by rw [zIn_ix (n := cS S.1) (by have := hS.1.2.2.2.2.2.2; omega) rfl]⟩)
set_option maxRecDepth 100000 in
set_option maxHeartbeats 4000000 in
theorem n_ones {Γ : zG} {w0 : zW} {a : Nat} (ha : a < 256) : Sp Γ 0 mX6_ones [.int (nI a)] 0 0 (w0) (z_pi (fun v w => w = w0 ∧ v = nI (zp8 a))) := by
  refine Sp.of (own := RX6) 2 false rfl (by decide +kernel) rfl rfl (fun h => by cases h) (fun K hKd M => ?_)
  have C := M.1
  show GG Γ K 0 0 (w0) 0 [some (.int (nI a)), none, none] []
  have H4 : ∀ (n : Nat) (k : Nat), k ≤ 8 → 8 - k < n → GG Γ K 0 0 (w0) 4 [some (.int (nI a)), some (.int (nI (zpc k a))), some (.int (nI k))] [] := by
    intro n
    induction n with
    | zero => intro k hk hn; exact absurd hn (by omega)
    | succ n ih =>
      intro k hk hn
      refine g_iload2 C dX6_ones_4 ?_
      refine g_bipush C (nI 8) dX6_ones_5 (by decide) ?_
      refine g_icmp_geN C 24 (by omega) (by omega) dX6_ones_7 (by decide) (fun h7 => ?_) (fun h7 => ?_)
      · -- X6_ones 7t
        obtain rfl : k = 8 := by omega
        refine g_iload1 C dX6_ones_24 ?_
        exact g_reti M dX6_ones_25 (⟨rfl, rfl⟩)
      · -- X6_ones 7f
        
        refine g_iload1 C dX6_ones_10 ?_
        refine g_iload0 C dX6_ones_11 ?_
        refine g_iload2 C dX6_ones_12 ?_
        refine g_ishrN C dX6_ones_13 (by omega) (by omega) ?_
        refine g_iconst C (nI 1) dX6_ones_14 (by decide) ?_
        refine g_iandN C dX6_ones_15 ?_
        refine g_top (by rw [zn_bit]) ?_
        refine g_iaddN C dX6_ones_16 ?_
        refine g_istore1 C dX6_ones_17 ?_
        refine g_iinc2N C dX6_ones_18 ?_
        refine g_goto C 4 dX6_ones_21 (by decide) ?_
        exact ih (k + 1) (by omega) (by omega)
  refine g_iconst C (nI 0) dX6_ones_0 (by decide) ?_
  refine g_istore1 C dX6_ones_1 ?_
  refine g_iconst C (nI 0) dX6_ones_2 (by decide) ?_
  refine g_istore2 C dX6_ones_3 ?_
  exact H4 9 0 (Nat.zero_le _) (by omega)
set_option maxRecDepth 100000 in
set_option maxHeartbeats 4000000 in
theorem n_seatOf {Γ : zG} {c : Nat → Nat → Int32} {t : Nat → Int64} {S : zAb} (hS : OkS S) (hR : RepM c t S) {i : Nat} (hi : i < cN S.1) : Sp Γ 0 mX6_seatOf [.ref 56, .int (nI i)] 0 0 (wF c t) (z_pi (fun v w => w = wF c t ∧ v = zE (zSeat (mW S.2.1) i 8))) := by
  refine Sp.of (own := RX6) 2 false rfl (by decide +kernel) rfl rfl (fun h => by cases h) (fun K hKd M => ?_)
  have C := M.1
  show GG Γ K 0 0 (wF c t) 0 [some (.ref 56), some (.int (nI i)), none, none] []
  have hi7 : i < 7 := by have := hS.1.1; omega
  have H5 : ∀ (n : Nat) (k : Nat), k ≤ 8 → 8 - k < n → GG Γ K 0 0 (wF c t) 5 [some (.ref 56), some (.int (nI i)), some (.int (zE (zLs (mW S.2.1) i k))), some (.int (nI k))] [] := by
    intro n
    induction n with
    | zero => intro k hk hn; exact absurd hn (by omega)
    | succ n ih =>
      intro k hk hn
      refine g_iload3 C dX6_seatOf_5 ?_
      refine g_bipush C (nI 8) dX6_seatOf_6 (by decide) ?_
      refine g_icmp_geN C 35 (by omega) (by omega) dX6_seatOf_8 (by decide) (fun h8 => ?_) (fun h8 => ?_)
      · -- X6_seatOf 8t
        obtain rfl : k = 8 := by omega
        refine g_iload2 C dX6_seatOf_35 ?_
        exact g_reti M dX6_seatOf_36 (⟨rfl, by rw [zLs_seat hS.inj]⟩)
      · -- X6_seatOf 8f
        
        refine g_aload0 C dX6_seatOf_11 ?_
        refine g_getRT C dX6_seatOf_12 flX6_19 (show 56 < 68 by decide) rfl rfl (by decide) ?_
        refine g_iconst C (nI 2) dX6_seatOf_15 (by decide) ?_
        refine g_iload3 C dX6_seatOf_16 ?_
        refine g_iaddN C dX6_seatOf_17 ?_
        refine g_ialdE C (hR.2.1.2.2.1 k h8) (by omega) (by decide) dX6_seatOf_18 (show 60 < 68 by decide) rfl ?_
        refine g_iload1 C dX6_seatOf_19 ?_
        refine g_icmp_ne C 27 dX6_seatOf_20 (by decide) (fun h20 => ?_) (fun h20 => ?_)
        · -- X6_seatOf 20t
          have hq : ¬ mW S.2.1 k = some i := fun e => h20 (by rw [e]; rfl)
          refine g_iload2 C dX6_seatOf_27 ?_
          refine g_istore2 C dX6_seatOf_28 ?_
          refine g_set (L' := [some (.ref 56), some (.int (nI i)), some (.int (zE (zLs (mW S.2.1) i (k + 1)))), some (.int (nI k))]) rfl (by rw [zLs, if_neg hq]) rfl ?_
          refine g_iinc3N C dX6_seatOf_29 ?_
          refine g_goto C 5 dX6_seatOf_32 (by decide) ?_
          exact ih (k + 1) (by omega) (by omega)
        · -- X6_seatOf 20f
          have hq : mW S.2.1 k = some i := zS1_i (by omega) h20 (fun s h => by have := hS.w k s h8 h; omega)
          refine g_iload3 C dX6_seatOf_23 ?_
          refine g_goto C 28 dX6_seatOf_24 (by decide) ?_
          refine g_istore2 C dX6_seatOf_28 ?_
          refine g_set (L' := [some (.ref 56), some (.int (nI i)), some (.int (zE (zLs (mW S.2.1) i (k + 1)))), some (.int (nI k))]) rfl (by rw [zLs, if_pos hq]; rfl) rfl ?_
          refine g_iinc3N C dX6_seatOf_29 ?_
          refine g_goto C 5 dX6_seatOf_32 (by decide) ?_
          exact ih (k + 1) (by omega) (by omega)
  refine g_bipush C (-9) dX6_seatOf_0 (by decide) ?_
  refine g_istore2 C dX6_seatOf_2 ?_
  refine g_iconst C (nI 0) dX6_seatOf_3 (by decide) ?_
  refine g_istore3 C dX6_seatOf_4 ?_
  exact H5 9 0 (Nat.zero_le _) (by omega)
set_option maxRecDepth 100000 in
set_option maxHeartbeats 4000000 in
theorem n_would {Γ : zG} {c : Nat → Nat → Int32} {t : Nat → Int64} {A : zCr} (ok : OkA A) (hA : ToC (c 58) A) {i m : Nat} (hi : i < cN A) (hm : m < 128) : Sp Γ 1 mX6_would [.ref 56, .int (nI i), .int (nI m)] 0 0 (wF c t) (z_pi (fun v w => w = wF c t ∧ v = nI (zWd A i m).toNat)) := by
  refine Sp.of (own := RX6) 0 false rfl (by decide +kernel) rfl rfl (fun h => by cases h) (fun K hKd M => ?_)
  have C := M.1
  show GG Γ K 0 0 (wF c t) 0 [some (.ref 56), some (.int (nI i)), some (.int (nI m))] []
  have hi7 : i < 7 := by have := ok.1; omega
  refine g_iload2 C dX6_would_0 ?_
  refine g_iload1 C dX6_would_1 ?_
  refine g_ishrN C dX6_would_2 (by omega) (by omega) ?_
  refine g_iconst C (nI 1) dX6_would_3 (by decide) ?_
  refine g_iandN C dX6_would_4 ?_
  refine g_top (by rw [zn_bit]) ?_
  refine g_if_neB C 54 dX6_would_5 (by decide) (fun h5 => ?_) (fun h5 => ?_)
  · -- X6_would 5t
    
    refine g_iconst C (nI 0) dX6_would_54 (by decide) ?_
    exact g_ret0 M dX6_would_55 (⟨rfl, z_t0 (by first | (unfold zWd; rw [h5]; rfl) | (unfold zWd zDare; simp; omega))⟩)
  · -- X6_would 5f
    
    refine g_iload2 C dX6_would_8 ?_
    refine g_callS1i C dX6_would_9 slX6_95 (n_ones (by omega)) hKd (by first | decide | omega) rfl (Nat.le_of_ble_eq_true rfl) ?_
    rintro _ _ ⟨rfl, rfl⟩
    refine g_aload0 C dX6_would_12 ?_
    refine g_getRT C dX6_would_13 flX6_13 (show 56 < 68 by decide) rfl rfl (by decide) ?_
    refine g_bipush C (nI 12) dX6_would_16 (by decide) ?_
    refine g_iload1 C dX6_would_18 ?_
    refine g_iaddN C dX6_would_19 ?_
    refine g_ialdE C (hA.2.2.2.2.1 i hi) (by omega) (by decide) dX6_would_20 (show 58 < 68 by decide) rfl ?_
    refine g_icmp_ltN C 54 (by have := zp8_8 m; omega) (by have := ok.2.2.1 i hi; omega) dX6_would_21 (by decide) (fun h21 => ?_) (fun h21 => ?_)
    · -- X6_would 21t
      
      refine g_iconst C (nI 0) dX6_would_54 (by decide) ?_
      exact g_ret0 M dX6_would_55 (⟨rfl, z_t0 (by first | (unfold zWd; rw [h5]; rfl) | (unfold zWd zDare; simp; omega))⟩)
    · -- X6_would 21f
      
      refine g_aload0 C dX6_would_24 ?_
      refine g_getRT C dX6_would_25 flX6_13 (show 56 < 68 by decide) rfl rfl (by decide) ?_
      refine g_bipush C (nI 12) dX6_would_28 (by decide) ?_
      refine g_iload1 C dX6_would_30 ?_
      refine g_iaddN C dX6_would_31 ?_
      refine g_ialdE C (hA.2.2.2.2.1 i hi) (by omega) (by decide) dX6_would_32 (show 58 < 68 by decide) rfl ?_
      refine g_if_eqN C 50 (by have := ok.2.2.1 i hi; omega) dX6_would_33 (by decide) (fun h33 => ?_) (fun h33 => ?_)
      · -- X6_would 33t
        
        refine g_iconst C (nI 1) dX6_would_50 (by decide) ?_
        refine g_goto C 55 dX6_would_51 (by decide) ?_
        exact g_ret1 M dX6_would_55 (⟨rfl, z_t1 (by unfold zWd zDare; simp; refine ⟨h5, by omega, by omega⟩)⟩)
      · -- X6_would 33f
        
        refine g_aload0 C dX6_would_36 ?_
        refine g_getRT C dX6_would_37 flX6_13 (show 56 < 68 by decide) rfl rfl (by decide) ?_
        refine g_bipush C (nI 19) dX6_would_40 (by decide) ?_
        refine g_iload1 C dX6_would_42 ?_
        refine g_iaddN C dX6_would_43 ?_
        refine g_ialdE C (hA.2.2.2.2.2 i hi) (by omega) (by decide) dX6_would_44 (show 58 < 68 by decide) rfl ?_
        refine g_iload2 C dX6_would_45 ?_
        refine g_iandN C dX6_would_46 ?_
        refine g_if_eqN C 54 (zand_r (by omega)) dX6_would_47 (by decide) (fun h47 => ?_) (fun h47 => ?_)
        · -- X6_would 47t
          
          refine g_iconst C (nI 0) dX6_would_54 (by decide) ?_
          exact g_ret0 M dX6_would_55 (⟨rfl, z_t0 (by first | (unfold zWd; rw [h5]; rfl) | (unfold zWd zDare; simp; omega))⟩)
        · -- X6_would 47f
          
          refine g_iconst C (nI 1) dX6_would_50 (by decide) ?_
          refine g_goto C 55 dX6_would_51 (by decide) ?_
          exact g_ret1 M dX6_would_55 (⟨rfl, z_t1 (by unfold zWd zDare; simp; refine ⟨h5, by omega, by omega⟩)⟩)
set_option maxRecDepth 100000 in
set_option maxHeartbeats 4000000 in
theorem n_wouldNow {Γ : zG} {c : Nat → Nat → Int32} {t : Nat → Int64} {S : zAb} (hS : OkS S) (hR : RepM c t S) {i : Nat} (hi : i < cN S.1) : Sp Γ 2 mX6_wouldNow [.ref 56, .int (nI i)] 0 0 (wF c t) (z_pi (fun v w => w = wF c t ∧ v = nI (zWn S.1 S.2.1 i).toNat)) := by
  refine Sp.of (own := RX6) 0 false rfl (by decide +kernel) rfl rfl (fun h => by cases h) (fun K hKd M => ?_)
  have C := M.1
  show GG Γ K 0 0 (wF c t) 0 [some (.ref 56), some (.int (nI i))] []
  have hi7 : i < 7 := by have := hS.1.1; omega
  refine g_aload0 C dX6_wouldNow_0 ?_
  refine g_iload1 C dX6_wouldNow_1 ?_
  refine g_aload0 C dX6_wouldNow_2 ?_
  refine g_getRT C dX6_wouldNow_3 flX6_19 (show 56 < 68 by decide) rfl rfl (by decide) ?_
  refine g_iconst C (nI 1) dX6_wouldNow_6 (by decide) ?_
  refine g_ialdE C hR.2.1.2.1 (by omega) (by decide) dX6_wouldNow_7 (show 60 < 68 by decide) rfl ?_
  refine g_callV2i C dX6_wouldNow_8 vlX6_98 (n_would hS.1 hR.1 hi hS.g) hKd (by first | decide | omega) rfl (Nat.le_of_ble_eq_true rfl) (show 56 < 68 by decide) rfl ?_
  rintro _ _ ⟨rfl, rfl⟩
  refine g_if_eqB C 37 dX6_wouldNow_11 (by decide) (fun h11 => ?_) (fun h11 => ?_)
  · -- X6_wouldNow 11t
    
    refine g_iconst C (nI 0) dX6_wouldNow_37 (by decide) ?_
    exact g_ret0 M dX6_wouldNow_38 (⟨rfl, z_t0 (by unfold zWn; first | (unfold zWd at h11; simp at h11 ⊢; intro a b; exact h11 a) | (simp; intro a b; exact absurd h30.symm b))⟩)
  · -- X6_wouldNow 11f
    
    refine g_aload0 C dX6_wouldNow_14 ?_
    refine g_getRT C dX6_wouldNow_15 flX6_13 (show 56 < 68 by decide) rfl rfl (by decide) ?_
    refine g_iconst C (nI 5) dX6_wouldNow_18 (by decide) ?_
    refine g_iload1 C dX6_wouldNow_19 ?_
    refine g_iaddN C dX6_wouldNow_20 ?_
    refine g_ialdE C (hR.1.2.2.2.1 i hi) (by omega) (by decide) dX6_wouldNow_21 (show 58 < 68 by decide) rfl ?_
    refine g_aload0 C dX6_wouldNow_22 ?_
    refine g_getRT C dX6_wouldNow_23 flX6_19 (show 56 < 68 by decide) rfl rfl (by decide) ?_
    refine g_iconst C (nI 0) dX6_wouldNow_26 (by decide) ?_
    refine g_ialdE C hR.2.1.1 (by omega) (by decide) dX6_wouldNow_27 (show 60 < 68 by decide) rfl ?_
    refine g_iconst C (nI 3) dX6_wouldNow_28 (by decide) ?_
    refine g_iremN C dX6_wouldNow_29 (by have := hS.2.1.1; omega) (by omega) (by omega) ?_
    refine g_icmp_eqN C 37 (by have := hS.1.2.1 i hi; omega) (by omega) dX6_wouldNow_30 (by decide) (fun h30 => ?_) (fun h30 => ?_)
    · -- X6_wouldNow 30t
      
      refine g_iconst C (nI 0) dX6_wouldNow_37 (by decide) ?_
      exact g_ret0 M dX6_wouldNow_38 (⟨rfl, z_t0 (by unfold zWn; first | (unfold zWd at h11; simp at h11 ⊢; intro a b; exact h11 a) | (simp; intro a b; exact absurd h30.symm b))⟩)
    · -- X6_wouldNow 30f
      
      refine g_iconst C (nI 1) dX6_wouldNow_33 (by decide) ?_
      refine g_goto C 38 dX6_wouldNow_34 (by decide) ?_
      exact g_ret1 M dX6_wouldNow_38 (⟨rfl, z_t1 (by unfold zWd at h11; unfold zWn; simp at h11 ⊢; exact ⟨h11.1, fun e => h30 e.symm, h11.2⟩)⟩)
