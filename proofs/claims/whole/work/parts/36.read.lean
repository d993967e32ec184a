/-! the text is read -/
set_option maxRecDepth 100000 in
set_option maxHeartbeats 4000000 in
theorem s_itemEnds {Γ : zG} {c : Nat → Nat → Int32} {t : Nat → Int64} {len : Nat} {f : Nat → Nat} (hT : TxC c len f) {p : Nat} (hp : p ≤ len) {s : Int32} : Sp Γ 3 mX4_itemEnds [.ref 1] 0 0 (wF (zPT c (nI p) s) t) (z_pi (fun v w => v = nI (decide ((zTok f len p).2.2 = 187)).toNat ∧ w = wF (zPT c (nI (zTok f len p).2.1) (nI (zTok f len p).1)) t)) := by
  refine Sp.of (own := RX4) 0 false rfl (by decide +kernel) rfl rfl (fun h => by cases h) (fun K hKd M => ?_)
  have C := M.1
  show GG Γ K 0 0 (wF (zPT c (nI p) s) t) 0 [some (.ref 1)] []
  refine g_aload0 C dX4_itemEnds_0 ?_
  refine g_callV0i C dX4_itemEnds_1 vlX4_38 (s_next hT hp) hKd (by first | decide | omega) rfl (Nat.le_of_ble_eq_true rfl) (show 1 < 68 by decide) rfl ?_
  rintro _ _ ⟨rfl, rfl⟩
  refine g_sipush C (nI 187) dX4_itemEnds_4 (by decide) ?_
  refine g_icmp_ne C 14 dX4_itemEnds_7 (by decide) (fun h7 => ?_) (fun h7 => ?_)
  · -- X4_itemEnds 7t
    have hk : (zTok f len p).2.2 ≠ 187 := fun e => h7 (by rw [e]; rfl)
    refine g_iconst C (nI 0) dX4_itemEnds_14 (by decide) ?_
    exact g_ret0 M dX4_itemEnds_15 (⟨z_b0 hk, rfl⟩)
  · -- X4_itemEnds 7f
    have hk : (zTok f len p).2.2 = 187 := by
      rcases zTok_code f len p with h | h | h | h | h | h | h
      · rw [zTkI_lt (by omega)] at h7; exact (nI_eq (by omega) (by decide)).mp h7
      · exact h
      all_goals (rw [h] at h7; exact absurd h7 (by decide))
    refine g_iconst C (nI 1) dX4_itemEnds_10 (by decide) ?_
    refine g_goto C 15 dX4_itemEnds_11 (by decide) ?_
    exact g_ret1 M dX4_itemEnds_15 (⟨z_b1 hk, rfl⟩)
set_option maxRecDepth 100000 in
set_option maxHeartbeats 4000000 in
theorem s_numFrom {Γ : zG} {c : Nat → Nat → Int32} {t : Nat → Int64} {len : Nat} {f : Nat → Nat} (hT : TxC c len f) {p : Nat} (hp : p ≤ len) {s : Int32} {lo hi : Nat} (hlo : lo ≤ 1) (hhi : hi ≤ 127) : Sp Γ 3 mX4_numberFrom [.ref 1, .int (nI lo), .int (nI hi)] 0 0 (wF (zPT c (nI p) s) t) (z_pi (fun v w => ((lo ≤ (zTok f len p).2.2 ∧ (zTok f len p).2.2 ≤ hi ∧ v = nI (zTok f len p).2.2) ∨ (¬ (lo ≤ (zTok f len p).2.2 ∧ (zTok f len p).2.2 ≤ hi) ∧ v = -2)) ∧ w = wF (zPT c (nI (zTok f len p).2.1) (nI (zTok f len p).1)) t)) := by
  refine Sp.of (own := RX4) 1 false rfl (by decide +kernel) rfl rfl (fun h => by cases h) (fun K hKd M => ?_)
  have C := M.1
  show GG Γ K 0 0 (wF (zPT c (nI p) s) t) 0 [some (.ref 1), some (.int (nI lo)), some (.int (nI hi)), none] []
  refine g_aload0 C dX4_numberFrom_0 ?_
  refine g_callV0i C dX4_numberFrom_1 vlX4_38 (s_next hT hp) hKd (by first | decide | omega) rfl (Nat.le_of_ble_eq_true rfl) (show 1 < 68 by decide) rfl ?_
  rintro _ _ ⟨rfl, rfl⟩
  have hcode := zTok_code f len p
  by_cases hk : (zTok f len p).2.2 < 1000
  · -- case
    rw [zTkI_lt hk]
    refine g_istore3 C dX4_numberFrom_4 ?_
    refine g_iload3 C dX4_numberFrom_5 ?_
    refine g_iload1 C dX4_numberFrom_6 ?_
    refine g_icmp_ltN C 19 (by omega) (by omega) dX4_numberFrom_7 (by decide) (fun h7 => ?_) (fun h7 => ?_)
    · -- X4_numberFrom 7t
      refine g_bipush C (-2) dX4_numberFrom_19 (by decide) ?_
      exact g_reti M dX4_numberFrom_21 (⟨by first | exact Or.inl ⟨h7, h12, rfl⟩ | exact Or.inr ⟨by omega, rfl⟩, rfl⟩)
    · -- X4_numberFrom 7f
      refine g_iload3 C dX4_numberFrom_10 ?_
      refine g_iload2 C dX4_numberFrom_11 ?_
      refine g_icmp_gtN C 19 (by omega) (by omega) dX4_numberFrom_12 (by decide) (fun h12 => ?_) (fun h12 => ?_)
      · -- X4_numberFrom 12t
        refine g_bipush C (-2) dX4_numberFrom_19 (by decide) ?_
        exact g_reti M dX4_numberFrom_21 (⟨by first | exact Or.inl ⟨h7, h12, rfl⟩ | exact Or.inr ⟨by omega, rfl⟩, rfl⟩)
      · -- X4_numberFrom 12f
        refine g_iload3 C dX4_numberFrom_15 ?_
        refine g_goto C 21 dX4_numberFrom_16 (by decide) ?_
        exact g_reti M dX4_numberFrom_21 (⟨by first | exact Or.inl ⟨h7, h12, rfl⟩ | exact Or.inr ⟨by omega, rfl⟩, rfl⟩)
  · -- case
    have hbig : zTkI (zTok f len p).2.2 < 0 := by
      rcases hcode with h | h | h | h | h | h | h
      all_goals first | omega | (rw [h]; decide)
    have hlo2 : ¬ (lo ≤ (zTok f len p).2.2 ∧ (zTok f len p).2.2 ≤ hi) := by omega
    refine g_istore3 C dX4_numberFrom_4 ?_
    refine g_iload3 C dX4_numberFrom_5 ?_
    refine g_iload1 C dX4_numberFrom_6 ?_
    refine g_icmp_lt C 19 dX4_numberFrom_7 (by decide) (fun h7 => ?_) (fun h7 => ?_)
    · -- X4_numberFrom 7t
      
      refine g_bipush C (-2) dX4_numberFrom_19 (by decide) ?_
      exact g_reti M dX4_numberFrom_21 (⟨Or.inr ⟨hlo2, rfl⟩, rfl⟩)
    · -- X4_numberFrom 7f
      exact absurd (Int32.lt_of_lt_of_le hbig (nI_pos' (n := lo) (by omega))) h7
set_option maxRecDepth 100000 in
set_option maxHeartbeats 4000000 in
theorem s_readSailor {Γ : zG} {c : Nat → Nat → Int32} {t : Nat → Int64} {len : Nat} {f : Nat → Nat} (hT : TxC c len f) {p : Nat} (hp : p ≤ len) {D : zDr} (hD : DrC c D) (okD : OkD D) {s0 : Nat}  : Sp Γ 4 mX4_readSailor [.ref 1, .ref 7] 0 0 (wF (zPT c (nI p) (nI s0)) t) (z_pi (fun v w => v = nI (zSail f len s0 p D).1.toNat ∧ ∃ c', w = wF c' t ∧ zTF c c' ∧ c' 1 3 = nI (zSail f len s0 p D).2.1 ∧ ((zSail f len s0 p D).1 = true → c' 1 2 = nI (zSail f len s0 p D).2.2.1 ∧ DrC c' (zSail f len s0 p D).2.2.2))) := by
  refine Sp.of (own := RX4) 3 false rfl (by decide +kernel) rfl rfl (fun h => by cases h) (fun K hKd M => ?_)
  have C := M.1
  show GG Γ K 0 0 (wF (zPT c (nI p) (nI s0)) t) 0 [some (.ref 1), some (.ref 7), none, none, none] []
  refine g_aload1 C dX4_readSailor_0 ?_
  refine g_getIE C (hD.pt _ _).1.1 dX4_readSailor_1 flX4_55 (show 7 < 68 by decide) rfl rfl ?_
  refine g_bipush C (nI 7) dX4_readSailor_4 (by decide) ?_
  refine g_icmp_ltN C 11 (by have := okD.1; omega) (by decide) dX4_readSailor_6 (by decide) (fun h6 => ?_) (fun h6 => ?_)
  · -- X4_readSailor 6t
    
    refine g_aload0 C dX4_readSailor_11 ?_
    refine g_iconst C (nI 0) dX4_readSailor_12 (by decide) ?_
    refine g_iconst C (nI 2) dX4_readSailor_13 (by decide) ?_
    refine g_callV2i C dX4_readSailor_14 vlX4_58 (s_numFrom hT hp (lo := 0) (hi := 2) (by decide) (by decide)) hKd (by first | decide | omega) rfl (Nat.le_of_ble_eq_true rfl) (show 1 < 68 by decide) rfl ?_
    rintro _ _ ⟨⟨h14a, h14b, rfl⟩ | ⟨h14a, rfl⟩, rfl⟩
    · -- fork
      have p1 := (zTok_pos f hp).2.2.1
      refine g_istore2 C dX4_readSailor_17 ?_
      refine g_iload2 C dX4_readSailor_18 ?_
      refine g_bipush C (-2) dX4_readSailor_19 (by decide) ?_
      refine g_icmp_ne C 26 dX4_readSailor_21 (by decide) (fun h21 => ?_) (fun h21 => absurd h21 (by exact zn_m2 _ (by omega)))
      refine g_aload0 C dX4_readSailor_26 ?_
      refine g_iconst C (nI 0) dX4_readSailor_27 (by decide) ?_
      refine g_bipush C (nI 7) dX4_readSailor_28 (by decide) ?_
      refine g_callV2i C dX4_readSailor_30 vlX4_58 (s_numFrom hT p1 (lo := 0) (hi := 7) (by decide) (by decide)) hKd (by first | decide | omega) rfl (Nat.le_of_ble_eq_true rfl) (show 1 < 68 by decide) rfl ?_
      rintro _ _ ⟨⟨h30a, h30b, rfl⟩ | ⟨h30a, rfl⟩, rfl⟩
      · -- fork
        have p2 := (zTok_pos f p1).2.2.1
        refine g_istore3 C dX4_readSailor_33 ?_
        refine g_iload3 C dX4_readSailor_34 ?_
        refine g_bipush C (-2) dX4_readSailor_35 (by decide) ?_
        refine g_icmp_ne C 42 dX4_readSailor_37 (by decide) (fun h37 => ?_) (fun h37 => absurd h37 (by exact zn_m2 _ (by omega)))
        refine g_aload0 C dX4_readSailor_42 ?_
        refine g_iconst C (nI 0) dX4_readSailor_43 (by decide) ?_
        refine g_bipush C (nI 127) dX4_readSailor_44 (by decide) ?_
        refine g_callV2i C dX4_readSailor_46 vlX4_58 (s_numFrom hT p2 (lo := 0) (hi := 127) (by decide) (by decide)) hKd (by first | decide | omega) rfl (Nat.le_of_ble_eq_true rfl) (show 1 < 68 by decide) rfl ?_
        rintro _ _ ⟨⟨h46a, h46b, rfl⟩ | ⟨h46a, rfl⟩, rfl⟩
        · -- fork
          have p3 := (zTok_pos f p2).2.2.1
          refine g_istore4 C dX4_readSailor_49 ?_
          refine g_iload4 C dX4_readSailor_51 ?_
          refine g_bipush C (-2) dX4_readSailor_53 (by decide) ?_
          refine g_icmp_ne C 60 dX4_readSailor_55 (by decide) (fun h55 => ?_) (fun h55 => absurd h55 (by exact zn_m2 _ (by omega)))
          refine g_aload1 C dX4_readSailor_60 ?_
          refine g_iload2 C dX4_readSailor_61 ?_
          refine g_iload3 C dX4_readSailor_62 ?_
          refine g_iload4 C dX4_readSailor_63 ?_
          refine g_callV3v C dX4_readSailor_65 vlX4_62 (s_enl7 (by omega) (hD.pt _ _).1.1) hKd (by first | decide | omega) rfl (Nat.le_of_ble_eq_true rfl) (show 7 < 68 by decide) rfl ?_
          rintro _ rfl
          have htf : zTF c _ := (zTF.pt c (nI (zTok f len (zTok f len (zTok f len p).2.1).2.1).2.1) (nI (zTok f len (zTok f len (zTok f len p).2.1).2.1).1)).tr ((zTF.u7 (b := cN D.1) (v := nI (zTok f len p).2.2) (k := 8) (by decide)).tr ((zTF.u7 (k := 9) (b := cN D.1) (v := nI (zTok f len (zTok f len p).2.1).2.2) (by decide)).tr ((zTF.u7 (k := 10) (b := cN D.1) (v := nI (zTok f len (zTok f len (zTok f len p).2.1).2.1).2.2) (by decide)).tr (zTF.u7 (k := 7) (b := 3) (v := nI (cN D.1 + 1)) (by decide)))))
          have hdr := (hD.pt (nI (zTok f len (zTok f len (zTok f len p).2.1).2.1).2.1) (nI (zTok f len (zTok f len (zTok f len p).2.1).2.1).1)).enl (zTok f len p).2.2 (zTok f len (zTok f len p).2.1).2.2 (zTok f len (zTok f len (zTok f len p).2.1).2.1).2.2
          have e : zSail f len s0 p D = zSemi f len (zTok f len (zTok f len (zTok f len p).2.1).2.1).2.1 (zEnl D.1 (zTok f len p).2.2 (zTok f len (zTok f len p).2.1).2.2 (zTok f len (zTok f len (zTok f len p).2.1).2.1).2.2, D.2) := by unfold zSail; rw [if_neg (by omega), if_pos (by omega), if_pos (by omega), if_pos (by omega)]
          generalize hcc : z_up (z_up (z_up (z_up (zPT c (nI (zTok f len (zTok f len (zTok f len p).2.1).2.1).2.1) (nI (zTok f len (zTok f len (zTok f len p).2.1).2.1).1)) 8 (cN D.1) (nI (zTok f len p).2.2)) 9 (cN D.1) (nI (zTok f len (zTok f len p).2.1).2.2)) 10 (cN D.1) (nI (zTok f len (zTok f len (zTok f len p).2.1).2.1).2.2)) 7 3 (nI (cN D.1 + 1)) = c2
          rw [hcc] at hdr htf
          have hself : c2 = zPT c2 (nI (zTok f len (zTok f len (zTok f len p).2.1).2.1).2.1) (nI (zTok f len (zTok f len (zTok f len p).2.1).2.1).1) := by
            have h2 : c2 1 2 = nI (zTok f len (zTok f len (zTok f len p).2.1).2.1).2.1 := by rw [← hcc, up_k (by decide), up_k (by decide), up_k (by decide), up_k (by decide)]; exact zPT_2 c _ _
            have h3 : c2 1 3 = nI (zTok f len (zTok f len (zTok f len p).2.1).2.1).1 := by rw [← hcc, up_k (by decide), up_k (by decide), up_k (by decide), up_k (by decide)]; exact zPT_3 c _ _
            rw [← h2, ← h3]; exact (zPT_self c2).symm
          refine g_con hself rfl ?_
          refine g_aload0 C dX4_readSailor_68 ?_
          refine g_callV0i C dX4_readSailor_69 vlX4_66 (s_itemEnds (hT.tf htf) p3) hKd (by first | decide | omega) rfl (Nat.le_of_ble_eq_true rfl) (show 1 < 68 by decide) rfl ?_
          rintro _ _ ⟨rfl, rfl⟩
          exact g_retb M dX4_readSailor_72 (⟨by rw [e]; rfl, _, rfl, htf.tr (zTF.pt c2 _ _), by rw [e]; exact zPT_3 c2 _ _, fun _ => by rw [e]; exact ⟨zPT_2 c2 _ _, hdr.pt _ _⟩⟩)
        · -- fork
          refine g_istore4 C dX4_readSailor_49 ?_
          refine g_iload4 C dX4_readSailor_51 ?_
          refine g_bipush C (-2) dX4_readSailor_53 (by decide) ?_
          refine g_icmp_ne C 60 dX4_readSailor_55 (by decide) (fun h55 => absurd h55 (by exact fun h => h rfl)) (fun h55 => ?_)
          refine g_iconst C (nI 0) dX4_readSailor_58 (by decide) ?_
          exact g_ret0 M dX4_readSailor_59 (⟨z_t0 (by rw [(show zSail f len s0 p D = (false, (zTok f len (zTok f len (zTok f len p).2.1).2.1).1, 0, D) by unfold zSail; rw [if_neg (by omega), if_pos (by omega), if_pos (by omega), if_neg (by omega)])]), _, rfl, zTF.pt c _ _, by rw [(show zSail f len s0 p D = (false, (zTok f len (zTok f len (zTok f len p).2.1).2.1).1, 0, D) by unfold zSail; rw [if_neg (by omega), if_pos (by omega), if_pos (by omega), if_neg (by omega)])]; exact zPT_3 c _ _, fun h => by rw [(show zSail f len s0 p D = (false, (zTok f len (zTok f len (zTok f len p).2.1).2.1).1, 0, D) by unfold zSail; rw [if_neg (by omega), if_pos (by omega), if_pos (by omega), if_neg (by omega)])] at h; cases h⟩)
      · -- fork
        refine g_istore3 C dX4_readSailor_33 ?_
        refine g_iload3 C dX4_readSailor_34 ?_
        refine g_bipush C (-2) dX4_readSailor_35 (by decide) ?_
        refine g_icmp_ne C 42 dX4_readSailor_37 (by decide) (fun h37 => absurd h37 (by exact fun h => h rfl)) (fun h37 => ?_)
        refine g_iconst C (nI 0) dX4_readSailor_40 (by decide) ?_
        exact g_ret0 M dX4_readSailor_41 (⟨z_t0 (by rw [(show zSail f len s0 p D = (false, (zTok f len (zTok f len p).2.1).1, 0, D) by unfold zSail; rw [if_neg (by omega), if_pos (by omega), if_neg (by omega)])]), _, rfl, zTF.pt c _ _, by rw [(show zSail f len s0 p D = (false, (zTok f len (zTok f len p).2.1).1, 0, D) by unfold zSail; rw [if_neg (by omega), if_pos (by omega), if_neg (by omega)])]; exact zPT_3 c _ _, fun h => by rw [(show zSail f len s0 p D = (false, (zTok f len (zTok f len p).2.1).1, 0, D) by unfold zSail; rw [if_neg (by omega), if_pos (by omega), if_neg (by omega)])] at h; cases h⟩)
    · -- fork
      refine g_istore2 C dX4_readSailor_17 ?_
      refine g_iload2 C dX4_readSailor_18 ?_
      refine g_bipush C (-2) dX4_readSailor_19 (by decide) ?_
      refine g_icmp_ne C 26 dX4_readSailor_21 (by decide) (fun h21 => absurd h21 (by exact fun h => h rfl)) (fun h21 => ?_)
      refine g_iconst C (nI 0) dX4_readSailor_24 (by decide) ?_
      exact g_ret0 M dX4_readSailor_25 (⟨z_t0 (by rw [(show zSail f len s0 p D = (false, (zTok f len p).1, 0, D) by unfold zSail; rw [if_neg (by omega), if_neg (by omega)])]), _, rfl, zTF.pt c _ _, by rw [(show zSail f len s0 p D = (false, (zTok f len p).1, 0, D) by unfold zSail; rw [if_neg (by omega), if_neg (by omega)])]; exact zPT_3 c _ _, fun h => by rw [(show zSail f len s0 p D = (false, (zTok f len p).1, 0, D) by unfold zSail; rw [if_neg (by omega), if_neg (by omega)])] at h; cases h⟩)
  · -- X4_readSailor 6f
    have e : zSail f len s0 p D = (false, s0, p, D) := by unfold zSail; rw [if_pos h6]
    refine g_iconst C (nI 0) dX4_readSailor_9 (by decide) ?_
    exact g_ret0 M dX4_readSailor_10 (⟨z_t0 (by rw [e]), _, rfl, zTF.pt c _ _, by rw [e]; exact zPT_3 c _ _, fun h => by rw [e] at h; cases h⟩)
set_option maxRecDepth 100000 in
set_option maxHeartbeats 4000000 in
theorem s_readDip {Γ : zG} {c : Nat → Nat → Int32} {t : Nat → Int64} {len : Nat} {f : Nat → Nat} (hT : TxC c len f) {p : Nat} (hp : p ≤ len) {D : zDr} (hD : DrC c D) (okD : OkD D) {s0 : Nat}  : Sp Γ 4 mX4_readDip [.ref 1, .ref 7] 0 0 (wF (zPT c (nI p) (nI s0)) t) (z_pi (fun v w => v = nI (zDip f len s0 p D).1.toNat ∧ ∃ c', w = wF c' t ∧ zTF c c' ∧ c' 1 3 = nI (zDip f len s0 p D).2.1 ∧ ((zDip f len s0 p D).1 = true → c' 1 2 = nI (zDip f len s0 p D).2.2.1 ∧ DrC c' (zDip f len s0 p D).2.2.2))) := by
  refine Sp.of (own := RX4) 0 false rfl (by decide +kernel) rfl rfl (fun h => by cases h) (fun K hKd M => ?_)
  have C := M.1
  show GG Γ K 0 0 (wF (zPT c (nI p) (nI s0)) t) 0 [some (.ref 1), some (.ref 7)] []
  refine g_aload0 C dX4_readDip_0 ?_
  refine g_getIE C (hD.pt _ _).2.1 dX4_readDip_1 flX4_31 (show 1 < 68 by decide) rfl rfl ?_
  refine g_if_eqB C 9 dX4_readDip_4 (by decide) (fun h4 => ?_) (fun h4 => ?_)
  · -- X4_readDip 4t
    
    refine g_aload0 C dX4_readDip_9 ?_
    refine g_iconst C (nI 1) dX4_readDip_10 (by decide) ?_
    refine g_putI C dX4_readDip_11 fpX4_31 (show 1 < 68 by decide) rfl rfl (by decide) rfl ?_
    have hs0 : (z_up (zPT c (nI p) (nI s0)) 1 4 (nI 1)) = zPT (z_up c 1 4 (nI 1)) (nI p) (nI s0) := by
      funext a b
      unfold z_up zPT
      by_cases h1 : a = 1
      · by_cases h2 : b = 4
        · simp [h1, h2]
        · simp [h1, h2]
      · simp [h1]
    refine g_con hs0 rfl ?_
    have hT1 := hT.tf (zTF.u1 (b := 4) (v := nI 1) (by decide))
    refine g_aload1 C dX4_readDip_14 ?_
    refine g_aload0 C dX4_readDip_15 ?_
    refine g_iconst C (nI 1) dX4_readDip_16 (by decide) ?_
    refine g_iconst C (nI 4) dX4_readDip_17 (by decide) ?_
    refine g_callV2i C dX4_readDip_18 vlX4_58 (s_numFrom hT1 hp (lo := 1) (hi := 4) (by decide) (by decide)) hKd (by first | decide | omega) rfl (Nat.le_of_ble_eq_true rfl) (show 1 < 68 by decide) rfl ?_
    rintro _ _ ⟨⟨h18a, h18b, rfl⟩ | ⟨h18a, rfl⟩, rfl⟩
    · have p1 := (zTok_pos f hp).2.2.1
      have e : zDip f len s0 p D = zSemi f len (zTok f len p).2.1 ((cN D.1, cW D.1, cC D.1, cT D.1, (zTok f len p).2.2, cS D.1), true, D.2.2) := by unfold zDip; rw [if_neg (by rw [h4]; decide), if_pos ⟨h18a, h18b⟩]
      refine g_putI C dX4_readDip_21 fpX4_70 (show 7 < 68 by decide) rfl rfl rfl rfl ?_
      skip
      refine g_aload1 C dX4_readDip_24 ?_
      refine g_getIE C (up_s _ _ _ _) dX4_readDip_25 flX4_70 (show 7 < 68 by decide) rfl rfl ?_
      refine g_bipush C (-2) dX4_readDip_28 (by decide) ?_
      refine g_icmp_eq C 44 dX4_readDip_30 (by decide) (fun h30 => absurd h30 (by exact zn_m2 _ (by omega))) (fun h30 => ?_)
      have htf : zTF c _ := (zTF.u1 (b := 4) (v := nI 1) (by decide)).tr ((zTF.pt _ (nI (zTok f len p).2.1) (nI (zTok f len p).1)).tr (zTF.u7 (k := 7) (b := 4) (v := nI (zTok f len p).2.2) (by decide)))
      have hdr : DrC (z_up (zPT (z_up c 1 4 (nI 1)) (nI (zTok f len p).2.1) (nI (zTok f len p).1)) 7 4 (nI (zTok f len p).2.2)) ((cN D.1, cW D.1, cC D.1, cT D.1, (zTok f len p).2.2, cS D.1), true, D.2.2) := ⟨⟨(up_j _ (by decide)).trans ((congrFun (zPT_o (by decide)) 3).trans ((up_k (by decide) 3).trans hD.1.1)), up_s _ _ _ _, (up_j _ (by decide)).trans ((congrFun (zPT_o (by decide)) 5).trans ((up_k (by decide) 5).trans hD.1.2.2.1)), fun i hi => (up_k (by decide) i).trans ((congrFun (zPT_o (by decide)) i).trans ((up_k (by decide) i).trans (hD.1.2.2.2.1 i hi))), fun i hi => (up_k (by decide) i).trans ((congrFun (zPT_o (by decide)) i).trans ((up_k (by decide) i).trans (hD.1.2.2.2.2.1 i hi))), fun i hi => (up_k (by decide) i).trans ((congrFun (zPT_o (by decide)) i).trans ((up_k (by decide) i).trans (hD.1.2.2.2.2.2 i hi)))⟩, (up_k (by decide) 4).trans ((zPT_1 (by decide) (by decide)).trans (up_s _ _ _ _)), (up_k (by decide) 5).trans ((zPT_1 (by decide) (by decide)).trans ((up_j _ (by decide)).trans hD.2.2))⟩
      generalize hcc : z_up (zPT (z_up c 1 4 (nI 1)) (nI (zTok f len p).2.1) (nI (zTok f len p).1)) 7 4 (nI (zTok f len p).2.2) = c2
      rw [hcc] at hdr htf
      have hself : c2 = zPT c2 (nI (zTok f len p).2.1) (nI (zTok f len p).1) := by
        have h2 : c2 1 2 = nI (zTok f len p).2.1 := by rw [← hcc, up_k (by decide)]; exact zPT_2 _ _ _
        have h3 : c2 1 3 = nI (zTok f len p).1 := by rw [← hcc, up_k (by decide)]; exact zPT_3 _ _ _
        rw [← h2, ← h3]; exact (zPT_self c2).symm
      refine g_con hself rfl ?_
      refine g_aload0 C dX4_readDip_33 ?_
      refine g_callV0i C dX4_readDip_34 vlX4_66 (s_itemEnds (hT.tf htf) p1) hKd (by first | decide | omega) rfl (Nat.le_of_ble_eq_true rfl) (show 1 < 68 by decide) rfl ?_
      rintro _ _ ⟨rfl, rfl⟩
      refine g_if_eqB C 44 dX4_readDip_37 (by decide) (fun h37 => ?_) (fun h37 => ?_)
      · -- X4_readDip 37t
        
        refine g_iconst C (nI 0) dX4_readDip_44 (by decide) ?_
        exact g_ret0 M dX4_readDip_45 (⟨z_t0 (by rw [e]; exact h37), _, rfl, htf.tr (zTF.pt c2 _ _), by rw [e]; exact zPT_3 c2 _ _, fun _ => by rw [e]; exact ⟨zPT_2 c2 _ _, hdr.pt _ _⟩⟩)
      · -- X4_readDip 37f
        
        refine g_iconst C (nI 1) dX4_readDip_40 (by decide) ?_
        refine g_goto C 45 dX4_readDip_41 (by decide) ?_
        exact g_ret1 M dX4_readDip_45 (⟨z_t1 (by rw [e]; exact h37), _, rfl, htf.tr (zTF.pt c2 _ _), by rw [e]; exact zPT_3 c2 _ _, fun _ => by rw [e]; exact ⟨zPT_2 c2 _ _, hdr.pt _ _⟩⟩)
    · skip
      refine g_putI C dX4_readDip_21 fpX4_70 (show 7 < 68 by decide) rfl rfl rfl rfl ?_
      refine g_aload1 C dX4_readDip_24 ?_
      refine g_getIE C (up_s _ _ _ _) dX4_readDip_25 flX4_70 (show 7 < 68 by decide) rfl rfl ?_
      refine g_bipush C (-2) dX4_readDip_28 (by decide) ?_
      refine g_icmp_eq C 44 dX4_readDip_30 (by decide) (fun h30 => ?_) (fun h30 => absurd h30 (by exact fun h => h rfl))
      refine g_iconst C (nI 0) dX4_readDip_44 (by decide) ?_
      exact g_ret0 M dX4_readDip_45 (⟨z_t0 (by rw [(show zDip f len s0 p D = (false, (zTok f len p).1, 0, D) by unfold zDip; rw [if_neg (by rw [h4]; decide), if_neg h18a])]), _, rfl, (zTF.u1 (b := 4) (v := nI 1) (by decide)).tr ((zTF.pt _ _ _).tr (zTF.u7 (k := 7) (b := 4) (v := -2) (by decide))), by rw [(show zDip f len s0 p D = (false, (zTok f len p).1, 0, D) by unfold zDip; rw [if_neg (by rw [h4]; decide), if_neg h18a])]; exact (up_k (by decide) 3).trans (zPT_3 _ _ _), fun h => by rw [(show zDip f len s0 p D = (false, (zTok f len p).1, 0, D) by unfold zDip; rw [if_neg (by rw [h4]; decide), if_neg h18a])] at h; cases h⟩)
  · -- X4_readDip 4f
    have e : zDip f len s0 p D = (false, s0, p, D) := by unfold zDip; rw [if_pos h4]
    refine g_iconst C (nI 0) dX4_readDip_7 (by decide) ?_
    exact g_ret0 M dX4_readDip_8 (⟨z_t0 (by rw [e]), _, rfl, zTF.pt c _ _, by rw [e]; exact zPT_3 c _ _, fun h => by rw [e] at h; cases h⟩)
set_option maxRecDepth 100000 in
set_option maxHeartbeats 4000000 in
theorem s_readSeats {Γ : zG} {c : Nat → Nat → Int32} {t : Nat → Int64} {len : Nat} {f : Nat → Nat} (hT : TxC c len f) {p : Nat} (hp : p ≤ len) {D : zDr} (hD : DrC c D) (okD : OkD D) {s0 : Nat}  : Sp Γ 4 mX4_readSeats [.ref 1, .ref 7] 0 0 (wF (zPT c (nI p) (nI s0)) t) (z_pi (fun v w => v = nI (zSea f len s0 p D).1.toNat ∧ ∃ c', w = wF c' t ∧ zTF c c' ∧ c' 1 3 = nI (zSea f len s0 p D).2.1 ∧ ((zSea f len s0 p D).1 = true → c' 1 2 = nI (zSea f len s0 p D).2.2.1 ∧ DrC c' (zSea f len s0 p D).2.2.2))) := by
  refine Sp.of (own := RX4) 0 false rfl (by decide +kernel) rfl rfl (fun h => by cases h) (fun K hKd M => ?_)
  have C := M.1
  show GG Γ K 0 0 (wF (zPT c (nI p) (nI s0)) t) 0 [some (.ref 1), some (.ref 7)] []
  refine g_aload0 C dX4_readSeats_0 ?_
  refine g_getIE C (hD.pt _ _).2.2 dX4_readSeats_1 flX4_35 (show 1 < 68 by decide) rfl rfl ?_
  refine g_if_eqB C 9 dX4_readSeats_4 (by decide) (fun h4 => ?_) (fun h4 => ?_)
  · -- X4_readSeats 4t
    
    refine g_aload0 C dX4_readSeats_9 ?_
    refine g_iconst C (nI 1) dX4_readSeats_10 (by decide) ?_
    refine g_putI C dX4_readSeats_11 fpX4_35 (show 1 < 68 by decide) rfl rfl (by decide) rfl ?_
    have hs0 : (z_up (zPT c (nI p) (nI s0)) 1 5 (nI 1)) = zPT (z_up c 1 5 (nI 1)) (nI p) (nI s0) := by
      funext a b
      unfold z_up zPT
      by_cases h1 : a = 1
      · by_cases h2 : b = 5
        · simp [h1, h2]
        · simp [h1, h2]
      · simp [h1]
    refine g_con hs0 rfl ?_
    have hT1 := hT.tf (zTF.u1 (b := 5) (v := nI 1) (by decide))
    refine g_aload1 C dX4_readSeats_14 ?_
    refine g_aload0 C dX4_readSeats_15 ?_
    refine g_iconst C (nI 1) dX4_readSeats_16 (by decide) ?_
    refine g_bipush C (nI 8) dX4_readSeats_17 (by decide) ?_
    refine g_callV2i C dX4_readSeats_19 vlX4_58 (s_numFrom hT1 hp (lo := 1) (hi := 8) (by decide) (by decide)) hKd (by first | decide | omega) rfl (Nat.le_of_ble_eq_true rfl) (show 1 < 68 by decide) rfl ?_
    rintro _ _ ⟨⟨h19a, h19b, rfl⟩ | ⟨h19a, rfl⟩, rfl⟩
    · have p1 := (zTok_pos f hp).2.2.1
      have e : zSea f len s0 p D = zSemi f len (zTok f len p).2.1 ((cN D.1, cW D.1, cC D.1, cT D.1, cD D.1, (zTok f len p).2.2), D.2.1, true) := by unfold zSea; rw [if_neg (by rw [h4]; decide), if_pos ⟨h19a, h19b⟩]
      refine g_putI C dX4_readSeats_22 fpX4_73 (show 7 < 68 by decide) rfl rfl rfl rfl ?_
      skip
      refine g_aload1 C dX4_readSeats_25 ?_
      refine g_getIE C (up_s _ _ _ _) dX4_readSeats_26 flX4_73 (show 7 < 68 by decide) rfl rfl ?_
      refine g_bipush C (-2) dX4_readSeats_29 (by decide) ?_
      refine g_icmp_eq C 45 dX4_readSeats_31 (by decide) (fun h31 => absurd h31 (by exact zn_m2 _ (by omega))) (fun h31 => ?_)
      have htf : zTF c _ := (zTF.u1 (b := 5) (v := nI 1) (by decide)).tr ((zTF.pt _ (nI (zTok f len p).2.1) (nI (zTok f len p).1)).tr (zTF.u7 (k := 7) (b := 5) (v := nI (zTok f len p).2.2) (by decide)))
      have hdr : DrC (z_up (zPT (z_up c 1 5 (nI 1)) (nI (zTok f len p).2.1) (nI (zTok f len p).1)) 7 5 (nI (zTok f len p).2.2)) ((cN D.1, cW D.1, cC D.1, cT D.1, cD D.1, (zTok f len p).2.2), D.2.1, true) := ⟨⟨(up_j _ (by decide)).trans ((congrFun (zPT_o (by decide)) 3).trans ((up_k (by decide) 3).trans hD.1.1)), (up_j _ (by decide)).trans ((congrFun (zPT_o (by decide)) 4).trans ((up_k (by decide) 4).trans hD.1.2.1)), up_s _ _ _ _, fun i hi => (up_k (by decide) i).trans ((congrFun (zPT_o (by decide)) i).trans ((up_k (by decide) i).trans (hD.1.2.2.2.1 i hi))), fun i hi => (up_k (by decide) i).trans ((congrFun (zPT_o (by decide)) i).trans ((up_k (by decide) i).trans (hD.1.2.2.2.2.1 i hi))), fun i hi => (up_k (by decide) i).trans ((congrFun (zPT_o (by decide)) i).trans ((up_k (by decide) i).trans (hD.1.2.2.2.2.2 i hi)))⟩, (up_k (by decide) 4).trans ((zPT_1 (by decide) (by decide)).trans ((up_j _ (by decide)).trans hD.2.1)), (up_k (by decide) 5).trans ((zPT_1 (by decide) (by decide)).trans (up_s _ _ _ _))⟩
      generalize hcc : z_up (zPT (z_up c 1 5 (nI 1)) (nI (zTok f len p).2.1) (nI (zTok f len p).1)) 7 5 (nI (zTok f len p).2.2) = c2
      rw [hcc] at hdr htf
      have hself : c2 = zPT c2 (nI (zTok f len p).2.1) (nI (zTok f len p).1) := by
        have h2 : c2 1 2 = nI (zTok f len p).2.1 := by rw [← hcc, up_k (by decide)]; exact zPT_2 _ _ _
        have h3 : c2 1 3 = nI (zTok f len p).1 := by rw [← hcc, up_k (by decide)]; exact zPT_3 _ _ _
        rw [← h2, ← h3]; exact (zPT_self c2).symm
      refine g_con hself rfl ?_
      refine g_aload0 C dX4_readSeats_34 ?_
      refine g_callV0i C dX4_readSeats_35 vlX4_66 (s_itemEnds (hT.tf htf) p1) hKd (by first | decide | omega) rfl (Nat.le_of_ble_eq_true rfl) (show 1 < 68 by decide) rfl ?_
      rintro _ _ ⟨rfl, rfl⟩
      refine g_if_eqB C 45 dX4_readSeats_38 (by decide) (fun h38 => ?_) (fun h38 => ?_)
      · -- X4_readSeats 38t
        
        refine g_iconst C (nI 0) dX4_readSeats_45 (by decide) ?_
        exact g_ret0 M dX4_readSeats_46 (⟨z_t0 (by rw [e]; exact h38), _, rfl, htf.tr (zTF.pt c2 _ _), by rw [e]; exact zPT_3 c2 _ _, fun _ => by rw [e]; exact ⟨zPT_2 c2 _ _, hdr.pt _ _⟩⟩)
      · -- X4_readSeats 38f
        
        refine g_iconst C (nI 1) dX4_readSeats_41 (by decide) ?_
        refine g_goto C 46 dX4_readSeats_42 (by decide) ?_
        exact g_ret1 M dX4_readSeats_46 (⟨z_t1 (by rw [e]; exact h38), _, rfl, htf.tr (zTF.pt c2 _ _), by rw [e]; exact zPT_3 c2 _ _, fun _ => by rw [e]; exact ⟨zPT_2 c2 _ _, hdr.pt _ _⟩⟩)
    · skip
      refine g_putI C dX4_readSeats_22 fpX4_73 (show 7 < 68 by decide) rfl rfl rfl rfl ?_
      refine g_aload1 C dX4_readSeats_25 ?_
      refine g_getIE C (up_s _ _ _ _) dX4_readSeats_26 flX4_73 (show 7 < 68 by decide) rfl rfl ?_
      refine g_bipush C (-2) dX4_readSeats_29 (by decide) ?_
      refine g_icmp_eq C 45 dX4_readSeats_31 (by decide) (fun h31 => ?_) (fun h31 => absurd h31 (by exact fun h => h rfl))
      refine g_iconst C (nI 0) dX4_readSeats_45 (by decide) ?_
      exact g_ret0 M dX4_readSeats_46 (⟨z_t0 (by rw [(show zSea f len s0 p D = (false, (zTok f len p).1, 0, D) by unfold zSea; rw [if_neg (by rw [h4]; decide), if_neg h19a])]), _, rfl, (zTF.u1 (b := 5) (v := nI 1) (by decide)).tr ((zTF.pt _ _ _).tr (zTF.u7 (k := 7) (b := 5) (v := -2) (by decide))), by rw [(show zSea f len s0 p D = (false, (zTok f len p).1, 0, D) by unfold zSea; rw [if_neg (by rw [h4]; decide), if_neg h19a])]; exact (up_k (by decide) 3).trans (zPT_3 _ _ _), fun h => by rw [(show zSea f len s0 p D = (false, (zTok f len p).1, 0, D) by unfold zSea; rw [if_neg (by rw [h4]; decide), if_neg h19a])] at h; cases h⟩)
  · -- X4_readSeats 4f
    have e : zSea f len s0 p D = (false, s0, p, D) := by unfold zSea; rw [if_pos h4]
    refine g_iconst C (nI 0) dX4_readSeats_7 (by decide) ?_
    exact g_ret0 M dX4_readSeats_8 (⟨z_t0 (by rw [e]), _, rfl, zTF.pt c _ _, by rw [e]; exact zPT_3 c _ _, fun h => by rw [e] at h; cases h⟩)
