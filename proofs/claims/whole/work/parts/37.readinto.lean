/-! the whole text is read into the second crew -/
set_option maxRecDepth 100000 in
set_option maxHeartbeats 4000000 in
theorem s_readInto {Γ : zG} {c : Nat → Nat → Int32} {t : Nat → Int64} {len : Nat} {f : Nat → Nat} (hT : TxC c len f) : Sp Γ 5 mX4_readInto [.ref 1, .ref 7] 0 0 (wF c t) (z_pi (fun v w => v = (if (zRun f len 201 0 0 zD0).1 = true then nI (zRun f len 201 0 0 zD0).2.1 else -10 - nI (zRun f len 201 0 0 zD0).2.1) ∧ ∃ c', w = wF c' t ∧ zTF c c' ∧ ((zRun f len 201 0 0 zD0).1 = true → CrC 7 c' (zRun f len 201 0 0 zD0).2.2.1 ∧ OkA (zRun f len 201 0 0 zD0).2.2.1))) := by
  refine Sp.of (own := RX4) 2 false rfl (by decide +kernel) rfl rfl (fun h => by cases h) (fun K hKd M => ?_)
  have C := M.1
  show GG Γ K 0 0 (wF c t) 0 [some (.ref 1), some (.ref 7), none, none] []
  have H21 : ∀ (n : Nat) (c' : Nat → Nat → Int32) (p it : Nat) (D : zDr) (x : Option Value), p ≤ len → 2 * it ≤ p → c' 1 2 = nI p → zTF c c' → DrC c' D → OkD D → zRun f len n p it D = (zRun f len 201 0 0 zD0) → len - p < n → GG Γ K 0 0 (wF c' t) 21 [some (.ref 1), some (.ref 7), some (.int (nI it)), x] [] := by
    intro n
    induction n with
    | zero => intro c' p it D x hp hi hc2 htf hD okD hz hn; exact absurd hn (by omega)
    | succ n ih =>
      intro c' p it D x hp hi hc2 htf hD okD hz hn
      have hself : c' = zPT c' (nI p) (c' 1 3) := by rw [← hc2]; exact (zPT_self c').symm
      refine g_con hself rfl ?_
      refine g_iload2 C dX4_readInto_21 ?_
      refine g_sipush C (nI 200) dX4_readInto_22 (by decide) ?_
      refine g_icmp_geN C 118 (by have := hT.2.1; omega) (by decide) dX4_readInto_25 (by decide) (fun h25 => absurd h25 (by have := hT.2.1; omega)) (fun h25 => ?_)
      refine g_iconst C (nI 0) dX4_readInto_28 (by decide) ?_
      refine g_istore3 C dX4_readInto_29 ?_
      refine g_aload0 C dX4_readInto_30 ?_
      refine g_callV0i C dX4_readInto_31 vlX4_38 (s_next (hT.tf htf) hp) hKd (by first | decide | omega) rfl (Nat.le_of_ble_eq_true rfl) (show 1 < 68 by decide) rfl ?_
      rintro _ _ ⟨rfl, rfl⟩
      rcases zTok_code f len p with hk | hk | hk | hk | hk | hk | hk
      · -- case
        rw [zTkI_lt (by omega)]
        refine g_lsw (off := 71) C 105 dX4_readInto_34 rfl (zlsw_d _ (by omega)) (by decide) ?_
        have e : zIt f len p D = (false, (zTok f len p).1, 0, D) := by unfold zIt; rw [if_neg (by omega), if_neg (by omega), if_neg (by omega)]
        have hR : zRun f len 201 0 0 zD0 = (false, (zTok f len p).1, D) := by rw [← hz, zRun, if_neg (by omega), if_neg (by rw [e]; exact Bool.false_ne_true), e]
        refine g_iload3 C dX4_readInto_105 ?_
        refine g_if_neN C 112 (by omega) dX4_readInto_106 (by decide) (fun h106 => absurd h106 (by decide)) (fun h106 => ?_)
        refine g_goto C 118 dX4_readInto_109 (by decide) ?_
        refine g_bipush C (-10) dX4_readInto_118 (by decide) ?_
        refine g_aload0 C dX4_readInto_120 ?_
        refine g_getIE C (zPT_3 c' _ _) dX4_readInto_121 flX4_52 (show 1 < 68 by decide) rfl rfl ?_
        refine g_isub C dX4_readInto_124 ?_
        exact g_reti M dX4_readInto_125 (⟨by rw [hR]; rfl, _, rfl, htf.tr (zTF.pt c' _ _), fun h => by rw [hR] at h; cases h⟩)
      · -- case
        rw [hk, show zTkI 187 = nI 187 from rfl]
        refine g_lsw (off := 71) C 105 dX4_readInto_34 rfl (by decide) (by decide) ?_
        have e : zIt f len p D = (false, (zTok f len p).1, 0, D) := by unfold zIt; rw [if_neg (by omega), if_neg (by omega), if_neg (by omega)]
        have hR : zRun f len 201 0 0 zD0 = (false, (zTok f len p).1, D) := by rw [← hz, zRun, if_neg (by omega), if_neg (by rw [e]; exact Bool.false_ne_true), e]
        refine g_iload3 C dX4_readInto_105 ?_
        refine g_if_neN C 112 (by omega) dX4_readInto_106 (by decide) (fun h106 => absurd h106 (by decide)) (fun h106 => ?_)
        refine g_goto C 118 dX4_readInto_109 (by decide) ?_
        refine g_bipush C (-10) dX4_readInto_118 (by decide) ?_
        refine g_aload0 C dX4_readInto_120 ?_
        refine g_getIE C (zPT_3 c' _ _) dX4_readInto_121 flX4_52 (show 1 < 68 by decide) rfl rfl ?_
        refine g_isub C dX4_readInto_124 ?_
        exact g_reti M dX4_readInto_125 (⟨by rw [hR]; rfl, _, rfl, htf.tr (zTF.pt c' _ _), fun h => by rw [hR] at h; cases h⟩)
      · -- case
        rw [hk, show zTkI 228 = nI 228 from rfl]
        refine g_lsw (off := 53) C 87 dX4_readInto_34 rfl (by decide) (by decide) ?_
        refine g_aload0 C dX4_readInto_87 ?_
        refine g_aload1 C dX4_readInto_88 ?_
        refine g_callV1i C dX4_readInto_89 vlX4_46 (s_readDip (hT.tf htf) (zTok_pos f hp).2.2.1 hD okD) hKd (by first | decide | omega) rfl (Nat.le_of_ble_eq_true rfl) (show 1 < 68 by decide) rfl ?_
        rintro _ _ ⟨rfl, c2, rfl, htf2, hst, hok⟩
        have e : zIt f len p D = zDip f len (zTok f len p).1 (zTok f len p).2.1 D := by unfold zIt; first | rw [if_pos (by omega)] | rw [if_neg (by omega), if_pos (by omega)] | rw [if_neg (by omega), if_neg (by omega), if_pos (by omega)]
        rw [← e] at hst hok ⊢
        refine g_istore3 C dX4_readInto_92 ?_
        refine g_goto C 105 dX4_readInto_93 (by decide) ?_
        refine g_iload3 C dX4_readInto_105 ?_
        refine g_if_neB C 112 dX4_readInto_106 (by decide) (fun h106 => ?_) (fun h106 => ?_)
        · -- X4_readInto 106t
          
          refine g_iinc2N C dX4_readInto_112 ?_
          refine g_goto C 21 dX4_readInto_115 (by decide) ?_
          
          exact ih c2 _ (it + 1) _ _ (zIt_ok hp okD h106).2.1 (by have := (zIt_ok hp okD h106).1; omega) (hok h106).1 (htf.tr htf2) (hok h106).2 (zIt_ok hp okD h106).2.2 (by rw [← hz]; exact (by rw [zRun, if_neg (by omega), if_pos h106] : zRun f len (n + 1) p it D = _).symm) (by have := (zIt_ok hp okD h106).1; have := (zIt_ok hp okD h106).2.1; omega)
        · -- X4_readInto 106f
          have hR : zRun f len 201 0 0 zD0 = (false, (zIt f len p D).2.1, D) := by rw [← hz, zRun, if_neg (by omega), if_neg (by rw [h106]; exact Bool.false_ne_true)]
          refine g_goto C 118 dX4_readInto_109 (by decide) ?_
          refine g_bipush C (-10) dX4_readInto_118 (by decide) ?_
          refine g_aload0 C dX4_readInto_120 ?_
          refine g_getIE C hst dX4_readInto_121 flX4_52 (show 1 < 68 by decide) rfl rfl ?_
          refine g_isub C dX4_readInto_124 ?_
          exact g_reti M dX4_readInto_125 (⟨by rw [hR]; rfl, _, rfl, htf.tr htf2, fun h => by rw [hR] at h; cases h⟩)
      · -- case
        rw [hk, show zTkI 238 = nI 238 from rfl]
        refine g_lsw (off := 62) C 96 dX4_readInto_34 rfl (by decide) (by decide) ?_
        refine g_aload0 C dX4_readInto_96 ?_
        refine g_aload1 C dX4_readInto_97 ?_
        refine g_callV1i C dX4_readInto_98 vlX4_49 (s_readSeats (hT.tf htf) (zTok_pos f hp).2.2.1 hD okD) hKd (by first | decide | omega) rfl (Nat.le_of_ble_eq_true rfl) (show 1 < 68 by decide) rfl ?_
        rintro _ _ ⟨rfl, c2, rfl, htf2, hst, hok⟩
        have e : zIt f len p D = zSea f len (zTok f len p).1 (zTok f len p).2.1 D := by unfold zIt; first | rw [if_pos (by omega)] | rw [if_neg (by omega), if_pos (by omega)] | rw [if_neg (by omega), if_neg (by omega), if_pos (by omega)]
        rw [← e] at hst hok ⊢
        refine g_istore3 C dX4_readInto_101 ?_
        refine g_goto C 105 dX4_readInto_102 (by decide) ?_
        refine g_iload3 C dX4_readInto_105 ?_
        refine g_if_neB C 112 dX4_readInto_106 (by decide) (fun h106 => ?_) (fun h106 => ?_)
        · -- X4_readInto 106t
          
          refine g_iinc2N C dX4_readInto_112 ?_
          refine g_goto C 21 dX4_readInto_115 (by decide) ?_
          
          exact ih c2 _ (it + 1) _ _ (zIt_ok hp okD h106).2.1 (by have := (zIt_ok hp okD h106).1; omega) (hok h106).1 (htf.tr htf2) (hok h106).2 (zIt_ok hp okD h106).2.2 (by rw [← hz]; exact (by rw [zRun, if_neg (by omega), if_pos h106] : zRun f len (n + 1) p it D = _).symm) (by have := (zIt_ok hp okD h106).1; have := (zIt_ok hp okD h106).2.1; omega)
        · -- X4_readInto 106f
          have hR : zRun f len 201 0 0 zD0 = (false, (zIt f len p D).2.1, D) := by rw [← hz, zRun, if_neg (by omega), if_neg (by rw [h106]; exact Bool.false_ne_true)]
          refine g_goto C 118 dX4_readInto_109 (by decide) ?_
          refine g_bipush C (-10) dX4_readInto_118 (by decide) ?_
          refine g_aload0 C dX4_readInto_120 ?_
          refine g_getIE C hst dX4_readInto_121 flX4_52 (show 1 < 68 by decide) rfl rfl ?_
          refine g_isub C dX4_readInto_124 ?_
          exact g_reti M dX4_readInto_125 (⟨by rw [hR]; rfl, _, rfl, htf.tr htf2, fun h => by rw [hR] at h; cases h⟩)
      · -- case
        rw [hk, show zTkI 243 = nI 243 from rfl]
        refine g_lsw (off := 44) C 78 dX4_readInto_34 rfl (by decide) (by decide) ?_
        refine g_aload0 C dX4_readInto_78 ?_
        refine g_aload1 C dX4_readInto_79 ?_
        refine g_callV1i C dX4_readInto_80 vlX4_42 (s_readSailor (hT.tf htf) (zTok_pos f hp).2.2.1 hD okD) hKd (by first | decide | omega) rfl (Nat.le_of_ble_eq_true rfl) (show 1 < 68 by decide) rfl ?_
        rintro _ _ ⟨rfl, c2, rfl, htf2, hst, hok⟩
        have e : zIt f len p D = zSail f len (zTok f len p).1 (zTok f len p).2.1 D := by unfold zIt; first | rw [if_pos (by omega)] | rw [if_neg (by omega), if_pos (by omega)] | rw [if_neg (by omega), if_neg (by omega), if_pos (by omega)]
        rw [← e] at hst hok ⊢
        refine g_istore3 C dX4_readInto_83 ?_
        refine g_goto C 105 dX4_readInto_84 (by decide) ?_
        refine g_iload3 C dX4_readInto_105 ?_
        refine g_if_neB C 112 dX4_readInto_106 (by decide) (fun h106 => ?_) (fun h106 => ?_)
        · -- X4_readInto 106t
          
          refine g_iinc2N C dX4_readInto_112 ?_
          refine g_goto C 21 dX4_readInto_115 (by decide) ?_
          
          exact ih c2 _ (it + 1) _ _ (zIt_ok hp okD h106).2.1 (by have := (zIt_ok hp okD h106).1; omega) (hok h106).1 (htf.tr htf2) (hok h106).2 (zIt_ok hp okD h106).2.2 (by rw [← hz]; exact (by rw [zRun, if_neg (by omega), if_pos h106] : zRun f len (n + 1) p it D = _).symm) (by have := (zIt_ok hp okD h106).1; have := (zIt_ok hp okD h106).2.1; omega)
        · -- X4_readInto 106f
          have hR : zRun f len 201 0 0 zD0 = (false, (zIt f len p D).2.1, D) := by rw [← hz, zRun, if_neg (by omega), if_neg (by rw [h106]; exact Bool.false_ne_true)]
          refine g_goto C 118 dX4_readInto_109 (by decide) ?_
          refine g_bipush C (-10) dX4_readInto_118 (by decide) ?_
          refine g_aload0 C dX4_readInto_120 ?_
          refine g_getIE C hst dX4_readInto_121 flX4_52 (show 1 < 68 by decide) rfl rfl ?_
          refine g_isub C dX4_readInto_124 ?_
          exact g_reti M dX4_readInto_125 (⟨by rw [hR]; rfl, _, rfl, htf.tr htf2, fun h => by rw [hR] at h; cases h⟩)
      · -- case
        rw [hk, show zTkI 1000 = -1 from rfl]
        refine g_lsw (off := 42) C 76 dX4_readInto_34 rfl (by decide) (by decide) ?_
        have hR : zRun f len 201 0 0 zD0 = (true, it, D) := by rw [← hz, zRun, if_pos hk]
        refine g_iload2 C dX4_readInto_76 ?_
        exact g_reti M dX4_readInto_77 (⟨by rw [hR]; rfl, _, rfl, htf.tr (zTF.pt c' _ _), fun _ => by rw [hR]; exact ⟨(hD.pt _ _).1, okD⟩⟩)
      · -- case
        rw [hk, show zTkI 1001 = -2 from rfl]
        refine g_lsw (off := 71) C 105 dX4_readInto_34 rfl (by decide) (by decide) ?_
        have e : zIt f len p D = (false, (zTok f len p).1, 0, D) := by unfold zIt; rw [if_neg (by omega), if_neg (by omega), if_neg (by omega)]
        have hR : zRun f len 201 0 0 zD0 = (false, (zTok f len p).1, D) := by rw [← hz, zRun, if_neg (by omega), if_neg (by rw [e]; exact Bool.false_ne_true), e]
        refine g_iload3 C dX4_readInto_105 ?_
        refine g_if_neN C 112 (by omega) dX4_readInto_106 (by decide) (fun h106 => absurd h106 (by decide)) (fun h106 => ?_)
        refine g_goto C 118 dX4_readInto_109 (by decide) ?_
        refine g_bipush C (-10) dX4_readInto_118 (by decide) ?_
        refine g_aload0 C dX4_readInto_120 ?_
        refine g_getIE C (zPT_3 c' _ _) dX4_readInto_121 flX4_52 (show 1 < 68 by decide) rfl rfl ?_
        refine g_isub C dX4_readInto_124 ?_
        exact g_reti M dX4_readInto_125 (⟨by rw [hR]; rfl, _, rfl, htf.tr (zTF.pt c' _ _), fun h => by rw [hR] at h; cases h⟩)
  refine g_aload1 C dX4_readInto_0 ?_
  refine g_callV0v C dX4_readInto_1 vlX4_23 (s_crst7) hKd (by first | decide | omega) rfl (Nat.le_of_ble_eq_true rfl) (show 7 < 68 by decide) rfl ?_
  rintro _ rfl
  refine g_aload0 C dX4_readInto_4 ?_
  refine g_iconst C (nI 0) dX4_readInto_5 (by decide) ?_
  refine g_putI C dX4_readInto_6 fpX4_28 (show 1 < 68 by decide) rfl rfl rfl rfl ?_
  refine g_aload0 C dX4_readInto_9 ?_
  refine g_iconst C (nI 0) dX4_readInto_10 (by decide) ?_
  refine g_putI C dX4_readInto_11 fpX4_31 (show 1 < 68 by decide) rfl rfl (by decide) rfl ?_
  refine g_aload0 C dX4_readInto_14 ?_
  refine g_iconst C (nI 0) dX4_readInto_15 (by decide) ?_
  refine g_putI C dX4_readInto_16 fpX4_35 (show 1 < 68 by decide) rfl rfl (by decide) rfl ?_
  refine g_iconst C (nI 0) dX4_readInto_19 (by decide) ?_
  refine g_istore2 C dX4_readInto_20 ?_
  exact H21 201 _ 0 0 zD0 _ (Nat.zero_le _) (by decide) (by rw [up_j _ (by decide), up_j _ (by decide), up_s]) ((zTF.u7 (k := 7) (b := 3) (v := nI 0) (by decide)).tr ((zTF.u7 (k := 7) (b := 4) (v := nI 3) (by decide)).tr ((zTF.u7 (k := 7) (b := 5) (v := nI 8) (by decide)).tr ((zTF.u1 (b := 2) (v := nI 0) (by decide)).tr ((zTF.u1 (b := 4) (v := nI 0) (by decide)).tr (zTF.u1 (b := 5) (v := nI 0) (by decide))))))) ⟨⟨by rw [up_k (by decide), up_k (by decide), up_k (by decide), up_j _ (by decide), up_j _ (by decide), up_s]; rfl, by rw [up_k (by decide), up_k (by decide), up_k (by decide), up_j _ (by decide), up_s]; rfl, by rw [up_k (by decide), up_k (by decide), up_k (by decide), up_s]; rfl, fun i h => absurd h (Nat.not_lt_zero i), fun i h => absurd h (Nat.not_lt_zero i), fun i h => absurd h (Nat.not_lt_zero i)⟩, by rw [up_j _ (by decide), up_s]; rfl, by rw [up_s]; rfl⟩ OkD0 rfl (by have := hT.2.1; omega)
