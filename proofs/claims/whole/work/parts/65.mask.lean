/-! the reference: who it was, whom to ask, which seat to shift -/
set_option maxRecDepth 100000 in
set_option maxHeartbeats 4000000 in
theorem q_hang {Γ : zG} {c : Nat → Nat → Int32} {t : Nat → Int64} {S : zAb} (hS : OkS S) (hR : RepM c t S)  : Sp Γ 12 mX6_hang [.ref 56] 0 0 (wF c t) (z_pi (zOutM c t (a_hang S) (S))) := by
  refine Sp.of (own := RX6) 4 false rfl (by decide +kernel) rfl rfl (fun h => by cases h) (fun K hKd M => ?_)
  have C := M.1
  show GG Γ K 0 0 (wF c t) 0 [some (.ref 56), none, none, none, none] []
  have hn7 : cN S.1 ≤ 7 := hS.1.1
  have hgo : ∀ c1, FrL 0 c c1 → RwQ c1 (zO0 S) (zT0 S) → GG Γ K 0 0 (wF c1 t) 15 [some (.ref 56), some (.int (zE (zLk (zO0 S) 0).1)), some (.int (nI (zLk (zO0 S) 0).2)), some (.int (nI 0)), none] [] := by
    intro c1 hf hQ
    have hR1 : RepM c1 t S := hR.frl hf
    have hO := hQ.2.2.1
    have H15 : ∀ (n : Nat) (i : Nat) (x : Option Value), i ≤ cN S.1 → cN S.1 - i < n → GG Γ K 0 0 (wF c1 t) 15 [some (.ref 56), some (.int (zE (zLk (zO0 S) i).1)), some (.int (nI (zLk (zO0 S) i).2)), some (.int (nI i)), x] [] := by
      intro n
      induction n with
      | zero => intro i x hi hn; exact absurd hn (by omega)
      | succ n ih =>
        intro i x hi hn
        refine g_iload3 C dX6_hang_15 ?_
        refine g_aload0 C dX6_hang_16 ?_
        refine g_getRT C dX6_hang_17 flX6_13 (show 56 < 68 by decide) rfl rfl (by decide) ?_
        refine g_iconst C (nI 0) dX6_hang_20 (by decide) ?_
        refine g_ialdE C hR1.1.1 (by omega) (by decide) dX6_hang_21 (show 58 < 68 by decide) rfl ?_
        refine g_icmp_geN C 75 (by omega) (by omega) dX6_hang_22 (by decide) (fun h22 => ?_) (fun h22 => ?_)
        · -- X6_hang 22t
          obtain rfl : i = cN S.1 := by omega
          have htop := zLk_top (n := cN S.1) hQ (fun s hs => by cases hb : (zT0 S).testBit s with | false => rfl | true => exact absurd (zT0_n hS s hb) (by omega)) (7 - cN S.1) (by omega)
          rw [show cN S.1 + (7 - cN S.1) = 7 by omega] at htop
          refine g_iload1 C dX6_hang_75 ?_
          exact g_reti M dX6_hang_76 (by unfold a_hang; rw [htop]; exact zOutM.mk' rfl hR1 (fun a ha => hf.1 a (by omega) (by omega) (by omega) (by omega)) (fun _ _ => rfl))
        · -- X6_hang 22f
          have hth := zTh'_i hS h22
          have hlk := (zLk_le (zO0 S) i).1
          have hti := zTi_le (zO0 S) i (zO0 S).length
          refine g_aload0 C dX6_hang_25 ?_
          refine g_iload3 C dX6_hang_26 ?_
          refine g_callV1i C dX6_hang_27 vlX6_141 (n_isThere hS hR1) hKd (by first | decide | omega) rfl (Nat.le_of_ble_eq_true rfl) (show 56 < 68 by decide) rfl ?_
          rintro _ _ ⟨rfl, rfl⟩
          refine g_if_eqB C 41 dX6_hang_30 (by decide) (fun h30 => ?_) (fun h30 => ?_)
          · -- X6_hang 30t
            have hb : (zT0 S).testBit i = false := by
              cases hb : (zT0 S).testBit i with
              | false => rfl
              | true => rw [hth, hb] at h30; cases h30
            have hti0 := (zTi_no hQ (show i < 7 by omega) hb (zO0 S).length (Nat.le_refl _)).symm
            refine g_iconst C (nI 0) dX6_hang_41 (by decide) ?_
            refine g_istore4 C dX6_hang_42 ?_
            refine g_set (L' := [some (.ref 56), some (.int (zE (zLk (zO0 S) i).1)), some (.int (nI (zLk (zO0 S) i).2)), some (.int (nI i)), some (.int (nI (zTi (zO0 S) i (zO0 S).length)))]) rfl (by first | rfl | rw [← hti0]) rfl ?_
            refine g_iload4 C dX6_hang_44 ?_
            refine g_iload2 C dX6_hang_46 ?_
            refine g_icmp_leN C 54 (by omega) (by omega) dX6_hang_47 (by decide) (fun h47 => ?_) (fun h47 => ?_)
            · -- X6_hang 47t
              refine g_iload1 C dX6_hang_54 ?_
              refine g_istore1 C dX6_hang_55 ?_
              refine g_iload4 C dX6_hang_56 ?_
              refine g_iload2 C dX6_hang_58 ?_
              refine g_icmp_leN C 67 (by omega) (by omega) dX6_hang_59 (by decide) (fun h59 => ?_) (fun h59 => absurd h59 (by omega))
              refine g_iload2 C dX6_hang_67 ?_
              refine g_istore2 C dX6_hang_68 ?_
              refine g_set (L' := [some (.ref 56), some (.int (zE (zLk (zO0 S) (i + 1)).1)), some (.int (nI (zLk (zO0 S) (i + 1)).2)), some (.int (nI i)), some (.int (nI (zTi (zO0 S) i (zO0 S).length)))]) rfl (by rw [show zLk (zO0 S) (i + 1) = zLk (zO0 S) i from if_neg (by omega)]) rfl ?_
              refine g_iinc3N C dX6_hang_69 ?_
              refine g_goto C 15 dX6_hang_72 (by decide) ?_
              exact ih (i + 1) _ (by omega) (by omega)
            · -- X6_hang 47f
              refine g_iload3 C dX6_hang_50 ?_
              refine g_goto C 55 dX6_hang_51 (by decide) ?_
              refine g_istore1 C dX6_hang_55 ?_
              refine g_iload4 C dX6_hang_56 ?_
              refine g_iload2 C dX6_hang_58 ?_
              refine g_icmp_leN C 67 (by omega) (by omega) dX6_hang_59 (by decide) (fun h59 => absurd h59 (by omega)) (fun h59 => ?_)
              refine g_iload4 C dX6_hang_62 ?_
              refine g_goto C 68 dX6_hang_64 (by decide) ?_
              refine g_istore2 C dX6_hang_68 ?_
              refine g_set (L' := [some (.ref 56), some (.int (zE (zLk (zO0 S) (i + 1)).1)), some (.int (nI (zLk (zO0 S) (i + 1)).2)), some (.int (nI i)), some (.int (nI (zTi (zO0 S) i (zO0 S).length)))]) rfl (by rw [show zLk (zO0 S) (i + 1) = (some i, zTi (zO0 S) i (zO0 S).length) from if_pos h47]; rfl) rfl ?_
              refine g_iinc3N C dX6_hang_69 ?_
              refine g_goto C 15 dX6_hang_72 (by decide) ?_
              exact ih (i + 1) _ (by omega) (by omega)
          · -- X6_hang 30f
            have hb : (zT0 S).testBit i = true := by
              cases hb : (zT0 S).testBit i with
              | true => rfl
              | false => rw [hth, hb] at h30; cases h30
            refine g_aload0 C dX6_hang_33 ?_
            refine g_iload3 C dX6_hang_34 ?_
            refine g_callV1i C dX6_hang_35 vlX6_148 (n_leads hQ (by omega) hb) hKd (by first | decide | omega) rfl (Nat.le_of_ble_eq_true rfl) (show 56 < 68 by decide) rfl ?_
            rintro _ _ ⟨rfl, rfl⟩
            refine g_goto C 42 dX6_hang_38 (by decide) ?_
            refine g_istore4 C dX6_hang_42 ?_
            refine g_set (L' := [some (.ref 56), some (.int (zE (zLk (zO0 S) i).1)), some (.int (nI (zLk (zO0 S) i).2)), some (.int (nI i)), some (.int (nI (zTi (zO0 S) i (zO0 S).length)))]) rfl (by first | rfl | rw [← hti0]) rfl ?_
            refine g_iload4 C dX6_hang_44 ?_
            refine g_iload2 C dX6_hang_46 ?_
            refine g_icmp_leN C 54 (by omega) (by omega) dX6_hang_47 (by decide) (fun h47 => ?_) (fun h47 => ?_)
            · -- X6_hang 47t
              refine g_iload1 C dX6_hang_54 ?_
              refine g_istore1 C dX6_hang_55 ?_
              refine g_iload4 C dX6_hang_56 ?_
              refine g_iload2 C dX6_hang_58 ?_
              refine g_icmp_leN C 67 (by omega) (by omega) dX6_hang_59 (by decide) (fun h59 => ?_) (fun h59 => absurd h59 (by omega))
              refine g_iload2 C dX6_hang_67 ?_
              refine g_istore2 C dX6_hang_68 ?_
              refine g_set (L' := [some (.ref 56), some (.int (zE (zLk (zO0 S) (i + 1)).1)), some (.int (nI (zLk (zO0 S) (i + 1)).2)), some (.int (nI i)), some (.int (nI (zTi (zO0 S) i (zO0 S).length)))]) rfl (by rw [show zLk (zO0 S) (i + 1) = zLk (zO0 S) i from if_neg (by omega)]) rfl ?_
              refine g_iinc3N C dX6_hang_69 ?_
              refine g_goto C 15 dX6_hang_72 (by decide) ?_
              exact ih (i + 1) _ (by omega) (by omega)
            · -- X6_hang 47f
              refine g_iload3 C dX6_hang_50 ?_
              refine g_goto C 55 dX6_hang_51 (by decide) ?_
              refine g_istore1 C dX6_hang_55 ?_
              refine g_iload4 C dX6_hang_56 ?_
              refine g_iload2 C dX6_hang_58 ?_
              refine g_icmp_leN C 67 (by omega) (by omega) dX6_hang_59 (by decide) (fun h59 => absurd h59 (by omega)) (fun h59 => ?_)
              refine g_iload4 C dX6_hang_62 ?_
              refine g_goto C 68 dX6_hang_64 (by decide) ?_
              refine g_istore2 C dX6_hang_68 ?_
              refine g_set (L' := [some (.ref 56), some (.int (zE (zLk (zO0 S) (i + 1)).1)), some (.int (nI (zLk (zO0 S) (i + 1)).2)), some (.int (nI i)), some (.int (nI (zTi (zO0 S) i (zO0 S).length)))]) rfl (by rw [show zLk (zO0 S) (i + 1) = (some i, zTi (zO0 S) i (zO0 S).length) from if_pos h47]; rfl) rfl ?_
              refine g_iinc3N C dX6_hang_69 ?_
              refine g_goto C 15 dX6_hang_72 (by decide) ?_
              exact ih (i + 1) _ (by omega) (by omega)
    exact H15 (cN S.1 + 1) 0 _ (Nat.zero_le _) (by omega)
  refine g_aload0 C dX6_hang_0 ?_
  refine g_aload0 C dX6_hang_1 ?_
  refine g_callV0i C dX6_hang_2 vlX6_114 (n_there hS hR) hKd (by first | decide | omega) rfl (Nat.le_of_ble_eq_true rfl) (show 56 < 68 by decide) rfl ?_
  rintro _ _ ⟨rfl, rfl⟩
  refine g_callV1v C dX6_hang_5 vlX6_130 (n_lays hS hR hS.t (zT0_n hS)) hKd (by first | decide | omega) rfl (Nat.le_of_ble_eq_true rfl) (show 56 < 68 by decide) rfl ?_
  rintro _ ⟨c1, rfl, hrw, hf⟩
  have hQ : RwQ c1 (zO0 S) (zT0 S) := RwQ_of hrw hS.t
  have hR1 : RepM c1 t S := hR.frl hf
  have hO := hQ.2.2.1
  refine g_bipush C (-9) dX6_hang_8 (by decide) ?_
  refine g_istore1 C dX6_hang_10 ?_
  refine g_iconst C (nI 0) dX6_hang_11 (by decide) ?_
  refine g_istore2 C dX6_hang_12 ?_
  refine g_iconst C (nI 0) dX6_hang_13 (by decide) ?_
  refine g_istore3 C dX6_hang_14 ?_
  exact hgo c1 hf hQ
set_option maxRecDepth 100000 in
set_option maxHeartbeats 4000000 in
theorem q_shift {Γ : zG} {c : Nat → Nat → Int32} {t : Nat → Int64} {S : zAb} (hS : OkS S) (hR : RepM c t S) {w : Int32} : Sp Γ 12 mX6_shift [.ref 56, .int w] 0 0 (wF c t) (z_pi (zOutM c t (a_shift S w) (S))) := by
  refine Sp.of (own := RX6) 5 false rfl (by decide +kernel) rfl rfl (fun h => by cases h) (fun K hKd M => ?_)
  have C := M.1
  show GG Γ K 0 0 (wF c t) 0 [some (.ref 56), some (.int w), none, none, none, none, none] []
  have hs8 : cS S.1 ≤ 8 := hS.1.2.2.2.2.2.2
  have htopS := zShf_top (A := S.1) (Y := S.2.1) (n := cS S.1) (fun k h1 h2 => by
    cases hw : mW S.2.1 k with
    | none => rfl
    | some s => exact absurd (hS.2.1.2.2.1 k s h2 hw).2.1 (by omega)) (8 - cS S.1) (by omega)
  rw [show cS S.1 + (8 - cS S.1) = 8 by omega] at htopS
  have H20 : ∀ (n : Nat) (c' : Nat → Nat → Int32) (j k : Nat) (x y : Option Value), zIdx w 2 = some j → j < 2 → k ≤ cS S.1 → FrL 0 c c' → cS S.1 - k < n → GG Γ K 0 0 (wF c' t) 20 [some (.ref 56), some (.int (nI j)), some (.int (zB1 (zShf S.1 S.2.1 k))), some (.int (zB2 (zShf S.1 S.2.1 k))), some (.int (nI k)), x, y] [] := by
    intro n
    induction n with
    | zero => intro c' j k x y hz hj hk hf hn; exact absurd hn (by omega)
    | succ n ih =>
      intro c' j k x y hz hj hk hf hn
      have hR' : RepM c' t S := hR.frl hf
      refine g_iload4 C dX6_shift_20 ?_
      refine g_aload0 C dX6_shift_22 ?_
      refine g_getRT C dX6_shift_23 flX6_13 (show 56 < 68 by decide) rfl rfl (by decide) ?_
      refine g_iconst C (nI 2) dX6_shift_26 (by decide) ?_
      refine g_ialdE C hR'.1.2.2.1 (by omega) (by decide) dX6_shift_27 (show 58 < 68 by decide) rfl ?_
      refine g_icmp_geN C 112 (by omega) (by omega) dX6_shift_28 (by decide) (fun h28 => ?_) (fun h28 => ?_)
      · -- X6_shift 28t
        obtain rfl : k = cS S.1 := by omega
        refine g_iload1 C dX6_shift_112 ?_
        refine g_if_neN C 120 (by omega) dX6_shift_113 (by decide) (fun h113 => ?_) (fun h113 => ?_)
        · -- X6_shift 113t
          have hr : a_shift S w = zB2 (zShf S.1 S.2.1 (cS S.1)) := by unfold a_shift; rw [hz]; simp only; rw [htopS]; cases zShf S.1 S.2.1 (cS S.1) with | none => rfl | some b => exact if_neg (by omega)
          refine g_iload3 C dX6_shift_120 ?_
          exact g_reti M dX6_shift_121 (by rw [hr]; exact zOutM.mk' rfl hR' (fun a ha => hf.1 a (by omega) (by omega) (by omega) (by omega)) (fun _ _ => rfl))
        · -- X6_shift 113f
          have hr : a_shift S w = zB1 (zShf S.1 S.2.1 (cS S.1)) := by unfold a_shift; rw [hz]; simp only; rw [htopS]; cases zShf S.1 S.2.1 (cS S.1) with | none => rfl | some b => exact if_pos h113
          refine g_iload2 C dX6_shift_116 ?_
          refine g_goto C 121 dX6_shift_117 (by decide) ?_
          exact g_reti M dX6_shift_121 (by rw [hr]; exact zOutM.mk' rfl hR' (fun a ha => hf.1 a (by omega) (by omega) (by omega) (by omega)) (fun _ _ => rfl))
      · -- X6_shift 28f
        have hk8 : k < 8 := by omega
        refine g_aload0 C dX6_shift_31 ?_
        refine g_getRT C dX6_shift_32 flX6_19 (show 56 < 68 by decide) rfl rfl (by decide) ?_
        refine g_iconst C (nI 2) dX6_shift_35 (by decide) ?_
        refine g_iload4 C dX6_shift_36 ?_
        refine g_iaddN C dX6_shift_38 ?_
        refine g_ialdE C (hR'.2.1.2.2.1 k hk8) (by omega) (by decide) dX6_shift_39 (show 60 < 68 by decide) rfl ?_
        refine g_if_lt C 106 dX6_shift_40 (by decide) (fun h40 => ?_) (fun h40 => ?_)
        · -- X6_shift 40t
          have hq := zS1_neg h40 (fun s h => by have := hS.w k s hk8 h; omega)
          refine g_iinc4N C dX6_shift_106 ?_
          refine g_goto C 20 dX6_shift_109 (by decide) ?_
          refine g_set (L' := [some (.ref 56), some (.int (nI j)), some (.int (zB1 (zShf S.1 S.2.1 (k + 1)))), some (.int (zB2 (zShf S.1 S.2.1 (k + 1)))), some (.int (nI (k + 1))), x, y]) rfl (by rw [show zShf S.1 S.2.1 (k + 1) = zShf S.1 S.2.1 k from by rw [zShf, hq]]) rfl ?_
          exact ih c' j (k + 1) _ _ hz hj (by omega) hf (by omega)
        · -- X6_shift 40f
          obtain ⟨q, hq⟩ := zS1_pos h40
          have hq7 := hS.w k q hk8 hq
          refine g_aload0 C dX6_shift_43 ?_
          refine g_callV0i C dX6_shift_44 vlX6_114 (n_there hS hR') hKd (by first | decide | omega) rfl (Nat.le_of_ble_eq_true rfl) (show 56 < 68 by decide) rfl ?_
          rintro _ _ ⟨rfl, rfl⟩
          refine g_iconst C (nI 1) dX6_shift_47 (by decide) ?_
          refine g_aload0 C dX6_shift_48 ?_
          refine g_getRT C dX6_shift_49 flX6_19 (show 56 < 68 by decide) rfl rfl (by decide) ?_
          refine g_iconst C (nI 2) dX6_shift_52 (by decide) ?_
          refine g_iload4 C dX6_shift_53 ?_
          refine g_iaddN C dX6_shift_55 ?_
          refine g_ialdE C ((hR'.2.1.2.2.1 k hk8).trans (show zS1 (mW S.2.1 k) = nI q from congrArg zS1 hq)) (by omega) (by decide) dX6_shift_56 (show 60 < 68 by decide) rfl ?_
          refine g_ishlN C dX6_shift_57 (by omega) ?_
          refine g_iconst C (nI 4294967295) dX6_shift_58 (by decide) ?_
          refine g_ixorN C dX6_shift_59 ?_
          refine g_iandN C dX6_shift_60 ?_
          refine g_istore5 C dX6_shift_61 ?_
          refine g_set (L' := [some (.ref 56), some (.int (nI j)), some (.int (zB1 (zShf S.1 S.2.1 k))), some (.int (zB2 (zShf S.1 S.2.1 k))), some (.int (nI k)), some (.int (nI (zThX (mW S.2.1) (nI k) 8))), y]) rfl (by rw [zThX_is hS.inj hk8 (by omega) hS.w hq]) rfl ?_
          have hT7 := zThX_lt (x := nI k) hS.w 8 (Nat.le_refl 8)
          refine g_aload0 C dX6_shift_63 ?_
          refine g_iload5 C dX6_shift_64 ?_
          refine g_callV1v C dX6_shift_66 vlX6_130 (n_lays hS hR' hT7 (fun s hs => by obtain ⟨j2, h1, h2, _⟩ := zThX_bit 8 hs; exact (hS.2.1.2.2.1 j2 s h1 h2).1)) hKd (by first | decide | omega) rfl (Nat.le_of_ble_eq_true rfl) (show 56 < 68 by decide) rfl ?_
          rintro _ ⟨c2, rfl, hrw, hf1⟩
          have hQ := RwQ_of hrw hT7
          have hf2 : FrL 0 c c2 := hf.tr hf1
          refine g_aload0 C dX6_shift_69 ?_
          refine g_iload5 C dX6_shift_70 ?_
          refine g_callV1i C dX6_shift_72 vlX6_138 (n_firsts hQ) hKd (by first | decide | omega) rfl (Nat.le_of_ble_eq_true rfl) (show 56 < 68 by decide) rfl ?_
          rintro _ _ ⟨rfl, rfl⟩
          refine g_callS1i C dX6_shift_75 slX6_95 (n_ones (zand_r (by omega))) hKd (by first | decide | omega) rfl (Nat.le_of_ble_eq_true rfl) ?_
          rintro _ _ ⟨rfl, rfl⟩
          refine g_istore6 C dX6_shift_78 ?_
          have hf8 : zFk S.1 S.2.1 k ≤ 8 := zp8_8 _
          rcases hb : zShf S.1 S.2.1 k with _ | b
          · refine g_set (L' := [some (.ref 56), some (.int (nI j)), some (.int (zB1 none)), some (.int (zB2 none)), some (.int (nI k)), some (.int (nI (zThX (mW S.2.1) (nI k) 8))), some (.int (nI (zFk S.1 S.2.1 k)))]) rfl rfl rfl ?_
            refine g_iload6 C dX6_shift_80 ?_
            refine g_iload3 C dX6_shift_82 ?_
            refine g_icmp_le C 91 dX6_shift_83 (by decide) (fun h83 => absurd h83 (by exact zf_m9 _ hf8)) (fun h83 => ?_)
            refine g_iload4 C dX6_shift_86 ?_
            refine g_goto C 92 dX6_shift_88 (by decide) ?_
            refine g_istore2 C dX6_shift_92 ?_
            refine g_iload6 C dX6_shift_93 ?_
            refine g_iload3 C dX6_shift_95 ?_
            refine g_icmp_le C 104 dX6_shift_96 (by decide) (fun h96 => absurd h96 (by exact zf_m9 _ hf8)) (fun h96 => ?_)
            refine g_iload6 C dX6_shift_99 ?_
            refine g_goto C 105 dX6_shift_101 (by decide) ?_
            refine g_istore3 C dX6_shift_105 ?_
            refine g_set (L' := [some (.ref 56), some (.int (nI j)), some (.int (zB1 (zShf S.1 S.2.1 (k + 1)))), some (.int (zB2 (zShf S.1 S.2.1 (k + 1)))), some (.int (nI k)), some (.int (nI (zThX (mW S.2.1) (nI k) 8))), some (.int (nI (zFk S.1 S.2.1 k)))]) rfl (by rw [show zShf S.1 S.2.1 (k + 1) = some (k, zFk S.1 S.2.1 k) from by rw [zShf, hq]; simp only; rw [hb]]; rfl) rfl ?_
            refine g_iinc4N C dX6_shift_106 ?_
            refine g_goto C 20 dX6_shift_109 (by decide) ?_
            exact ih c2 j (k + 1) _ _ hz hj (by omega) hf2 (by omega)
          · have hb8 := (zShf_le S.1 S.2.1 k b hb).1
            have hb1 := (zShf_le S.1 S.2.1 k b hb).2
            refine g_set (L' := [some (.ref 56), some (.int (nI j)), some (.int (nI b.1)), some (.int (nI b.2)), some (.int (nI k)), some (.int (nI (zThX (mW S.2.1) (nI k) 8))), some (.int (nI (zFk S.1 S.2.1 k)))]) rfl rfl rfl ?_
            refine g_iload6 C dX6_shift_80 ?_
            refine g_iload3 C dX6_shift_82 ?_
            refine g_icmp_leN C 91 (by omega) (by omega) dX6_shift_83 (by decide) (fun h83 => ?_) (fun h83 => ?_)
            · skip
              refine g_iload2 C dX6_shift_91 ?_
              refine g_istore2 C dX6_shift_92 ?_
              refine g_iload6 C dX6_shift_93 ?_
              refine g_iload3 C dX6_shift_95 ?_
              refine g_icmp_leN C 104 (by omega) (by omega) dX6_shift_96 (by decide) (fun h96 => ?_) (fun h96 => absurd h96 (by omega))
              refine g_iload3 C dX6_shift_104 ?_
              refine g_istore3 C dX6_shift_105 ?_
              refine g_set (L' := [some (.ref 56), some (.int (nI j)), some (.int (zB1 (zShf S.1 S.2.1 (k + 1)))), some (.int (zB2 (zShf S.1 S.2.1 (k + 1)))), some (.int (nI k)), some (.int (nI (zThX (mW S.2.1) (nI k) 8))), some (.int (nI (zFk S.1 S.2.1 k)))]) rfl (by rw [show zShf S.1 S.2.1 (k + 1) = some b from by rw [zShf, hq]; simp only; rw [hb]; exact if_neg (by omega)]; rfl) rfl ?_
              refine g_iinc4N C dX6_shift_106 ?_
              refine g_goto C 20 dX6_shift_109 (by decide) ?_
              exact ih c2 j (k + 1) _ _ hz hj (by omega) hf2 (by omega)
            · skip
              refine g_iload4 C dX6_shift_86 ?_
              refine g_goto C 92 dX6_shift_88 (by decide) ?_
              refine g_istore2 C dX6_shift_92 ?_
              refine g_iload6 C dX6_shift_93 ?_
              refine g_iload3 C dX6_shift_95 ?_
              refine g_icmp_leN C 104 (by omega) (by omega) dX6_shift_96 (by decide) (fun h96 => absurd h96 (by omega)) (fun h96 => ?_)
              refine g_iload6 C dX6_shift_99 ?_
              refine g_goto C 105 dX6_shift_101 (by decide) ?_
              refine g_istore3 C dX6_shift_105 ?_
              refine g_set (L' := [some (.ref 56), some (.int (nI j)), some (.int (zB1 (zShf S.1 S.2.1 (k + 1)))), some (.int (zB2 (zShf S.1 S.2.1 (k + 1)))), some (.int (nI k)), some (.int (nI (zThX (mW S.2.1) (nI k) 8))), some (.int (nI (zFk S.1 S.2.1 k)))]) rfl (by rw [show zShf S.1 S.2.1 (k + 1) = some (k, zFk S.1 S.2.1 k) from by rw [zShf, hq]; simp only; rw [hb]; exact if_pos h83]; rfl) rfl ?_
              refine g_iinc4N C dX6_shift_106 ?_
              refine g_goto C 20 dX6_shift_109 (by decide) ?_
              exact ih c2 j (k + 1) _ _ hz hj (by omega) hf2 (by omega)
  refine g_iload1 C dX6_shift_0 ?_
  refine g_iconst C (nI 0) dX6_shift_1 (by decide) ?_
  refine g_iconst C (nI 1) dX6_shift_2 (by decide) ?_
  refine g_callS3i C dX6_shift_3 slX6_52 (n_in) hKd (by first | decide | omega) rfl (Nat.le_of_ble_eq_true rfl) ?_
  rintro _ _ ⟨rfl, rfl⟩
  rw [zIn_ix (n := 2) (by decide) (by decide)]
  refine g_if_neB C 11 dX6_shift_6 (by decide) (fun h6 => ?_) (fun h6 => ?_)
  · -- X6_shift 6t
    obtain ⟨j, hz⟩ := zsome_t h6
    obtain ⟨hj, hw⟩ := zIdx_iff hz
    rw [hw]
    refine g_bipush C (-9) dX6_shift_11 (by decide) ?_
    refine g_istore2 C dX6_shift_13 ?_
    refine g_bipush C (-9) dX6_shift_14 (by decide) ?_
    refine g_istore3 C dX6_shift_16 ?_
    refine g_iconst C (nI 0) dX6_shift_17 (by decide) ?_
    refine g_istore4 C dX6_shift_18 ?_
    exact H20 (cS S.1 + 1) c j 0 _ _ hz hj (Nat.zero_le _) (FrL.rf 0 c) (by omega)
  · -- X6_shift 6f
    have hz := zsome_f h6
    have hr : a_shift S w = -1 := by unfold a_shift; rw [hz]
    refine g_iconst C (-1) dX6_shift_9 (by decide) ?_
    exact g_reti M dX6_shift_10 (by rw [hr]; exact zOutM.same hR)
