set_option maxRecDepth 100000 in
set_option maxHeartbeats 4000000 in
theorem q_rate {Γ : zG} {c : Nat → Nat → Int32} {t : Nat → Int64} {S : zAb} (hS : OkS S) (hR : RepM c t S) {k s : Int32} : Sp Γ 5 mX6_rate [.ref 56, .int k, .int s] 0 0 (wF c t) (z_pi (zOutM c t ((a_rate S k s).1) ((a_rate S k s).2))) := by
  refine Sp.of (own := RX6) 3 false rfl (by decide +kernel) rfl rfl (fun h => by cases h) (fun K hKd M => ?_)
  have C := M.1
  show GG Γ K 0 0 (wF c t) 0 [some (.ref 56), some (.int k), some (.int s), none, none, none] []
  refine g_iload1 C dX6_rate_0 ?_
  refine g_iconst C (nI 0) dX6_rate_1 (by decide) ?_
  refine g_iconst C (nI 5) dX6_rate_2 (by decide) ?_
  refine g_callS3i C dX6_rate_3 slX6_52 (n_in) hKd (by first | decide | omega) rfl (Nat.le_of_ble_eq_true rfl) ?_
  rintro _ _ ⟨rfl, rfl⟩
  rw [zIn_ix (n := 6) (by decide) (by decide)]
  refine g_if_eqB C 17 dX6_rate_6 (by decide) (fun h6 => ?_) (fun h6 => ?_)
  · -- X6_rate 6t
    have hz2 := zsome_f h6
    have hr : a_rate S k s = (-1000000, S) := by unfold a_rate; rw [hz2]; cases zIdx s (cN S.1) <;> rfl
    refine g_ldc C _ dX6_rate_17 kkX6_157 ?_
    exact g_reti M dX6_rate_19 (by rw [hr]; exact zOutM.same hR)
  · -- X6_rate 6f
    obtain ⟨j, hz2⟩ := zsome_t h6
    obtain ⟨hj, hk⟩ := zIdx_iff hz2
    refine g_aload0 C dX6_rate_9 ?_
    refine g_iload2 C dX6_rate_10 ?_
    refine g_callV1i C dX6_rate_11 vlX6_102 (n_isSailor hS hR) hKd (by first | decide | omega) rfl (Nat.le_of_ble_eq_true rfl) (show 56 < 68 by decide) rfl ?_
    rintro _ _ ⟨rfl, rfl⟩
    refine g_if_neB C 20 dX6_rate_14 (by decide) (fun h14 => ?_) (fun h14 => ?_)
    · -- X6_rate 14t
      obtain ⟨i, hz⟩ := zsome_t h14
      obtain ⟨hi, hs⟩ := zIdx_iff hz
      rw [hs, hk]
      rw [hs] at hz
      rw [hk] at hz2
      have hi7 : i < 7 := by have := hS.1.1; omega
      rcases (show j = 0 ∨ j = 1 ∨ j = 2 ∨ j = 3 ∨ j = 4 ∨ j = 5 by omega) with rfl | rfl | rfl | rfl | rfl | rfl
      · -- case
        have hr : a_rate S (nI 0) (nI i) = (zRv S.1 S.2.1 i 0, zAddT S (zRt 0)) := by unfold a_rate; rw [hz, hz2]
        generalize hzr : zRt 0 = r at hr
        refine g_aload0 C dX6_rate_20 ?_
        refine g_dup C dX6_rate_21 rfl ?_
        refine g_getLT C dX6_rate_22 flX6_158 (show 56 < 68 by decide) rfl rfl ?_
        refine g_iload1 C dX6_rate_25 ?_
        refine g_if_neN C 33 (by omega) dX6_rate_26 (by decide) (fun h26 => absurd h26 (by omega)) (fun h26 => ?_)
        refine g_lconst C 1 dX6_rate_29 (by decide) ?_
        refine g_goto C 80 dX6_rate_30 (by decide) ?_
        refine g_ladd C dX6_rate_80 ?_
        refine g_putL C dX6_rate_81 fpX6_158 (show 56 < 68 by decide) rfl rfl (zone6 rfl) ?_
        have hR1 : RepM c (z_upL t 56 (t 56 + (1 : Int64))) (zAddT S r) := hR.addM ((congrArg (· + (1 : Int64)) hR.2.2.2.2.2).trans (congrArg (S.2.2.2.2.2 + ·) ((show (1 : Int64) = zRt 0 from rfl).trans hzr)))
        have hS1 : OkS (zAddT S r) := hS
        refine g_aload0 C dX6_rate_84 ?_
        refine g_getRT C dX6_rate_85 flX6_13 (show 56 < 68 by decide) rfl rfl (by decide) ?_
        refine g_bipush C (nI 12) dX6_rate_88 (by decide) ?_
        refine g_iload2 C dX6_rate_90 ?_
        refine g_iaddN C dX6_rate_91 ?_
        refine g_ialdE C (hR.1.2.2.2.2.1 i hi) (by omega) (by decide) dX6_rate_92 (show 58 < 68 by decide) rfl ?_
        refine g_istore3 C dX6_rate_93 ?_
        refine g_iload3 C dX6_rate_94 ?_
        refine g_aload0 C dX6_rate_95 ?_
        refine g_iload2 C dX6_rate_96 ?_
        refine g_callV1i C dX6_rate_97 vlX6_127 (n_inkOf (S := zAddT S r) hS1 hR1 hi) hKd (by first | decide | omega) rfl (Nat.le_of_ble_eq_true rfl) (show 56 < 68 by decide) rfl ?_
        rintro _ _ ⟨rfl, rfl⟩
        refine g_iaddN C dX6_rate_100 ?_
        refine g_istore4 C dX6_rate_101 ?_
        refine g_iload3 C dX6_rate_103 ?_
        refine g_aload0 C dX6_rate_104 ?_
        refine g_getRT C dX6_rate_105 flX6_13 (show 56 < 68 by decide) rfl rfl (by decide) ?_
        refine g_bipush C (nI 19) dX6_rate_108 (by decide) ?_
        refine g_iload2 C dX6_rate_110 ?_
        refine g_iaddN C dX6_rate_111 ?_
        refine g_ialdE C (hR.1.2.2.2.2.2 i hi) (by omega) (by decide) dX6_rate_112 (show 58 < 68 by decide) rfl ?_
        refine g_callS1i C dX6_rate_113 slX6_95 (n_ones (by have := zTm_lt hS.1 i; omega)) hKd (by first | decide | omega) rfl (Nat.le_of_ble_eq_true rfl) ?_
        rintro _ _ ⟨rfl, rfl⟩
        refine g_isub C dX6_rate_116 ?_
        refine g_istore5 C dX6_rate_117 ?_
        refine g_iload1 C dX6_rate_119 ?_
        refine g_if_neN C 127 (by omega) dX6_rate_120 (by decide) (fun h120 => absurd h120 (by omega)) (fun h120 => ?_)
        refine g_iload3 C dX6_rate_123 ?_
        refine g_goto C 179 dX6_rate_124 (by decide) ?_
        exact g_reti M dX6_rate_179 (by rw [hs, hk, hr]; exact zOutM.mk' rfl hR1 (fun _ _ => rfl) (fun a ha => upL_k ha))
      · -- case
        have hr : a_rate S (nI 1) (nI i) = (zRv S.1 S.2.1 i 1, zAddT S (zRt 1)) := by unfold a_rate; rw [hz, hz2]
        generalize hzr : zRt 1 = r at hr
        refine g_aload0 C dX6_rate_20 ?_
        refine g_dup C dX6_rate_21 rfl ?_
        refine g_getLT C dX6_rate_22 flX6_158 (show 56 < 68 by decide) rfl rfl ?_
        refine g_iload1 C dX6_rate_25 ?_
        refine g_if_neN C 33 (by omega) dX6_rate_26 (by decide) (fun h26 => ?_) (fun h26 => absurd h26 (by omega))
        refine g_iload1 C dX6_rate_33 ?_
        refine g_iconst C (nI 1) dX6_rate_34 (by decide) ?_
        refine g_icmp_neN C 44 (by omega) (by omega) dX6_rate_35 (by decide) (fun h35 => absurd h35 (by omega)) (fun h35 => ?_)
        refine g_ldc2 C _ dX6_rate_38 kkX6_162 ?_
        refine g_goto C 80 dX6_rate_41 (by decide) ?_
        refine g_ladd C dX6_rate_80 ?_
        refine g_putL C dX6_rate_81 fpX6_158 (show 56 < 68 by decide) rfl rfl (zone6 rfl) ?_
        have hR1 : RepM c (z_upL t 56 (t 56 + (11 : Int64))) (zAddT S r) := hR.addM ((congrArg (· + (11 : Int64)) hR.2.2.2.2.2).trans (congrArg (S.2.2.2.2.2 + ·) ((show (11 : Int64) = zRt 1 from rfl).trans hzr)))
        have hS1 : OkS (zAddT S r) := hS
        refine g_aload0 C dX6_rate_84 ?_
        refine g_getRT C dX6_rate_85 flX6_13 (show 56 < 68 by decide) rfl rfl (by decide) ?_
        refine g_bipush C (nI 12) dX6_rate_88 (by decide) ?_
        refine g_iload2 C dX6_rate_90 ?_
        refine g_iaddN C dX6_rate_91 ?_
        refine g_ialdE C (hR.1.2.2.2.2.1 i hi) (by omega) (by decide) dX6_rate_92 (show 58 < 68 by decide) rfl ?_
        refine g_istore3 C dX6_rate_93 ?_
        refine g_iload3 C dX6_rate_94 ?_
        refine g_aload0 C dX6_rate_95 ?_
        refine g_iload2 C dX6_rate_96 ?_
        refine g_callV1i C dX6_rate_97 vlX6_127 (n_inkOf (S := zAddT S r) hS1 hR1 hi) hKd (by first | decide | omega) rfl (Nat.le_of_ble_eq_true rfl) (show 56 < 68 by decide) rfl ?_
        rintro _ _ ⟨rfl, rfl⟩
        refine g_iaddN C dX6_rate_100 ?_
        refine g_istore4 C dX6_rate_101 ?_
        refine g_iload3 C dX6_rate_103 ?_
        refine g_aload0 C dX6_rate_104 ?_
        refine g_getRT C dX6_rate_105 flX6_13 (show 56 < 68 by decide) rfl rfl (by decide) ?_
        refine g_bipush C (nI 19) dX6_rate_108 (by decide) ?_
        refine g_iload2 C dX6_rate_110 ?_
        refine g_iaddN C dX6_rate_111 ?_
        refine g_ialdE C (hR.1.2.2.2.2.2 i hi) (by omega) (by decide) dX6_rate_112 (show 58 < 68 by decide) rfl ?_
        refine g_callS1i C dX6_rate_113 slX6_95 (n_ones (by have := zTm_lt hS.1 i; omega)) hKd (by first | decide | omega) rfl (Nat.le_of_ble_eq_true rfl) ?_
        rintro _ _ ⟨rfl, rfl⟩
        refine g_isub C dX6_rate_116 ?_
        refine g_istore5 C dX6_rate_117 ?_
        refine g_iload1 C dX6_rate_119 ?_
        refine g_if_neN C 127 (by omega) dX6_rate_120 (by decide) (fun h120 => ?_) (fun h120 => absurd h120 (by omega))
        refine g_iload1 C dX6_rate_127 ?_
        refine g_iconst C (nI 1) dX6_rate_128 (by decide) ?_
        refine g_icmp_neN C 137 (by omega) (by omega) dX6_rate_129 (by decide) (fun h129 => absurd h129 (by omega)) (fun h129 => ?_)
        refine g_iload4 C dX6_rate_132 ?_
        refine g_goto C 179 dX6_rate_134 (by decide) ?_
        exact g_reti M dX6_rate_179 (by rw [hs, hk, hr]; exact zOutM.mk' rfl hR1 (fun _ _ => rfl) (fun a ha => upL_k ha))
      · -- case
        have hr : a_rate S (nI 2) (nI i) = (zRv S.1 S.2.1 i 2, zAddT S (zRt 2)) := by unfold a_rate; rw [hz, hz2]
        generalize hzr : zRt 2 = r at hr
        refine g_aload0 C dX6_rate_20 ?_
        refine g_dup C dX6_rate_21 rfl ?_
        refine g_getLT C dX6_rate_22 flX6_158 (show 56 < 68 by decide) rfl rfl ?_
        refine g_iload1 C dX6_rate_25 ?_
        refine g_if_neN C 33 (by omega) dX6_rate_26 (by decide) (fun h26 => ?_) (fun h26 => absurd h26 (by omega))
        refine g_iload1 C dX6_rate_33 ?_
        refine g_iconst C (nI 1) dX6_rate_34 (by decide) ?_
        refine g_icmp_neN C 44 (by omega) (by omega) dX6_rate_35 (by decide) (fun h35 => ?_) (fun h35 => absurd h35 (by omega))
        refine g_iload1 C dX6_rate_44 ?_
        refine g_iconst C (nI 2) dX6_rate_45 (by decide) ?_
        refine g_icmp_neN C 55 (by omega) (by omega) dX6_rate_46 (by decide) (fun h46 => absurd h46 (by omega)) (fun h46 => ?_)
        refine g_ldc2 C _ dX6_rate_49 kkX6_164 ?_
        refine g_goto C 80 dX6_rate_52 (by decide) ?_
        refine g_ladd C dX6_rate_80 ?_
        refine g_putL C dX6_rate_81 fpX6_158 (show 56 < 68 by decide) rfl rfl (zone6 rfl) ?_
        have hR1 : RepM c (z_upL t 56 (t 56 + (101 : Int64))) (zAddT S r) := hR.addM ((congrArg (· + (101 : Int64)) hR.2.2.2.2.2).trans (congrArg (S.2.2.2.2.2 + ·) ((show (101 : Int64) = zRt 2 from rfl).trans hzr)))
        have hS1 : OkS (zAddT S r) := hS
        refine g_aload0 C dX6_rate_84 ?_
        refine g_getRT C dX6_rate_85 flX6_13 (show 56 < 68 by decide) rfl rfl (by decide) ?_
        refine g_bipush C (nI 12) dX6_rate_88 (by decide) ?_
        refine g_iload2 C dX6_rate_90 ?_
        refine g_iaddN C dX6_rate_91 ?_
        refine g_ialdE C (hR.1.2.2.2.2.1 i hi) (by omega) (by decide) dX6_rate_92 (show 58 < 68 by decide) rfl ?_
        refine g_istore3 C dX6_rate_93 ?_
        refine g_iload3 C dX6_rate_94 ?_
        refine g_aload0 C dX6_rate_95 ?_
        refine g_iload2 C dX6_rate_96 ?_
        refine g_callV1i C dX6_rate_97 vlX6_127 (n_inkOf (S := zAddT S r) hS1 hR1 hi) hKd (by first | decide | omega) rfl (Nat.le_of_ble_eq_true rfl) (show 56 < 68 by decide) rfl ?_
        rintro _ _ ⟨rfl, rfl⟩
        refine g_iaddN C dX6_rate_100 ?_
        refine g_istore4 C dX6_rate_101 ?_
        refine g_iload3 C dX6_rate_103 ?_
        refine g_aload0 C dX6_rate_104 ?_
        refine g_getRT C dX6_rate_105 flX6_13 (show 56 < 68 by decide) rfl rfl (by decide) ?_
        refine g_bipush C (nI 19) dX6_rate_108 (by decide) ?_
        refine g_iload2 C dX6_rate_110 ?_
        refine g_iaddN C dX6_rate_111 ?_
        refine g_ialdE C (hR.1.2.2.2.2.2 i hi) (by omega) (by decide) dX6_rate_112 (show 58 < 68 by decide) rfl ?_
        refine g_callS1i C dX6_rate_113 slX6_95 (n_ones (by have := zTm_lt hS.1 i; omega)) hKd (by first | decide | omega) rfl (Nat.le_of_ble_eq_true rfl) ?_
        rintro _ _ ⟨rfl, rfl⟩
        refine g_isub C dX6_rate_116 ?_
        refine g_istore5 C dX6_rate_117 ?_
        refine g_iload1 C dX6_rate_119 ?_
        refine g_if_neN C 127 (by omega) dX6_rate_120 (by decide) (fun h120 => ?_) (fun h120 => absurd h120 (by omega))
        refine g_iload1 C dX6_rate_127 ?_
        refine g_iconst C (nI 1) dX6_rate_128 (by decide) ?_
        refine g_icmp_neN C 137 (by omega) (by omega) dX6_rate_129 (by decide) (fun h129 => ?_) (fun h129 => absurd h129 (by omega))
        refine g_iload1 C dX6_rate_137 ?_
        refine g_iconst C (nI 2) dX6_rate_138 (by decide) ?_
        refine g_icmp_neN C 147 (by omega) (by omega) dX6_rate_139 (by decide) (fun h139 => absurd h139 (by omega)) (fun h139 => ?_)
        refine g_iload5 C dX6_rate_142 ?_
        refine g_goto C 179 dX6_rate_144 (by decide) ?_
        exact g_reti M dX6_rate_179 (by rw [hs, hk, hr]; exact zOutM.mk' rfl hR1 (fun _ _ => rfl) (fun a ha => upL_k ha))
      · -- case
        have hr : a_rate S (nI 3) (nI i) = (zRv S.1 S.2.1 i 3, zAddT S (zRt 3)) := by unfold a_rate; rw [hz, hz2]
        generalize hzr : zRt 3 = r at hr
        refine g_aload0 C dX6_rate_20 ?_
        refine g_dup C dX6_rate_21 rfl ?_
        refine g_getLT C dX6_rate_22 flX6_158 (show 56 < 68 by decide) rfl rfl ?_
        refine g_iload1 C dX6_rate_25 ?_
        refine g_if_neN C 33 (by omega) dX6_rate_26 (by decide) (fun h26 => ?_) (fun h26 => absurd h26 (by omega))
        refine g_iload1 C dX6_rate_33 ?_
        refine g_iconst C (nI 1) dX6_rate_34 (by decide) ?_
        refine g_icmp_neN C 44 (by omega) (by omega) dX6_rate_35 (by decide) (fun h35 => ?_) (fun h35 => absurd h35 (by omega))
        refine g_iload1 C dX6_rate_44 ?_
        refine g_iconst C (nI 2) dX6_rate_45 (by decide) ?_
        refine g_icmp_neN C 55 (by omega) (by omega) dX6_rate_46 (by decide) (fun h46 => ?_) (fun h46 => absurd h46 (by omega))
        refine g_iload1 C dX6_rate_55 ?_
        refine g_iconst C (nI 3) dX6_rate_56 (by decide) ?_
        refine g_icmp_neN C 66 (by omega) (by omega) dX6_rate_57 (by decide) (fun h57 => absurd h57 (by omega)) (fun h57 => ?_)
        refine g_ldc2 C _ dX6_rate_60 kkX6_166 ?_
        refine g_goto C 80 dX6_rate_63 (by decide) ?_
        refine g_ladd C dX6_rate_80 ?_
        refine g_putL C dX6_rate_81 fpX6_158 (show 56 < 68 by decide) rfl rfl (zone6 rfl) ?_
        have hR1 : RepM c (z_upL t 56 (t 56 + (1011 : Int64))) (zAddT S r) := hR.addM ((congrArg (· + (1011 : Int64)) hR.2.2.2.2.2).trans (congrArg (S.2.2.2.2.2 + ·) ((show (1011 : Int64) = zRt 3 from rfl).trans hzr)))
        have hS1 : OkS (zAddT S r) := hS
        refine g_aload0 C dX6_rate_84 ?_
        refine g_getRT C dX6_rate_85 flX6_13 (show 56 < 68 by decide) rfl rfl (by decide) ?_
        refine g_bipush C (nI 12) dX6_rate_88 (by decide) ?_
        refine g_iload2 C dX6_rate_90 ?_
        refine g_iaddN C dX6_rate_91 ?_
        refine g_ialdE C (hR.1.2.2.2.2.1 i hi) (by omega) (by decide) dX6_rate_92 (show 58 < 68 by decide) rfl ?_
        refine g_istore3 C dX6_rate_93 ?_
        refine g_iload3 C dX6_rate_94 ?_
        refine g_aload0 C dX6_rate_95 ?_
        refine g_iload2 C dX6_rate_96 ?_
        refine g_callV1i C dX6_rate_97 vlX6_127 (n_inkOf (S := zAddT S r) hS1 hR1 hi) hKd (by first | decide | omega) rfl (Nat.le_of_ble_eq_true rfl) (show 56 < 68 by decide) rfl ?_
        rintro _ _ ⟨rfl, rfl⟩
        refine g_iaddN C dX6_rate_100 ?_
        refine g_istore4 C dX6_rate_101 ?_
        refine g_iload3 C dX6_rate_103 ?_
        refine g_aload0 C dX6_rate_104 ?_
        refine g_getRT C dX6_rate_105 flX6_13 (show 56 < 68 by decide) rfl rfl (by decide) ?_
        refine g_bipush C (nI 19) dX6_rate_108 (by decide) ?_
        refine g_iload2 C dX6_rate_110 ?_
        refine g_iaddN C dX6_rate_111 ?_
        refine g_ialdE C (hR.1.2.2.2.2.2 i hi) (by omega) (by decide) dX6_rate_112 (show 58 < 68 by decide) rfl ?_
        refine g_callS1i C dX6_rate_113 slX6_95 (n_ones (by have := zTm_lt hS.1 i; omega)) hKd (by first | decide | omega) rfl (Nat.le_of_ble_eq_true rfl) ?_
        rintro _ _ ⟨rfl, rfl⟩
        refine g_isub C dX6_rate_116 ?_
        refine g_istore5 C dX6_rate_117 ?_
        refine g_iload1 C dX6_rate_119 ?_
        refine g_if_neN C 127 (by omega) dX6_rate_120 (by decide) (fun h120 => ?_) (fun h120 => absurd h120 (by omega))
        refine g_iload1 C dX6_rate_127 ?_
        refine g_iconst C (nI 1) dX6_rate_128 (by decide) ?_
        refine g_icmp_neN C 137 (by omega) (by omega) dX6_rate_129 (by decide) (fun h129 => ?_) (fun h129 => absurd h129 (by omega))
        refine g_iload1 C dX6_rate_137 ?_
        refine g_iconst C (nI 2) dX6_rate_138 (by decide) ?_
        refine g_icmp_neN C 147 (by omega) (by omega) dX6_rate_139 (by decide) (fun h139 => ?_) (fun h139 => absurd h139 (by omega))
        refine g_iload1 C dX6_rate_147 ?_
        refine g_iconst C (nI 3) dX6_rate_148 (by decide) ?_
        refine g_icmp_neN C 159 (by omega) (by omega) dX6_rate_149 (by decide) (fun h149 => absurd h149 (by omega)) (fun h149 => ?_)
        refine g_iconst C (nI 2) dX6_rate_152 (by decide) ?_
        refine g_iload4 C dX6_rate_153 ?_
        refine g_imulN C dX6_rate_155 ?_
        refine g_goto C 179 dX6_rate_156 (by decide) ?_
        exact g_reti M dX6_rate_179 (by rw [hs, hk, hr]; exact zOutM.mk' rfl hR1 (fun _ _ => rfl) (fun a ha => upL_k ha))
      · -- case
        have hr : a_rate S (nI 4) (nI i) = (zRv S.1 S.2.1 i 4, zAddT S (zRt 4)) := by unfold a_rate; rw [hz, hz2]
        generalize hzr : zRt 4 = r at hr
        refine g_aload0 C dX6_rate_20 ?_
        refine g_dup C dX6_rate_21 rfl ?_
        refine g_getLT C dX6_rate_22 flX6_158 (show 56 < 68 by decide) rfl rfl ?_
        refine g_iload1 C dX6_rate_25 ?_
        refine g_if_neN C 33 (by omega) dX6_rate_26 (by decide) (fun h26 => ?_) (fun h26 => absurd h26 (by omega))
        refine g_iload1 C dX6_rate_33 ?_
        refine g_iconst C (nI 1) dX6_rate_34 (by decide) ?_
        refine g_icmp_neN C 44 (by omega) (by omega) dX6_rate_35 (by decide) (fun h35 => ?_) (fun h35 => absurd h35 (by omega))
        refine g_iload1 C dX6_rate_44 ?_
        refine g_iconst C (nI 2) dX6_rate_45 (by decide) ?_
        refine g_icmp_neN C 55 (by omega) (by omega) dX6_rate_46 (by decide) (fun h46 => ?_) (fun h46 => absurd h46 (by omega))
        refine g_iload1 C dX6_rate_55 ?_
        refine g_iconst C (nI 3) dX6_rate_56 (by decide) ?_
        refine g_icmp_neN C 66 (by omega) (by omega) dX6_rate_57 (by decide) (fun h57 => ?_) (fun h57 => absurd h57 (by omega))
        refine g_iload1 C dX6_rate_66 ?_
        refine g_iconst C (nI 4) dX6_rate_67 (by decide) ?_
        refine g_icmp_neN C 77 (by omega) (by omega) dX6_rate_68 (by decide) (fun h68 => absurd h68 (by omega)) (fun h68 => ?_)
        refine g_ldc2 C _ dX6_rate_71 kkX6_168 ?_
        refine g_goto C 80 dX6_rate_74 (by decide) ?_
        refine g_ladd C dX6_rate_80 ?_
        refine g_putL C dX6_rate_81 fpX6_158 (show 56 < 68 by decide) rfl rfl (zone6 rfl) ?_
        have hR1 : RepM c (z_upL t 56 (t 56 + (10101 : Int64))) (zAddT S r) := hR.addM ((congrArg (· + (10101 : Int64)) hR.2.2.2.2.2).trans (congrArg (S.2.2.2.2.2 + ·) (zRt_4.symm.trans hzr)))
        have hS1 : OkS (zAddT S r) := hS
        refine g_aload0 C dX6_rate_84 ?_
        refine g_getRT C dX6_rate_85 flX6_13 (show 56 < 68 by decide) rfl rfl (by decide) ?_
        refine g_bipush C (nI 12) dX6_rate_88 (by decide) ?_
        refine g_iload2 C dX6_rate_90 ?_
        refine g_iaddN C dX6_rate_91 ?_
        refine g_ialdE C (hR.1.2.2.2.2.1 i hi) (by omega) (by decide) dX6_rate_92 (show 58 < 68 by decide) rfl ?_
        refine g_istore3 C dX6_rate_93 ?_
        refine g_iload3 C dX6_rate_94 ?_
        refine g_aload0 C dX6_rate_95 ?_
        refine g_iload2 C dX6_rate_96 ?_
        refine g_callV1i C dX6_rate_97 vlX6_127 (n_inkOf (S := zAddT S r) hS1 hR1 hi) hKd (by first | decide | omega) rfl (Nat.le_of_ble_eq_true rfl) (show 56 < 68 by decide) rfl ?_
        rintro _ _ ⟨rfl, rfl⟩
        refine g_iaddN C dX6_rate_100 ?_
        refine g_istore4 C dX6_rate_101 ?_
        refine g_iload3 C dX6_rate_103 ?_
        refine g_aload0 C dX6_rate_104 ?_
        refine g_getRT C dX6_rate_105 flX6_13 (show 56 < 68 by decide) rfl rfl (by decide) ?_
        refine g_bipush C (nI 19) dX6_rate_108 (by decide) ?_
        refine g_iload2 C dX6_rate_110 ?_
        refine g_iaddN C dX6_rate_111 ?_
        refine g_ialdE C (hR.1.2.2.2.2.2 i hi) (by omega) (by decide) dX6_rate_112 (show 58 < 68 by decide) rfl ?_
        refine g_callS1i C dX6_rate_113 slX6_95 (n_ones (by have := zTm_lt hS.1 i; omega)) hKd (by first | decide | omega) rfl (Nat.le_of_ble_eq_true rfl) ?_
        rintro _ _ ⟨rfl, rfl⟩
        refine g_isub C dX6_rate_116 ?_
        refine g_istore5 C dX6_rate_117 ?_
        refine g_iload1 C dX6_rate_119 ?_
        refine g_if_neN C 127 (by omega) dX6_rate_120 (by decide) (fun h120 => ?_) (fun h120 => absurd h120 (by omega))
        refine g_iload1 C dX6_rate_127 ?_
        refine g_iconst C (nI 1) dX6_rate_128 (by decide) ?_
        refine g_icmp_neN C 137 (by omega) (by omega) dX6_rate_129 (by decide) (fun h129 => ?_) (fun h129 => absurd h129 (by omega))
        refine g_iload1 C dX6_rate_137 ?_
        refine g_iconst C (nI 2) dX6_rate_138 (by decide) ?_
        refine g_icmp_neN C 147 (by omega) (by omega) dX6_rate_139 (by decide) (fun h139 => ?_) (fun h139 => absurd h139 (by omega))
        refine g_iload1 C dX6_rate_147 ?_
        refine g_iconst C (nI 3) dX6_rate_148 (by decide) ?_
        refine g_icmp_neN C 159 (by omega) (by omega) dX6_rate_149 (by decide) (fun h149 => ?_) (fun h149 => absurd h149 (by omega))
        refine g_iload1 C dX6_rate_159 ?_
        refine g_iconst C (nI 4) dX6_rate_160 (by decide) ?_
        refine g_icmp_neN C 171 (by omega) (by omega) dX6_rate_161 (by decide) (fun h161 => absurd h161 (by omega)) (fun h161 => ?_)
        refine g_iload5 C dX6_rate_164 ?_
        refine g_iload2 C dX6_rate_166 ?_
        refine g_iadd C dX6_rate_167 ?_
        refine g_goto C 179 dX6_rate_168 (by decide) ?_
        exact g_reti M dX6_rate_179 (by rw [hs, hk, hr]; exact zOutM.mk' rfl hR1 (fun _ _ => rfl) (fun a ha => upL_k ha))
      · -- case
        have hr : a_rate S (nI 5) (nI i) = (zRv S.1 S.2.1 i 5, zAddT S (zRt 5)) := by unfold a_rate; rw [hz, hz2]
        generalize hzr : zRt 5 = r at hr
        refine g_aload0 C dX6_rate_20 ?_
        refine g_dup C dX6_rate_21 rfl ?_
        refine g_getLT C dX6_rate_22 flX6_158 (show 56 < 68 by decide) rfl rfl ?_
        refine g_iload1 C dX6_rate_25 ?_
        refine g_if_neN C 33 (by omega) dX6_rate_26 (by decide) (fun h26 => ?_) (fun h26 => absurd h26 (by omega))
        refine g_iload1 C dX6_rate_33 ?_
        refine g_iconst C (nI 1) dX6_rate_34 (by decide) ?_
        refine g_icmp_neN C 44 (by omega) (by omega) dX6_rate_35 (by decide) (fun h35 => ?_) (fun h35 => absurd h35 (by omega))
        refine g_iload1 C dX6_rate_44 ?_
        refine g_iconst C (nI 2) dX6_rate_45 (by decide) ?_
        refine g_icmp_neN C 55 (by omega) (by omega) dX6_rate_46 (by decide) (fun h46 => ?_) (fun h46 => absurd h46 (by omega))
        refine g_iload1 C dX6_rate_55 ?_
        refine g_iconst C (nI 3) dX6_rate_56 (by decide) ?_
        refine g_icmp_neN C 66 (by omega) (by omega) dX6_rate_57 (by decide) (fun h57 => ?_) (fun h57 => absurd h57 (by omega))
        refine g_iload1 C dX6_rate_66 ?_
        refine g_iconst C (nI 4) dX6_rate_67 (by decide) ?_
        refine g_icmp_neN C 77 (by omega) (by omega) dX6_rate_68 (by decide) (fun h68 => ?_) (fun h68 => absurd h68 (by omega))
        refine g_ldc2 C _ dX6_rate_77 kkX6_170 ?_
        refine g_ladd C dX6_rate_80 ?_
        refine g_putL C dX6_rate_81 fpX6_158 (show 56 < 68 by decide) rfl rfl (zone6 rfl) ?_
        have hR1 : RepM c (z_upL t 56 (t 56 + (100001 : Int64))) (zAddT S r) := hR.addM ((congrArg (· + (100001 : Int64)) hR.2.2.2.2.2).trans (congrArg (S.2.2.2.2.2 + ·) (zRt_5.symm.trans hzr)))
        have hS1 : OkS (zAddT S r) := hS
        refine g_aload0 C dX6_rate_84 ?_
        refine g_getRT C dX6_rate_85 flX6_13 (show 56 < 68 by decide) rfl rfl (by decide) ?_
        refine g_bipush C (nI 12) dX6_rate_88 (by decide) ?_
        refine g_iload2 C dX6_rate_90 ?_
        refine g_iaddN C dX6_rate_91 ?_
        refine g_ialdE C (hR.1.2.2.2.2.1 i hi) (by omega) (by decide) dX6_rate_92 (show 58 < 68 by decide) rfl ?_
        refine g_istore3 C dX6_rate_93 ?_
        refine g_iload3 C dX6_rate_94 ?_
        refine g_aload0 C dX6_rate_95 ?_
        refine g_iload2 C dX6_rate_96 ?_
        refine g_callV1i C dX6_rate_97 vlX6_127 (n_inkOf (S := zAddT S r) hS1 hR1 hi) hKd (by first | decide | omega) rfl (Nat.le_of_ble_eq_true rfl) (show 56 < 68 by decide) rfl ?_
        rintro _ _ ⟨rfl, rfl⟩
        refine g_iaddN C dX6_rate_100 ?_
        refine g_istore4 C dX6_rate_101 ?_
        refine g_iload3 C dX6_rate_103 ?_
        refine g_aload0 C dX6_rate_104 ?_
        refine g_getRT C dX6_rate_105 flX6_13 (show 56 < 68 by decide) rfl rfl (by decide) ?_
        refine g_bipush C (nI 19) dX6_rate_108 (by decide) ?_
        refine g_iload2 C dX6_rate_110 ?_
        refine g_iaddN C dX6_rate_111 ?_
        refine g_ialdE C (hR.1.2.2.2.2.2 i hi) (by omega) (by decide) dX6_rate_112 (show 58 < 68 by decide) rfl ?_
        refine g_callS1i C dX6_rate_113 slX6_95 (n_ones (by have := zTm_lt hS.1 i; omega)) hKd (by first | decide | omega) rfl (Nat.le_of_ble_eq_true rfl) ?_
        rintro _ _ ⟨rfl, rfl⟩
        refine g_isub C dX6_rate_116 ?_
        refine g_istore5 C dX6_rate_117 ?_
        refine g_iload1 C dX6_rate_119 ?_
        refine g_if_neN C 127 (by omega) dX6_rate_120 (by decide) (fun h120 => ?_) (fun h120 => absurd h120 (by omega))
        refine g_iload1 C dX6_rate_127 ?_
        refine g_iconst C (nI 1) dX6_rate_128 (by decide) ?_
        refine g_icmp_neN C 137 (by omega) (by omega) dX6_rate_129 (by decide) (fun h129 => ?_) (fun h129 => absurd h129 (by omega))
        refine g_iload1 C dX6_rate_137 ?_
        refine g_iconst C (nI 2) dX6_rate_138 (by decide) ?_
        refine g_icmp_neN C 147 (by omega) (by omega) dX6_rate_139 (by decide) (fun h139 => ?_) (fun h139 => absurd h139 (by omega))
        refine g_iload1 C dX6_rate_147 ?_
        refine g_iconst C (nI 3) dX6_rate_148 (by decide) ?_
        refine g_icmp_neN C 159 (by omega) (by omega) dX6_rate_149 (by decide) (fun h149 => ?_) (fun h149 => absurd h149 (by omega))
        refine g_iload1 C dX6_rate_159 ?_
        refine g_iconst C (nI 4) dX6_rate_160 (by decide) ?_
        refine g_icmp_neN C 171 (by omega) (by omega) dX6_rate_161 (by decide) (fun h161 => ?_) (fun h161 => absurd h161 (by omega))
        refine g_iload3 C dX6_rate_171 ?_
        refine g_aload0 C dX6_rate_172 ?_
        refine g_getRT C dX6_rate_173 flX6_19 (show 56 < 68 by decide) rfl rfl (by decide) ?_
        refine g_iconst C (nI 0) dX6_rate_176 (by decide) ?_
        refine g_ialdE C hR.2.1.1 (by omega) (by decide) dX6_rate_177 (show 60 < 68 by decide) rfl ?_
        refine g_iaddN C dX6_rate_178 ?_
        exact g_reti M dX6_rate_179 (by rw [hs, hk, hr]; exact zOutM.mk' rfl hR1 (fun _ _ => rfl) (fun a ha => upL_k ha))
    · -- X6_rate 14f
      have hz := zsome_f h14
      have hr : a_rate S k s = (-1000000, S) := by unfold a_rate; rw [hz]
      refine g_ldc C _ dX6_rate_17 kkX6_157 ?_
      exact g_reti M dX6_rate_19 (by rw [hr]; exact zOutM.same hR)
set_option maxRecDepth 100000 in
set_option maxHeartbeats 4000000 in
theorem q_type {Γ : zG} {c : Nat → Nat → Int32} {t : Nat → Int64} {S : zAb} (hS : OkS S) (hR : RepM c t S) {x : Int32} : Sp Γ 2 mX6_type [.ref 56, .int x] 0 0 (wF c t) (z_pi (zOutM c t ((a_type S x).1) ((a_type S x).2))) := by
  refine Sp.of (own := RX6) 0 false rfl (by decide +kernel) rfl rfl (fun h => by cases h) (fun K hKd M => ?_)
  have C := M.1
  show GG Γ K 0 0 (wF c t) 0 [some (.ref 56), some (.int x)] []
  refine g_iload1 C dX6_type_0 ?_
  refine g_iconst C (nI 0) dX6_type_1 (by decide) ?_
  refine g_sipush C (nI 255) dX6_type_2 (by decide) ?_
  refine g_callS3i C dX6_type_5 slX6_52 (n_in) hKd (by first | decide | omega) rfl (Nat.le_of_ble_eq_true rfl) ?_
  rintro _ _ ⟨rfl, rfl⟩
  rw [zIn_ix (n := 256) (by decide) (by decide)]
  refine g_if_neB C 13 dX6_type_8 (by decide) (fun h8 => ?_) (fun h8 => ?_)
  · -- X6_type 8t
    obtain ⟨a, hz⟩ := zsome_t h8
    obtain ⟨ha, hx⟩ := zIdx_iff hz
    rw [hx]
    have hl := hS.2.2.2.2.2.1
    refine g_aload0 C dX6_type_13 ?_
    refine g_getIE C hR.2.2.2.2.1.1 dX6_type_14 flX6_56 (show 56 < 68 by decide) rfl rfl ?_
    refine g_sipush C (nI 200) dX6_type_17 (by decide) ?_
    refine g_icmp_neN C 26 (by omega) (by decide) dX6_type_20 (by decide) (fun h20 => ?_) (fun h20 => ?_)
    · -- X6_type 20t
      have h200 : S.2.2.2.2.1.1 < 200 := by omega
      have hr : a_type S x = (nI (S.2.2.2.2.1.1 + 1), (S.1, S.2.1, S.2.2.1, S.2.2.2.1, (S.2.2.2.2.1.1 + 1, fun i => if i = S.2.2.2.2.1.1 then a else S.2.2.2.2.1.2 i), S.2.2.2.2.2)) := by unfold a_type; rw [hz]; simp only; rw [if_pos h200]
      refine g_aload0 C dX6_type_26 ?_
      refine g_getRT C dX6_type_27 flX6_7 (show 56 < 68 by decide) rfl rfl (by decide) ?_
      refine g_aload0 C dX6_type_30 ?_
      refine g_getIE C hR.2.2.2.2.1.1 dX6_type_31 flX6_56 (show 56 < 68 by decide) rfl rfl ?_
      refine g_iload1 C dX6_type_34 ?_
      refine g_iastN C h200 (by decide) dX6_type_35 (show 57 < 68 by decide) rfl ?_
      refine g_aload0 C dX6_type_36 ?_
      refine g_dup C dX6_type_37 rfl ?_
      refine g_getIE C ((up_k (by decide) _).trans hR.2.2.2.2.1.1) dX6_type_38 flX6_56 (show 56 < 68 by decide) rfl rfl ?_
      refine g_iconst C (nI 1) dX6_type_41 (by decide) ?_
      refine g_iaddN C dX6_type_42 ?_
      refine g_putI C dX6_type_43 fpX6_56 (show 56 < 68 by decide) rfl rfl rfl rfl ?_
      refine g_aload0 C dX6_type_46 ?_
      refine g_getIE C (up_s _ _ _ _) dX6_type_47 flX6_56 (show 56 < 68 by decide) rfl rfl ?_
      exact g_reti M dX6_type_50 (by rw [hr]; exact zOutM.mk' rfl (hR.text (fun a h1 h2 => by rw [up_K (by omega), up_K (by omega)]) (by rw [up_j _ (by decide), up_k (by decide)]) (up_s _ _ _ _) (fun i hi => by rw [up_k (by decide)]; by_cases e : i = S.2.2.2.2.1.1; (subst e; rw [up_s, if_pos rfl]); (rw [up_j _ e, if_neg e]; exact hR.2.2.2.2.1.2 i (by omega)))) (fun a ha => by rw [up_K (by omega), up_K (by omega)]) (fun _ _ => rfl))
    · -- X6_type 20f
      have hr : a_type S x = (-3, S) := by unfold a_type; rw [hz]; simp only; rw [if_neg (by omega)]
      refine g_bipush C (-3) dX6_type_23 (by decide) ?_
      exact g_reti M dX6_type_25 (by rw [hr]; exact zOutM.same hR)
  · -- X6_type 8f
    have hz := zsome_f h8
    have hr : a_type S x = (-1, S) := by unfold a_type; rw [hz]
    refine g_iconst C (-1) dX6_type_11 (by decide) ?_
    exact g_reti M dX6_type_12 (by rw [hr]; exact zOutM.same hR)
set_option maxRecDepth 100000 in
set_option maxHeartbeats 4000000 in
theorem q_clear {Γ : zG} {c : Nat → Nat → Int32} {t : Nat → Int64} {S : zAb} (hS : OkS S) (hR : RepM c t S)  : Sp Γ 2 mX6_clear [.ref 56] 0 0 (wF c t) (z_pi (zOutM c t ((a_clear S).1) ((a_clear S).2))) := by
  refine Sp.of (own := RX6) 1 false rfl (by decide +kernel) rfl rfl (fun h => by cases h) (fun K hKd M => ?_)
  have C := M.1
  show GG Γ K 0 0 (wF c t) 0 [some (.ref 56), none] []
  refine g_aload0 C dX6_clear_0 ?_
  refine g_getIE C hR.2.2.2.2.1.1 dX6_clear_1 flX6_56 (show 56 < 68 by decide) rfl rfl ?_
  refine g_istore1 C dX6_clear_4 ?_
  refine g_aload0 C dX6_clear_5 ?_
  refine g_iconst C (nI 0) dX6_clear_6 (by decide) ?_
  refine g_putI C dX6_clear_7 fpX6_56 (show 56 < 68 by decide) rfl rfl rfl rfl ?_
  refine g_iload1 C dX6_clear_10 ?_
  exact g_reti M dX6_clear_11 (zOutM.mk' rfl (hR.text (l := 0) (fun a h1 h2 => up_K (by omega)) (up_j _ (by decide)) (up_s _ _ _ _) (fun i hi => absurd hi (Nat.not_lt_zero i))) (fun a ha => up_K (by omega)) (fun _ _ => rfl))
