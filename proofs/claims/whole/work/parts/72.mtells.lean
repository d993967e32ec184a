/-! the reference: a crew told -/
def zMsk (c : Nat → Nat → Int32) (n k : Nat) : Nat → Nat → Int32 := fun a b => if a = 58 ∧ 19 ≤ b ∧ b < 19 + k then (c 58 b &&& nI ((1 <<< n) - 1)) &&& nI ((1 <<< (b - 19)) ^^^ 4294967295) else c a b
theorem zMsk_0 (c : Nat → Nat → Int32) (n : Nat) : zMsk c n 0 = c := by
  funext a b
  unfold zMsk
  rw [if_neg (by omega)]
theorem zMsk_s (c : Nat → Nat → Int32) (n k : Nat) : z_up (zMsk c n k) 58 (19 + k) ((c 58 (19 + k) &&& nI ((1 <<< n) - 1)) &&& nI ((1 <<< k) ^^^ 4294967295)) = zMsk c n (k + 1) := by
  funext a b
  unfold z_up zMsk
  by_cases h : a = 58
  · by_cases h2 : b = 19 + k
    · rw [if_pos h, if_pos h2, if_pos (by omega), h2, Nat.add_sub_cancel_left]
    · rw [if_pos h, if_neg h2]
      by_cases h3 : 19 ≤ b ∧ b < 19 + k
      · rw [if_pos ⟨h, h3⟩, if_pos (by omega)]
      · rw [if_neg (fun q => h3 q.2), if_neg (by omega)]
  · rw [if_neg h, if_neg (fun q => h q.1), if_neg (fun q => h q.1)]
theorem zMsk_k {c : Nat → Nat → Int32} {n k a : Nat} (h : a ≠ 58) : zMsk c n k a = c a := by
  funext b
  unfold zMsk
  rw [if_neg (fun q => h q.1)]
theorem zMsk_o {c : Nat → Nat → Int32} {n k b : Nat} (h : b < 19 ∨ 19 + k ≤ b) : zMsk c n k 58 b = c 58 b := by
  unfold zMsk
  rw [if_neg (by omega)]
theorem zMsk_i {c : Nat → Nat → Int32} {n k i : Nat} (h : i < k) : zMsk c n k 58 (19 + i) = (c 58 (19 + i) &&& nI ((1 <<< n) - 1)) &&& nI ((1 <<< i) ^^^ 4294967295) := by
  unfold zMsk
  rw [if_pos (by omega), Nat.add_sub_cancel_left]
def zRw (k : Nat) : Int32 := if zIn (nI k) (nI 2) (nI 9) = true then -1 else nI 0
theorem zRw_v : ∀ k, k < 18 → zRw k = if 2 ≤ k ∧ k ≤ 9 then -1 else nI 0 := by decide +kernel
set_option maxRecDepth 100000 in
set_option maxHeartbeats 4000000 in
theorem n_tells {Γ : zG} {c : Nat → Nat → Int32} {t : Nat → Int64} {D : zDr} {it : Nat} (hD : DrM (c 59) D it) (hOk : OkD D) : Sp Γ 1 mX6_tells [.ref 56] 0 0 (wF c t) (z_pv (fun w => ∃ c', w = wF c' t ∧ ToC (c' 58) D.1 ∧ c' 58 3 = nI it ∧ SoC (c' 60) zY0 ∧ c' 56 7 = nI 0 ∧ (∀ j, j < 2 → c' 63 j = nI 0) ∧ (∀ a, a ≠ 56 → a ≠ 58 → a ≠ 60 → a ≠ 63 → c' a = c a) ∧ ∀ b, b ≠ 7 → c' 56 b = c 56 b)) := by
  refine Sp.of (own := RX6) 1 false rfl (by decide +kernel) rfl rfl (fun h => by cases h) (fun K hKd M => ?_)
  have C := M.1
  show GG Γ K 0 0 (wF c t) 0 [some (.ref 56), none] []
  have hn7 : cN D.1 ≤ 7 := hOk.1
  have e58 : (z_up (z_up (z_up (zCy (zMsk (zCy c 58 0 (c 59) 26) (cN D.1) 7) 60 0 zRw 18) 56 7 (nI 0)) 63 0 (nI false.toNat)) 63 1 (nI false.toNat)) 58 = (zMsk (zCy c 58 0 (c 59) 26) (cN D.1) 7) 58 := by rw [up_K (by decide), up_K (by decide), up_K (by decide), zCy_k (by decide)]
  have e1 : ∀ b, b < 26 → (zCy c 58 0 (c 59) 26) 58 b = c 59 b := fun b hb => zCy_i0 hb
  have H77 : ∀ (n : Nat) (k : Nat), k ≤ 18 → 18 - k < n → GG Γ K 0 0 (wF (zCy (zMsk (zCy c 58 0 (c 59) 26) (cN D.1) 7) 60 0 zRw k) t) 77 [some (.ref 56), some (.int (nI k))] [] := by
    intro n
    induction n with
    | zero => intro k hk hn; exact absurd hn (by omega)
    | succ n ih =>
      intro k hk hn
      refine g_iload1 C dX6_tells_77 ?_
      refine g_bipush C (nI 18) dX6_tells_78 (by decide) ?_
      refine g_icmp_geN C 110 (by omega) (by omega) dX6_tells_80 (by decide) (fun h80 => ?_) (fun h80 => ?_)
      · -- X6_tells 80t
        obtain rfl : k = 18 := by omega
        refine g_aload0 C dX6_tells_110 ?_
        refine g_iconst C (nI 0) dX6_tells_111 (by decide) ?_
        refine g_putI C dX6_tells_112 fpX6_92 (show 56 < 68 by decide) rfl rfl rfl rfl ?_
        refine g_aload0 C dX6_tells_115 ?_
        refine g_getRT C dX6_tells_116 flX6_28 (show 56 < 68 by decide) rfl rfl (by decide) ?_
        refine g_iconst C (nI 0) dX6_tells_119 (by decide) ?_
        refine g_iconst C (nI 0) dX6_tells_120 (by decide) ?_
        refine g_bastN (b := false) C (by omega) (by decide) dX6_tells_121 (show 63 < 68 by decide) rfl ?_
        refine g_aload0 C dX6_tells_122 ?_
        refine g_getRT C dX6_tells_123 flX6_28 (show 56 < 68 by decide) rfl rfl (by decide) ?_
        refine g_iconst C (nI 1) dX6_tells_126 (by decide) ?_
        refine g_iconst C (nI 0) dX6_tells_127 (by decide) ?_
        refine g_bastN (b := false) C (by omega) (by decide) dX6_tells_128 (show 63 < 68 by decide) rfl ?_
        exact g_retv M dX6_tells_129 (⟨_, rfl, by rw [e58]; exact ⟨(zMsk_o (by omega)).trans ((e1 0 (by decide)).trans hD.1), (zMsk_o (by omega)).trans ((e1 1 (by decide)).trans hD.2.1), (zMsk_o (by omega)).trans ((e1 2 (by decide)).trans hD.2.2.1), fun i hi => (zMsk_o (by omega)).trans ((e1 _ (by omega)).trans (hD.2.2.2.2.2.1 i hi)), fun i hi => (zMsk_o (by omega)).trans ((e1 _ (by omega)).trans (hD.2.2.2.2.2.2.1 i hi)), fun i hi => by rw [zMsk_i (by omega), e1 _ (by omega), hD.2.2.2.2.2.2.2 i hi, zb_and, zb_and]; rfl⟩, by rw [e58]; exact (zMsk_o (by omega)).trans ((e1 3 (by decide)).trans hD.2.2.2.1), ⟨by rw [up_k (by decide), up_k (by decide), up_k (by decide)]; exact (zCy_i0 (by decide)).trans (by decide +kernel), by rw [up_k (by decide), up_k (by decide), up_k (by decide)]; exact (zCy_i0 (by decide)).trans (by decide +kernel), fun k hk => by rw [up_k (by decide), up_k (by decide), up_k (by decide), zCy_i0 (by omega), zRw_v _ (by omega), if_pos (by omega)]; rfl, fun k hk => by rw [up_k (by decide), up_k (by decide), up_k (by decide), zCy_i0 (by omega), zRw_v _ (by omega), if_neg (by omega)]; rfl⟩, by rw [up_k (by decide), up_k (by decide), up_s], fun j hj => by rcases (show j = 0 ∨ j = 1 by omega) with rfl | rfl; (rw [up_j _ (by decide), up_s]; rfl); (rw [up_s]; rfl), fun a h1 h2 h3 h4 => by rw [up_K h4, up_K h4, up_K h1, zCy_k h3, zMsk_k h2, zCy_k h2], fun b hb => by rw [up_k (by decide), up_k (by decide), up_j _ hb, zCy_k (by decide), zMsk_k (by decide), zCy_k (by decide)]⟩)
      · -- X6_tells 80f
        
        refine g_aload0 C dX6_tells_83 ?_
        refine g_getRT C dX6_tells_84 flX6_19 (show 56 < 68 by decide) rfl rfl (by decide) ?_
        refine g_iload1 C dX6_tells_87 ?_
        refine g_iload1 C dX6_tells_88 ?_
        refine g_iconst C (nI 2) dX6_tells_89 (by decide) ?_
        refine g_bipush C (nI 9) dX6_tells_90 (by decide) ?_
        refine g_callS3i C dX6_tells_92 slX6_52 (n_in) hKd (by first | decide | omega) rfl (Nat.le_of_ble_eq_true rfl) ?_
        rintro _ _ ⟨rfl, rfl⟩
        refine g_if_eqB C 102 dX6_tells_95 (by decide) (fun h95 => ?_) (fun h95 => ?_)
        · -- X6_tells 95t
          have hz : zRw k = nI 0 := if_neg (by rw [h95]; decide)
          refine g_iconst C (nI 0) dX6_tells_102 (by decide) ?_
          refine g_iastN C (by omega) (by decide) dX6_tells_103 (show 60 < 68 by decide) rfl ?_
          rw [← hz]
          refine g_con (zCy_s0 _ _ zRw k) rfl ?_
          refine g_iinc1N C dX6_tells_104 ?_
          refine g_goto C 77 dX6_tells_107 (by decide) ?_
          exact ih (k + 1) (by omega) (by omega)
        · -- X6_tells 95f
          have hz : zRw k = -1 := if_pos h95
          refine g_iconst C (-1) dX6_tells_98 (by decide) ?_
          refine g_goto C 103 dX6_tells_99 (by decide) ?_
          refine g_iastN C (by omega) (by decide) dX6_tells_103 (show 60 < 68 by decide) rfl ?_
          rw [← hz]
          refine g_con (zCy_s0 _ _ zRw k) rfl ?_
          refine g_iinc1N C dX6_tells_104 ?_
          refine g_goto C 77 dX6_tells_107 (by decide) ?_
          exact ih (k + 1) (by omega) (by omega)
  have H28 : ∀ (n : Nat) (k : Nat), k ≤ 7 → 7 - k < n → GG Γ K 0 0 (wF (zMsk (zCy c 58 0 (c 59) 26) (cN D.1) k) t) 28 [some (.ref 56), some (.int (nI k))] [] := by
    intro n
    induction n with
    | zero => intro k hk hn; exact absurd hn (by omega)
    | succ n ih =>
      intro k hk hn
      refine g_iload1 C dX6_tells_28 ?_
      refine g_bipush C (nI 7) dX6_tells_29 (by decide) ?_
      refine g_icmp_geN C 75 (by omega) (by omega) dX6_tells_31 (by decide) (fun h31 => ?_) (fun h31 => ?_)
      · -- X6_tells 31t
        obtain rfl : k = 7 := by omega
        refine g_iconst C (nI 0) dX6_tells_75 (by decide) ?_
        refine g_istore1 C dX6_tells_76 ?_
        refine g_con (zCy_0 (zMsk (zCy c 58 0 (c 59) 26) (cN D.1) 7) 60 0 zRw).symm rfl ?_
        exact H77 19 0 (Nat.zero_le _) (by omega)
      · -- X6_tells 31f
        
        refine g_aload0 C dX6_tells_34 ?_
        refine g_getRT C dX6_tells_35 flX6_13 (show 56 < 68 by decide) rfl rfl (by decide) ?_
        refine g_bipush C (nI 19) dX6_tells_38 (by decide) ?_
        refine g_iload1 C dX6_tells_40 ?_
        refine g_iaddN C dX6_tells_41 ?_
        refine g_aload0 C dX6_tells_42 ?_
        refine g_getRT C dX6_tells_43 flX6_13 (show 56 < 68 by decide) rfl rfl (by decide) ?_
        refine g_bipush C (nI 19) dX6_tells_46 (by decide) ?_
        refine g_iload1 C dX6_tells_48 ?_
        refine g_iaddN C dX6_tells_49 ?_
        refine g_ialdE C (zMsk_o (by omega)) (by omega) (by decide) dX6_tells_50 (show 58 < 68 by decide) rfl ?_
        refine g_iconst C (nI 1) dX6_tells_51 (by decide) ?_
        refine g_aload0 C dX6_tells_52 ?_
        refine g_getRT C dX6_tells_53 flX6_13 (show 56 < 68 by decide) rfl rfl (by decide) ?_
        refine g_iconst C (nI 0) dX6_tells_56 (by decide) ?_
        refine g_ialdE C ((zMsk_o (by omega)).trans ((e1 0 (by decide)).trans hD.1)) (by omega) (by decide) dX6_tells_57 (show 58 < 68 by decide) rfl ?_
        refine g_ishlN C dX6_tells_58 (by omega) ?_
        refine g_iconst C (nI 1) dX6_tells_59 (by decide) ?_
        refine g_isubN C dX6_tells_60 (zs_pos _) ?_
        refine g_iand C dX6_tells_61 ?_
        refine g_iconst C (nI 1) dX6_tells_62 (by decide) ?_
        refine g_iload1 C dX6_tells_63 ?_
        refine g_ishlN C dX6_tells_64 (by omega) ?_
        refine g_iconst C (nI 4294967295) dX6_tells_65 (by decide) ?_
        refine g_ixorN C dX6_tells_66 ?_
        refine g_iand C dX6_tells_67 ?_
        refine g_iastN C (by omega) (by decide) dX6_tells_68 (show 58 < 68 by decide) rfl ?_
        refine g_con (zMsk_s _ _ _) rfl ?_
        refine g_iinc1N C dX6_tells_69 ?_
        refine g_goto C 28 dX6_tells_72 (by decide) ?_
        exact ih (k + 1) (by omega) (by omega)
  have H2 : ∀ (n : Nat) (k : Nat), k ≤ 26 → 26 - k < n → GG Γ K 0 0 (wF (zCy c 58 0 (c 59) k) t) 2 [some (.ref 56), some (.int (nI k))] [] := by
    intro n
    induction n with
    | zero => intro k hk hn; exact absurd hn (by omega)
    | succ n ih =>
      intro k hk hn
      refine g_iload1 C dX6_tells_2 ?_
      refine g_bipush C (nI 26) dX6_tells_3 (by decide) ?_
      refine g_icmp_geN C 26 (by omega) (by omega) dX6_tells_5 (by decide) (fun h5 => ?_) (fun h5 => ?_)
      · -- X6_tells 5t
        obtain rfl : k = 26 := by omega
        refine g_iconst C (nI 0) dX6_tells_26 (by decide) ?_
        refine g_istore1 C dX6_tells_27 ?_
        refine g_con (zMsk_0 (zCy c 58 0 (c 59) 26) (cN D.1)).symm rfl ?_
        exact H28 8 0 (Nat.zero_le _) (by omega)
      · -- X6_tells 5f
        
        refine g_aload0 C dX6_tells_8 ?_
        refine g_getRT C dX6_tells_9 flX6_13 (show 56 < 68 by decide) rfl rfl (by decide) ?_
        refine g_iload1 C dX6_tells_12 ?_
        refine g_aload0 C dX6_tells_13 ?_
        refine g_getRT C dX6_tells_14 flX6_16 (show 56 < 68 by decide) rfl rfl (by decide) ?_
        refine g_iload1 C dX6_tells_17 ?_
        refine g_ialdE C (congrFun (zCy_k (by decide)) k) (by omega) (by decide) dX6_tells_18 (show 59 < 68 by decide) rfl ?_
        refine g_iastN C (by omega) (by decide) dX6_tells_19 (show 58 < 68 by decide) rfl ?_
        refine g_con (zCy_s0 _ _ _ _) rfl ?_
        refine g_iinc1N C dX6_tells_20 ?_
        refine g_goto C 2 dX6_tells_23 (by decide) ?_
        exact ih (k + 1) (by omega) (by omega)
  refine g_iconst C (nI 0) dX6_tells_0 (by decide) ?_
  refine g_istore1 C dX6_tells_1 ?_
  refine g_con (zCy_0 c 58 0 (c 59)).symm rfl ?_
  exact H2 27 0 (Nat.zero_le _) (by omega)
