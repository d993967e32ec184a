set_option maxRecDepth 100000 in
set_option maxHeartbeats 4000000 in
theorem n_isKnown {Γ : zG} {c : Nat → Nat → Int32} {t : Nat → Int64} {O : List (List Nat)} {T : Nat} (hQ : RwQ c O T) {a : Nat} (ha : zSb a T) : Sp Γ 1 mX6_isKnown [.ref 56, .int (nI a), .int (nI (zp8 T))] 0 0 (wF c t) (z_pi (fun v w => v = nI (zKn O a).toNat ∧ ∃ c', w = wF c' t ∧ ∀ p, p ≠ 67 → c' p = c p)) := by
  refine Sp.of (own := RX6) 4 false rfl (by decide +kernel) rfl rfl (fun h => by cases h) (fun K hKd M => ?_)
  have C := M.1
  show GG Γ K 0 0 (wF c t) 0 [some (.ref 56), some (.int (nI a)), some (.int (nI (zp8 T))), none, none, none, none] []
  have hT := hQ.2.1
  have hO := hQ.2.2.1
  have ha128 : a < 128 := Nat.lt_of_le_of_lt (zSb_le ha) hT
  have ha8 := zp8_8 a
  have hT8 := zp8_7 hT
  have hend : ∀ (c' : Nat → Nat → Int32) (r : Nat) (x y : Option Value), r ≤ O.length → RwQ c' O T → (∀ p, p ≠ 67 → c' p = c p) → zKn O a = false → GG Γ K 0 0 (wF c' t) 45 [some (.ref 56), some (.int (nI a)), some (.int (nI (zp8 T))), some (.int (nI 0)), some (.int (nI r)), x, y] [] := by
    intro c' r x y hr hQ' hk hno
    refine g_iload4 C dX6_isKnown_45 ?_
    refine g_aload0 C dX6_isKnown_47 ?_
    refine g_getIE C hQ'.1.1 dX6_isKnown_48 flX6_124 (show 56 < 68 by decide) rfl rfl ?_
    refine g_icmp_geN C 171 (by omega) (by omega) dX6_isKnown_51 (by decide) (fun h51 => ?_) (fun h51 => ?_)
    · -- X6_isKnown 51t
      
      refine g_iload3 C dX6_isKnown_171 ?_
      exact g_ret0 M dX6_isKnown_172 (⟨by rw [hno]; rfl, c', rfl, hk⟩)
    · -- X6_isKnown 51f
      
      refine g_iload3 C dX6_isKnown_54 ?_
      refine g_if_eqN C 171 (by omega) dX6_isKnown_55 (by decide) (fun h55 => ?_) (fun h55 => absurd h55 (by decide))
      refine g_iload3 C dX6_isKnown_171 ?_
      exact g_ret0 M dX6_isKnown_172 (⟨by rw [hno]; rfl, c', rfl, hk⟩)
  have H64a : ∀ (c' : Nat → Nat → Int32) (r : Nat), r < O.length → RwQ c' O T → zp8 a ≤ 5 → GG Γ K 0 0 (wF c' t) 113 [some (.ref 56), some (.int (nI a)), some (.int (nI (zp8 T))), some (.int (nI 1)), some (.int (nI r)), some (.int (nI (zTl (zAt O r) a 7))), some (.int (nI 7))] [] → GG Γ K 0 0 (wF c' t) 64 [some (.ref 56), some (.int (nI a)), some (.int (nI (zp8 T))), some (.int (nI 1)), some (.int (nI r)), some (.int (nI (zTl (zAt O r) a 0))), some (.int (nI 0))] [] := by
    intro c' r hr hQ' h5 hexit
    have hv := hQ'.val hr
    have H64 : ∀ (n : Nat) (i : Nat), i ≤ 7 → 7 - i < n → GG Γ K 0 0 (wF c' t) 64 [some (.ref 56), some (.int (nI a)), some (.int (nI (zp8 T))), some (.int (nI 1)), some (.int (nI r)), some (.int (nI (zTl (zAt O r) a i))), some (.int (nI i))] [] := by
      intro n
      induction n with
      | zero => intro i hi hn; exact absurd hn (by omega)
      | succ n ih =>
        intro i hi hn
        refine g_iload6 C dX6_isKnown_64 ?_
        refine g_bipush C (nI 7) dX6_isKnown_66 (by decide) ?_
        refine g_icmp_geN C 113 (by omega) (by omega) dX6_isKnown_68 (by decide) (fun h68 => ?_) (fun h68 => ?_)
        · -- X6_isKnown 68t
          obtain rfl : i = 7 := by omega
          exact hexit
        · -- X6_isKnown 68f
          
          refine g_iload1 C dX6_isKnown_71 ?_
          refine g_iload6 C dX6_isKnown_72 ?_
          refine g_ishrN C dX6_isKnown_74 (by omega) (by omega) ?_
          refine g_iconst C (nI 1) dX6_isKnown_75 (by decide) ?_
          refine g_iandN C dX6_isKnown_76 ?_
          refine g_top (by rw [zn_bit]) ?_
          refine g_iconst C (nI 1) dX6_isKnown_77 (by decide) ?_
          refine g_icmp_neN C 103 (by cases a.testBit i <;> decide) (by decide) dX6_isKnown_78 (by decide) (fun h78 => ?_) (fun h78 => ?_)
          · -- X6_isKnown 78t
            have hbi : ¬ a.testBit i = true := fun e => h78 (by rw [e]; rfl)
            refine g_iload5 C dX6_isKnown_103 ?_
            refine g_istore5 C dX6_isKnown_105 ?_
            refine g_set (L' := [some (.ref 56), some (.int (nI a)), some (.int (nI (zp8 T))), some (.int (nI 1)), some (.int (nI r)), some (.int (nI (zTl (zAt O r) a (i + 1)))), some (.int (nI i))]) rfl (by rw [zTl, if_neg hbi]) rfl ?_
            refine g_iinc6N C dX6_isKnown_107 ?_
            refine g_goto C 64 dX6_isKnown_110 (by decide) ?_
            exact ih (i + 1) (by omega) (by omega)
          · -- X6_isKnown 78f
            have hbi : a.testBit i = true := zbit_one (by omega)
            refine g_bipush C (nI 8) dX6_isKnown_81 (by decide) ?_
            refine g_iload5 C dX6_isKnown_83 ?_
            refine g_imulN C dX6_isKnown_85 ?_
            refine g_aload0 C dX6_isKnown_86 ?_
            refine g_getRT C dX6_isKnown_87 flX6_32 (show 56 < 68 by decide) rfl rfl (by decide) ?_
            refine g_iload4 C dX6_isKnown_90 ?_
            refine g_ialdE C (hQ'.at hr) (by omega) (by decide) dX6_isKnown_92 (show 64 < 68 by decide) rfl ?_
            refine g_iload2 C dX6_isKnown_93 ?_
            refine g_top (show nI (zp8 T) = nI (zAt O r).length by rw [hv.2.2]) ?_
            refine g_iload6 C dX6_isKnown_94 ?_
            refine g_callS3i C dX6_isKnown_96 slX6_144 (n_placeIn hv.1 h68) hKd (by first | decide | omega) rfl (Nat.le_of_ble_eq_true rfl) ?_
            rintro _ _ ⟨rfl, rfl⟩
            refine g_iaddN C dX6_isKnown_99 ?_
            refine g_goto C 105 dX6_isKnown_100 (by decide) ?_
            refine g_istore5 C dX6_isKnown_105 ?_
            refine g_set (L' := [some (.ref 56), some (.int (nI a)), some (.int (nI (zp8 T))), some (.int (nI 1)), some (.int (nI r)), some (.int (nI (zTl (zAt O r) a (i + 1)))), some (.int (nI i))]) rfl (by rw [zTl, if_pos hbi]) rfl ?_
            refine g_iinc6N C dX6_isKnown_107 ?_
            refine g_goto C 64 dX6_isKnown_110 (by decide) ?_
            exact ih (i + 1) (by omega) (by omega)
    exact H64 8 0 (Nat.zero_le _) (by omega)
  have H45 : ∀ (n : Nat) (c' : Nat → Nat → Int32) (r : Nat) (x y : Option Value), r ≤ O.length → RwQ c' O T → (∀ p, p ≠ 67 → c' p = c p) → zp8 a ≤ 5 → 0 < zp8 T → LdC c' O a r → O.length - r < n → GG Γ K 0 0 (wF c' t) 45 [some (.ref 56), some (.int (nI a)), some (.int (nI (zp8 T))), some (.int (nI 1)), some (.int (nI r)), x, y] [] := by
    intro n
    induction n with
    | zero => intro c' r x y hr hQ' hk h5 h0 hL hn; exact absurd hn (by omega)
    | succ n ih =>
      intro c' r x y hr hQ' hk h5 h0 hL hn
      refine g_iload4 C dX6_isKnown_45 ?_
      refine g_aload0 C dX6_isKnown_47 ?_
      refine g_getIE C hQ'.1.1 dX6_isKnown_48 flX6_124 (show 56 < 68 by decide) rfl rfl ?_
      refine g_icmp_geN C 171 (by omega) (by omega) dX6_isKnown_51 (by decide) (fun h51 => ?_) (fun h51 => ?_)
      · -- X6_isKnown 51t
        obtain rfl : r = O.length := by omega
        refine g_iload3 C dX6_isKnown_171 ?_
        exact g_ret1 M dX6_isKnown_172 (⟨by rw [hL.yes hQ' h0]; rfl, c', rfl, hk⟩)
      · -- X6_isKnown 51f
        have hv := hQ'.val h51
        have hh := hQ'.hd h0 h51
        have htl := zTl_lt (a := a) hv.1 7
        have hpw := (z8pow _ h5).2
        rw [← zpc_top (n := 7) (m := a) (by decide) ha128] at htl
        have htl2 : zTl (zAt O r) a 7 < 32768 := by omega
        refine g_iload3 C dX6_isKnown_54 ?_
        refine g_if_eqN C 171 (by omega) dX6_isKnown_55 (by decide) (fun h55 => absurd h55 (by decide)) (fun h55 => ?_)
        refine g_iconst C (nI 0) dX6_isKnown_58 (by decide) ?_
        refine g_istore5 C dX6_isKnown_59 ?_
        refine g_iconst C (nI 0) dX6_isKnown_61 (by decide) ?_
        refine g_istore6 C dX6_isKnown_62 ?_
        refine H64a c' r h51 hQ' h5 ?_
        refine g_aload0 C dX6_isKnown_113 ?_
        refine g_getRT C dX6_isKnown_114 flX6_32 (show 56 < 68 by decide) rfl rfl (by decide) ?_
        refine g_iload4 C dX6_isKnown_117 ?_
        refine g_ialdE C (hQ'.at h51) (by omega) (by decide) dX6_isKnown_119 (show 64 < 68 by decide) rfl ?_
        refine g_iconst C (nI 0) dX6_isKnown_120 (by decide) ?_
        refine g_callS2i C dX6_isKnown_121 slX6_134 (n_of hv.1.s8 hv.1.rlt (Nat.zero_le _)) hKd (by first | decide | omega) rfl (Nat.le_of_ble_eq_true rfl) ?_
        rintro _ _ ⟨rfl, rfl⟩
        rw [hh.1]
        refine g_istore6 C dX6_isKnown_124 ?_
        refine g_aload0 C dX6_isKnown_126 ?_
        refine g_getRT C dX6_isKnown_127 flX6_42 (show 56 < 68 by decide) rfl rfl (by decide) ?_
        refine g_iload5 C dX6_isKnown_130 ?_
        refine g_ialdE C rfl (by omega) (by decide) dX6_isKnown_132 (show 67 < 68 by decide) rfl ?_
        refine g_bipush C (nI 8) dX6_isKnown_133 (by decide) ?_
        refine g_icmp_eq C 150 dX6_isKnown_135 (by decide) (fun h135 => ?_) (fun h135 => ?_)
        · -- X6_isKnown 135t
          
          refine g_iconst C (nI 1) dX6_isKnown_150 (by decide) ?_
          refine g_goto C 155 dX6_isKnown_151 (by decide) ?_
          refine g_istore3 C dX6_isKnown_155 ?_
          refine g_aload0 C dX6_isKnown_156 ?_
          refine g_getRT C dX6_isKnown_157 flX6_42 (show 56 < 68 by decide) rfl rfl (by decide) ?_
          refine g_iload5 C dX6_isKnown_160 ?_
          refine g_iload6 C dX6_isKnown_162 ?_
          refine g_iastN C (by omega) (by decide) dX6_isKnown_164 (show 67 < 68 by decide) rfl ?_
          refine g_iinc4N C dX6_isKnown_165 ?_
          refine g_goto C 45 dX6_isKnown_168 (by decide) ?_
          first | exact ih _ (r + 1) _ _ (by omega) (hQ'.eq (up_K (by decide)) (up_K (by decide))) (fun p hp => (up_K hp).trans (hk p hp)) h5 h0 (hL.put (Or.inl h135) (fun j hj => (hQ'.hd h0 (show j < O.length by omega)).2.2)) (by omega) | exact ih _ (r + 1) _ _ (by omega) (hQ'.eq (up_K (by decide)) (up_K (by decide))) (fun p hp => (up_K hp).trans (hk p hp)) h5 h0 (hL.put (Or.inr h147) (fun j hj => (hQ'.hd h0 (show j < O.length by omega)).2.2)) (by omega) | exact hend _ (r + 1) _ _ (by omega) (hQ'.eq (up_K (by decide)) (up_K (by decide))) (fun p hp => (up_K hp).trans (hk p hp)) (hL.no hQ' ha128 h51 h135 h147)
        · -- X6_isKnown 135f
          
          refine g_aload0 C dX6_isKnown_138 ?_
          refine g_getRT C dX6_isKnown_139 flX6_42 (show 56 < 68 by decide) rfl rfl (by decide) ?_
          refine g_iload5 C dX6_isKnown_142 ?_
          refine g_ialdE C rfl (by omega) (by decide) dX6_isKnown_144 (show 67 < 68 by decide) rfl ?_
          refine g_iload6 C dX6_isKnown_145 ?_
          refine g_icmp_ne C 154 dX6_isKnown_147 (by decide) (fun h147 => ?_) (fun h147 => ?_)
          · -- X6_isKnown 147t
            
            refine g_iconst C (nI 0) dX6_isKnown_154 (by decide) ?_
            refine g_istore3 C dX6_isKnown_155 ?_
            refine g_aload0 C dX6_isKnown_156 ?_
            refine g_getRT C dX6_isKnown_157 flX6_42 (show 56 < 68 by decide) rfl rfl (by decide) ?_
            refine g_iload5 C dX6_isKnown_160 ?_
            refine g_iload6 C dX6_isKnown_162 ?_
            refine g_iastN C (by omega) (by decide) dX6_isKnown_164 (show 67 < 68 by decide) rfl ?_
            refine g_iinc4N C dX6_isKnown_165 ?_
            refine g_goto C 45 dX6_isKnown_168 (by decide) ?_
            first | exact ih _ (r + 1) _ _ (by omega) (hQ'.eq (up_K (by decide)) (up_K (by decide))) (fun p hp => (up_K hp).trans (hk p hp)) h5 h0 (hL.put (Or.inl h135) (fun j hj => (hQ'.hd h0 (show j < O.length by omega)).2.2)) (by omega) | exact ih _ (r + 1) _ _ (by omega) (hQ'.eq (up_K (by decide)) (up_K (by decide))) (fun p hp => (up_K hp).trans (hk p hp)) h5 h0 (hL.put (Or.inr h147) (fun j hj => (hQ'.hd h0 (show j < O.length by omega)).2.2)) (by omega) | exact hend _ (r + 1) _ _ (by omega) (hQ'.eq (up_K (by decide)) (up_K (by decide))) (fun p hp => (up_K hp).trans (hk p hp)) (hL.no hQ' ha128 h51 h135 h147)
          · -- X6_isKnown 147f
            
            refine g_iconst C (nI 1) dX6_isKnown_150 (by decide) ?_
            refine g_goto C 155 dX6_isKnown_151 (by decide) ?_
            refine g_istore3 C dX6_isKnown_155 ?_
            refine g_aload0 C dX6_isKnown_156 ?_
            refine g_getRT C dX6_isKnown_157 flX6_42 (show 56 < 68 by decide) rfl rfl (by decide) ?_
            refine g_iload5 C dX6_isKnown_160 ?_
            refine g_iload6 C dX6_isKnown_162 ?_
            refine g_iastN C (by omega) (by decide) dX6_isKnown_164 (show 67 < 68 by decide) rfl ?_
            refine g_iinc4N C dX6_isKnown_165 ?_
            refine g_goto C 45 dX6_isKnown_168 (by decide) ?_
            first | exact ih _ (r + 1) _ _ (by omega) (hQ'.eq (up_K (by decide)) (up_K (by decide))) (fun p hp => (up_K hp).trans (hk p hp)) h5 h0 (hL.put (Or.inl h135) (fun j hj => (hQ'.hd h0 (show j < O.length by omega)).2.2)) (by omega) | exact ih _ (r + 1) _ _ (by omega) (hQ'.eq (up_K (by decide)) (up_K (by decide))) (fun p hp => (up_K hp).trans (hk p hp)) h5 h0 (hL.put (Or.inr h147) (fun j hj => (hQ'.hd h0 (show j < O.length by omega)).2.2)) (by omega) | exact hend _ (r + 1) _ _ (by omega) (hQ'.eq (up_K (by decide)) (up_K (by decide))) (fun p hp => (up_K hp).trans (hk p hp)) (hL.no hQ' ha128 h51 h135 h147)
  have H14 : ∀ (n : Nat) (k : Nat) (y z u : Option Value), zp8 a + 1 < zp8 T → k ≤ 1 <<< (3 * zp8 a) → 1 <<< (3 * zp8 a) - k < n → GG Γ K 0 0 (wF (z_fill c 67 k (nI 8)) t) 14 [some (.ref 56), some (.int (nI a)), some (.int (nI (zp8 T))), some (.int (nI k)), y, z, u] [] := by
    intro n
    induction n with
    | zero => intro k y z u hc hk hn; exact absurd hn (by omega)
    | succ n ih =>
      intro k y z u hc hk hn
      have hpw := z8pow (zp8 a) (by omega)
      refine g_iload3 C dX6_isKnown_14 ?_
      refine g_iconst C (nI 1) dX6_isKnown_15 (by decide) ?_
      refine g_iconst C (nI 3) dX6_isKnown_16 (by decide) ?_
      refine g_iload1 C dX6_isKnown_17 ?_
      refine g_callS1i C dX6_isKnown_18 slX6_95 (n_ones (by omega)) hKd (by first | decide | omega) rfl (Nat.le_of_ble_eq_true rfl) ?_
      rintro _ _ ⟨rfl, rfl⟩
      refine g_imulN C dX6_isKnown_21 ?_
      refine g_ishlN C dX6_isKnown_22 (by omega) ?_
      refine g_icmp_geN C 40 (by omega) (by omega) dX6_isKnown_23 (by decide) (fun h23 => ?_) (fun h23 => ?_)
      · -- X6_isKnown 23t
        obtain rfl : k = 1 <<< (3 * zp8 a) := by omega
        refine g_iconst C (nI 1) dX6_isKnown_40 (by decide) ?_
        refine g_istore3 C dX6_isKnown_41 ?_
        refine g_iconst C (nI 0) dX6_isKnown_42 (by decide) ?_
        refine g_istore4 C dX6_isKnown_43 ?_
        refine H45 (O.length + 1) _ 0 _ _ (Nat.zero_le _) (hQ.eq (z_fill_k (by decide)) (z_fill_k (by decide))) (fun p hp => z_fill_k hp) (by omega) (by omega) ⟨fun j hj => absurd hj (Nat.not_lt_zero j), fun v hv => Or.inl (z_fill_i (by rw [hpw.1]; exact hv))⟩ (by omega)
      · -- X6_isKnown 23f
        
        refine g_aload0 C dX6_isKnown_26 ?_
        refine g_getRT C dX6_isKnown_27 flX6_42 (show 56 < 68 by decide) rfl rfl (by decide) ?_
        refine g_iload3 C dX6_isKnown_30 ?_
        refine g_bipush C (nI 8) dX6_isKnown_31 (by decide) ?_
        refine g_iastN C (by omega) (by decide) dX6_isKnown_33 (show 67 < 68 by decide) rfl ?_
        refine g_con (z_fill_s _ _ _ _) rfl ?_
        refine g_iinc3N C dX6_isKnown_34 ?_
        refine g_goto C 14 dX6_isKnown_37 (by decide) ?_
        exact ih (k + 1) _ _ _ hc (by omega) (by omega)
  refine g_iload1 C dX6_isKnown_0 ?_
  refine g_callS1i C dX6_isKnown_1 slX6_95 (n_ones (by omega)) hKd (by first | decide | omega) rfl (Nat.le_of_ble_eq_true rfl) ?_
  rintro _ _ ⟨rfl, rfl⟩
  refine g_iload2 C dX6_isKnown_4 ?_
  refine g_iconst C (nI 1) dX6_isKnown_5 (by decide) ?_
  refine g_isub C dX6_isKnown_6 ?_
  refine g_icmp_lt C 12 dX6_isKnown_7 (by decide) (fun h7 => ?_) (fun h7 => ?_)
  · -- X6_isKnown 7t
    have hc := (zfew _ ha8 _ (by omega)).1 h7
    refine g_iconst C (nI 0) dX6_isKnown_12 (by decide) ?_
    refine g_istore3 C dX6_isKnown_13 ?_
    refine g_con (z_fill_0 c 67 (nI 8)).symm rfl ?_
    exact H14 (1 <<< (3 * zp8 a) + 1) 0 _ _ _ hc (Nat.zero_le _) (Nat.lt_succ_of_le (Nat.sub_le _ _))
  · -- X6_isKnown 7f
    have hc := (zfew _ ha8 _ (by omega)).2 h7
    refine g_iconst C (nI 1) dX6_isKnown_10 (by decide) ?_
    exact g_ret1 M dX6_isKnown_11 (⟨by rw [zKn_few hQ ha hc]; rfl, c, rfl, fun _ _ => rfl⟩)
set_option maxRecDepth 100000 in
set_option maxHeartbeats 4000000 in
theorem q_ask {Γ : zG} {c : Nat → Nat → Int32} {t : Nat → Int64} {S : zAb} (hS : OkS S) (hR : RepM c t S)  : Sp Γ 12 mX6_ask [.ref 56] 0 0 (wF c t) (z_pi (zOutM c t (a_ask S) (S))) := by
  refine Sp.of (own := RX6) 5 false rfl (by decide +kernel) rfl rfl (fun h => by cases h) (fun K hKd M => ?_)
  have C := M.1
  show GG Γ K 0 0 (wF c t) 0 [some (.ref 56), none, none, none, none, none] []
  have hT : zT0 S < 128 := hS.t
  have hT8 := zp8_8 (zT0 S)
  have H30 : ∀ (k f : Nat) (x : Option Value) (c1 : Nat → Nat → Int32), k ≤ 128 → RepM c1 t S → RwQ c1 (zO0 S) (zT0 S) → (∀ a, a < 56 → c1 a = c a) → 0 < (zO0 S).length → zLo (zQs (zO0 S) (zT0 S)) (zT0 S) k f → GG Γ K 0 0 (wF c1 t) 30 [some (.ref 56), some (.int (nI (zT0 S))), some (.int (nI (zp8 (zT0 S)))), some (.int (nI f)), some (.int (nI k + (-1))), x] [] := by
    intro k
    induction k with
    | zero =>
      intro f x c1 hk hR1 hQ hfr hl0 hL
      refine g_iload4 C dX6_ask_30 ?_
      refine g_if_lt C 91 dX6_ask_32 (by decide) (fun h32 => ?_) (fun h32 => absurd h32 (by exact fun h => h zdn_0))
      refine g_iload3 C dX6_ask_91 ?_
      exact g_reti M dX6_ask_92 (by unfold a_ask; rw [if_neg (by omega), zArg_eq hL.best]; exact zOutM.mk' rfl hR1 hfr (fun _ _ => rfl))
    | succ a ih =>
      intro f x c1 hk hR1 hQ hfr hl0 hL
      refine g_set (L' := [some (.ref 56), some (.int (nI (zT0 S))), some (.int (nI (zp8 (zT0 S)))), some (.int (nI f)), some (.int (nI a)), x]) rfl (by rw [zdn a (by omega)]) rfl ?_
      have ha : a < 128 := by omega
      have hf : f < 128 := by have := hL.2.1; omega
      have hfp := zp8_8 f
      have hap := zp8_8 a
      refine g_iload4 C dX6_ask_30 ?_
      refine g_if_ltN C 91 (by omega) dX6_ask_32 (by decide) (fun h => h.elim) (fun _ => ?_)
      refine g_iload4 C dX6_ask_35 ?_
      refine g_iload1 C dX6_ask_37 ?_
      refine g_iconst C (nI 4294967295) dX6_ask_38 (by decide) ?_
      refine g_ixorN C dX6_ask_39 ?_
      refine g_iandN C dX6_ask_40 ?_
      refine g_if_neN C 70 (zand_l (by omega)) dX6_ask_41 (by decide) (fun h41 => ?_) (fun h41 => ?_)
      · -- X6_ask 41t
        have hno : zQs (zO0 S) (zT0 S) a = true → zp8 f < zp8 a := fun h => by unfold zQs zSub at h; rw [decide_eq_false (show ¬ a &&& (zT0 S ^^^ 4294967295) = 0 by omega)] at h; cases h
        refine g_iconst C (nI 0) dX6_ask_70 (by decide) ?_
        refine g_istore5 C dX6_ask_71 ?_
        refine g_iload5 C dX6_ask_73 ?_
        refine g_if_eqN C 83 (by omega) dX6_ask_75 (by decide) (fun h75 => ?_) (fun h75 => absurd h75 (by decide))
        refine g_iload3 C dX6_ask_83 ?_
        refine g_istore3 C dX6_ask_84 ?_
        refine g_iinc4 C dX6_ask_85 ?_
        refine g_goto C 30 dX6_ask_88 (by decide) ?_
        first | exact ih f _ c1 (by omega) hR1 hQ hfr hl0 (hL.no hno) | exact ih f _ c3 (by omega) hR3 hQ3 hfr3 hl0 (hL.no hno) | exact ih a _ c3 (by omega) hR3 hQ3 hfr3 hl0 (hL.yes hyes (zSb_le hsb) h53)
      · -- X6_ask 41f
        have hsb : zSb a (zT0 S) := zSub_bit (decide_eq_true h41) ha
        refine g_iload4 C dX6_ask_44 ?_
        refine g_callS1i C dX6_ask_46 slX6_95 (n_ones (by omega)) hKd (by first | decide | omega) rfl (Nat.le_of_ble_eq_true rfl) ?_
        rintro _ _ ⟨rfl, rfl⟩
        refine g_iload3 C dX6_ask_49 ?_
        refine g_callS1i C dX6_ask_50 slX6_95 (n_ones (by omega)) hKd (by first | decide | omega) rfl (Nat.le_of_ble_eq_true rfl) ?_
        rintro _ _ ⟨rfl, rfl⟩
        refine g_icmp_gtN C 70 (by omega) (by omega) dX6_ask_53 (by decide) (fun h53 => ?_) (fun h53 => ?_)
        · -- X6_ask 53t
          have hno : zQs (zO0 S) (zT0 S) a = true → zp8 f < zp8 a := fun _ => h53
          refine g_iconst C (nI 0) dX6_ask_70 (by decide) ?_
          refine g_istore5 C dX6_ask_71 ?_
          refine g_iload5 C dX6_ask_73 ?_
          refine g_if_eqN C 83 (by omega) dX6_ask_75 (by decide) (fun h75 => ?_) (fun h75 => absurd h75 (by decide))
          refine g_iload3 C dX6_ask_83 ?_
          refine g_istore3 C dX6_ask_84 ?_
          refine g_iinc4 C dX6_ask_85 ?_
          refine g_goto C 30 dX6_ask_88 (by decide) ?_
          first | exact ih f _ c1 (by omega) hR1 hQ hfr hl0 (hL.no hno) | exact ih f _ c3 (by omega) hR3 hQ3 hfr3 hl0 (hL.no hno) | exact ih a _ c3 (by omega) hR3 hQ3 hfr3 hl0 (hL.yes hyes (zSb_le hsb) h53)
        · -- X6_ask 53f
          
          refine g_aload0 C dX6_ask_56 ?_
          refine g_iload4 C dX6_ask_57 ?_
          refine g_iload2 C dX6_ask_59 ?_
          refine g_callV2i C dX6_ask_60 vlX6_154 (n_isKnown hQ hsb) hKd (by first | decide | omega) rfl (Nat.le_of_ble_eq_true rfl) (show 56 < 68 by decide) rfl ?_
          rintro _ _ ⟨rfl, c3, rfl, hk3⟩
          have hR3 : RepM c3 t S := hR1.irr (fun p h1 h2 _ => hk3 p (by omega)) (by rw [hk3 56 (by decide)]) (by rw [hk3 56 (by decide)]) rfl
          have hQ3 : RwQ c3 (zO0 S) (zT0 S) := hQ.eq (hk3 56 (by decide)) (hk3 64 (by decide))
          have hfr3 : ∀ p, p < 56 → c3 p = c p := fun p hp => (hk3 p (by omega)).trans (hfr p hp)
          refine g_if_eqB C 70 dX6_ask_63 (by decide) (fun h63 => ?_) (fun h63 => ?_)
          · -- X6_ask 63t
            have hno : zQs (zO0 S) (zT0 S) a = true → zp8 f < zp8 a := fun h => by unfold zQs at h; rw [h63, Bool.and_false] at h; cases h
            refine g_iconst C (nI 0) dX6_ask_70 (by decide) ?_
            refine g_istore5 C dX6_ask_71 ?_
            refine g_iload5 C dX6_ask_73 ?_
            refine g_if_eqN C 83 (by omega) dX6_ask_75 (by decide) (fun h75 => ?_) (fun h75 => absurd h75 (by decide))
            refine g_iload3 C dX6_ask_83 ?_
            refine g_istore3 C dX6_ask_84 ?_
            refine g_iinc4 C dX6_ask_85 ?_
            refine g_goto C 30 dX6_ask_88 (by decide) ?_
            first | exact ih f _ c1 (by omega) hR1 hQ hfr hl0 (hL.no hno) | exact ih f _ c3 (by omega) hR3 hQ3 hfr3 hl0 (hL.no hno) | exact ih a _ c3 (by omega) hR3 hQ3 hfr3 hl0 (hL.yes hyes (zSb_le hsb) h53)
          · -- X6_ask 63f
            have hyes : zQs (zO0 S) (zT0 S) a = true := by unfold zQs zSub; rw [decide_eq_true h41, h63]; rfl
            refine g_iconst C (nI 1) dX6_ask_66 (by decide) ?_
            refine g_goto C 71 dX6_ask_67 (by decide) ?_
            refine g_istore5 C dX6_ask_71 ?_
            refine g_iload5 C dX6_ask_73 ?_
            refine g_if_eqN C 83 (by omega) dX6_ask_75 (by decide) (fun h75 => absurd h75 (by decide)) (fun h75 => ?_)
            refine g_iload4 C dX6_ask_78 ?_
            refine g_goto C 84 dX6_ask_80 (by decide) ?_
            refine g_istore3 C dX6_ask_84 ?_
            refine g_iinc4 C dX6_ask_85 ?_
            refine g_goto C 30 dX6_ask_88 (by decide) ?_
            first | exact ih f _ c1 (by omega) hR1 hQ hfr hl0 (hL.no hno) | exact ih f _ c3 (by omega) hR3 hQ3 hfr3 hl0 (hL.no hno) | exact ih a _ c3 (by omega) hR3 hQ3 hfr3 hl0 (hL.yes hyes (zSb_le hsb) h53)
  refine g_aload0 C dX6_ask_0 ?_
  refine g_callV0i C dX6_ask_1 vlX6_114 (n_there hS hR) hKd (by first | decide | omega) rfl (Nat.le_of_ble_eq_true rfl) (show 56 < 68 by decide) rfl ?_
  rintro _ _ ⟨rfl, rfl⟩
  refine g_istore1 C dX6_ask_4 ?_
  refine g_iload1 C dX6_ask_5 ?_
  refine g_callS1i C dX6_ask_6 slX6_95 (n_ones (show zT0 S < 256 by omega)) hKd (by first | decide | omega) rfl (Nat.le_of_ble_eq_true rfl) ?_
  rintro _ _ ⟨rfl, rfl⟩
  refine g_istore2 C dX6_ask_9 ?_
  refine g_aload0 C dX6_ask_10 ?_
  refine g_iload1 C dX6_ask_11 ?_
  refine g_callV1v C dX6_ask_12 vlX6_130 (n_lays hS hR hS.t (zT0_n hS)) hKd (by first | decide | omega) rfl (Nat.le_of_ble_eq_true rfl) (show 56 < 68 by decide) rfl ?_
  rintro _ ⟨c1, rfl, hrw, hf⟩
  have hQ : RwQ c1 (zO0 S) (zT0 S) := RwQ_of hrw hS.t
  have hR1 : RepM c1 t S := hR.frl hf
  have hO := hQ.2.2.1
  refine g_aload0 C dX6_ask_15 ?_
  refine g_getIE C hQ.1.1 dX6_ask_16 flX6_124 (show 56 < 68 by decide) rfl rfl ?_
  refine g_if_neN C 25 (by omega) dX6_ask_19 (by decide) (fun h19 => ?_) (fun h19 => ?_)
  · -- X6_ask 19t
    
    refine g_iload1 C dX6_ask_25 ?_
    refine g_istore3 C dX6_ask_26 ?_
    refine g_iload1 C dX6_ask_27 ?_
    refine g_istore4 C dX6_ask_28 ?_
    refine g_set (L' := [some (.ref 56), some (.int (nI (zT0 S))), some (.int (nI (zp8 (zT0 S)))), some (.int (nI (zT0 S))), some (.int (nI (zT0 S + 1) + (-1))), _]) rfl (by rw [zdn _ (by omega)]; rfl) rfl ?_
    exact H30 _ _ _ c1 (by omega) hR1 hQ (fun a h => hf.1 a (by omega) (by omega) (by omega) (by omega)) h19 ⟨by unfold zQs; rw [zSub_self _ hT, zKn_few hQ (zSb.rf _) (by omega)]; rfl, Nat.le_refl _, fun b h1 h2 _ => absurd h2 (by omega)⟩
  · -- X6_ask 19f
    have hr : a_ask S = -9 := by unfold a_ask; rw [if_pos h19]
    refine g_bipush C (-9) dX6_ask_22 (by decide) ?_
    exact g_reti M dX6_ask_24 (by rw [hr]; exact zOutM.mk' rfl hR1 (fun a ha => hf.1 a (by omega) (by omega) (by omega) (by omega)) (fun _ _ => rfl))
