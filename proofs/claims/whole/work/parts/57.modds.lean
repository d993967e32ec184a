/-! the reference: odds, kinds, letters -/
def zIts (a s i : Nat) : Nat := a ^ zpc i s * (10 - a) ^ (i - zpc i s)
theorem zIts_1 {a s i : Nat} (h : (s.testBit i).toNat = 1) : zIts a s i * a = zIts a s (i + 1) := by
  unfold zIts
  rw [show zpc (i + 1) s = zpc i s + (s.testBit i).toNat from rfl, h, show i + 1 - (zpc i s + 1) = i - zpc i s by omega, Nat.pow_succ, Nat.mul_assoc, Nat.mul_assoc, Nat.mul_comm a]
theorem zIts_0 {a s i : Nat} (h : (s.testBit i).toNat ≠ 1) : zIts a s i * (10 - a) = zIts a s (i + 1) := by
  have h0 : (s.testBit i).toNat = 0 := by cases hb : s.testBit i <;> rw [hb] at h <;> first | rfl | exact absurd rfl h
  have hl := zp8_le i s
  unfold zIts
  rw [show zpc (i + 1) s = zpc i s + (s.testBit i).toNat from rfl, h0, Nat.add_zero, show i + 1 - zpc i s = (i - zpc i s) + 1 by omega, Nat.pow_succ, Nat.mul_assoc]
theorem zone6 {fs : List zF} (h : sF 56 = .inr (6, fs)) : ∀ i m, fs[i]? = some (.inl (m + 1)) → i = 0 := by
  cases h
  intro i m h
  match i, h with
  | 0, _ => rfl
  | 1, h => cases h
  | 2, h => cases h
  | 3, h => cases h
  | 4, h => cases h
  | 5, h => cases h
  | 6, h => cases h
  | 7, h => cases h
  | 8, h => cases h
  | 9, h => cases h
  | 10, h => cases h
  | 11, h => cases h
  | 12, h => cases h
  | 13, h => cases h
  | 14, h => cases h
  | 15, h => cases h
  | 16, h => cases h
  | 17, h => cases h
  | 18, h => cases h
  | i + 19, h => simp at h
theorem RepM.addM {c : Nat → Nat → Int32} {t : Nat → Int64} {S : zAb} (h : RepM c t S) {x y : Int64} (e : x = S.2.2.2.2.2 + y) : RepM c (z_upL t 56 x) (zAddT S y) := ⟨h.1, h.2.1, h.2.2.1, h.2.2.2.1, h.2.2.2.2.1, (upL_s _ _ _).trans e⟩
theorem RepM.text {c c' : Nat → Nat → Int32} {t : Nat → Int64} {S : zAb} (h : RepM c t S) {l : Nat} {f : Nat → Nat} (he : ∀ a, 58 ≤ a → a ≤ 63 → c' a = c a) (h7 : c' 56 7 = c 56 7) (h2 : c' 56 2 = nI l) (hf : ∀ i, i < l → c' 57 i = nI (f i)) : RepM c' t (S.1, S.2.1, S.2.2.1, S.2.2.2.1, (l, f), S.2.2.2.2.2) := by
  obtain ⟨a1, a2, a3, a4, a5, a6⟩ := h
  refine ⟨by rw [he 58 (by decide) (by decide)]; exact a1, by rw [he 60 (by decide) (by decide)]; exact a2, ⟨h7.trans a3.1, fun i M hM => ?_⟩, fun j hj => ?_, ⟨h2, hf⟩, a6⟩
  · rw [he 61 (by decide) (by decide)]; exact a3.2 i M hM
  · rw [he 62 (by decide) (by decide), he 63 (by decide) (by decide)]; exact a4 j hj
set_option maxRecDepth 100000 in
set_option maxHeartbeats 4000000 in
theorem q_odds {Γ : zG} {c : Nat → Nat → Int32} {t : Nat → Int64} {S : zAb} (hS : OkS S) (hR : RepM c t S) {p k w : Int32} : Sp Γ 2 mX6_odds [.ref 56, .int p, .int k, .int w] 0 0 (wF c t) (z_pi (zOutM c t (a_odds S p k w) (S))) := by
  refine Sp.of (own := RX6) 6 false rfl (by decide +kernel) rfl rfl (fun h => by cases h) (fun K hKd M => ?_)
  have C := M.1
  show GG Γ K 0 0 (wF c t) 0 [some (.ref 56), some (.int p), some (.int k), some (.int w), none, none, none, none, none, none] []
  have hsl := zSl_le hS
  have hsl2 := zSl_is hS
  have hs128 := zs_le hsl
  have H96a : ∀ (a b j s : Nat), a < 11 → b < 8 → j < 2 → s < 128 → GG Γ K 0 0 (wF c t) 133 [some (.ref 56), some (.int (nI a)), some (.int (nI b)), some (.int (nI j)), some (.int (nI (zSl S))), some (.int (nI (zOd a b (zSl S) s))), some (.int (nI (10 ^ zSl S))), some (.int (nI s)), some (.int (nI (zIts a s (zSl S)))), some (.int (nI (zSl S)))] [] → GG Γ K 0 0 (wF c t) 96 [some (.ref 56), some (.int (nI a)), some (.int (nI b)), some (.int (nI j)), some (.int (nI (zSl S))), some (.int (nI (zOd a b (zSl S) s))), some (.int (nI (10 ^ zSl S))), some (.int (nI s)), some (.int (nI (1))), some (.int (nI 0))] [] := by
    intro a b j s ha hb hj hs hexit
    have H96 : ∀ (n : Nat) (i : Nat), i ≤ zSl S → zSl S - i < n → GG Γ K 0 0 (wF c t) 96 [some (.ref 56), some (.int (nI a)), some (.int (nI b)), some (.int (nI j)), some (.int (nI (zSl S))), some (.int (nI (zOd a b (zSl S) s))), some (.int (nI (10 ^ zSl S))), some (.int (nI s)), some (.int (nI (zIts a s i))), some (.int (nI i))] [] := by
      intro n
      induction n with
      | zero => intro i hi hn; exact absurd hn (by omega)
      | succ n ih =>
        intro i hi hn
        refine g_iload9 C dX6_odds_96 ?_
        refine g_iload4 C dX6_odds_98 ?_
        refine g_icmp_geN C 133 (by omega) (by omega) dX6_odds_100 (by decide) (fun h100 => ?_) (fun h100 => ?_)
        · -- X6_odds 100t
          obtain rfl : i = zSl S := by omega
          exact hexit
        · -- X6_odds 100f
          
          refine g_iload8 C dX6_odds_103 ?_
          refine g_iload7 C dX6_odds_105 ?_
          refine g_iload9 C dX6_odds_107 ?_
          refine g_ishrN C dX6_odds_109 (by omega) (by omega) ?_
          refine g_iconst C (nI 1) dX6_odds_110 (by decide) ?_
          refine g_iandN C dX6_odds_111 ?_
          refine g_top (by rw [zn_bit]) ?_
          refine g_iconst C (nI 1) dX6_odds_112 (by decide) ?_
          refine g_icmp_neN C 120 (by cases s.testBit i <;> decide) (by decide) dX6_odds_113 (by decide) (fun h113 => ?_) (fun h113 => ?_)
          · -- X6_odds 113t
            
            refine g_bipush C (nI 10) dX6_odds_120 (by decide) ?_
            refine g_iload1 C dX6_odds_122 ?_
            refine g_isubN C dX6_odds_123 (by omega) ?_
            refine g_imulN C dX6_odds_124 ?_
            refine g_istore8 C dX6_odds_125 ?_
            refine g_set (L' := [some (.ref 56), some (.int (nI a)), some (.int (nI b)), some (.int (nI j)), some (.int (nI (zSl S))), some (.int (nI (zOd a b (zSl S) s))), some (.int (nI (10 ^ zSl S))), some (.int (nI s)), some (.int (nI (zIts a s (i + 1)))), some (.int (nI i))]) rfl (by rw [← zIts_0 h113]) rfl ?_
            refine g_iinc9N C dX6_odds_127 ?_
            refine g_goto C 96 dX6_odds_130 (by decide) ?_
            exact ih (i + 1) (by omega) (by omega)
          · -- X6_odds 113f
            
            refine g_iload1 C dX6_odds_116 ?_
            refine g_goto C 124 dX6_odds_117 (by decide) ?_
            refine g_imulN C dX6_odds_124 ?_
            refine g_istore8 C dX6_odds_125 ?_
            refine g_set (L' := [some (.ref 56), some (.int (nI a)), some (.int (nI b)), some (.int (nI j)), some (.int (nI (zSl S))), some (.int (nI (zOd a b (zSl S) s))), some (.int (nI (10 ^ zSl S))), some (.int (nI s)), some (.int (nI (zIts a s (i + 1)))), some (.int (nI i))]) rfl (by rw [← zIts_1 h113]) rfl ?_
            refine g_iinc9N C dX6_odds_127 ?_
            refine g_goto C 96 dX6_odds_130 (by decide) ?_
            exact ih (i + 1) (by omega) (by omega)
    refine g_set (L' := [some (.ref 56), some (.int (nI a)), some (.int (nI b)), some (.int (nI j)), some (.int (nI (zSl S))), some (.int (nI (zOd a b (zSl S) s))), some (.int (nI (10 ^ zSl S))), some (.int (nI s)), some (.int (nI (zIts a s 0))), some (.int (nI 0))]) rfl (by rw [show zIts a s 0 = 1 from rfl]) rfl ?_
    exact H96 (zSl S + 1) 0 (Nat.zero_le _) (by omega)
  have H81 : ∀ (n : Nat) (a b j s : Nat) (x y : Option Value), a < 11 → b < 8 → j < 2 → a_odds S p k w = zFr (zOd a b (zSl S) (1 <<< zSl S)) (10 ^ zSl S) j → s ≤ 1 <<< zSl S → 1 <<< zSl S - s < n → GG Γ K 0 0 (wF c t) 81 [some (.ref 56), some (.int (nI a)), some (.int (nI b)), some (.int (nI j)), some (.int (nI (zSl S))), some (.int (nI (zOd a b (zSl S) s))), some (.int (nI (10 ^ zSl S))), some (.int (nI (s))), x, y] [] := by
    intro n
    induction n with
    | zero => intro a b j s x y ha hb hj hr hs hn; exact absurd hn (by omega)
    | succ n ih =>
      intro a b j s x y ha hb hj hr hs hn
      have hzz : 1 <<< zSl S ≤ 128 := hs128
      refine g_iload7 C dX6_odds_81 ?_
      refine g_iconst C (nI 1) dX6_odds_83 (by decide) ?_
      refine g_iload4 C dX6_odds_84 ?_
      refine g_ishlN C dX6_odds_86 (by omega) ?_
      refine g_icmp_geN C 159 (by omega) (by omega) dX6_odds_87 (by decide) (fun h87 => ?_) (fun h87 => ?_)
      · -- X6_odds 87t
        obtain rfl : s = 1 <<< zSl S := by omega
        have hbd := zOd_lt (k := b) (show a ≤ 10 by omega) hsl
        have hgp : 0 < Nat.gcd (zOd a b (zSl S) (1 <<< zSl S)) (10 ^ zSl S) := Nat.gcd_pos_of_pos_right _ hbd.2.2
        have hgl : Nat.gcd (zOd a b (zSl S) (1 <<< zSl S)) (10 ^ zSl S) ≤ 10 ^ zSl S := Nat.gcd_le_right _ hbd.2.2
        refine g_iload5 C dX6_odds_159 ?_
        refine g_iload6 C dX6_odds_161 ?_
        refine g_callS2i C dX6_odds_163 slX6_151 (n_common hbd.1 hbd.2.1) hKd (by first | decide | omega) rfl (Nat.le_of_ble_eq_true rfl) ?_
        rintro _ _ ⟨rfl, rfl⟩
        refine g_istore7 C dX6_odds_166 ?_
        refine g_iload3 C dX6_odds_168 ?_
        refine g_if_neN C 180 (by omega) dX6_odds_169 (by decide) (fun h169 => ?_) (fun h169 => ?_)
        · -- X6_odds 169t
          
          refine g_iload6 C dX6_odds_180 ?_
          refine g_iload7 C dX6_odds_182 ?_
          refine g_idivN C dX6_odds_184 hbd.2.1 hgp (by omega) ?_
          exact g_reti M dX6_odds_185 (by rw [hr]; unfold zFr; first | (rw [if_pos h169]; exact zOutM.same hR) | (rw [if_neg (by omega)]; exact zOutM.same hR))
        · -- X6_odds 169f
          
          refine g_iload5 C dX6_odds_172 ?_
          refine g_iload7 C dX6_odds_174 ?_
          refine g_idivN C dX6_odds_176 hbd.1 hgp (by omega) ?_
          refine g_goto C 185 dX6_odds_177 (by decide) ?_
          exact g_reti M dX6_odds_185 (by rw [hr]; unfold zFr; first | (rw [if_pos h169]; exact zOutM.same hR) | (rw [if_neg (by omega)]; exact zOutM.same hR))
      · -- X6_odds 87f
        have hIt : zIts a s (zSl S) = a ^ zp8 s * (10 - a) ^ (zSl S - zp8 s) := by unfold zIts; rw [zpc_top (by omega) h87]
        refine g_iconst C (nI 1) dX6_odds_90 (by decide) ?_
        refine g_istore8 C dX6_odds_91 ?_
        refine g_iconst C (nI 0) dX6_odds_93 (by decide) ?_
        refine g_istore9 C dX6_odds_94 ?_
        refine H96a a b j s ha hb hj (by omega) ?_
        refine g_iload5 C dX6_odds_133 ?_
        refine g_iload7 C dX6_odds_135 ?_
        refine g_callS1i C dX6_odds_137 slX6_95 (n_ones (by omega)) hKd (by first | decide | omega) rfl (Nat.le_of_ble_eq_true rfl) ?_
        rintro _ _ ⟨rfl, rfl⟩
        refine g_iload2 C dX6_odds_140 ?_
        refine g_icmp_gtN C 149 (by have := zp8_8 s; omega) (by omega) dX6_odds_141 (by decide) (fun h141 => ?_) (fun h141 => ?_)
        · -- X6_odds 141t
          
          refine g_iconst C (nI 0) dX6_odds_149 (by decide) ?_
          refine g_iaddN C dX6_odds_150 ?_
          refine g_istore5 C dX6_odds_151 ?_
          refine g_set (L' := [some (.ref 56), some (.int (nI a)), some (.int (nI b)), some (.int (nI j)), some (.int (nI (zSl S))), some (.int (nI (zOd a b (zSl S) (s + 1)))), some (.int (nI (10 ^ zSl S))), some (.int (nI s)), some (.int (nI (zIts a s (zSl S)))), some (.int (nI (zSl S)))]) rfl (by rw [zOd, if_neg (show ¬ zp8 s ≤ b by omega), Nat.add_zero]) rfl ?_
          refine g_iinc7N C dX6_odds_153 ?_
          refine g_goto C 81 dX6_odds_156 (by decide) ?_
          exact ih a b j (s + 1) _ _ ha hb hj hr (by omega) (by omega)
        · -- X6_odds 141f
          
          refine g_iload8 C dX6_odds_144 ?_
          refine g_goto C 150 dX6_odds_146 (by decide) ?_
          refine g_iaddN C dX6_odds_150 ?_
          refine g_istore5 C dX6_odds_151 ?_
          refine g_set (L' := [some (.ref 56), some (.int (nI a)), some (.int (nI b)), some (.int (nI j)), some (.int (nI (zSl S))), some (.int (nI (zOd a b (zSl S) (s + 1)))), some (.int (nI (10 ^ zSl S))), some (.int (nI s)), some (.int (nI (zIts a s (zSl S)))), some (.int (nI (zSl S)))]) rfl (by rw [zOd, if_pos (show zp8 s ≤ b by omega), hIt]) rfl ?_
          refine g_iinc7N C dX6_odds_153 ?_
          refine g_goto C 81 dX6_odds_156 (by decide) ?_
          exact ih a b j (s + 1) _ _ ha hb hj hr (by omega) (by omega)
  have H58 : ∀ (n : Nat) (a b j i : Nat) (x y : Option Value), a < 11 → b < 8 → j < 2 → a_odds S p k w = zFr (zOd a b (zSl S) (1 <<< zSl S)) (10 ^ zSl S) j → i ≤ zSl S → zSl S - i < n → GG Γ K 0 0 (wF c t) 58 [some (.ref 56), some (.int (nI a)), some (.int (nI b)), some (.int (nI j)), some (.int (nI (zSl S))), some (.int (nI (0))), some (.int (nI (10 ^ i))), some (.int (nI (i))), x, y] [] := by
    intro n
    induction n with
    | zero => intro a b j i x y ha hb hj hr hi hn; exact absurd hn (by omega)
    | succ n ih =>
      intro a b j i x y ha hb hj hr hi hn
      refine g_iload7 C dX6_odds_58 ?_
      refine g_iload4 C dX6_odds_60 ?_
      refine g_icmp_geN C 78 (by omega) (by omega) dX6_odds_62 (by decide) (fun h62 => ?_) (fun h62 => ?_)
      · -- X6_odds 62t
        obtain rfl : i = zSl S := by omega
        refine g_iconst C (nI 0) dX6_odds_78 (by decide) ?_
        refine g_istore7 C dX6_odds_79 ?_
        exact H81 (1 <<< zSl S + 1) a b j 0 _ _ ha hb hj hr (Nat.zero_le _) (Nat.lt_succ_of_le (Nat.sub_le _ _))
      · -- X6_odds 62f
        
        refine g_iload6 C dX6_odds_65 ?_
        refine g_bipush C (nI 10) dX6_odds_67 (by decide) ?_
        refine g_imulN C dX6_odds_69 ?_
        refine g_istore6 C dX6_odds_70 ?_
        refine g_set (L' := [some (.ref 56), some (.int (nI a)), some (.int (nI b)), some (.int (nI j)), some (.int (nI (zSl S))), some (.int (nI (0))), some (.int (nI (10 ^ (i + 1)))), some (.int (nI (i))), x, y]) rfl (by rw [Nat.pow_succ]) rfl ?_
        refine g_iinc7N C dX6_odds_72 ?_
        refine g_goto C 58 dX6_odds_75 (by decide) ?_
        exact ih a b j (i + 1) _ _ ha hb hj hr (by omega) (by omega)
  refine g_iload1 C dX6_odds_0 ?_
  refine g_iconst C (nI 0) dX6_odds_1 (by decide) ?_
  refine g_bipush C (nI 10) dX6_odds_2 (by decide) ?_
  refine g_callS3i C dX6_odds_4 slX6_52 (n_in) hKd (by first | decide | omega) rfl (Nat.le_of_ble_eq_true rfl) ?_
  rintro _ _ ⟨rfl, rfl⟩
  rw [zIn_ix (n := 11) (by decide) (by decide)]
  refine g_if_eqB C 29 dX6_odds_7 (by decide) (fun h7 => ?_) (fun h7 => ?_)
  · -- X6_odds 7t
    have hz := zsome_f h7
    have hr : a_odds S p k w = -1 := by unfold a_odds; rw [hz]
    refine g_iconst C (-1) dX6_odds_29 (by decide) ?_
    exact g_reti M dX6_odds_30 (by rw [hr]; exact zOutM.same hR)
  · -- X6_odds 7f
    obtain ⟨a, hz⟩ := zsome_t h7
    obtain ⟨ha, hp⟩ := zIdx_iff hz
    refine g_iload2 C dX6_odds_10 ?_
    refine g_iconst C (nI 0) dX6_odds_11 (by decide) ?_
    refine g_bipush C (nI 7) dX6_odds_12 (by decide) ?_
    refine g_callS3i C dX6_odds_14 slX6_52 (n_in) hKd (by first | decide | omega) rfl (Nat.le_of_ble_eq_true rfl) ?_
    rintro _ _ ⟨rfl, rfl⟩
    rw [zIn_ix (n := 8) (by decide) (by decide)]
    refine g_if_eqB C 29 dX6_odds_17 (by decide) (fun h17 => ?_) (fun h17 => ?_)
    · -- X6_odds 17t
      have hz2 := zsome_f h17
      have hr : a_odds S p k w = -1 := by unfold a_odds; rw [hz, hz2]
      refine g_iconst C (-1) dX6_odds_29 (by decide) ?_
      exact g_reti M dX6_odds_30 (by rw [hr]; exact zOutM.same hR)
    · -- X6_odds 17f
      obtain ⟨b, hz2⟩ := zsome_t h17
      obtain ⟨hb, hk⟩ := zIdx_iff hz2
      refine g_iload3 C dX6_odds_20 ?_
      refine g_iconst C (nI 0) dX6_odds_21 (by decide) ?_
      refine g_iconst C (nI 1) dX6_odds_22 (by decide) ?_
      refine g_callS3i C dX6_odds_23 slX6_52 (n_in) hKd (by first | decide | omega) rfl (Nat.le_of_ble_eq_true rfl) ?_
      rintro _ _ ⟨rfl, rfl⟩
      rw [zIn_ix (n := 2) (by decide) (by decide)]
      refine g_if_neB C 31 dX6_odds_26 (by decide) (fun h26 => ?_) (fun h26 => ?_)
      · -- X6_odds 26t
        obtain ⟨j, hz3⟩ := zsome_t h26
        obtain ⟨hj, hw⟩ := zIdx_iff hz3
        have hr : a_odds S p k w = zFr (zOd a b (zSl S) (1 <<< zSl S)) (10 ^ zSl S) j := by unfold a_odds; rw [hz, hz2, hz3]
        rw [hp, hk, hw]
        refine g_aload0 C dX6_odds_31 ?_
        refine g_getRT C dX6_odds_32 flX6_13 (show 56 < 68 by decide) rfl rfl (by decide) ?_
        refine g_iconst C (nI 0) dX6_odds_35 (by decide) ?_
        refine g_ialdE C hR.1.1 (by omega) (by decide) dX6_odds_36 (show 58 < 68 by decide) rfl ?_
        refine g_aload0 C dX6_odds_37 ?_
        refine g_getRT C dX6_odds_38 flX6_19 (show 56 < 68 by decide) rfl rfl (by decide) ?_
        refine g_iconst C (nI 1) dX6_odds_41 (by decide) ?_
        refine g_ialdE C hR.2.1.2.1 (by omega) (by decide) dX6_odds_42 (show 60 < 68 by decide) rfl ?_
        refine g_callS1i C dX6_odds_43 slX6_95 (n_ones (by have := hS.g; omega)) hKd (by first | decide | omega) rfl (Nat.le_of_ble_eq_true rfl) ?_
        rintro _ _ ⟨rfl, rfl⟩
        refine g_isubN C dX6_odds_46 hsl2.2 ?_
        refine g_istore4 C dX6_odds_47 ?_
        refine g_set (L' := [some (.ref 56), some (.int (nI a)), some (.int (nI b)), some (.int (nI j)), some (.int (nI (zSl S))), none, none, none, none, none]) rfl (by rw [hsl2.1]) rfl ?_
        refine g_iconst C (nI 0) dX6_odds_49 (by decide) ?_
        refine g_istore5 C dX6_odds_50 ?_
        refine g_iconst C (nI 1) dX6_odds_52 (by decide) ?_
        refine g_istore6 C dX6_odds_53 ?_
        refine g_iconst C (nI 0) dX6_odds_55 (by decide) ?_
        refine g_istore7 C dX6_odds_56 ?_
        exact H58 (zSl S + 1) a b j 0 _ _ ha hb hj hr (Nat.zero_le _) (by omega)
      · -- X6_odds 26f
        have hz3 := zsome_f h26
        have hr : a_odds S p k w = -1 := by unfold a_odds; rw [hz, hz2, hz3]
        refine g_iconst C (-1) dX6_odds_29 (by decide) ?_
        exact g_reti M dX6_odds_30 (by rw [hr]; exact zOutM.same hR)
