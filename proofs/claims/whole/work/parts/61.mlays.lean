/-! the reference: all orders of a set -/
theorem zSg_le (A : zCr) (h s : Nat) : zSg A h s ≤ h + 1 := by unfold zSg; split <;> omega
set_option maxRecDepth 100000 in
set_option maxHeartbeats 4000000 in
theorem n_lays {Γ : zG} {c : Nat → Nat → Int32} {t : Nat → Int64} {S : zAb} (hS : OkS S) (hR : RepM c t S) {T : Nat} (hT : T < 128) (hTs : ∀ s, T.testBit s = true → s < cN S.1) : Sp Γ 3 mX6_lays [.ref 56, .int (nI T)] 0 0 (wF c t) (z_pv (fun w => ∃ c', w = wF c' t ∧ RwC c' (zOrd S.1 S.2.1 T) ∧ FrL 0 c c')) := by
  refine Sp.of (own := RX6) 7 false rfl (by decide +kernel) rfl rfl (fun h => by cases h) (fun K hKd M => ?_)
  have C := M.1
  show GG Γ K 0 0 (wF c t) 0 [some (.ref 56), some (.int (nI T)), none, none, none, none, none, none, none] []
  have hn7 : cN S.1 ≤ 7 := hS.1.1
  have hT8 : zp8 T ≤ 7 := zp8_7 hT
  have hTn : ∀ s, cN S.1 ≤ s → T.testBit s = false := fun s hs => by
    cases hb : T.testBit s with
    | false => rfl
    | true => exact absurd (hTs s hb) (by omega)
  have HL : ∀ (r : Nat) (P : List Nat) (h : Nat) (j i : Nat) (O0 : List (List Nat)) (c1 : Nat → Nat → Int32) (x4 x5 x6 x7 x8 : Option Value), cN S.1 - i < j → P.length + (r + 1) = zp8 T → zSb (zBs P) T → zp8 (zBs P) = P.length → (∀ k, k < P.length → zGd P k < 7) → RepM c1 t S → LvC c1 P h → c1 65 P.length = nI i + (-1) → i ≤ cN S.1 → RwC c1 (O0 ++ (zOs S.1 (zInkS S.2.1) T (mH S.2.1) (6 - P.length) P.length (zBs P) h i).map (P ++ ·)) → O0.length + (zOs S.1 (zInkS S.2.1) T (mH S.2.1) (6 - P.length) P.length (zBs P) h 7).length ≤ 5040 → h ≤ mH S.2.1 → (∀ (c2 : Nat → Nat → Int32) (y4 y5 y6 y7 y8 : Option Value), FrL P.length c1 c2 → RwC c2 (O0 ++ (zOs S.1 (zInkS S.2.1) T (mH S.2.1) (6 - P.length) P.length (zBs P) h 7).map (P ++ ·)) → GG Γ K 0 0 (wF c2 t) 36 [some (.ref 56), some (.int (nI T)), some (.int (nI (zp8 T))), some (.int (nI P.length + (-1))), y4, y5, y6, y7, y8] []) → GG Γ K 0 0 (wF c1 t) 36 [some (.ref 56), some (.int (nI T)), some (.int (nI (zp8 T))), some (.int (nI P.length)), x4, x5, x6, x7, x8] [] := by
    intro r
    induction r with
    | zero =>
      intro P h j
      induction j with
      | zero => intro i O0 c1 x4 x5 x6 x7 x8 hj; exact absurd hj (by omega)
      | succ j ih =>
        intro i O0 c1 x4 x5 x6 x7 x8 hj hd hsb hpc hP7 hR1 hL htry hi hrw hb hh9 hexit
        have hhlt : h < 2 ^ 31 := by have := hS.2.1.1; omega
        have hd7 : P.length < 7 := by omega
        have hmT : zBs P < 128 := Nat.lt_of_le_of_lt (zSb_le hsb) hT
        have hR2 : RepM (z_up c1 65 P.length (nI i)) t S := hR1.frl (d := P.length) (FrL.u65 (Nat.le_refl _))
        have hf2 : FrL P.length c1 (z_up c1 65 P.length (nI i)) := FrL.u65 (Nat.le_refl _)
        have hno : ∀ (c3 : Nat → Nat → Int32) (y4 y5 y6 y7 y8 : Option Value), i < cN S.1 → zOk S.1 (zInkS S.2.1) T (mH S.2.1) P.length (zBs P) h i = false → FrL P.length c1 c3 → c3 65 P.length = nI i → c3 56 15 = c1 56 15 → c3 64 = c1 64 → GG Γ K 0 0 (wF c3 t) 36 [some (.ref 56), some (.int (nI T)), some (.int (nI (zp8 T))), some (.int (nI P.length)), y4, y5, y6, y7, y8] [] := by
          intro c3 y4 y5 y6 y7 y8 hic hok hf h65 h15 h64
          exact ih (i + 1) O0 c3 y4 y5 y6 y7 y8 (by omega) hd hsb hpc hP7 (hR1.frl hf) (hL.fr hf) (h65.trans (zdn i (by omega)).symm) (by omega) (by rw [zOs_no hok]; exact hrw.fr h15 h64) hb hh9 (fun c4 z4 z5 z6 z7 z8 h1 h2 => hexit c4 z4 z5 z6 z7 z8 (hf.tr h1) h2)
        have H64a : GG Γ K 0 0 (wF (z_up c1 65 P.length (nI i)) t) 90 [some (.ref 56), some (.int (nI T)), some (.int (nI (zp8 T))), some (.int (nI P.length)), some (.int (nI i)), some (.int (nI (zBs P))), some (.int (nI (P.length))), x7, x8] [] → GG Γ K 0 0 (wF (z_up c1 65 P.length (nI i)) t) 64 [some (.ref 56), some (.int (nI T)), some (.int (nI (zp8 T))), some (.int (nI P.length)), some (.int (nI i)), some (.int (nI (0))), some (.int (nI (0))), x7, x8] [] := by
          intro hexit2
          have H64 : ∀ (n : Nat) (k : Nat), k ≤ P.length → P.length - k < n → GG Γ K 0 0 (wF (z_up c1 65 P.length (nI i)) t) 64 [some (.ref 56), some (.int (nI T)), some (.int (nI (zp8 T))), some (.int (nI P.length)), some (.int (nI i)), some (.int (nI (zBf (zGd P) k))), some (.int (nI (k))), x7, x8] [] := by
            intro n
            induction n with
            | zero => intro k hk hn; exact absurd hn (by omega)
            | succ n ih =>
              intro k hk hn
              refine g_iload6 C dX6_lays_64 ?_
              refine g_iload3 C dX6_lays_66 ?_
              refine g_icmp_geN C 90 (by omega) (by omega) dX6_lays_67 (by decide) (fun h67 => ?_) (fun h67 => ?_)
              · -- X6_lays 67t
                obtain rfl : k = P.length := by omega
                exact hexit2
              · -- X6_lays 67f
                have hg7 := hP7 k h67
                refine g_iload5 C dX6_lays_70 ?_
                refine g_iconst C (nI 1) dX6_lays_72 (by decide) ?_
                refine g_aload0 C dX6_lays_73 ?_
                refine g_getRT C dX6_lays_74 flX6_35 (show 56 < 68 by decide) rfl rfl (by decide) ?_
                refine g_iload6 C dX6_lays_77 ?_
                refine g_ialdE C ((up_j _ (by omega)).trans (hL.1 k h67)) (by omega) (by decide) dX6_lays_79 (show 65 < 68 by decide) rfl ?_
                refine g_ishlN C dX6_lays_80 (by omega) ?_
                refine g_iorN C dX6_lays_81 ?_
                refine g_istore5 C dX6_lays_82 ?_
                refine g_iinc6N C dX6_lays_84 ?_
                refine g_goto C 64 dX6_lays_87 (by decide) ?_
                exact ih (k + 1) (by omega) (by omega)
          exact H64 (P.length + 1) 0 (Nat.zero_le _) (by omega)
        have h90 : GG Γ K 0 0 (wF (z_up c1 65 P.length (nI i)) t) 90 [some (.ref 56), some (.int (nI T)), some (.int (nI (zp8 T))), some (.int (nI P.length)), some (.int (nI i)), some (.int (nI (zBs P))), some (.int (nI (P.length))), x7, x8] [] := by
          refine g_iload4 C dX6_lays_90 ?_
          refine g_aload0 C dX6_lays_92 ?_
          refine g_getRT C dX6_lays_93 flX6_13 (show 56 < 68 by decide) rfl rfl (by decide) ?_
          refine g_iconst C (nI 0) dX6_lays_96 (by decide) ?_
          refine g_ialdE C ((congrFun (up_K (by decide)) 0).trans hR1.1.1) (by omega) (by decide) dX6_lays_97 (show 58 < 68 by decide) rfl ?_
          refine g_icmp_ltN C 107 (by omega) (by omega) dX6_lays_98 (by decide) (fun h98 => ?_) (fun h98 => ?_)
          · -- X6_lays 98t
            
            refine g_iload1 C dX6_lays_107 ?_
            refine g_iload4 C dX6_lays_108 ?_
            refine g_ishrN C dX6_lays_110 (by omega) (by omega) ?_
            refine g_iconst C (nI 1) dX6_lays_111 (by decide) ?_
            refine g_iandN C dX6_lays_112 ?_
            refine g_top (by rw [zn_bit]) ?_
            refine g_iconst C (nI 1) dX6_lays_113 (by decide) ?_
            refine g_icmp_neN C 303 (by cases T.testBit i <;> decide) (by decide) dX6_lays_114 (by decide) (fun h114 => ?_) (fun h114 => ?_)
            · -- X6_lays 114t
              refine g_goto C 36 dX6_lays_303 (by decide) ?_
              exact hno (z_up c1 65 P.length (nI i)) _ _ _ _ _ h98 (by unfold zOk; rw [zan_bit _ _ (show i < 32 by omega), show T.testBit i = false by (cases hb2 : T.testBit i with | false => rfl | true => rw [hb2] at h114; exact absurd rfl h114)]; rfl) hf2 (up_s _ _ _ _) (up_k (by decide) _) (up_K (by decide))
            · -- X6_lays 114f
              replace h114 : T.testBit i = true := zbit_one (by omega)
              refine g_aload0 C dX6_lays_117 ?_
              refine g_iload4 C dX6_lays_118 ?_
              refine g_iload5 C dX6_lays_120 ?_
              refine g_callV2i C dX6_lays_122 vlX6_98 (n_would hS.1 hR2.1 h98 hmT) hKd (by first | decide | omega) rfl (Nat.le_of_ble_eq_true rfl) (show 56 < 68 by decide) rfl ?_
              rintro _ _ ⟨rfl, rfl⟩
              refine g_if_eqB C 303 dX6_lays_125 (by decide) (fun h125 => ?_) (fun h125 => ?_)
              · -- X6_lays 125t
                refine g_goto C 36 dX6_lays_303 (by decide) ?_
                exact hno (z_up c1 65 P.length (nI i)) _ _ _ _ _ h98 (by unfold zOk; unfold zWd at h125; rw [zan_bit _ _ (show i < 32 by omega), h114]; cases hmb : (zBs P).testBit i with | true => rfl | false => rw [hmb] at h125; have hd0 : zDare S.1 i (zBs P) = false := h125; rw [hd0]; simp) hf2 (up_s _ _ _ _) (up_k (by decide) _) (up_K (by decide))
              · -- X6_lays 125f
                unfold zWd at h125
                have hmi : (zBs P).testBit i = false := by cases hmb : (zBs P).testBit i with | false => rfl | true => rw [hmb] at h125; cases h125
                have hda : zDare S.1 i (zBs P) = true := by rw [hmi] at h125; exact h125
                have hdp := hS.1.2.2.2.2.1
                have hmod := Nat.mod_lt P.length (show 0 < cD S.1 by omega)
                have hik : zInkS S.2.1 i ≤ 4 := zInkS_le hS.2.1.2.2.2.2.1 i
                refine g_aload0 C dX6_lays_128 ?_
                refine g_iload4 C dX6_lays_129 ?_
                refine g_callV1i C dX6_lays_131 vlX6_127 (n_inkOf hS hR2 h98) hKd (by first | decide | omega) rfl (Nat.le_of_ble_eq_true rfl) (show 56 < 68 by decide) rfl ?_
                rintro _ _ ⟨rfl, rfl⟩
                refine g_aload0 C dX6_lays_134 ?_
                refine g_getRT C dX6_lays_135 flX6_13 (show 56 < 68 by decide) rfl rfl (by decide) ?_
                refine g_iconst C (nI 1) dX6_lays_138 (by decide) ?_
                refine g_ialdE C ((congrFun (up_K (by decide)) 1).trans hR1.1.2.1) (by omega) (by decide) dX6_lays_139 (show 58 < 68 by decide) rfl ?_
                refine g_iload3 C dX6_lays_140 ?_
                refine g_aload0 C dX6_lays_141 ?_
                refine g_getRT C dX6_lays_142 flX6_13 (show 56 < 68 by decide) rfl rfl (by decide) ?_
                refine g_iconst C (nI 1) dX6_lays_145 (by decide) ?_
                refine g_ialdE C ((congrFun (up_K (by decide)) 1).trans hR1.1.2.1) (by omega) (by decide) dX6_lays_146 (show 58 < 68 by decide) rfl ?_
                refine g_iremN C dX6_lays_147 (by omega) (by omega) (by omega) ?_
                refine g_isubN C dX6_lays_148 (by omega) ?_
                refine g_icmp_neN C 303 (by omega) (by omega) dX6_lays_149 (by decide) (fun h149 => ?_) (fun h149 => ?_)
                · -- X6_lays 149t
                  refine g_goto C 36 dX6_lays_303 (by decide) ?_
                  exact hno (z_up c1 65 P.length (nI i)) _ _ _ _ _ h98 (by unfold zOk; rw [decide_eq_false (show ¬ zInkS S.2.1 i = zInk S.1 P.length from h149)]; simp) hf2 (up_s _ _ _ _) (up_k (by decide) _) (up_K (by decide))
                · -- X6_lays 149f
                  
                  refine g_iload3 C dX6_lays_152 ?_
                  refine g_if_neN C 160 (by omega) dX6_lays_153 (by decide) (fun h153 => ?_) (fun h153 => ?_)
                  · -- X6_lays 153t
                    obtain ⟨hh, hhe, hh2⟩ : ∃ hh, h = hh + 1 ∧ c1 66 (P.length - 1) = nI hh := by rcases hL.2 with q | ⟨hh, q1, q2, q3⟩; omega; exact ⟨hh, q1, q3⟩
                    refine g_aload0 C dX6_lays_160 ?_
                    refine g_getRT C dX6_lays_161 flX6_38 (show 56 < 68 by decide) rfl rfl (by decide) ?_
                    refine g_iload3 C dX6_lays_164 ?_
                    refine g_iconst C (nI 1) dX6_lays_165 (by decide) ?_
                    refine g_isubN C dX6_lays_166 (by omega) ?_
                    refine g_ialdE C ((up_k (by decide) _).trans hh2) (by omega) (by decide) dX6_lays_167 (show 66 < 68 by decide) rfl ?_
                    refine g_iconst C (nI 1) dX6_lays_168 (by decide) ?_
                    refine g_iaddN C dX6_lays_169 ?_
                    refine g_top (show _ = nI h by first | (rw [hh0]; decide) | rw [hhe]) ?_
                    refine g_istore6 C dX6_lays_170 ?_
                    have hhb : h < 2 ^ 31 := hhlt
                    refine g_iload6 C dX6_lays_172 ?_
                    refine g_iload6 C dX6_lays_174 ?_
                    refine g_iconst C (nI 3) dX6_lays_176 (by decide) ?_
                    refine g_iremN C dX6_lays_177 hhb (by decide) (by decide) ?_
                    refine g_aload0 C dX6_lays_178 ?_
                    refine g_getRT C dX6_lays_179 flX6_13 (show 56 < 68 by decide) rfl rfl (by decide) ?_
                    refine g_iconst C (nI 5) dX6_lays_182 (by decide) ?_
                    refine g_iload4 C dX6_lays_183 ?_
                    refine g_iaddN C dX6_lays_185 ?_
                    refine g_ialdE C ((congrFun (up_K (by decide)) _).trans (hR1.1.2.2.2.1 i h98)) (by omega) (by decide) dX6_lays_186 (show 58 < 68 by decide) rfl ?_
                    refine g_icmp_neN C 194 (by omega) (by have := hS.1.2.1 i h98; omega) dX6_lays_187 (by decide) (fun h187 => ?_) (fun h187 => ?_)
                    · -- X6_lays 187t
                      have hsg : h + 0 = zSg S.1 h i := (if_neg h187).symm
                      refine g_iconst C (nI 0) dX6_lays_194 (by decide) ?_
                      refine g_iaddN C dX6_lays_195 ?_
                      refine g_istore6 C dX6_lays_196 ?_
                      refine g_set (L' := [some (.ref 56), some (.int (nI T)), some (.int (nI (zp8 T))), some (.int (nI P.length)), some (.int (nI i)), some (.int (nI (zBs P))), some (.int (nI (zSg S.1 h i))), x7, x8]) rfl (by rw [hsg]) rfl ?_
                      refine g_aload0 C dX6_lays_198 ?_
                      refine g_getRT C dX6_lays_199 flX6_38 (show 56 < 68 by decide) rfl rfl (by decide) ?_
                      refine g_iload3 C dX6_lays_202 ?_
                      refine g_iload6 C dX6_lays_203 ?_
                      refine g_iastN C (by omega) (by decide) dX6_lays_205 (show 66 < 68 by decide) rfl ?_
                      refine g_iload6 C dX6_lays_206 ?_
                      refine g_aload0 C dX6_lays_208 ?_
                      refine g_getRT C dX6_lays_209 flX6_19 (show 56 < 68 by decide) rfl rfl (by decide) ?_
                      refine g_iconst C (nI 0) dX6_lays_212 (by decide) ?_
                      refine g_ialdE C ((congrFun (up_K (by decide)) 0).trans ((congrFun (up_K (by decide)) 0).trans hR1.2.1.1)) (by omega) (by decide) dX6_lays_213 (show 60 < 68 by decide) rfl ?_
                      refine g_icmp_geN C 282 (by have := zSg_le S.1 h i; have := hS.2.1.1; omega) (by have := hS.2.1.1; omega) dX6_lays_214 (by decide) (fun h214 => ?_) (fun h214 => ?_)
                      · -- X6_lays 214t
                        have hH99 := hS.2.1.1
                        have hs2 : zSg S.1 h i < 2 ^ 31 := by have := zSg_le S.1 h i; omega
                        refine g_iload6 C dX6_lays_282 ?_
                        refine g_aload0 C dX6_lays_284 ?_
                        refine g_getRT C dX6_lays_285 flX6_19 (show 56 < 68 by decide) rfl rfl (by decide) ?_
                        refine g_iconst C (nI 0) dX6_lays_288 (by decide) ?_
                        refine g_ialdE C ((congrFun (up_K (by decide)) 0).trans ((congrFun (up_K (by decide)) 0).trans hR1.2.1.1)) (by omega) (by decide) dX6_lays_289 (show 60 < 68 by decide) rfl ?_
                        refine g_icmp_geN C 303 (by omega) (by omega) dX6_lays_290 (by decide) (fun h290 => ?_) (fun h290 => absurd h290 (by omega))
                        refine g_goto C 36 dX6_lays_303 (by decide) ?_
                        exact hno (z_up (z_up c1 65 P.length (nI i)) 66 P.length (nI (zSg S.1 h i))) _ _ _ _ _ h98 (by unfold zOk; rw [decide_eq_false (show ¬ zSg S.1 h i < mH S.2.1 by omega)]; simp) (hf2.tr (FrL.u66 (Nat.le_refl _))) ((up_k (by decide) _).trans (up_s _ _ _ _)) ((up_k (by decide) _).trans (up_k (by decide) _)) ((up_K (by decide)).trans (up_K (by decide)))
                      · -- X6_lays 214f
                        have hok : zOk S.1 (zInkS S.2.1) T (mH S.2.1) P.length (zBs P) h i = true := by unfold zOk; rw [zan_bit _ _ (show i < 32 by omega), h114, hmi, decide_eq_true (show zInkS S.2.1 i = zInk S.1 P.length from h149), hda, decide_eq_true h214]; rfl
                        have hH99 := hS.2.1.1
                        refine g_iload3 C dX6_lays_217 ?_
                        refine g_iconst C (nI 1) dX6_lays_218 (by decide) ?_
                        refine g_iaddN C dX6_lays_219 ?_
                        refine g_iload2 C dX6_lays_220 ?_
                        refine g_icmp_neN C 282 (by omega) (by omega) dX6_lays_221 (by decide) (fun h221 => ?_) (fun h221 => ?_)
                        · -- X6_lays 221t
                          refine g_iload6 C dX6_lays_282 ?_
                          refine g_aload0 C dX6_lays_284 ?_
                          refine g_getRT C dX6_lays_285 flX6_19 (show 56 < 68 by decide) rfl rfl (by decide) ?_
                          refine g_iconst C (nI 0) dX6_lays_288 (by decide) ?_
                          refine g_ialdE C ((congrFun (up_K (by decide)) 0).trans ((congrFun (up_K (by decide)) 0).trans hR1.2.1.1)) (by omega) (by decide) dX6_lays_289 (show 60 < 68 by decide) rfl ?_
                          refine g_icmp_geN C 303 (by omega) (by omega) dX6_lays_290 (by decide) (fun h290 => absurd h290 (by omega)) (fun h290 => ?_)
                          refine g_iinc3N C dX6_lays_293 ?_
                          refine g_aload0 C dX6_lays_296 ?_
                          refine g_getRT C dX6_lays_297 flX6_35 (show 56 < 68 by decide) rfl rfl (by decide) ?_
                          refine g_iload3 C dX6_lays_300 ?_
                          refine g_iconst C (-1) dX6_lays_301 (by decide) ?_
                          refine g_iastN C (by omega) (by decide) dX6_lays_302 (show 65 < 68 by decide) rfl ?_
                          exact absurd hd (by omega)
                        · -- X6_lays 221f
                          
                          refine g_iconst C (nI 0) dX6_lays_224 (by decide) ?_
                          refine g_istore7 C dX6_lays_225 ?_
                          refine g_iload2 C dX6_lays_227 ?_
                          refine g_iconst C (nI 1) dX6_lays_228 (by decide) ?_
                          refine g_isubN C dX6_lays_229 (by omega) ?_
                          refine g_istore8 C dX6_lays_230 ?_
                          have hl1 : (P ++ [i]).length = P.length + 1 := by rw [List.length_append, List.length_singleton]
                          have hmp : zp8 (zBs P ||| (1 <<< i)) = zp8 T := by rw [zpc_snoc (by omega) hmi, hpc]; omega
                          have hmT2 : zBs P ||| (1 <<< i) = T := zfull (hsb.or h114) hT hmp
                          have hsx : zOs S.1 (zInkS S.2.1) T (mH S.2.1) (6 - P.length) P.length (zBs P) h (i + 1) = zOs S.1 (zInkS S.2.1) T (mH S.2.1) (6 - P.length) P.length (zBs P) h i ++ [[i]] := by
                            rw [zOs_s, if_pos hok, hmT2, zOx_T]; rfl
                          have hlen := zOs_mono S.1 (zInkS S.2.1) T (mH S.2.1) (6 - P.length) P.length (zBs P) h (i + 1) (7 - (i + 1))
                          rw [show i + 1 + (7 - (i + 1)) = 7 by omega, hsx, List.length_append, List.length_singleton] at hlen
                          have hol : (O0 ++ (zOs S.1 (zInkS S.2.1) T (mH S.2.1) (6 - P.length) P.length (zBs P) h i).map (P ++ ·)).length < 5040 := by rw [List.length_append, List.length_map]; omega
                          have hf3 : FrL P.length c1 (z_up (z_up c1 65 P.length (nI i)) 66 P.length (nI (zSg S.1 h i))) := hf2.tr (FrL.u66 (Nat.le_refl _))
                          have hrw3 : RwC (z_up (z_up c1 65 P.length (nI i)) 66 P.length (nI (zSg S.1 h i))) (O0 ++ (zOs S.1 (zInkS S.2.1) T (mH S.2.1) (6 - P.length) P.length (zBs P) h i).map (P ++ ·)) := hrw.fr (by rw [up_k (by decide), up_k (by decide)]) (by rw [up_K (by decide), up_K (by decide)])
                          have htr : ∀ k, k < P.length + 1 → (z_up (z_up c1 65 P.length (nI i)) 66 P.length (nI (zSg S.1 h i))) 65 k = nI (zGd (P ++ [i]) k) := fun k hk => by
                            rw [up_k (by decide)]
                            by_cases e : k < P.length
                            · rw [up_j _ (by omega), zGd_l e]; exact hL.1 k e
                            · rw [show k = P.length by omega, up_s, zGd_r]
                          have H232 : ∀ k, k ≤ P.length + 1 → GG Γ K 0 0 (wF (z_up (z_up c1 65 P.length (nI i)) 66 P.length (nI (zSg S.1 h i))) t) 232 [some (.ref 56), some (.int (nI T)), some (.int (nI (zp8 T))), some (.int (nI P.length)), some (.int (nI i)), some (.int (nI (zBs P))), some (.int (nI (zSg S.1 h i))), some (.int (nI (zRc ((P ++ [i]).drop k)))), some (.int (nI k + (-1)))] [] := by
                            intro k
                            induction k with
                            | zero =>
                              intro hk
                              have h0 : zRc ((P ++ [i]).drop 0) = zRc (P ++ [i]) := rfl
                              refine g_iload8 C dX6_lays_232 ?_
                              refine g_if_lt C 258 dX6_lays_234 (by decide) (fun h234 => ?_) (fun h234 => absurd h234 (by exact fun h => h zdn_0))
                              refine g_aload0 C dX6_lays_258 ?_
                              refine g_getRT C dX6_lays_259 flX6_32 (show 56 < 68 by decide) rfl rfl (by decide) ?_
                              refine g_aload0 C dX6_lays_262 ?_
                              refine g_getIE C hrw3.1 dX6_lays_263 flX6_124 (show 56 < 68 by decide) rfl rfl ?_
                              refine g_iload7 C dX6_lays_266 ?_
                              refine g_iastN C (by exact hol) (by decide) dX6_lays_268 (show 64 < 68 by decide) rfl ?_
                              refine g_aload0 C dX6_lays_269 ?_
                              refine g_dup C dX6_lays_270 rfl ?_
                              refine g_getIE C ((up_k (by decide) _).trans hrw3.1) dX6_lays_271 flX6_124 (show 56 < 68 by decide) rfl rfl ?_
                              refine g_iconst C (nI 1) dX6_lays_274 (by decide) ?_
                              refine g_iaddN C dX6_lays_275 ?_
                              refine g_putI C dX6_lays_276 fpX6_124 (show 56 < 68 by decide) rfl rfl rfl rfl ?_
                              refine g_goto C 303 dX6_lays_279 (by decide) ?_
                              refine g_goto C 36 dX6_lays_303 (by decide) ?_
                              have hf5 := (hf3.tr (FrL.u64 (k := (O0 ++ (zOs S.1 (zInkS S.2.1) T (mH S.2.1) (6 - P.length) P.length (zBs P) h i).map (P ++ ·)).length) (x := nI (zRc (P ++ [i]))))).tr (FrL.u15 (x := nI ((O0 ++ (zOs S.1 (zInkS S.2.1) T (mH S.2.1) (6 - P.length) P.length (zBs P) h i).map (P ++ ·)).length + 1)))
                              refine ih (i + 1) O0 _ _ _ _ _ _ (by omega) hd hsb hpc hP7 (hR1.frl hf5) (hL.fr hf5) (by rw [up_k (by decide), up_k (by decide), up_k (by decide), up_s, zdn i (by omega)]) (by omega) ?_ hb hh9 (fun c6 z4 z5 z6 z7 z8 h1 h2 => hexit c6 z4 z5 z6 z7 z8 (hf5.tr h1) h2)
                              rw [hsx, List.map_append, ← List.append_assoc]
                              exact hrw3.push
                            | succ k ih2 =>
                              intro hk
                              refine g_set (L' := [some (.ref 56), some (.int (nI T)), some (.int (nI (zp8 T))), some (.int (nI P.length)), some (.int (nI i)), some (.int (nI (zBs P))), some (.int (nI (zSg S.1 h i))), some (.int (nI (zRc ((P ++ [i]).drop (k + 1))))), some (.int (nI k))]) rfl (by rw [zdn k (by omega)]) rfl ?_
                              refine g_iload8 C dX6_lays_232 ?_
                              refine g_if_ltN C 258 (by omega) dX6_lays_234 (by decide) (fun h => h.elim) (fun _ => ?_)
                              refine g_bipush C (nI 8) dX6_lays_237 (by decide) ?_
                              refine g_iload7 C dX6_lays_239 ?_
                              refine g_imulN C dX6_lays_241 ?_
                              refine g_aload0 C dX6_lays_242 ?_
                              refine g_getRT C dX6_lays_243 flX6_35 (show 56 < 68 by decide) rfl rfl (by decide) ?_
                              refine g_iload8 C dX6_lays_246 ?_
                              refine g_ialdE C (htr k (by omega)) (by omega) (by decide) dX6_lays_248 (show 65 < 68 by decide) rfl ?_
                              refine g_iaddN C dX6_lays_249 ?_
                              refine g_istore7 C dX6_lays_250 ?_
                              refine g_set (L' := [some (.ref 56), some (.int (nI T)), some (.int (nI (zp8 T))), some (.int (nI P.length)), some (.int (nI i)), some (.int (nI (zBs P))), some (.int (nI (zSg S.1 h i))), some (.int (nI (zRc ((P ++ [i]).drop k)))), some (.int (nI k))]) rfl (by rw [← zRc_drop _ _ (by rw [hl1]; omega)]) rfl ?_
                              refine g_iinc8 C dX6_lays_252 ?_
                              refine g_goto C 232 dX6_lays_255 (by decide) ?_
                              exact ih2 (by omega)
                          refine g_set (L' := [some (.ref 56), some (.int (nI T)), some (.int (nI (zp8 T))), some (.int (nI P.length)), some (.int (nI i)), some (.int (nI (zBs P))), some (.int (nI (zSg S.1 h i))), some (.int (nI (zRc ((P ++ [i]).drop (P.length + 1))))), some (.int (nI (P.length + 1) + (-1)))]) rfl (by rw [List.drop_eq_nil_of_le (by rw [hl1]; exact Nat.le_refl _), zdn _ (by omega), show zp8 T - 1 = P.length by omega]; rfl) rfl ?_
                          exact H232 (P.length + 1) (Nat.le_refl _)
                    · -- X6_lays 187f
                      have hsg : h + 1 = zSg S.1 h i := (if_pos h187).symm
                      refine g_iconst C (nI 1) dX6_lays_190 (by decide) ?_
                      refine g_goto C 195 dX6_lays_191 (by decide) ?_
                      refine g_iaddN C dX6_lays_195 ?_
                      refine g_istore6 C dX6_lays_196 ?_
                      refine g_set (L' := [some (.ref 56), some (.int (nI T)), some (.int (nI (zp8 T))), some (.int (nI P.length)), some (.int (nI i)), some (.int (nI (zBs P))), some (.int (nI (zSg S.1 h i))), x7, x8]) rfl (by rw [hsg]) rfl ?_
                      refine g_aload0 C dX6_lays_198 ?_
                      refine g_getRT C dX6_lays_199 flX6_38 (show 56 < 68 by decide) rfl rfl (by decide) ?_
                      refine g_iload3 C dX6_lays_202 ?_
                      refine g_iload6 C dX6_lays_203 ?_
                      refine g_iastN C (by omega) (by decide) dX6_lays_205 (show 66 < 68 by decide) rfl ?_
                      refine g_iload6 C dX6_lays_206 ?_
                      refine g_aload0 C dX6_lays_208 ?_
                      refine g_getRT C dX6_lays_209 flX6_19 (show 56 < 68 by decide) rfl rfl (by decide) ?_
                      refine g_iconst C (nI 0) dX6_lays_212 (by decide) ?_
                      refine g_ialdE C ((congrFun (up_K (by decide)) 0).trans ((congrFun (up_K (by decide)) 0).trans hR1.2.1.1)) (by omega) (by decide) dX6_lays_213 (show 60 < 68 by decide) rfl ?_
                      refine g_icmp_geN C 282 (by have := zSg_le S.1 h i; have := hS.2.1.1; omega) (by have := hS.2.1.1; omega) dX6_lays_214 (by decide) (fun h214 => ?_) (fun h214 => ?_)
                      · -- X6_lays 214t
                        have hH99 := hS.2.1.1
                        have hs2 : zSg S.1 h i < 2 ^ 31 := by have := zSg_le S.1 h i; omega
                        refine g_iload6 C dX6_lays_282 ?_
                        refine g_aload0 C dX6_lays_284 ?_
                        refine g_getRT C dX6_lays_285 flX6_19 (show 56 < 68 by decide) rfl rfl (by decide) ?_
                        refine g_iconst C (nI 0) dX6_lays_288 (by decide) ?_
                        refine g_ialdE C ((congrFun (up_K (by decide)) 0).trans ((congrFun (up_K (by decide)) 0).trans hR1.2.1.1)) (by omega) (by decide) dX6_lays_289 (show 60 < 68 by decide) rfl ?_
                        refine g_icmp_geN C 303 (by omega) (by omega) dX6_lays_290 (by decide) (fun h290 => ?_) (fun h290 => absurd h290 (by omega))
                        refine g_goto C 36 dX6_lays_303 (by decide) ?_
                        exact hno (z_up (z_up c1 65 P.length (nI i)) 66 P.length (nI (zSg S.1 h i))) _ _ _ _ _ h98 (by unfold zOk; rw [decide_eq_false (show ¬ zSg S.1 h i < mH S.2.1 by omega)]; simp) (hf2.tr (FrL.u66 (Nat.le_refl _))) ((up_k (by decide) _).trans (up_s _ _ _ _)) ((up_k (by decide) _).trans (up_k (by decide) _)) ((up_K (by decide)).trans (up_K (by decide)))
                      · -- X6_lays 214f
                        have hok : zOk S.1 (zInkS S.2.1) T (mH S.2.1) P.length (zBs P) h i = true := by unfold zOk; rw [zan_bit _ _ (show i < 32 by omega), h114, hmi, decide_eq_true (show zInkS S.2.1 i = zInk S.1 P.length from h149), hda, decide_eq_true h214]; rfl
                        have hH99 := hS.2.1.1
                        refine g_iload3 C dX6_lays_217 ?_
                        refine g_iconst C (nI 1) dX6_lays_218 (by decide) ?_
                        refine g_iaddN C dX6_lays_219 ?_
                        refine g_iload2 C dX6_lays_220 ?_
                        refine g_icmp_neN C 282 (by omega) (by omega) dX6_lays_221 (by decide) (fun h221 => ?_) (fun h221 => ?_)
                        · -- X6_lays 221t
                          refine g_iload6 C dX6_lays_282 ?_
                          refine g_aload0 C dX6_lays_284 ?_
                          refine g_getRT C dX6_lays_285 flX6_19 (show 56 < 68 by decide) rfl rfl (by decide) ?_
                          refine g_iconst C (nI 0) dX6_lays_288 (by decide) ?_
                          refine g_ialdE C ((congrFun (up_K (by decide)) 0).trans ((congrFun (up_K (by decide)) 0).trans hR1.2.1.1)) (by omega) (by decide) dX6_lays_289 (show 60 < 68 by decide) rfl ?_
                          refine g_icmp_geN C 303 (by omega) (by omega) dX6_lays_290 (by decide) (fun h290 => absurd h290 (by omega)) (fun h290 => ?_)
                          refine g_iinc3N C dX6_lays_293 ?_
                          refine g_aload0 C dX6_lays_296 ?_
                          refine g_getRT C dX6_lays_297 flX6_35 (show 56 < 68 by decide) rfl rfl (by decide) ?_
                          refine g_iload3 C dX6_lays_300 ?_
                          refine g_iconst C (-1) dX6_lays_301 (by decide) ?_
                          refine g_iastN C (by omega) (by decide) dX6_lays_302 (show 65 < 68 by decide) rfl ?_
                          exact absurd hd (by omega)
                        · -- X6_lays 221f
                          
                          refine g_iconst C (nI 0) dX6_lays_224 (by decide) ?_
                          refine g_istore7 C dX6_lays_225 ?_
                          refine g_iload2 C dX6_lays_227 ?_
                          refine g_iconst C (nI 1) dX6_lays_228 (by decide) ?_
                          refine g_isubN C dX6_lays_229 (by omega) ?_
                          refine g_istore8 C dX6_lays_230 ?_
                          have hl1 : (P ++ [i]).length = P.length + 1 := by rw [List.length_append, List.length_singleton]
                          have hmp : zp8 (zBs P ||| (1 <<< i)) = zp8 T := by rw [zpc_snoc (by omega) hmi, hpc]; omega
                          have hmT2 : zBs P ||| (1 <<< i) = T := zfull (hsb.or h114) hT hmp
                          have hsx : zOs S.1 (zInkS S.2.1) T (mH S.2.1) (6 - P.length) P.length (zBs P) h (i + 1) = zOs S.1 (zInkS S.2.1) T (mH S.2.1) (6 - P.length) P.length (zBs P) h i ++ [[i]] := by
                            rw [zOs_s, if_pos hok, hmT2, zOx_T]; rfl
                          have hlen := zOs_mono S.1 (zInkS S.2.1) T (mH S.2.1) (6 - P.length) P.length (zBs P) h (i + 1) (7 - (i + 1))
                          rw [show i + 1 + (7 - (i + 1)) = 7 by omega, hsx, List.length_append, List.length_singleton] at hlen
                          have hol : (O0 ++ (zOs S.1 (zInkS S.2.1) T (mH S.2.1) (6 - P.length) P.length (zBs P) h i).map (P ++ ·)).length < 5040 := by rw [List.length_append, List.length_map]; omega
                          have hf3 : FrL P.length c1 (z_up (z_up c1 65 P.length (nI i)) 66 P.length (nI (zSg S.1 h i))) := hf2.tr (FrL.u66 (Nat.le_refl _))
                          have hrw3 : RwC (z_up (z_up c1 65 P.length (nI i)) 66 P.length (nI (zSg S.1 h i))) (O0 ++ (zOs S.1 (zInkS S.2.1) T (mH S.2.1) (6 - P.length) P.length (zBs P) h i).map (P ++ ·)) := hrw.fr (by rw [up_k (by decide), up_k (by decide)]) (by rw [up_K (by decide), up_K (by decide)])
                          have htr : ∀ k, k < P.length + 1 → (z_up (z_up c1 65 P.length (nI i)) 66 P.length (nI (zSg S.1 h i))) 65 k = nI (zGd (P ++ [i]) k) := fun k hk => by
                            rw [up_k (by decide)]
                            by_cases e : k < P.length
                            · rw [up_j _ (by omega), zGd_l e]; exact hL.1 k e
                            · rw [show k = P.length by omega, up_s, zGd_r]
                          have H232 : ∀ k, k ≤ P.length + 1 → GG Γ K 0 0 (wF (z_up (z_up c1 65 P.length (nI i)) 66 P.length (nI (zSg S.1 h i))) t) 232 [some (.ref 56), some (.int (nI T)), some (.int (nI (zp8 T))), some (.int (nI P.length)), some (.int (nI i)), some (.int (nI (zBs P))), some (.int (nI (zSg S.1 h i))), some (.int (nI (zRc ((P ++ [i]).drop k)))), some (.int (nI k + (-1)))] [] := by
                            intro k
                            induction k with
                            | zero =>
                              intro hk
                              have h0 : zRc ((P ++ [i]).drop 0) = zRc (P ++ [i]) := rfl
                              refine g_iload8 C dX6_lays_232 ?_
                              refine g_if_lt C 258 dX6_lays_234 (by decide) (fun h234 => ?_) (fun h234 => absurd h234 (by exact fun h => h zdn_0))
                              refine g_aload0 C dX6_lays_258 ?_
                              refine g_getRT C dX6_lays_259 flX6_32 (show 56 < 68 by decide) rfl rfl (by decide) ?_
                              refine g_aload0 C dX6_lays_262 ?_
                              refine g_getIE C hrw3.1 dX6_lays_263 flX6_124 (show 56 < 68 by decide) rfl rfl ?_
                              refine g_iload7 C dX6_lays_266 ?_
                              refine g_iastN C (by exact hol) (by decide) dX6_lays_268 (show 64 < 68 by decide) rfl ?_
                              refine g_aload0 C dX6_lays_269 ?_
                              refine g_dup C dX6_lays_270 rfl ?_
                              refine g_getIE C ((up_k (by decide) _).trans hrw3.1) dX6_lays_271 flX6_124 (show 56 < 68 by decide) rfl rfl ?_
                              refine g_iconst C (nI 1) dX6_lays_274 (by decide) ?_
                              refine g_iaddN C dX6_lays_275 ?_
                              refine g_putI C dX6_lays_276 fpX6_124 (show 56 < 68 by decide) rfl rfl rfl rfl ?_
                              refine g_goto C 303 dX6_lays_279 (by decide) ?_
                              refine g_goto C 36 dX6_lays_303 (by decide) ?_
                              have hf5 := (hf3.tr (FrL.u64 (k := (O0 ++ (zOs S.1 (zInkS S.2.1) T (mH S.2.1) (6 - P.length) P.length (zBs P) h i).map (P ++ ·)).length) (x := nI (zRc (P ++ [i]))))).tr (FrL.u15 (x := nI ((O0 ++ (zOs S.1 (zInkS S.2.1) T (mH S.2.1) (6 - P.length) P.length (zBs P) h i).map (P ++ ·)).length + 1)))
                              refine ih (i + 1) O0 _ _ _ _ _ _ (by omega) hd hsb hpc hP7 (hR1.frl hf5) (hL.fr hf5) (by rw [up_k (by decide), up_k (by decide), up_k (by decide), up_s, zdn i (by omega)]) (by omega) ?_ hb hh9 (fun c6 z4 z5 z6 z7 z8 h1 h2 => hexit c6 z4 z5 z6 z7 z8 (hf5.tr h1) h2)
                              rw [hsx, List.map_append, ← List.append_assoc]
                              exact hrw3.push
                            | succ k ih2 =>
                              intro hk
                              refine g_set (L' := [some (.ref 56), some (.int (nI T)), some (.int (nI (zp8 T))), some (.int (nI P.length)), some (.int (nI i)), some (.int (nI (zBs P))), some (.int (nI (zSg S.1 h i))), some (.int (nI (zRc ((P ++ [i]).drop (k + 1))))), some (.int (nI k))]) rfl (by rw [zdn k (by omega)]) rfl ?_
                              refine g_iload8 C dX6_lays_232 ?_
                              refine g_if_ltN C 258 (by omega) dX6_lays_234 (by decide) (fun h => h.elim) (fun _ => ?_)
                              refine g_bipush C (nI 8) dX6_lays_237 (by decide) ?_
                              refine g_iload7 C dX6_lays_239 ?_
                              refine g_imulN C dX6_lays_241 ?_
                              refine g_aload0 C dX6_lays_242 ?_
                              refine g_getRT C dX6_lays_243 flX6_35 (show 56 < 68 by decide) rfl rfl (by decide) ?_
                              refine g_iload8 C dX6_lays_246 ?_
                              refine g_ialdE C (htr k (by omega)) (by omega) (by decide) dX6_lays_248 (show 65 < 68 by decide) rfl ?_
                              refine g_iaddN C dX6_lays_249 ?_
                              refine g_istore7 C dX6_lays_250 ?_
                              refine g_set (L' := [some (.ref 56), some (.int (nI T)), some (.int (nI (zp8 T))), some (.int (nI P.length)), some (.int (nI i)), some (.int (nI (zBs P))), some (.int (nI (zSg S.1 h i))), some (.int (nI (zRc ((P ++ [i]).drop k)))), some (.int (nI k))]) rfl (by rw [← zRc_drop _ _ (by rw [hl1]; omega)]) rfl ?_
                              refine g_iinc8 C dX6_lays_252 ?_
                              refine g_goto C 232 dX6_lays_255 (by decide) ?_
                              exact ih2 (by omega)
                          refine g_set (L' := [some (.ref 56), some (.int (nI T)), some (.int (nI (zp8 T))), some (.int (nI P.length)), some (.int (nI i)), some (.int (nI (zBs P))), some (.int (nI (zSg S.1 h i))), some (.int (nI (zRc ((P ++ [i]).drop (P.length + 1))))), some (.int (nI (P.length + 1) + (-1)))]) rfl (by rw [List.drop_eq_nil_of_le (by rw [hl1]; exact Nat.le_refl _), zdn _ (by omega), show zp8 T - 1 = P.length by omega]; rfl) rfl ?_
                          exact H232 (P.length + 1) (Nat.le_refl _)
                  · -- X6_lays 153f
                    have hh0 : h = 0 := by rcases hL.2 with q | ⟨hh, q1, q2, q3⟩; exact q.2; omega
                    refine g_iconst C (-1) dX6_lays_156 (by decide) ?_
                    refine g_goto C 168 dX6_lays_157 (by decide) ?_
                    refine g_iconst C (nI 1) dX6_lays_168 (by decide) ?_
                    refine g_iadd C dX6_lays_169 ?_
                    refine g_top (show _ = nI h by first | (rw [hh0]; decide) | rw [hhe]) ?_
                    refine g_istore6 C dX6_lays_170 ?_
                    have hhb : h < 2 ^ 31 := hhlt
                    refine g_iload6 C dX6_lays_172 ?_
                    refine g_iload6 C dX6_lays_174 ?_
                    refine g_iconst C (nI 3) dX6_lays_176 (by decide) ?_
                    refine g_iremN C dX6_lays_177 hhb (by decide) (by decide) ?_
                    refine g_aload0 C dX6_lays_178 ?_
                    refine g_getRT C dX6_lays_179 flX6_13 (show 56 < 68 by decide) rfl rfl (by decide) ?_
                    refine g_iconst C (nI 5) dX6_lays_182 (by decide) ?_
                    refine g_iload4 C dX6_lays_183 ?_
                    refine g_iaddN C dX6_lays_185 ?_
                    refine g_ialdE C ((congrFun (up_K (by decide)) _).trans (hR1.1.2.2.2.1 i h98)) (by omega) (by decide) dX6_lays_186 (show 58 < 68 by decide) rfl ?_
                    refine g_icmp_neN C 194 (by omega) (by have := hS.1.2.1 i h98; omega) dX6_lays_187 (by decide) (fun h187 => ?_) (fun h187 => ?_)
                    · -- X6_lays 187t
                      have hsg : h + 0 = zSg S.1 h i := (if_neg h187).symm
                      refine g_iconst C (nI 0) dX6_lays_194 (by decide) ?_
                      refine g_iaddN C dX6_lays_195 ?_
                      refine g_istore6 C dX6_lays_196 ?_
                      refine g_set (L' := [some (.ref 56), some (.int (nI T)), some (.int (nI (zp8 T))), some (.int (nI P.length)), some (.int (nI i)), some (.int (nI (zBs P))), some (.int (nI (zSg S.1 h i))), x7, x8]) rfl (by rw [hsg]) rfl ?_
                      refine g_aload0 C dX6_lays_198 ?_
                      refine g_getRT C dX6_lays_199 flX6_38 (show 56 < 68 by decide) rfl rfl (by decide) ?_
                      refine g_iload3 C dX6_lays_202 ?_
                      refine g_iload6 C dX6_lays_203 ?_
                      refine g_iastN C (by omega) (by decide) dX6_lays_205 (show 66 < 68 by decide) rfl ?_
                      refine g_iload6 C dX6_lays_206 ?_
                      refine g_aload0 C dX6_lays_208 ?_
                      refine g_getRT C dX6_lays_209 flX6_19 (show 56 < 68 by decide) rfl rfl (by decide) ?_
                      refine g_iconst C (nI 0) dX6_lays_212 (by decide) ?_
                      refine g_ialdE C ((congrFun (up_K (by decide)) 0).trans ((congrFun (up_K (by decide)) 0).trans hR1.2.1.1)) (by omega) (by decide) dX6_lays_213 (show 60 < 68 by decide) rfl ?_
                      refine g_icmp_geN C 282 (by have := zSg_le S.1 h i; have := hS.2.1.1; omega) (by have := hS.2.1.1; omega) dX6_lays_214 (by decide) (fun h214 => ?_) (fun h214 => ?_)
                      · -- X6_lays 214t
                        have hH99 := hS.2.1.1
                        have hs2 : zSg S.1 h i < 2 ^ 31 := by have := zSg_le S.1 h i; omega
                        refine g_iload6 C dX6_lays_282 ?_
                        refine g_aload0 C dX6_lays_284 ?_
                        refine g_getRT C dX6_lays_285 flX6_19 (show 56 < 68 by decide) rfl rfl (by decide) ?_
                        refine g_iconst C (nI 0) dX6_lays_288 (by decide) ?_
                        refine g_ialdE C ((congrFun (up_K (by decide)) 0).trans ((congrFun (up_K (by decide)) 0).trans hR1.2.1.1)) (by omega) (by decide) dX6_lays_289 (show 60 < 68 by decide) rfl ?_
                        refine g_icmp_geN C 303 (by omega) (by omega) dX6_lays_290 (by decide) (fun h290 => ?_) (fun h290 => absurd h290 (by omega))
                        refine g_goto C 36 dX6_lays_303 (by decide) ?_
                        exact hno (z_up (z_up c1 65 P.length (nI i)) 66 P.length (nI (zSg S.1 h i))) _ _ _ _ _ h98 (by unfold zOk; rw [decide_eq_false (show ¬ zSg S.1 h i < mH S.2.1 by omega)]; simp) (hf2.tr (FrL.u66 (Nat.le_refl _))) ((up_k (by decide) _).trans (up_s _ _ _ _)) ((up_k (by decide) _).trans (up_k (by decide) _)) ((up_K (by decide)).trans (up_K (by decide)))
                      · -- X6_lays 214f
                        have hok : zOk S.1 (zInkS S.2.1) T (mH S.2.1) P.length (zBs P) h i = true := by unfold zOk; rw [zan_bit _ _ (show i < 32 by omega), h114, hmi, decide_eq_true (show zInkS S.2.1 i = zInk S.1 P.length from h149), hda, decide_eq_true h214]; rfl
                        have hH99 := hS.2.1.1
                        refine g_iload3 C dX6_lays_217 ?_
                        refine g_iconst C (nI 1) dX6_lays_218 (by decide) ?_
                        refine g_iaddN C dX6_lays_219 ?_
                        refine g_iload2 C dX6_lays_220 ?_
                        refine g_icmp_neN C 282 (by omega) (by omega) dX6_lays_221 (by decide) (fun h221 => ?_) (fun h221 => ?_)
                        · -- X6_lays 221t
                          refine g_iload6 C dX6_lays_282 ?_
                          refine g_aload0 C dX6_lays_284 ?_
                          refine g_getRT C dX6_lays_285 flX6_19 (show 56 < 68 by decide) rfl rfl (by decide) ?_
                          refine g_iconst C (nI 0) dX6_lays_288 (by decide) ?_
                          refine g_ialdE C ((congrFun (up_K (by decide)) 0).trans ((congrFun (up_K (by decide)) 0).trans hR1.2.1.1)) (by omega) (by decide) dX6_lays_289 (show 60 < 68 by decide) rfl ?_
                          refine g_icmp_geN C 303 (by omega) (by omega) dX6_lays_290 (by decide) (fun h290 => absurd h290 (by omega)) (fun h290 => ?_)
                          refine g_iinc3N C dX6_lays_293 ?_
                          refine g_aload0 C dX6_lays_296 ?_
                          refine g_getRT C dX6_lays_297 flX6_35 (show 56 < 68 by decide) rfl rfl (by decide) ?_
                          refine g_iload3 C dX6_lays_300 ?_
                          refine g_iconst C (-1) dX6_lays_301 (by decide) ?_
                          refine g_iastN C (by omega) (by decide) dX6_lays_302 (show 65 < 68 by decide) rfl ?_
                          exact absurd hd (by omega)
                        · -- X6_lays 221f
                          
                          refine g_iconst C (nI 0) dX6_lays_224 (by decide) ?_
                          refine g_istore7 C dX6_lays_225 ?_
                          refine g_iload2 C dX6_lays_227 ?_
                          refine g_iconst C (nI 1) dX6_lays_228 (by decide) ?_
                          refine g_isubN C dX6_lays_229 (by omega) ?_
                          refine g_istore8 C dX6_lays_230 ?_
                          have hl1 : (P ++ [i]).length = P.length + 1 := by rw [List.length_append, List.length_singleton]
                          have hmp : zp8 (zBs P ||| (1 <<< i)) = zp8 T := by rw [zpc_snoc (by omega) hmi, hpc]; omega
                          have hmT2 : zBs P ||| (1 <<< i) = T := zfull (hsb.or h114) hT hmp
                          have hsx : zOs S.1 (zInkS S.2.1) T (mH S.2.1) (6 - P.length) P.length (zBs P) h (i + 1) = zOs S.1 (zInkS S.2.1) T (mH S.2.1) (6 - P.length) P.length (zBs P) h i ++ [[i]] := by
                            rw [zOs_s, if_pos hok, hmT2, zOx_T]; rfl
                          have hlen := zOs_mono S.1 (zInkS S.2.1) T (mH S.2.1) (6 - P.length) P.length (zBs P) h (i + 1) (7 - (i + 1))
                          rw [show i + 1 + (7 - (i + 1)) = 7 by omega, hsx, List.length_append, List.length_singleton] at hlen
                          have hol : (O0 ++ (zOs S.1 (zInkS S.2.1) T (mH S.2.1) (6 - P.length) P.length (zBs P) h i).map (P ++ ·)).length < 5040 := by rw [List.length_append, List.length_map]; omega
                          have hf3 : FrL P.length c1 (z_up (z_up c1 65 P.length (nI i)) 66 P.length (nI (zSg S.1 h i))) := hf2.tr (FrL.u66 (Nat.le_refl _))
                          have hrw3 : RwC (z_up (z_up c1 65 P.length (nI i)) 66 P.length (nI (zSg S.1 h i))) (O0 ++ (zOs S.1 (zInkS S.2.1) T (mH S.2.1) (6 - P.length) P.length (zBs P) h i).map (P ++ ·)) := hrw.fr (by rw [up_k (by decide), up_k (by decide)]) (by rw [up_K (by decide), up_K (by decide)])
                          have htr : ∀ k, k < P.length + 1 → (z_up (z_up c1 65 P.length (nI i)) 66 P.length (nI (zSg S.1 h i))) 65 k = nI (zGd (P ++ [i]) k) := fun k hk => by
                            rw [up_k (by decide)]
                            by_cases e : k < P.length
                            · rw [up_j _ (by omega), zGd_l e]; exact hL.1 k e
                            · rw [show k = P.length by omega, up_s, zGd_r]
                          have H232 : ∀ k, k ≤ P.length + 1 → GG Γ K 0 0 (wF (z_up (z_up c1 65 P.length (nI i)) 66 P.length (nI (zSg S.1 h i))) t) 232 [some (.ref 56), some (.int (nI T)), some (.int (nI (zp8 T))), some (.int (nI P.length)), some (.int (nI i)), some (.int (nI (zBs P))), some (.int (nI (zSg S.1 h i))), some (.int (nI (zRc ((P ++ [i]).drop k)))), some (.int (nI k + (-1)))] [] := by
                            intro k
                            induction k with
                            | zero =>
                              intro hk
                              have h0 : zRc ((P ++ [i]).drop 0) = zRc (P ++ [i]) := rfl
                              refine g_iload8 C dX6_lays_232 ?_
                              refine g_if_lt C 258 dX6_lays_234 (by decide) (fun h234 => ?_) (fun h234 => absurd h234 (by exact fun h => h zdn_0))
                              refine g_aload0 C dX6_lays_258 ?_
                              refine g_getRT C dX6_lays_259 flX6_32 (show 56 < 68 by decide) rfl rfl (by decide) ?_
                              refine g_aload0 C dX6_lays_262 ?_
                              refine g_getIE C hrw3.1 dX6_lays_263 flX6_124 (show 56 < 68 by decide) rfl rfl ?_
                              refine g_iload7 C dX6_lays_266 ?_
                              refine g_iastN C (by exact hol) (by decide) dX6_lays_268 (show 64 < 68 by decide) rfl ?_
                              refine g_aload0 C dX6_lays_269 ?_
                              refine g_dup C dX6_lays_270 rfl ?_
                              refine g_getIE C ((up_k (by decide) _).trans hrw3.1) dX6_lays_271 flX6_124 (show 56 < 68 by decide) rfl rfl ?_
                              refine g_iconst C (nI 1) dX6_lays_274 (by decide) ?_
                              refine g_iaddN C dX6_lays_275 ?_
                              refine g_putI C dX6_lays_276 fpX6_124 (show 56 < 68 by decide) rfl rfl rfl rfl ?_
                              refine g_goto C 303 dX6_lays_279 (by decide) ?_
                              refine g_goto C 36 dX6_lays_303 (by decide) ?_
                              have hf5 := (hf3.tr (FrL.u64 (k := (O0 ++ (zOs S.1 (zInkS S.2.1) T (mH S.2.1) (6 - P.length) P.length (zBs P) h i).map (P ++ ·)).length) (x := nI (zRc (P ++ [i]))))).tr (FrL.u15 (x := nI ((O0 ++ (zOs S.1 (zInkS S.2.1) T (mH S.2.1) (6 - P.length) P.length (zBs P) h i).map (P ++ ·)).length + 1)))
                              refine ih (i + 1) O0 _ _ _ _ _ _ (by omega) hd hsb hpc hP7 (hR1.frl hf5) (hL.fr hf5) (by rw [up_k (by decide), up_k (by decide), up_k (by decide), up_s, zdn i (by omega)]) (by omega) ?_ hb hh9 (fun c6 z4 z5 z6 z7 z8 h1 h2 => hexit c6 z4 z5 z6 z7 z8 (hf5.tr h1) h2)
                              rw [hsx, List.map_append, ← List.append_assoc]
                              exact hrw3.push
                            | succ k ih2 =>
                              intro hk
                              refine g_set (L' := [some (.ref 56), some (.int (nI T)), some (.int (nI (zp8 T))), some (.int (nI P.length)), some (.int (nI i)), some (.int (nI (zBs P))), some (.int (nI (zSg S.1 h i))), some (.int (nI (zRc ((P ++ [i]).drop (k + 1))))), some (.int (nI k))]) rfl (by rw [zdn k (by omega)]) rfl ?_
                              refine g_iload8 C dX6_lays_232 ?_
                              refine g_if_ltN C 258 (by omega) dX6_lays_234 (by decide) (fun h => h.elim) (fun _ => ?_)
                              refine g_bipush C (nI 8) dX6_lays_237 (by decide) ?_
                              refine g_iload7 C dX6_lays_239 ?_
                              refine g_imulN C dX6_lays_241 ?_
                              refine g_aload0 C dX6_lays_242 ?_
                              refine g_getRT C dX6_lays_243 flX6_35 (show 56 < 68 by decide) rfl rfl (by decide) ?_
                              refine g_iload8 C dX6_lays_246 ?_
                              refine g_ialdE C (htr k (by omega)) (by omega) (by decide) dX6_lays_248 (show 65 < 68 by decide) rfl ?_
                              refine g_iaddN C dX6_lays_249 ?_
                              refine g_istore7 C dX6_lays_250 ?_
                              refine g_set (L' := [some (.ref 56), some (.int (nI T)), some (.int (nI (zp8 T))), some (.int (nI P.length)), some (.int (nI i)), some (.int (nI (zBs P))), some (.int (nI (zSg S.1 h i))), some (.int (nI (zRc ((P ++ [i]).drop k)))), some (.int (nI k))]) rfl (by rw [← zRc_drop _ _ (by rw [hl1]; omega)]) rfl ?_
                              refine g_iinc8 C dX6_lays_252 ?_
                              refine g_goto C 232 dX6_lays_255 (by decide) ?_
                              exact ih2 (by omega)
                          refine g_set (L' := [some (.ref 56), some (.int (nI T)), some (.int (nI (zp8 T))), some (.int (nI P.length)), some (.int (nI i)), some (.int (nI (zBs P))), some (.int (nI (zSg S.1 h i))), some (.int (nI (zRc ((P ++ [i]).drop (P.length + 1))))), some (.int (nI (P.length + 1) + (-1)))]) rfl (by rw [List.drop_eq_nil_of_le (by rw [hl1]; exact Nat.le_refl _), zdn _ (by omega), show zp8 T - 1 = P.length by omega]; rfl) rfl ?_
                          exact H232 (P.length + 1) (Nat.le_refl _)
                    · -- X6_lays 187f
                      have hsg : h + 1 = zSg S.1 h i := (if_pos h187).symm
                      refine g_iconst C (nI 1) dX6_lays_190 (by decide) ?_
                      refine g_goto C 195 dX6_lays_191 (by decide) ?_
                      refine g_iaddN C dX6_lays_195 ?_
                      refine g_istore6 C dX6_lays_196 ?_
                      refine g_set (L' := [some (.ref 56), some (.int (nI T)), some (.int (nI (zp8 T))), some (.int (nI P.length)), some (.int (nI i)), some (.int (nI (zBs P))), some (.int (nI (zSg S.1 h i))), x7, x8]) rfl (by rw [hsg]) rfl ?_
                      refine g_aload0 C dX6_lays_198 ?_
                      refine g_getRT C dX6_lays_199 flX6_38 (show 56 < 68 by decide) rfl rfl (by decide) ?_
                      refine g_iload3 C dX6_lays_202 ?_
                      refine g_iload6 C dX6_lays_203 ?_
                      refine g_iastN C (by omega) (by decide) dX6_lays_205 (show 66 < 68 by decide) rfl ?_
                      refine g_iload6 C dX6_lays_206 ?_
                      refine g_aload0 C dX6_lays_208 ?_
                      refine g_getRT C dX6_lays_209 flX6_19 (show 56 < 68 by decide) rfl rfl (by decide) ?_
                      refine g_iconst C (nI 0) dX6_lays_212 (by decide) ?_
                      refine g_ialdE C ((congrFun (up_K (by decide)) 0).trans ((congrFun (up_K (by decide)) 0).trans hR1.2.1.1)) (by omega) (by decide) dX6_lays_213 (show 60 < 68 by decide) rfl ?_
                      refine g_icmp_geN C 282 (by have := zSg_le S.1 h i; have := hS.2.1.1; omega) (by have := hS.2.1.1; omega) dX6_lays_214 (by decide) (fun h214 => ?_) (fun h214 => ?_)
                      · -- X6_lays 214t
                        have hH99 := hS.2.1.1
                        have hs2 : zSg S.1 h i < 2 ^ 31 := by have := zSg_le S.1 h i; omega
                        refine g_iload6 C dX6_lays_282 ?_
                        refine g_aload0 C dX6_lays_284 ?_
                        refine g_getRT C dX6_lays_285 flX6_19 (show 56 < 68 by decide) rfl rfl (by decide) ?_
                        refine g_iconst C (nI 0) dX6_lays_288 (by decide) ?_
                        refine g_ialdE C ((congrFun (up_K (by decide)) 0).trans ((congrFun (up_K (by decide)) 0).trans hR1.2.1.1)) (by omega) (by decide) dX6_lays_289 (show 60 < 68 by decide) rfl ?_
                        refine g_icmp_geN C 303 (by omega) (by omega) dX6_lays_290 (by decide) (fun h290 => ?_) (fun h290 => absurd h290 (by omega))
                        refine g_goto C 36 dX6_lays_303 (by decide) ?_
                        exact hno (z_up (z_up c1 65 P.length (nI i)) 66 P.length (nI (zSg S.1 h i))) _ _ _ _ _ h98 (by unfold zOk; rw [decide_eq_false (show ¬ zSg S.1 h i < mH S.2.1 by omega)]; simp) (hf2.tr (FrL.u66 (Nat.le_refl _))) ((up_k (by decide) _).trans (up_s _ _ _ _)) ((up_k (by decide) _).trans (up_k (by decide) _)) ((up_K (by decide)).trans (up_K (by decide)))
                      · -- X6_lays 214f
                        have hok : zOk S.1 (zInkS S.2.1) T (mH S.2.1) P.length (zBs P) h i = true := by unfold zOk; rw [zan_bit _ _ (show i < 32 by omega), h114, hmi, decide_eq_true (show zInkS S.2.1 i = zInk S.1 P.length from h149), hda, decide_eq_true h214]; rfl
                        have hH99 := hS.2.1.1
                        refine g_iload3 C dX6_lays_217 ?_
                        refine g_iconst C (nI 1) dX6_lays_218 (by decide) ?_
                        refine g_iaddN C dX6_lays_219 ?_
                        refine g_iload2 C dX6_lays_220 ?_
                        refine g_icmp_neN C 282 (by omega) (by omega) dX6_lays_221 (by decide) (fun h221 => ?_) (fun h221 => ?_)
                        · -- X6_lays 221t
                          refine g_iload6 C dX6_lays_282 ?_
                          refine g_aload0 C dX6_lays_284 ?_
                          refine g_getRT C dX6_lays_285 flX6_19 (show 56 < 68 by decide) rfl rfl (by decide) ?_
                          refine g_iconst C (nI 0) dX6_lays_288 (by decide) ?_
                          refine g_ialdE C ((congrFun (up_K (by decide)) 0).trans ((congrFun (up_K (by decide)) 0).trans hR1.2.1.1)) (by omega) (by decide) dX6_lays_289 (show 60 < 68 by decide) rfl ?_
                          refine g_icmp_geN C 303 (by omega) (by omega) dX6_lays_290 (by decide) (fun h290 => absurd h290 (by omega)) (fun h290 => ?_)
                          refine g_iinc3N C dX6_lays_293 ?_
                          refine g_aload0 C dX6_lays_296 ?_
                          refine g_getRT C dX6_lays_297 flX6_35 (show 56 < 68 by decide) rfl rfl (by decide) ?_
                          refine g_iload3 C dX6_lays_300 ?_
                          refine g_iconst C (-1) dX6_lays_301 (by decide) ?_
                          refine g_iastN C (by omega) (by decide) dX6_lays_302 (show 65 < 68 by decide) rfl ?_
                          exact absurd hd (by omega)
                        · -- X6_lays 221f
                          
                          refine g_iconst C (nI 0) dX6_lays_224 (by decide) ?_
                          refine g_istore7 C dX6_lays_225 ?_
                          refine g_iload2 C dX6_lays_227 ?_
                          refine g_iconst C (nI 1) dX6_lays_228 (by decide) ?_
                          refine g_isubN C dX6_lays_229 (by omega) ?_
                          refine g_istore8 C dX6_lays_230 ?_
                          have hl1 : (P ++ [i]).length = P.length + 1 := by rw [List.length_append, List.length_singleton]
                          have hmp : zp8 (zBs P ||| (1 <<< i)) = zp8 T := by rw [zpc_snoc (by omega) hmi, hpc]; omega
                          have hmT2 : zBs P ||| (1 <<< i) = T := zfull (hsb.or h114) hT hmp
                          have hsx : zOs S.1 (zInkS S.2.1) T (mH S.2.1) (6 - P.length) P.length (zBs P) h (i + 1) = zOs S.1 (zInkS S.2.1) T (mH S.2.1) (6 - P.length) P.length (zBs P) h i ++ [[i]] := by
                            rw [zOs_s, if_pos hok, hmT2, zOx_T]; rfl
                          have hlen := zOs_mono S.1 (zInkS S.2.1) T (mH S.2.1) (6 - P.length) P.length (zBs P) h (i + 1) (7 - (i + 1))
                          rw [show i + 1 + (7 - (i + 1)) = 7 by omega, hsx, List.length_append, List.length_singleton] at hlen
                          have hol : (O0 ++ (zOs S.1 (zInkS S.2.1) T (mH S.2.1) (6 - P.length) P.length (zBs P) h i).map (P ++ ·)).length < 5040 := by rw [List.length_append, List.length_map]; omega
                          have hf3 : FrL P.length c1 (z_up (z_up c1 65 P.length (nI i)) 66 P.length (nI (zSg S.1 h i))) := hf2.tr (FrL.u66 (Nat.le_refl _))
                          have hrw3 : RwC (z_up (z_up c1 65 P.length (nI i)) 66 P.length (nI (zSg S.1 h i))) (O0 ++ (zOs S.1 (zInkS S.2.1) T (mH S.2.1) (6 - P.length) P.length (zBs P) h i).map (P ++ ·)) := hrw.fr (by rw [up_k (by decide), up_k (by decide)]) (by rw [up_K (by decide), up_K (by decide)])
                          have htr : ∀ k, k < P.length + 1 → (z_up (z_up c1 65 P.length (nI i)) 66 P.length (nI (zSg S.1 h i))) 65 k = nI (zGd (P ++ [i]) k) := fun k hk => by
                            rw [up_k (by decide)]
                            by_cases e : k < P.length
                            · rw [up_j _ (by omega), zGd_l e]; exact hL.1 k e
                            · rw [show k = P.length by omega, up_s, zGd_r]
                          have H232 : ∀ k, k ≤ P.length + 1 → GG Γ K 0 0 (wF (z_up (z_up c1 65 P.length (nI i)) 66 P.length (nI (zSg S.1 h i))) t) 232 [some (.ref 56), some (.int (nI T)), some (.int (nI (zp8 T))), some (.int (nI P.length)), some (.int (nI i)), some (.int (nI (zBs P))), some (.int (nI (zSg S.1 h i))), some (.int (nI (zRc ((P ++ [i]).drop k)))), some (.int (nI k + (-1)))] [] := by
                            intro k
                            induction k with
                            | zero =>
                              intro hk
                              have h0 : zRc ((P ++ [i]).drop 0) = zRc (P ++ [i]) := rfl
                              refine g_iload8 C dX6_lays_232 ?_
                              refine g_if_lt C 258 dX6_lays_234 (by decide) (fun h234 => ?_) (fun h234 => absurd h234 (by exact fun h => h zdn_0))
                              refine g_aload0 C dX6_lays_258 ?_
                              refine g_getRT C dX6_lays_259 flX6_32 (show 56 < 68 by decide) rfl rfl (by decide) ?_
                              refine g_aload0 C dX6_lays_262 ?_
                              refine g_getIE C hrw3.1 dX6_lays_263 flX6_124 (show 56 < 68 by decide) rfl rfl ?_
                              refine g_iload7 C dX6_lays_266 ?_
                              refine g_iastN C (by exact hol) (by decide) dX6_lays_268 (show 64 < 68 by decide) rfl ?_
                              refine g_aload0 C dX6_lays_269 ?_
                              refine g_dup C dX6_lays_270 rfl ?_
                              refine g_getIE C ((up_k (by decide) _).trans hrw3.1) dX6_lays_271 flX6_124 (show 56 < 68 by decide) rfl rfl ?_
                              refine g_iconst C (nI 1) dX6_lays_274 (by decide) ?_
                              refine g_iaddN C dX6_lays_275 ?_
                              refine g_putI C dX6_lays_276 fpX6_124 (show 56 < 68 by decide) rfl rfl rfl rfl ?_
                              refine g_goto C 303 dX6_lays_279 (by decide) ?_
                              refine g_goto C 36 dX6_lays_303 (by decide) ?_
                              have hf5 := (hf3.tr (FrL.u64 (k := (O0 ++ (zOs S.1 (zInkS S.2.1) T (mH S.2.1) (6 - P.length) P.length (zBs P) h i).map (P ++ ·)).length) (x := nI (zRc (P ++ [i]))))).tr (FrL.u15 (x := nI ((O0 ++ (zOs S.1 (zInkS S.2.1) T (mH S.2.1) (6 - P.length) P.length (zBs P) h i).map (P ++ ·)).length + 1)))
                              refine ih (i + 1) O0 _ _ _ _ _ _ (by omega) hd hsb hpc hP7 (hR1.frl hf5) (hL.fr hf5) (by rw [up_k (by decide), up_k (by decide), up_k (by decide), up_s, zdn i (by omega)]) (by omega) ?_ hb hh9 (fun c6 z4 z5 z6 z7 z8 h1 h2 => hexit c6 z4 z5 z6 z7 z8 (hf5.tr h1) h2)
                              rw [hsx, List.map_append, ← List.append_assoc]
                              exact hrw3.push
                            | succ k ih2 =>
                              intro hk
                              refine g_set (L' := [some (.ref 56), some (.int (nI T)), some (.int (nI (zp8 T))), some (.int (nI P.length)), some (.int (nI i)), some (.int (nI (zBs P))), some (.int (nI (zSg S.1 h i))), some (.int (nI (zRc ((P ++ [i]).drop (k + 1))))), some (.int (nI k))]) rfl (by rw [zdn k (by omega)]) rfl ?_
                              refine g_iload8 C dX6_lays_232 ?_
                              refine g_if_ltN C 258 (by omega) dX6_lays_234 (by decide) (fun h => h.elim) (fun _ => ?_)
                              refine g_bipush C (nI 8) dX6_lays_237 (by decide) ?_
                              refine g_iload7 C dX6_lays_239 ?_
                              refine g_imulN C dX6_lays_241 ?_
                              refine g_aload0 C dX6_lays_242 ?_
                              refine g_getRT C dX6_lays_243 flX6_35 (show 56 < 68 by decide) rfl rfl (by decide) ?_
                              refine g_iload8 C dX6_lays_246 ?_
                              refine g_ialdE C (htr k (by omega)) (by omega) (by decide) dX6_lays_248 (show 65 < 68 by decide) rfl ?_
                              refine g_iaddN C dX6_lays_249 ?_
                              refine g_istore7 C dX6_lays_250 ?_
                              refine g_set (L' := [some (.ref 56), some (.int (nI T)), some (.int (nI (zp8 T))), some (.int (nI P.length)), some (.int (nI i)), some (.int (nI (zBs P))), some (.int (nI (zSg S.1 h i))), some (.int (nI (zRc ((P ++ [i]).drop k)))), some (.int (nI k))]) rfl (by rw [← zRc_drop _ _ (by rw [hl1]; omega)]) rfl ?_
                              refine g_iinc8 C dX6_lays_252 ?_
                              refine g_goto C 232 dX6_lays_255 (by decide) ?_
                              exact ih2 (by omega)
                          refine g_set (L' := [some (.ref 56), some (.int (nI T)), some (.int (nI (zp8 T))), some (.int (nI P.length)), some (.int (nI i)), some (.int (nI (zBs P))), some (.int (nI (zSg S.1 h i))), some (.int (nI (zRc ((P ++ [i]).drop (P.length + 1))))), some (.int (nI (P.length + 1) + (-1)))]) rfl (by rw [List.drop_eq_nil_of_le (by rw [hl1]; exact Nat.le_refl _), zdn _ (by omega), show zp8 T - 1 = P.length by omega]; rfl) rfl ?_
                          exact H232 (P.length + 1) (Nat.le_refl _)
          · -- X6_lays 98f
            
            refine g_iinc3 C dX6_lays_101 ?_
            
            refine g_goto C 303 dX6_lays_104 (by decide) ?_
            refine g_goto C 36 dX6_lays_303 (by decide) ?_
            refine hexit _ _ _ _ _ _ hf2 ?_
            have htp := zOs_top (A := S.1) (ik := zInkS S.2.1) (H := mH S.2.1) (f := 6 - P.length) (d := P.length) (m := zBs P) (h := h) (i := i) (fun s hs => hTn s (by omega)) (7 - i)
            rw [show i + (7 - i) = 7 by omega] at htp
            rw [htp]
            exact hrw.fr (up_k (by decide) _) (up_K (by decide))
        refine g_iload3 C dX6_lays_36 ?_
        refine g_if_ltN C 306 (by omega) dX6_lays_37 (by decide) (fun h => h.elim) (fun _ => ?_)
        refine g_aload0 C dX6_lays_40 ?_
        refine g_getRT C dX6_lays_41 flX6_35 (show 56 < 68 by decide) rfl rfl (by decide) ?_
        refine g_iload3 C dX6_lays_44 ?_
        refine g_dup2 C dX6_lays_45 rfl rfl ?_
        refine g_ialdE C htry (by omega) (by decide) dX6_lays_46 (show 65 < 68 by decide) rfl ?_
        refine g_iconst C (nI 1) dX6_lays_47 (by decide) ?_
        refine g_iadd C dX6_lays_48 ?_
        refine g_top (zup i (by omega)) ?_
        refine g_iastN C (by omega) (by decide) dX6_lays_49 (show 65 < 68 by decide) rfl ?_
        refine g_aload0 C dX6_lays_50 ?_
        refine g_getRT C dX6_lays_51 flX6_35 (show 56 < 68 by decide) rfl rfl (by decide) ?_
        refine g_iload3 C dX6_lays_54 ?_
        refine g_ialdE C (up_s _ _ _ _) (by omega) (by decide) dX6_lays_55 (show 65 < 68 by decide) rfl ?_
        refine g_istore4 C dX6_lays_56 ?_
        refine g_iconst C (nI 0) dX6_lays_58 (by decide) ?_
        refine g_istore5 C dX6_lays_59 ?_
        refine g_iconst C (nI 0) dX6_lays_61 (by decide) ?_
        refine g_istore6 C dX6_lays_62 ?_
        exact H64a h90
    | succ r ihr =>
      intro P h j
      induction j with
      | zero => intro i O0 c1 x4 x5 x6 x7 x8 hj; exact absurd hj (by omega)
      | succ j ih =>
        intro i O0 c1 x4 x5 x6 x7 x8 hj hd hsb hpc hP7 hR1 hL htry hi hrw hb hh9 hexit
        have hhlt : h < 2 ^ 31 := by have := hS.2.1.1; omega
        have hd7 : P.length < 7 := by omega
        have hmT : zBs P < 128 := Nat.lt_of_le_of_lt (zSb_le hsb) hT
        have hR2 : RepM (z_up c1 65 P.length (nI i)) t S := hR1.frl (d := P.length) (FrL.u65 (Nat.le_refl _))
        have hf2 : FrL P.length c1 (z_up c1 65 P.length (nI i)) := FrL.u65 (Nat.le_refl _)
        have hno : ∀ (c3 : Nat → Nat → Int32) (y4 y5 y6 y7 y8 : Option Value), i < cN S.1 → zOk S.1 (zInkS S.2.1) T (mH S.2.1) P.length (zBs P) h i = false → FrL P.length c1 c3 → c3 65 P.length = nI i → c3 56 15 = c1 56 15 → c3 64 = c1 64 → GG Γ K 0 0 (wF c3 t) 36 [some (.ref 56), some (.int (nI T)), some (.int (nI (zp8 T))), some (.int (nI P.length)), y4, y5, y6, y7, y8] [] := by
          intro c3 y4 y5 y6 y7 y8 hic hok hf h65 h15 h64
          exact ih (i + 1) O0 c3 y4 y5 y6 y7 y8 (by omega) hd hsb hpc hP7 (hR1.frl hf) (hL.fr hf) (h65.trans (zdn i (by omega)).symm) (by omega) (by rw [zOs_no hok]; exact hrw.fr h15 h64) hb hh9 (fun c4 z4 z5 z6 z7 z8 h1 h2 => hexit c4 z4 z5 z6 z7 z8 (hf.tr h1) h2)
        have H64a : GG Γ K 0 0 (wF (z_up c1 65 P.length (nI i)) t) 90 [some (.ref 56), some (.int (nI T)), some (.int (nI (zp8 T))), some (.int (nI P.length)), some (.int (nI i)), some (.int (nI (zBs P))), some (.int (nI (P.length))), x7, x8] [] → GG Γ K 0 0 (wF (z_up c1 65 P.length (nI i)) t) 64 [some (.ref 56), some (.int (nI T)), some (.int (nI (zp8 T))), some (.int (nI P.length)), some (.int (nI i)), some (.int (nI (0))), some (.int (nI (0))), x7, x8] [] := by
          intro hexit2
          have H64 : ∀ (n : Nat) (k : Nat), k ≤ P.length → P.length - k < n → GG Γ K 0 0 (wF (z_up c1 65 P.length (nI i)) t) 64 [some (.ref 56), some (.int (nI T)), some (.int (nI (zp8 T))), some (.int (nI P.length)), some (.int (nI i)), some (.int (nI (zBf (zGd P) k))), some (.int (nI (k))), x7, x8] [] := by
            intro n
            induction n with
            | zero => intro k hk hn; exact absurd hn (by omega)
            | succ n ih =>
              intro k hk hn
              refine g_iload6 C dX6_lays_64 ?_
              refine g_iload3 C dX6_lays_66 ?_
              refine g_icmp_geN C 90 (by omega) (by omega) dX6_lays_67 (by decide) (fun h67 => ?_) (fun h67 => ?_)
              · -- X6_lays 67t
                obtain rfl : k = P.length := by omega
                exact hexit2
              · -- X6_lays 67f
                have hg7 := hP7 k h67
                refine g_iload5 C dX6_lays_70 ?_
                refine g_iconst C (nI 1) dX6_lays_72 (by decide) ?_
                refine g_aload0 C dX6_lays_73 ?_
                refine g_getRT C dX6_lays_74 flX6_35 (show 56 < 68 by decide) rfl rfl (by decide) ?_
                refine g_iload6 C dX6_lays_77 ?_
                refine g_ialdE C ((up_j _ (by omega)).trans (hL.1 k h67)) (by omega) (by decide) dX6_lays_79 (show 65 < 68 by decide) rfl ?_
                refine g_ishlN C dX6_lays_80 (by omega) ?_
                refine g_iorN C dX6_lays_81 ?_
                refine g_istore5 C dX6_lays_82 ?_
                refine g_iinc6N C dX6_lays_84 ?_
                refine g_goto C 64 dX6_lays_87 (by decide) ?_
                exact ih (k + 1) (by omega) (by omega)
          exact H64 (P.length + 1) 0 (Nat.zero_le _) (by omega)
        have h90 : GG Γ K 0 0 (wF (z_up c1 65 P.length (nI i)) t) 90 [some (.ref 56), some (.int (nI T)), some (.int (nI (zp8 T))), some (.int (nI P.length)), some (.int (nI i)), some (.int (nI (zBs P))), some (.int (nI (P.length))), x7, x8] [] := by
          refine g_iload4 C dX6_lays_90 ?_
          refine g_aload0 C dX6_lays_92 ?_
          refine g_getRT C dX6_lays_93 flX6_13 (show 56 < 68 by decide) rfl rfl (by decide) ?_
          refine g_iconst C (nI 0) dX6_lays_96 (by decide) ?_
          refine g_ialdE C ((congrFun (up_K (by decide)) 0).trans hR1.1.1) (by omega) (by decide) dX6_lays_97 (show 58 < 68 by decide) rfl ?_
          refine g_icmp_ltN C 107 (by omega) (by omega) dX6_lays_98 (by decide) (fun h98 => ?_) (fun h98 => ?_)
          · -- X6_lays 98t
            
            refine g_iload1 C dX6_lays_107 ?_
            refine g_iload4 C dX6_lays_108 ?_
            refine g_ishrN C dX6_lays_110 (by omega) (by omega) ?_
            refine g_iconst C (nI 1) dX6_lays_111 (by decide) ?_
            refine g_iandN C dX6_lays_112 ?_
            refine g_top (by rw [zn_bit]) ?_
            refine g_iconst C (nI 1) dX6_lays_113 (by decide) ?_
            refine g_icmp_neN C 303 (by cases T.testBit i <;> decide) (by decide) dX6_lays_114 (by decide) (fun h114 => ?_) (fun h114 => ?_)
            · -- X6_lays 114t
              refine g_goto C 36 dX6_lays_303 (by decide) ?_
              exact hno (z_up c1 65 P.length (nI i)) _ _ _ _ _ h98 (by unfold zOk; rw [zan_bit _ _ (show i < 32 by omega), show T.testBit i = false by (cases hb2 : T.testBit i with | false => rfl | true => rw [hb2] at h114; exact absurd rfl h114)]; rfl) hf2 (up_s _ _ _ _) (up_k (by decide) _) (up_K (by decide))
            · -- X6_lays 114f
              replace h114 : T.testBit i = true := zbit_one (by omega)
              refine g_aload0 C dX6_lays_117 ?_
              refine g_iload4 C dX6_lays_118 ?_
              refine g_iload5 C dX6_lays_120 ?_
              refine g_callV2i C dX6_lays_122 vlX6_98 (n_would hS.1 hR2.1 h98 hmT) hKd (by first | decide | omega) rfl (Nat.le_of_ble_eq_true rfl) (show 56 < 68 by decide) rfl ?_
              rintro _ _ ⟨rfl, rfl⟩
              refine g_if_eqB C 303 dX6_lays_125 (by decide) (fun h125 => ?_) (fun h125 => ?_)
              · -- X6_lays 125t
                refine g_goto C 36 dX6_lays_303 (by decide) ?_
                exact hno (z_up c1 65 P.length (nI i)) _ _ _ _ _ h98 (by unfold zOk; unfold zWd at h125; rw [zan_bit _ _ (show i < 32 by omega), h114]; cases hmb : (zBs P).testBit i with | true => rfl | false => rw [hmb] at h125; have hd0 : zDare S.1 i (zBs P) = false := h125; rw [hd0]; simp) hf2 (up_s _ _ _ _) (up_k (by decide) _) (up_K (by decide))
              · -- X6_lays 125f
                unfold zWd at h125
                have hmi : (zBs P).testBit i = false := by cases hmb : (zBs P).testBit i with | false => rfl | true => rw [hmb] at h125; cases h125
                have hda : zDare S.1 i (zBs P) = true := by rw [hmi] at h125; exact h125
                have hdp := hS.1.2.2.2.2.1
                have hmod := Nat.mod_lt P.length (show 0 < cD S.1 by omega)
                have hik : zInkS S.2.1 i ≤ 4 := zInkS_le hS.2.1.2.2.2.2.1 i
                refine g_aload0 C dX6_lays_128 ?_
                refine g_iload4 C dX6_lays_129 ?_
                refine g_callV1i C dX6_lays_131 vlX6_127 (n_inkOf hS hR2 h98) hKd (by first | decide | omega) rfl (Nat.le_of_ble_eq_true rfl) (show 56 < 68 by decide) rfl ?_
                rintro _ _ ⟨rfl, rfl⟩
                refine g_aload0 C dX6_lays_134 ?_
                refine g_getRT C dX6_lays_135 flX6_13 (show 56 < 68 by decide) rfl rfl (by decide) ?_
                refine g_iconst C (nI 1) dX6_lays_138 (by decide) ?_
                refine g_ialdE C ((congrFun (up_K (by decide)) 1).trans hR1.1.2.1) (by omega) (by decide) dX6_lays_139 (show 58 < 68 by decide) rfl ?_
                refine g_iload3 C dX6_lays_140 ?_
                refine g_aload0 C dX6_lays_141 ?_
                refine g_getRT C dX6_lays_142 flX6_13 (show 56 < 68 by decide) rfl rfl (by decide) ?_
                refine g_iconst C (nI 1) dX6_lays_145 (by decide) ?_
                refine g_ialdE C ((congrFun (up_K (by decide)) 1).trans hR1.1.2.1) (by omega) (by decide) dX6_lays_146 (show 58 < 68 by decide) rfl ?_
                refine g_iremN C dX6_lays_147 (by omega) (by omega) (by omega) ?_
                refine g_isubN C dX6_lays_148 (by omega) ?_
                refine g_icmp_neN C 303 (by omega) (by omega) dX6_lays_149 (by decide) (fun h149 => ?_) (fun h149 => ?_)
                · -- X6_lays 149t
                  refine g_goto C 36 dX6_lays_303 (by decide) ?_
                  exact hno (z_up c1 65 P.length (nI i)) _ _ _ _ _ h98 (by unfold zOk; rw [decide_eq_false (show ¬ zInkS S.2.1 i = zInk S.1 P.length from h149)]; simp) hf2 (up_s _ _ _ _) (up_k (by decide) _) (up_K (by decide))
                · -- X6_lays 149f
                  
                  refine g_iload3 C dX6_lays_152 ?_
                  refine g_if_neN C 160 (by omega) dX6_lays_153 (by decide) (fun h153 => ?_) (fun h153 => ?_)
                  · -- X6_lays 153t
                    obtain ⟨hh, hhe, hh2⟩ : ∃ hh, h = hh + 1 ∧ c1 66 (P.length - 1) = nI hh := by rcases hL.2 with q | ⟨hh, q1, q2, q3⟩; omega; exact ⟨hh, q1, q3⟩
                    refine g_aload0 C dX6_lays_160 ?_
                    refine g_getRT C dX6_lays_161 flX6_38 (show 56 < 68 by decide) rfl rfl (by decide) ?_
                    refine g_iload3 C dX6_lays_164 ?_
                    refine g_iconst C (nI 1) dX6_lays_165 (by decide) ?_
                    refine g_isubN C dX6_lays_166 (by omega) ?_
                    refine g_ialdE C ((up_k (by decide) _).trans hh2) (by omega) (by decide) dX6_lays_167 (show 66 < 68 by decide) rfl ?_
                    refine g_iconst C (nI 1) dX6_lays_168 (by decide) ?_
                    refine g_iaddN C dX6_lays_169 ?_
                    refine g_top (show _ = nI h by first | (rw [hh0]; decide) | rw [hhe]) ?_
                    refine g_istore6 C dX6_lays_170 ?_
                    have hhb : h < 2 ^ 31 := hhlt
                    refine g_iload6 C dX6_lays_172 ?_
                    refine g_iload6 C dX6_lays_174 ?_
                    refine g_iconst C (nI 3) dX6_lays_176 (by decide) ?_
                    refine g_iremN C dX6_lays_177 hhb (by decide) (by decide) ?_
                    refine g_aload0 C dX6_lays_178 ?_
                    refine g_getRT C dX6_lays_179 flX6_13 (show 56 < 68 by decide) rfl rfl (by decide) ?_
                    refine g_iconst C (nI 5) dX6_lays_182 (by decide) ?_
                    refine g_iload4 C dX6_lays_183 ?_
                    refine g_iaddN C dX6_lays_185 ?_
                    refine g_ialdE C ((congrFun (up_K (by decide)) _).trans (hR1.1.2.2.2.1 i h98)) (by omega) (by decide) dX6_lays_186 (show 58 < 68 by decide) rfl ?_
                    refine g_icmp_neN C 194 (by omega) (by have := hS.1.2.1 i h98; omega) dX6_lays_187 (by decide) (fun h187 => ?_) (fun h187 => ?_)
                    · -- X6_lays 187t
                      have hsg : h + 0 = zSg S.1 h i := (if_neg h187).symm
                      refine g_iconst C (nI 0) dX6_lays_194 (by decide) ?_
                      refine g_iaddN C dX6_lays_195 ?_
                      refine g_istore6 C dX6_lays_196 ?_
                      refine g_set (L' := [some (.ref 56), some (.int (nI T)), some (.int (nI (zp8 T))), some (.int (nI P.length)), some (.int (nI i)), some (.int (nI (zBs P))), some (.int (nI (zSg S.1 h i))), x7, x8]) rfl (by rw [hsg]) rfl ?_
                      refine g_aload0 C dX6_lays_198 ?_
                      refine g_getRT C dX6_lays_199 flX6_38 (show 56 < 68 by decide) rfl rfl (by decide) ?_
                      refine g_iload3 C dX6_lays_202 ?_
                      refine g_iload6 C dX6_lays_203 ?_
                      refine g_iastN C (by omega) (by decide) dX6_lays_205 (show 66 < 68 by decide) rfl ?_
                      refine g_iload6 C dX6_lays_206 ?_
                      refine g_aload0 C dX6_lays_208 ?_
                      refine g_getRT C dX6_lays_209 flX6_19 (show 56 < 68 by decide) rfl rfl (by decide) ?_
                      refine g_iconst C (nI 0) dX6_lays_212 (by decide) ?_
                      refine g_ialdE C ((congrFun (up_K (by decide)) 0).trans ((congrFun (up_K (by decide)) 0).trans hR1.2.1.1)) (by omega) (by decide) dX6_lays_213 (show 60 < 68 by decide) rfl ?_
                      refine g_icmp_geN C 282 (by have := zSg_le S.1 h i; have := hS.2.1.1; omega) (by have := hS.2.1.1; omega) dX6_lays_214 (by decide) (fun h214 => ?_) (fun h214 => ?_)
                      · -- X6_lays 214t
                        have hH99 := hS.2.1.1
                        have hs2 : zSg S.1 h i < 2 ^ 31 := by have := zSg_le S.1 h i; omega
                        refine g_iload6 C dX6_lays_282 ?_
                        refine g_aload0 C dX6_lays_284 ?_
                        refine g_getRT C dX6_lays_285 flX6_19 (show 56 < 68 by decide) rfl rfl (by decide) ?_
                        refine g_iconst C (nI 0) dX6_lays_288 (by decide) ?_
                        refine g_ialdE C ((congrFun (up_K (by decide)) 0).trans ((congrFun (up_K (by decide)) 0).trans hR1.2.1.1)) (by omega) (by decide) dX6_lays_289 (show 60 < 68 by decide) rfl ?_
                        refine g_icmp_geN C 303 (by omega) (by omega) dX6_lays_290 (by decide) (fun h290 => ?_) (fun h290 => absurd h290 (by omega))
                        refine g_goto C 36 dX6_lays_303 (by decide) ?_
                        exact hno (z_up (z_up c1 65 P.length (nI i)) 66 P.length (nI (zSg S.1 h i))) _ _ _ _ _ h98 (by unfold zOk; rw [decide_eq_false (show ¬ zSg S.1 h i < mH S.2.1 by omega)]; simp) (hf2.tr (FrL.u66 (Nat.le_refl _))) ((up_k (by decide) _).trans (up_s _ _ _ _)) ((up_k (by decide) _).trans (up_k (by decide) _)) ((up_K (by decide)).trans (up_K (by decide)))
                      · -- X6_lays 214f
                        have hok : zOk S.1 (zInkS S.2.1) T (mH S.2.1) P.length (zBs P) h i = true := by unfold zOk; rw [zan_bit _ _ (show i < 32 by omega), h114, hmi, decide_eq_true (show zInkS S.2.1 i = zInk S.1 P.length from h149), hda, decide_eq_true h214]; rfl
                        have hH99 := hS.2.1.1
                        refine g_iload3 C dX6_lays_217 ?_
                        refine g_iconst C (nI 1) dX6_lays_218 (by decide) ?_
                        refine g_iaddN C dX6_lays_219 ?_
                        refine g_iload2 C dX6_lays_220 ?_
                        refine g_icmp_neN C 282 (by omega) (by omega) dX6_lays_221 (by decide) (fun h221 => ?_) (fun h221 => ?_)
                        · -- X6_lays 221t
                          refine g_iload6 C dX6_lays_282 ?_
                          refine g_aload0 C dX6_lays_284 ?_
                          refine g_getRT C dX6_lays_285 flX6_19 (show 56 < 68 by decide) rfl rfl (by decide) ?_
                          refine g_iconst C (nI 0) dX6_lays_288 (by decide) ?_
                          refine g_ialdE C ((congrFun (up_K (by decide)) 0).trans ((congrFun (up_K (by decide)) 0).trans hR1.2.1.1)) (by omega) (by decide) dX6_lays_289 (show 60 < 68 by decide) rfl ?_
                          refine g_icmp_geN C 303 (by omega) (by omega) dX6_lays_290 (by decide) (fun h290 => absurd h290 (by omega)) (fun h290 => ?_)
                          refine g_iinc3N C dX6_lays_293 ?_
                          refine g_aload0 C dX6_lays_296 ?_
                          refine g_getRT C dX6_lays_297 flX6_35 (show 56 < 68 by decide) rfl rfl (by decide) ?_
                          refine g_iload3 C dX6_lays_300 ?_
                          refine g_iconst C (-1) dX6_lays_301 (by decide) ?_
                          refine g_iastN C (by omega) (by decide) dX6_lays_302 (show 65 < 68 by decide) rfl ?_
                          refine g_goto C 36 dX6_lays_303 (by decide) ?_
                          have hl1 : (P ++ [i]).length = P.length + 1 := by rw [List.length_append, List.length_singleton]
                          have hms : zSb (zBs (P ++ [i])) T := by rw [zBs_snoc]; exact hsb.or h114
                          have hmp : zp8 (zBs (P ++ [i])) = (P ++ [i]).length := by rw [zBs_snoc, zpc_snoc (by omega) hmi, hpc, hl1]
                          have hne : zBs P ||| (1 <<< i) ≠ T := fun e => by rw [zBs_snoc, e, hl1] at hmp; omega
                          have hsx : zOs S.1 (zInkS S.2.1) T (mH S.2.1) (6 - P.length) P.length (zBs P) h (i + 1) = zOs S.1 (zInkS S.2.1) T (mH S.2.1) (6 - P.length) P.length (zBs P) h i ++ (zOs S.1 (zInkS S.2.1) T (mH S.2.1) (6 - (P ++ [i]).length) (P ++ [i]).length (zBs (P ++ [i])) (zSg S.1 h i + 1) 7).map (i :: ·) := by
                            rw [zOs_s, if_pos hok, hl1, zBs_snoc, show 6 - P.length = (6 - (P.length + 1)) + 1 by omega, zOx_s _ _ _ _ _ _ _ _ hne]
                          have hmm : ∀ O1 : List (List Nat), (O1.map (i :: ·)).map (P ++ ·) = O1.map ((P ++ [i]) ++ ·) := fun O1 => by rw [List.map_map]; exact List.map_congr_left fun l _ => by show P ++ (i :: l) = (P ++ [i]) ++ l; rw [List.append_assoc]; rfl
                          have hf3 : FrL P.length c1 (z_up (z_up (z_up c1 65 P.length (nI i)) 66 P.length (nI (zSg S.1 h i))) 65 (P.length + 1) (-1)) := (hf2.tr (FrL.u66 (Nat.le_refl _))).tr (FrL.u65 (by omega))
                          have hL3 : LvC (z_up (z_up (z_up c1 65 P.length (nI i)) 66 P.length (nI (zSg S.1 h i))) 65 (P.length + 1) (-1)) (P ++ [i]) (zSg S.1 h i + 1) := (hL.fr hf3).snoc (by rw [up_j _ (by omega), up_k (by decide), up_s]) (by rw [up_k (by decide), up_s])
                          have hlen := zOs_mono S.1 (zInkS S.2.1) T (mH S.2.1) (6 - P.length) P.length (zBs P) h (i + 1) (7 - (i + 1))
                          rw [show i + 1 + (7 - (i + 1)) = 7 by omega, hsx, List.length_append, List.length_map] at hlen
                          refine g_set (L' := [some (.ref 56), some (.int (nI T)), some (.int (nI (zp8 T))), some (.int (nI (P ++ [i]).length)), _, _, _, _, _]) rfl (by rw [hl1]) rfl ?_
                          refine ihr (P ++ [i]) (zSg S.1 h i + 1) (cN S.1 + 1) 0 (O0 ++ (zOs S.1 (zInkS S.2.1) T (mH S.2.1) (6 - P.length) P.length (zBs P) h i).map (P ++ ·)) _ _ _ _ _ _ (by omega) (by rw [hl1]; omega) hms hmp (fun k hk => ?_) (hR1.frl hf3) hL3 (by rw [hl1]; exact (up_s _ _ _ _).trans (by decide)) (Nat.zero_le _) (by rw [zOs_0, List.map_nil, List.append_nil]; exact hrw.fr (by rw [up_k (by decide), up_k (by decide), up_k (by decide)]) (by rw [up_K (by decide), up_K (by decide), up_K (by decide)])) (by rw [List.length_append, List.length_map]; omega) (by omega) (fun c4 y4 y5 y6 y7 y8 hf4 hrw4 => ?_)
                          · by_cases e : k < P.length
                            · rw [zGd_l e]; exact hP7 k e
                            · rw [show k = P.length by omega, zGd_r]; omega
                          · refine g_set (L' := [some (.ref 56), some (.int (nI T)), some (.int (nI (zp8 T))), some (.int (nI P.length)), y4, y5, y6, y7, y8]) rfl (by rw [hl1, zdn _ (by omega)]) rfl ?_
                            have hf5 : FrL P.length c1 c4 := hf3.tr (hf4.le (by omega))
                            exact ih (i + 1) O0 c4 _ _ _ _ _ (by omega) hd hsb hpc hP7 (hR1.frl hf5) (hL.fr hf5) (by rw [(hf4.2.2 P.length (by omega)).1, up_j _ (by omega), up_k (by decide), up_s, zdn i (by omega)]) (by omega) (by rw [hsx, List.map_append, hmm, ← List.append_assoc]; exact hrw4) hb hh9 (fun c6 z4 z5 z6 z7 z8 h1 h2 => hexit c6 z4 z5 z6 z7 z8 (hf5.tr h1) h2)
                        · -- X6_lays 221f
                          exact absurd hd (by omega)
                    · -- X6_lays 187f
                      have hsg : h + 1 = zSg S.1 h i := (if_pos h187).symm
                      refine g_iconst C (nI 1) dX6_lays_190 (by decide) ?_
                      refine g_goto C 195 dX6_lays_191 (by decide) ?_
                      refine g_iaddN C dX6_lays_195 ?_
                      refine g_istore6 C dX6_lays_196 ?_
                      refine g_set (L' := [some (.ref 56), some (.int (nI T)), some (.int (nI (zp8 T))), some (.int (nI P.length)), some (.int (nI i)), some (.int (nI (zBs P))), some (.int (nI (zSg S.1 h i))), x7, x8]) rfl (by rw [hsg]) rfl ?_
                      refine g_aload0 C dX6_lays_198 ?_
                      refine g_getRT C dX6_lays_199 flX6_38 (show 56 < 68 by decide) rfl rfl (by decide) ?_
                      refine g_iload3 C dX6_lays_202 ?_
                      refine g_iload6 C dX6_lays_203 ?_
                      refine g_iastN C (by omega) (by decide) dX6_lays_205 (show 66 < 68 by decide) rfl ?_
                      refine g_iload6 C dX6_lays_206 ?_
                      refine g_aload0 C dX6_lays_208 ?_
                      refine g_getRT C dX6_lays_209 flX6_19 (show 56 < 68 by decide) rfl rfl (by decide) ?_
                      refine g_iconst C (nI 0) dX6_lays_212 (by decide) ?_
                      refine g_ialdE C ((congrFun (up_K (by decide)) 0).trans ((congrFun (up_K (by decide)) 0).trans hR1.2.1.1)) (by omega) (by decide) dX6_lays_213 (show 60 < 68 by decide) rfl ?_
                      refine g_icmp_geN C 282 (by have := zSg_le S.1 h i; have := hS.2.1.1; omega) (by have := hS.2.1.1; omega) dX6_lays_214 (by decide) (fun h214 => ?_) (fun h214 => ?_)
                      · -- X6_lays 214t
                        have hH99 := hS.2.1.1
                        have hs2 : zSg S.1 h i < 2 ^ 31 := by have := zSg_le S.1 h i; omega
                        refine g_iload6 C dX6_lays_282 ?_
                        refine g_aload0 C dX6_lays_284 ?_
                        refine g_getRT C dX6_lays_285 flX6_19 (show 56 < 68 by decide) rfl rfl (by decide) ?_
                        refine g_iconst C (nI 0) dX6_lays_288 (by decide) ?_
                        refine g_ialdE C ((congrFun (up_K (by decide)) 0).trans ((congrFun (up_K (by decide)) 0).trans hR1.2.1.1)) (by omega) (by decide) dX6_lays_289 (show 60 < 68 by decide) rfl ?_
                        refine g_icmp_geN C 303 (by omega) (by omega) dX6_lays_290 (by decide) (fun h290 => ?_) (fun h290 => absurd h290 (by omega))
                        refine g_goto C 36 dX6_lays_303 (by decide) ?_
                        exact hno (z_up (z_up c1 65 P.length (nI i)) 66 P.length (nI (zSg S.1 h i))) _ _ _ _ _ h98 (by unfold zOk; rw [decide_eq_false (show ¬ zSg S.1 h i < mH S.2.1 by omega)]; simp) (hf2.tr (FrL.u66 (Nat.le_refl _))) ((up_k (by decide) _).trans (up_s _ _ _ _)) ((up_k (by decide) _).trans (up_k (by decide) _)) ((up_K (by decide)).trans (up_K (by decide)))
                      · -- X6_lays 214f
                        have hok : zOk S.1 (zInkS S.2.1) T (mH S.2.1) P.length (zBs P) h i = true := by unfold zOk; rw [zan_bit _ _ (show i < 32 by omega), h114, hmi, decide_eq_true (show zInkS S.2.1 i = zInk S.1 P.length from h149), hda, decide_eq_true h214]; rfl
                        have hH99 := hS.2.1.1
                        refine g_iload3 C dX6_lays_217 ?_
                        refine g_iconst C (nI 1) dX6_lays_218 (by decide) ?_
                        refine g_iaddN C dX6_lays_219 ?_
                        refine g_iload2 C dX6_lays_220 ?_
                        refine g_icmp_neN C 282 (by omega) (by omega) dX6_lays_221 (by decide) (fun h221 => ?_) (fun h221 => ?_)
                        · -- X6_lays 221t
                          refine g_iload6 C dX6_lays_282 ?_
                          refine g_aload0 C dX6_lays_284 ?_
                          refine g_getRT C dX6_lays_285 flX6_19 (show 56 < 68 by decide) rfl rfl (by decide) ?_
                          refine g_iconst C (nI 0) dX6_lays_288 (by decide) ?_
                          refine g_ialdE C ((congrFun (up_K (by decide)) 0).trans ((congrFun (up_K (by decide)) 0).trans hR1.2.1.1)) (by omega) (by decide) dX6_lays_289 (show 60 < 68 by decide) rfl ?_
                          refine g_icmp_geN C 303 (by omega) (by omega) dX6_lays_290 (by decide) (fun h290 => absurd h290 (by omega)) (fun h290 => ?_)
                          refine g_iinc3N C dX6_lays_293 ?_
                          refine g_aload0 C dX6_lays_296 ?_
                          refine g_getRT C dX6_lays_297 flX6_35 (show 56 < 68 by decide) rfl rfl (by decide) ?_
                          refine g_iload3 C dX6_lays_300 ?_
                          refine g_iconst C (-1) dX6_lays_301 (by decide) ?_
                          refine g_iastN C (by omega) (by decide) dX6_lays_302 (show 65 < 68 by decide) rfl ?_
                          refine g_goto C 36 dX6_lays_303 (by decide) ?_
                          have hl1 : (P ++ [i]).length = P.length + 1 := by rw [List.length_append, List.length_singleton]
                          have hms : zSb (zBs (P ++ [i])) T := by rw [zBs_snoc]; exact hsb.or h114
                          have hmp : zp8 (zBs (P ++ [i])) = (P ++ [i]).length := by rw [zBs_snoc, zpc_snoc (by omega) hmi, hpc, hl1]
                          have hne : zBs P ||| (1 <<< i) ≠ T := fun e => by rw [zBs_snoc, e, hl1] at hmp; omega
                          have hsx : zOs S.1 (zInkS S.2.1) T (mH S.2.1) (6 - P.length) P.length (zBs P) h (i + 1) = zOs S.1 (zInkS S.2.1) T (mH S.2.1) (6 - P.length) P.length (zBs P) h i ++ (zOs S.1 (zInkS S.2.1) T (mH S.2.1) (6 - (P ++ [i]).length) (P ++ [i]).length (zBs (P ++ [i])) (zSg S.1 h i + 1) 7).map (i :: ·) := by
                            rw [zOs_s, if_pos hok, hl1, zBs_snoc, show 6 - P.length = (6 - (P.length + 1)) + 1 by omega, zOx_s _ _ _ _ _ _ _ _ hne]
                          have hmm : ∀ O1 : List (List Nat), (O1.map (i :: ·)).map (P ++ ·) = O1.map ((P ++ [i]) ++ ·) := fun O1 => by rw [List.map_map]; exact List.map_congr_left fun l _ => by show P ++ (i :: l) = (P ++ [i]) ++ l; rw [List.append_assoc]; rfl
                          have hf3 : FrL P.length c1 (z_up (z_up (z_up c1 65 P.length (nI i)) 66 P.length (nI (zSg S.1 h i))) 65 (P.length + 1) (-1)) := (hf2.tr (FrL.u66 (Nat.le_refl _))).tr (FrL.u65 (by omega))
                          have hL3 : LvC (z_up (z_up (z_up c1 65 P.length (nI i)) 66 P.length (nI (zSg S.1 h i))) 65 (P.length + 1) (-1)) (P ++ [i]) (zSg S.1 h i + 1) := (hL.fr hf3).snoc (by rw [up_j _ (by omega), up_k (by decide), up_s]) (by rw [up_k (by decide), up_s])
                          have hlen := zOs_mono S.1 (zInkS S.2.1) T (mH S.2.1) (6 - P.length) P.length (zBs P) h (i + 1) (7 - (i + 1))
                          rw [show i + 1 + (7 - (i + 1)) = 7 by omega, hsx, List.length_append, List.length_map] at hlen
                          refine g_set (L' := [some (.ref 56), some (.int (nI T)), some (.int (nI (zp8 T))), some (.int (nI (P ++ [i]).length)), _, _, _, _, _]) rfl (by rw [hl1]) rfl ?_
                          refine ihr (P ++ [i]) (zSg S.1 h i + 1) (cN S.1 + 1) 0 (O0 ++ (zOs S.1 (zInkS S.2.1) T (mH S.2.1) (6 - P.length) P.length (zBs P) h i).map (P ++ ·)) _ _ _ _ _ _ (by omega) (by rw [hl1]; omega) hms hmp (fun k hk => ?_) (hR1.frl hf3) hL3 (by rw [hl1]; exact (up_s _ _ _ _).trans (by decide)) (Nat.zero_le _) (by rw [zOs_0, List.map_nil, List.append_nil]; exact hrw.fr (by rw [up_k (by decide), up_k (by decide), up_k (by decide)]) (by rw [up_K (by decide), up_K (by decide), up_K (by decide)])) (by rw [List.length_append, List.length_map]; omega) (by omega) (fun c4 y4 y5 y6 y7 y8 hf4 hrw4 => ?_)
                          · by_cases e : k < P.length
                            · rw [zGd_l e]; exact hP7 k e
                            · rw [show k = P.length by omega, zGd_r]; omega
                          · refine g_set (L' := [some (.ref 56), some (.int (nI T)), some (.int (nI (zp8 T))), some (.int (nI P.length)), y4, y5, y6, y7, y8]) rfl (by rw [hl1, zdn _ (by omega)]) rfl ?_
                            have hf5 : FrL P.length c1 c4 := hf3.tr (hf4.le (by omega))
                            exact ih (i + 1) O0 c4 _ _ _ _ _ (by omega) hd hsb hpc hP7 (hR1.frl hf5) (hL.fr hf5) (by rw [(hf4.2.2 P.length (by omega)).1, up_j _ (by omega), up_k (by decide), up_s, zdn i (by omega)]) (by omega) (by rw [hsx, List.map_append, hmm, ← List.append_assoc]; exact hrw4) hb hh9 (fun c6 z4 z5 z6 z7 z8 h1 h2 => hexit c6 z4 z5 z6 z7 z8 (hf5.tr h1) h2)
                        · -- X6_lays 221f
                          exact absurd hd (by omega)
                  · -- X6_lays 153f
                    have hh0 : h = 0 := by rcases hL.2 with q | ⟨hh, q1, q2, q3⟩; exact q.2; omega
                    refine g_iconst C (-1) dX6_lays_156 (by decide) ?_
                    refine g_goto C 168 dX6_lays_157 (by decide) ?_
                    refine g_iconst C (nI 1) dX6_lays_168 (by decide) ?_
                    refine g_iadd C dX6_lays_169 ?_
                    refine g_top (show _ = nI h by first | (rw [hh0]; decide) | rw [hhe]) ?_
                    refine g_istore6 C dX6_lays_170 ?_
                    have hhb : h < 2 ^ 31 := hhlt
                    refine g_iload6 C dX6_lays_172 ?_
                    refine g_iload6 C dX6_lays_174 ?_
                    refine g_iconst C (nI 3) dX6_lays_176 (by decide) ?_
                    refine g_iremN C dX6_lays_177 hhb (by decide) (by decide) ?_
                    refine g_aload0 C dX6_lays_178 ?_
                    refine g_getRT C dX6_lays_179 flX6_13 (show 56 < 68 by decide) rfl rfl (by decide) ?_
                    refine g_iconst C (nI 5) dX6_lays_182 (by decide) ?_
                    refine g_iload4 C dX6_lays_183 ?_
                    refine g_iaddN C dX6_lays_185 ?_
                    refine g_ialdE C ((congrFun (up_K (by decide)) _).trans (hR1.1.2.2.2.1 i h98)) (by omega) (by decide) dX6_lays_186 (show 58 < 68 by decide) rfl ?_
                    refine g_icmp_neN C 194 (by omega) (by have := hS.1.2.1 i h98; omega) dX6_lays_187 (by decide) (fun h187 => ?_) (fun h187 => ?_)
                    · -- X6_lays 187t
                      have hsg : h + 0 = zSg S.1 h i := (if_neg h187).symm
                      refine g_iconst C (nI 0) dX6_lays_194 (by decide) ?_
                      refine g_iaddN C dX6_lays_195 ?_
                      refine g_istore6 C dX6_lays_196 ?_
                      refine g_set (L' := [some (.ref 56), some (.int (nI T)), some (.int (nI (zp8 T))), some (.int (nI P.length)), some (.int (nI i)), some (.int (nI (zBs P))), some (.int (nI (zSg S.1 h i))), x7, x8]) rfl (by rw [hsg]) rfl ?_
                      refine g_aload0 C dX6_lays_198 ?_
                      refine g_getRT C dX6_lays_199 flX6_38 (show 56 < 68 by decide) rfl rfl (by decide) ?_
                      refine g_iload3 C dX6_lays_202 ?_
                      refine g_iload6 C dX6_lays_203 ?_
                      refine g_iastN C (by omega) (by decide) dX6_lays_205 (show 66 < 68 by decide) rfl ?_
                      refine g_iload6 C dX6_lays_206 ?_
                      refine g_aload0 C dX6_lays_208 ?_
                      refine g_getRT C dX6_lays_209 flX6_19 (show 56 < 68 by decide) rfl rfl (by decide) ?_
                      refine g_iconst C (nI 0) dX6_lays_212 (by decide) ?_
                      refine g_ialdE C ((congrFun (up_K (by decide)) 0).trans ((congrFun (up_K (by decide)) 0).trans hR1.2.1.1)) (by omega) (by decide) dX6_lays_213 (show 60 < 68 by decide) rfl ?_
                      refine g_icmp_geN C 282 (by have := zSg_le S.1 h i; have := hS.2.1.1; omega) (by have := hS.2.1.1; omega) dX6_lays_214 (by decide) (fun h214 => ?_) (fun h214 => ?_)
                      · -- X6_lays 214t
                        have hH99 := hS.2.1.1
                        have hs2 : zSg S.1 h i < 2 ^ 31 := by have := zSg_le S.1 h i; omega
                        refine g_iload6 C dX6_lays_282 ?_
                        refine g_aload0 C dX6_lays_284 ?_
                        refine g_getRT C dX6_lays_285 flX6_19 (show 56 < 68 by decide) rfl rfl (by decide) ?_
                        refine g_iconst C (nI 0) dX6_lays_288 (by decide) ?_
                        refine g_ialdE C ((congrFun (up_K (by decide)) 0).trans ((congrFun (up_K (by decide)) 0).trans hR1.2.1.1)) (by omega) (by decide) dX6_lays_289 (show 60 < 68 by decide) rfl ?_
                        refine g_icmp_geN C 303 (by omega) (by omega) dX6_lays_290 (by decide) (fun h290 => ?_) (fun h290 => absurd h290 (by omega))
                        refine g_goto C 36 dX6_lays_303 (by decide) ?_
                        exact hno (z_up (z_up c1 65 P.length (nI i)) 66 P.length (nI (zSg S.1 h i))) _ _ _ _ _ h98 (by unfold zOk; rw [decide_eq_false (show ¬ zSg S.1 h i < mH S.2.1 by omega)]; simp) (hf2.tr (FrL.u66 (Nat.le_refl _))) ((up_k (by decide) _).trans (up_s _ _ _ _)) ((up_k (by decide) _).trans (up_k (by decide) _)) ((up_K (by decide)).trans (up_K (by decide)))
                      · -- X6_lays 214f
                        have hok : zOk S.1 (zInkS S.2.1) T (mH S.2.1) P.length (zBs P) h i = true := by unfold zOk; rw [zan_bit _ _ (show i < 32 by omega), h114, hmi, decide_eq_true (show zInkS S.2.1 i = zInk S.1 P.length from h149), hda, decide_eq_true h214]; rfl
                        have hH99 := hS.2.1.1
                        refine g_iload3 C dX6_lays_217 ?_
                        refine g_iconst C (nI 1) dX6_lays_218 (by decide) ?_
                        refine g_iaddN C dX6_lays_219 ?_
                        refine g_iload2 C dX6_lays_220 ?_
                        refine g_icmp_neN C 282 (by omega) (by omega) dX6_lays_221 (by decide) (fun h221 => ?_) (fun h221 => ?_)
                        · -- X6_lays 221t
                          refine g_iload6 C dX6_lays_282 ?_
                          refine g_aload0 C dX6_lays_284 ?_
                          refine g_getRT C dX6_lays_285 flX6_19 (show 56 < 68 by decide) rfl rfl (by decide) ?_
                          refine g_iconst C (nI 0) dX6_lays_288 (by decide) ?_
                          refine g_ialdE C ((congrFun (up_K (by decide)) 0).trans ((congrFun (up_K (by decide)) 0).trans hR1.2.1.1)) (by omega) (by decide) dX6_lays_289 (show 60 < 68 by decide) rfl ?_
                          refine g_icmp_geN C 303 (by omega) (by omega) dX6_lays_290 (by decide) (fun h290 => absurd h290 (by omega)) (fun h290 => ?_)
                          refine g_iinc3N C dX6_lays_293 ?_
                          refine g_aload0 C dX6_lays_296 ?_
                          refine g_getRT C dX6_lays_297 flX6_35 (show 56 < 68 by decide) rfl rfl (by decide) ?_
                          refine g_iload3 C dX6_lays_300 ?_
                          refine g_iconst C (-1) dX6_lays_301 (by decide) ?_
                          refine g_iastN C (by omega) (by decide) dX6_lays_302 (show 65 < 68 by decide) rfl ?_
                          refine g_goto C 36 dX6_lays_303 (by decide) ?_
                          have hl1 : (P ++ [i]).length = P.length + 1 := by rw [List.length_append, List.length_singleton]
                          have hms : zSb (zBs (P ++ [i])) T := by rw [zBs_snoc]; exact hsb.or h114
                          have hmp : zp8 (zBs (P ++ [i])) = (P ++ [i]).length := by rw [zBs_snoc, zpc_snoc (by omega) hmi, hpc, hl1]
                          have hne : zBs P ||| (1 <<< i) ≠ T := fun e => by rw [zBs_snoc, e, hl1] at hmp; omega
                          have hsx : zOs S.1 (zInkS S.2.1) T (mH S.2.1) (6 - P.length) P.length (zBs P) h (i + 1) = zOs S.1 (zInkS S.2.1) T (mH S.2.1) (6 - P.length) P.length (zBs P) h i ++ (zOs S.1 (zInkS S.2.1) T (mH S.2.1) (6 - (P ++ [i]).length) (P ++ [i]).length (zBs (P ++ [i])) (zSg S.1 h i + 1) 7).map (i :: ·) := by
                            rw [zOs_s, if_pos hok, hl1, zBs_snoc, show 6 - P.length = (6 - (P.length + 1)) + 1 by omega, zOx_s _ _ _ _ _ _ _ _ hne]
                          have hmm : ∀ O1 : List (List Nat), (O1.map (i :: ·)).map (P ++ ·) = O1.map ((P ++ [i]) ++ ·) := fun O1 => by rw [List.map_map]; exact List.map_congr_left fun l _ => by show P ++ (i :: l) = (P ++ [i]) ++ l; rw [List.append_assoc]; rfl
                          have hf3 : FrL P.length c1 (z_up (z_up (z_up c1 65 P.length (nI i)) 66 P.length (nI (zSg S.1 h i))) 65 (P.length + 1) (-1)) := (hf2.tr (FrL.u66 (Nat.le_refl _))).tr (FrL.u65 (by omega))
                          have hL3 : LvC (z_up (z_up (z_up c1 65 P.length (nI i)) 66 P.length (nI (zSg S.1 h i))) 65 (P.length + 1) (-1)) (P ++ [i]) (zSg S.1 h i + 1) := (hL.fr hf3).snoc (by rw [up_j _ (by omega), up_k (by decide), up_s]) (by rw [up_k (by decide), up_s])
                          have hlen := zOs_mono S.1 (zInkS S.2.1) T (mH S.2.1) (6 - P.length) P.length (zBs P) h (i + 1) (7 - (i + 1))
                          rw [show i + 1 + (7 - (i + 1)) = 7 by omega, hsx, List.length_append, List.length_map] at hlen
                          refine g_set (L' := [some (.ref 56), some (.int (nI T)), some (.int (nI (zp8 T))), some (.int (nI (P ++ [i]).length)), _, _, _, _, _]) rfl (by rw [hl1]) rfl ?_
                          refine ihr (P ++ [i]) (zSg S.1 h i + 1) (cN S.1 + 1) 0 (O0 ++ (zOs S.1 (zInkS S.2.1) T (mH S.2.1) (6 - P.length) P.length (zBs P) h i).map (P ++ ·)) _ _ _ _ _ _ (by omega) (by rw [hl1]; omega) hms hmp (fun k hk => ?_) (hR1.frl hf3) hL3 (by rw [hl1]; exact (up_s _ _ _ _).trans (by decide)) (Nat.zero_le _) (by rw [zOs_0, List.map_nil, List.append_nil]; exact hrw.fr (by rw [up_k (by decide), up_k (by decide), up_k (by decide)]) (by rw [up_K (by decide), up_K (by decide), up_K (by decide)])) (by rw [List.length_append, List.length_map]; omega) (by omega) (fun c4 y4 y5 y6 y7 y8 hf4 hrw4 => ?_)
                          · by_cases e : k < P.length
                            · rw [zGd_l e]; exact hP7 k e
                            · rw [show k = P.length by omega, zGd_r]; omega
                          · refine g_set (L' := [some (.ref 56), some (.int (nI T)), some (.int (nI (zp8 T))), some (.int (nI P.length)), y4, y5, y6, y7, y8]) rfl (by rw [hl1, zdn _ (by omega)]) rfl ?_
                            have hf5 : FrL P.length c1 c4 := hf3.tr (hf4.le (by omega))
                            exact ih (i + 1) O0 c4 _ _ _ _ _ (by omega) hd hsb hpc hP7 (hR1.frl hf5) (hL.fr hf5) (by rw [(hf4.2.2 P.length (by omega)).1, up_j _ (by omega), up_k (by decide), up_s, zdn i (by omega)]) (by omega) (by rw [hsx, List.map_append, hmm, ← List.append_assoc]; exact hrw4) hb hh9 (fun c6 z4 z5 z6 z7 z8 h1 h2 => hexit c6 z4 z5 z6 z7 z8 (hf5.tr h1) h2)
                        · -- X6_lays 221f
                          exact absurd hd (by omega)
                    · -- X6_lays 187f
                      have hsg : h + 1 = zSg S.1 h i := (if_pos h187).symm
                      refine g_iconst C (nI 1) dX6_lays_190 (by decide) ?_
                      refine g_goto C 195 dX6_lays_191 (by decide) ?_
                      refine g_iaddN C dX6_lays_195 ?_
                      refine g_istore6 C dX6_lays_196 ?_
                      refine g_set (L' := [some (.ref 56), some (.int (nI T)), some (.int (nI (zp8 T))), some (.int (nI P.length)), some (.int (nI i)), some (.int (nI (zBs P))), some (.int (nI (zSg S.1 h i))), x7, x8]) rfl (by rw [hsg]) rfl ?_
                      refine g_aload0 C dX6_lays_198 ?_
                      refine g_getRT C dX6_lays_199 flX6_38 (show 56 < 68 by decide) rfl rfl (by decide) ?_
                      refine g_iload3 C dX6_lays_202 ?_
                      refine g_iload6 C dX6_lays_203 ?_
                      refine g_iastN C (by omega) (by decide) dX6_lays_205 (show 66 < 68 by decide) rfl ?_
                      refine g_iload6 C dX6_lays_206 ?_
                      refine g_aload0 C dX6_lays_208 ?_
                      refine g_getRT C dX6_lays_209 flX6_19 (show 56 < 68 by decide) rfl rfl (by decide) ?_
                      refine g_iconst C (nI 0) dX6_lays_212 (by decide) ?_
                      refine g_ialdE C ((congrFun (up_K (by decide)) 0).trans ((congrFun (up_K (by decide)) 0).trans hR1.2.1.1)) (by omega) (by decide) dX6_lays_213 (show 60 < 68 by decide) rfl ?_
                      refine g_icmp_geN C 282 (by have := zSg_le S.1 h i; have := hS.2.1.1; omega) (by have := hS.2.1.1; omega) dX6_lays_214 (by decide) (fun h214 => ?_) (fun h214 => ?_)
                      · -- X6_lays 214t
                        have hH99 := hS.2.1.1
                        have hs2 : zSg S.1 h i < 2 ^ 31 := by have := zSg_le S.1 h i; omega
                        refine g_iload6 C dX6_lays_282 ?_
                        refine g_aload0 C dX6_lays_284 ?_
                        refine g_getRT C dX6_lays_285 flX6_19 (show 56 < 68 by decide) rfl rfl (by decide) ?_
                        refine g_iconst C (nI 0) dX6_lays_288 (by decide) ?_
                        refine g_ialdE C ((congrFun (up_K (by decide)) 0).trans ((congrFun (up_K (by decide)) 0).trans hR1.2.1.1)) (by omega) (by decide) dX6_lays_289 (show 60 < 68 by decide) rfl ?_
                        refine g_icmp_geN C 303 (by omega) (by omega) dX6_lays_290 (by decide) (fun h290 => ?_) (fun h290 => absurd h290 (by omega))
                        refine g_goto C 36 dX6_lays_303 (by decide) ?_
                        exact hno (z_up (z_up c1 65 P.length (nI i)) 66 P.length (nI (zSg S.1 h i))) _ _ _ _ _ h98 (by unfold zOk; rw [decide_eq_false (show ¬ zSg S.1 h i < mH S.2.1 by omega)]; simp) (hf2.tr (FrL.u66 (Nat.le_refl _))) ((up_k (by decide) _).trans (up_s _ _ _ _)) ((up_k (by decide) _).trans (up_k (by decide) _)) ((up_K (by decide)).trans (up_K (by decide)))
                      · -- X6_lays 214f
                        have hok : zOk S.1 (zInkS S.2.1) T (mH S.2.1) P.length (zBs P) h i = true := by unfold zOk; rw [zan_bit _ _ (show i < 32 by omega), h114, hmi, decide_eq_true (show zInkS S.2.1 i = zInk S.1 P.length from h149), hda, decide_eq_true h214]; rfl
                        have hH99 := hS.2.1.1
                        refine g_iload3 C dX6_lays_217 ?_
                        refine g_iconst C (nI 1) dX6_lays_218 (by decide) ?_
                        refine g_iaddN C dX6_lays_219 ?_
                        refine g_iload2 C dX6_lays_220 ?_
                        refine g_icmp_neN C 282 (by omega) (by omega) dX6_lays_221 (by decide) (fun h221 => ?_) (fun h221 => ?_)
                        · -- X6_lays 221t
                          refine g_iload6 C dX6_lays_282 ?_
                          refine g_aload0 C dX6_lays_284 ?_
                          refine g_getRT C dX6_lays_285 flX6_19 (show 56 < 68 by decide) rfl rfl (by decide) ?_
                          refine g_iconst C (nI 0) dX6_lays_288 (by decide) ?_
                          refine g_ialdE C ((congrFun (up_K (by decide)) 0).trans ((congrFun (up_K (by decide)) 0).trans hR1.2.1.1)) (by omega) (by decide) dX6_lays_289 (show 60 < 68 by decide) rfl ?_
                          refine g_icmp_geN C 303 (by omega) (by omega) dX6_lays_290 (by decide) (fun h290 => absurd h290 (by omega)) (fun h290 => ?_)
                          refine g_iinc3N C dX6_lays_293 ?_
                          refine g_aload0 C dX6_lays_296 ?_
                          refine g_getRT C dX6_lays_297 flX6_35 (show 56 < 68 by decide) rfl rfl (by decide) ?_
                          refine g_iload3 C dX6_lays_300 ?_
                          refine g_iconst C (-1) dX6_lays_301 (by decide) ?_
                          refine g_iastN C (by omega) (by decide) dX6_lays_302 (show 65 < 68 by decide) rfl ?_
                          refine g_goto C 36 dX6_lays_303 (by decide) ?_
                          have hl1 : (P ++ [i]).length = P.length + 1 := by rw [List.length_append, List.length_singleton]
                          have hms : zSb (zBs (P ++ [i])) T := by rw [zBs_snoc]; exact hsb.or h114
                          have hmp : zp8 (zBs (P ++ [i])) = (P ++ [i]).length := by rw [zBs_snoc, zpc_snoc (by omega) hmi, hpc, hl1]
                          have hne : zBs P ||| (1 <<< i) ≠ T := fun e => by rw [zBs_snoc, e, hl1] at hmp; omega
                          have hsx : zOs S.1 (zInkS S.2.1) T (mH S.2.1) (6 - P.length) P.length (zBs P) h (i + 1) = zOs S.1 (zInkS S.2.1) T (mH S.2.1) (6 - P.length) P.length (zBs P) h i ++ (zOs S.1 (zInkS S.2.1) T (mH S.2.1) (6 - (P ++ [i]).length) (P ++ [i]).length (zBs (P ++ [i])) (zSg S.1 h i + 1) 7).map (i :: ·) := by
                            rw [zOs_s, if_pos hok, hl1, zBs_snoc, show 6 - P.length = (6 - (P.length + 1)) + 1 by omega, zOx_s _ _ _ _ _ _ _ _ hne]
                          have hmm : ∀ O1 : List (List Nat), (O1.map (i :: ·)).map (P ++ ·) = O1.map ((P ++ [i]) ++ ·) := fun O1 => by rw [List.map_map]; exact List.map_congr_left fun l _ => by show P ++ (i :: l) = (P ++ [i]) ++ l; rw [List.append_assoc]; rfl
                          have hf3 : FrL P.length c1 (z_up (z_up (z_up c1 65 P.length (nI i)) 66 P.length (nI (zSg S.1 h i))) 65 (P.length + 1) (-1)) := (hf2.tr (FrL.u66 (Nat.le_refl _))).tr (FrL.u65 (by omega))
                          have hL3 : LvC (z_up (z_up (z_up c1 65 P.length (nI i)) 66 P.length (nI (zSg S.1 h i))) 65 (P.length + 1) (-1)) (P ++ [i]) (zSg S.1 h i + 1) := (hL.fr hf3).snoc (by rw [up_j _ (by omega), up_k (by decide), up_s]) (by rw [up_k (by decide), up_s])
                          have hlen := zOs_mono S.1 (zInkS S.2.1) T (mH S.2.1) (6 - P.length) P.length (zBs P) h (i + 1) (7 - (i + 1))
                          rw [show i + 1 + (7 - (i + 1)) = 7 by omega, hsx, List.length_append, List.length_map] at hlen
                          refine g_set (L' := [some (.ref 56), some (.int (nI T)), some (.int (nI (zp8 T))), some (.int (nI (P ++ [i]).length)), _, _, _, _, _]) rfl (by rw [hl1]) rfl ?_
                          refine ihr (P ++ [i]) (zSg S.1 h i + 1) (cN S.1 + 1) 0 (O0 ++ (zOs S.1 (zInkS S.2.1) T (mH S.2.1) (6 - P.length) P.length (zBs P) h i).map (P ++ ·)) _ _ _ _ _ _ (by omega) (by rw [hl1]; omega) hms hmp (fun k hk => ?_) (hR1.frl hf3) hL3 (by rw [hl1]; exact (up_s _ _ _ _).trans (by decide)) (Nat.zero_le _) (by rw [zOs_0, List.map_nil, List.append_nil]; exact hrw.fr (by rw [up_k (by decide), up_k (by decide), up_k (by decide)]) (by rw [up_K (by decide), up_K (by decide), up_K (by decide)])) (by rw [List.length_append, List.length_map]; omega) (by omega) (fun c4 y4 y5 y6 y7 y8 hf4 hrw4 => ?_)
                          · by_cases e : k < P.length
                            · rw [zGd_l e]; exact hP7 k e
                            · rw [show k = P.length by omega, zGd_r]; omega
                          · refine g_set (L' := [some (.ref 56), some (.int (nI T)), some (.int (nI (zp8 T))), some (.int (nI P.length)), y4, y5, y6, y7, y8]) rfl (by rw [hl1, zdn _ (by omega)]) rfl ?_
                            have hf5 : FrL P.length c1 c4 := hf3.tr (hf4.le (by omega))
                            exact ih (i + 1) O0 c4 _ _ _ _ _ (by omega) hd hsb hpc hP7 (hR1.frl hf5) (hL.fr hf5) (by rw [(hf4.2.2 P.length (by omega)).1, up_j _ (by omega), up_k (by decide), up_s, zdn i (by omega)]) (by omega) (by rw [hsx, List.map_append, hmm, ← List.append_assoc]; exact hrw4) hb hh9 (fun c6 z4 z5 z6 z7 z8 h1 h2 => hexit c6 z4 z5 z6 z7 z8 (hf5.tr h1) h2)
                        · -- X6_lays 221f
                          exact absurd hd (by omega)
          · -- X6_lays 98f
            
            refine g_iinc3 C dX6_lays_101 ?_
            
            refine g_goto C 303 dX6_lays_104 (by decide) ?_
            refine g_goto C 36 dX6_lays_303 (by decide) ?_
            refine hexit _ _ _ _ _ _ hf2 ?_
            have htp := zOs_top (A := S.1) (ik := zInkS S.2.1) (H := mH S.2.1) (f := 6 - P.length) (d := P.length) (m := zBs P) (h := h) (i := i) (fun s hs => hTn s (by omega)) (7 - i)
            rw [show i + (7 - i) = 7 by omega] at htp
            rw [htp]
            exact hrw.fr (up_k (by decide) _) (up_K (by decide))
        refine g_iload3 C dX6_lays_36 ?_
        refine g_if_ltN C 306 (by omega) dX6_lays_37 (by decide) (fun h => h.elim) (fun _ => ?_)
        refine g_aload0 C dX6_lays_40 ?_
        refine g_getRT C dX6_lays_41 flX6_35 (show 56 < 68 by decide) rfl rfl (by decide) ?_
        refine g_iload3 C dX6_lays_44 ?_
        refine g_dup2 C dX6_lays_45 rfl rfl ?_
        refine g_ialdE C htry (by omega) (by decide) dX6_lays_46 (show 65 < 68 by decide) rfl ?_
        refine g_iconst C (nI 1) dX6_lays_47 (by decide) ?_
        refine g_iadd C dX6_lays_48 ?_
        refine g_top (zup i (by omega)) ?_
        refine g_iastN C (by omega) (by decide) dX6_lays_49 (show 65 < 68 by decide) rfl ?_
        refine g_aload0 C dX6_lays_50 ?_
        refine g_getRT C dX6_lays_51 flX6_35 (show 56 < 68 by decide) rfl rfl (by decide) ?_
        refine g_iload3 C dX6_lays_54 ?_
        refine g_ialdE C (up_s _ _ _ _) (by omega) (by decide) dX6_lays_55 (show 65 < 68 by decide) rfl ?_
        refine g_istore4 C dX6_lays_56 ?_
        refine g_iconst C (nI 0) dX6_lays_58 (by decide) ?_
        refine g_istore5 C dX6_lays_59 ?_
        refine g_iconst C (nI 0) dX6_lays_61 (by decide) ?_
        refine g_istore6 C dX6_lays_62 ?_
        exact H64a h90
  have hR0 : RepM (z_up c 56 15 (nI 0)) t S := hR.frl (d := 0) FrL.u15
  refine g_iload1 C dX6_lays_0 ?_
  refine g_callS1i C dX6_lays_1 slX6_95 (n_ones (by omega)) hKd (by first | decide | omega) rfl (Nat.le_of_ble_eq_true rfl) ?_
  rintro _ _ ⟨rfl, rfl⟩
  refine g_istore2 C dX6_lays_4 ?_
  refine g_aload0 C dX6_lays_5 ?_
  refine g_iconst C (nI 0) dX6_lays_6 (by decide) ?_
  refine g_putI C dX6_lays_7 fpX6_124 (show 56 < 68 by decide) rfl rfl rfl rfl ?_
  refine g_iload2 C dX6_lays_10 ?_
  refine g_if_neN C 27 (by omega) dX6_lays_11 (by decide) (fun h11 => ?_) (fun h11 => ?_)
  · -- X6_lays 11t
    
    refine g_iconst C (nI 0) dX6_lays_27 (by decide) ?_
    refine g_istore3 C dX6_lays_28 ?_
    refine g_aload0 C dX6_lays_29 ?_
    refine g_getRT C dX6_lays_30 flX6_35 (show 56 < 68 by decide) rfl rfl (by decide) ?_
    refine g_iconst C (nI 0) dX6_lays_33 (by decide) ?_
    refine g_iconst C (-1) dX6_lays_34 (by decide) ?_
    refine g_iastN C (by omega) (by decide) dX6_lays_35 (show 65 < 68 by decide) rfl ?_
    have hTz : (0 : Nat) ≠ T := fun e => by rw [← e] at h11; exact absurd h11 (by decide)
    have hz := zOx_s S.1 (zInkS S.2.1) T (mH S.2.1) 6 0 0 0 hTz
    have hlen := zOrd_len S.1 S.2.1 hT
    unfold zOrd at hlen
    rw [hz] at hlen
    refine HL (zp8 T - 1) [] 0 (cN S.1 + 1) 0 [] _ _ _ _ _ _ (by omega) (by show 0 + _ = _; omega) (fun q hq => by rw [show zBs [] = 0 from rfl, Nat.zero_testBit] at hq; cases hq) rfl (fun k hk => absurd hk (Nat.not_lt_zero k)) (hR0.frl (d := 0) (FrL.u65 (Nat.zero_le _))) ⟨fun k hk => absurd hk (Nat.not_lt_zero k), Or.inl ⟨rfl, rfl⟩⟩ (up_s _ _ _ _) (Nat.zero_le _) (by rw [zOs_0]; exact ⟨(up_k (by decide) _).trans (up_s _ _ _ _), fun i l hl => by cases hl⟩) (by show 0 + _ ≤ _; rw [Nat.zero_add]; exact hlen) (Nat.zero_le _) (fun c2 y4 y5 y6 y7 y8 hf hrw => ?_)
    have hrw : RwC c2 (zOrd S.1 S.2.1 T) := by
      unfold zOrd
      rw [hz]
      have e : ([] : List (List Nat)) ++ (zOs S.1 (zInkS S.2.1) T (mH S.2.1) 6 0 0 0 7).map ([] ++ ·) = zOs S.1 (zInkS S.2.1) T (mH S.2.1) 6 0 0 0 7 := by rw [List.nil_append]; exact List.map_id _
      rw [← e]
      exact hrw
    refine g_iload3 C dX6_lays_36 ?_
    refine g_if_lt C 306 dX6_lays_37 (by decide) (fun h37 => ?_) (fun h37 => absurd h37 (by exact fun h => h zdn_0))
    exact g_retv M dX6_lays_306 (⟨c2, rfl, hrw, (FrL.u15.tr (FrL.u65 (Nat.zero_le _))).tr hf⟩)
  · -- X6_lays 11f
    have hT0 : T = 0 := (zfull (a := 0) (fun q hq => by rw [Nat.zero_testBit] at hq; cases hq) hT (h11.symm ▸ rfl)).symm
    refine g_aload0 C dX6_lays_14 ?_
    refine g_getRT C dX6_lays_15 flX6_32 (show 56 < 68 by decide) rfl rfl (by decide) ?_
    refine g_iconst C (nI 0) dX6_lays_18 (by decide) ?_
    refine g_iconst C (nI 0) dX6_lays_19 (by decide) ?_
    refine g_iastN C (by omega) (by decide) dX6_lays_20 (show 64 < 68 by decide) rfl ?_
    refine g_aload0 C dX6_lays_21 ?_
    refine g_iconst C (nI 1) dX6_lays_22 (by decide) ?_
    refine g_putI C dX6_lays_23 fpX6_124 (show 56 < 68 by decide) rfl rfl rfl rfl ?_
    exact g_retv M dX6_lays_26 (⟨_, rfl, by rw [hT0, zOrd]; rw [zOx_T]; exact ⟨up_s _ _ _ _, fun i l hl => by match i, hl with | 0, hl => cases hl; exact (up_k (by decide) _).trans (up_s _ _ _ _) | i + 1, hl => cases hl⟩, (FrL.u15.tr FrL.u64).tr FrL.u15⟩)
