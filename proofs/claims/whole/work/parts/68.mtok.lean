/-! the reference: letters and tokens -/
set_option maxRecDepth 100000 in
set_option maxHeartbeats 4000000 in
theorem n_isDigit {Γ : zG} {w0 : zW} {x : Int32} : Sp Γ 1 mX6_isDigit [.int x] 0 0 (w0) (z_pi (fun v w => w = w0 ∧ v = nI (zIn x (nI 48) (nI 57)).toNat)) := by
  refine Sp.of (own := RX6) 0 false rfl (by decide +kernel) rfl rfl (fun h => by cases h) (fun K hKd M => ?_)
  have C := M.1
  show GG Γ K 0 0 (w0) 0 [some (.int x)] []
  refine g_iload0 C dX6_isDigit_0 ?_
  refine g_bipush C (nI 48) dX6_isDigit_1 (by decide) ?_
  refine g_bipush C (nI 57) dX6_isDigit_3 (by decide) ?_
  refine g_callS3i C dX6_isDigit_5 slX6_52 (n_in) hKd (by first | decide | omega) rfl (Nat.le_of_ble_eq_true rfl) ?_
  rintro _ _ ⟨rfl, rfl⟩
  exact g_retb M dX6_isDigit_8 (⟨rfl, rfl⟩)
set_option maxRecDepth 100000 in
set_option maxHeartbeats 4000000 in
theorem n_letterAt {Γ : zG} {c : Nat → Nat → Int32} {t : Nat → Int64} {len : Nat} {f : Nat → Nat} (hX : TmC c len f) {k : Nat} (hk : k ≤ len) : Sp Γ 0 mX6_letterAt [.ref 56, .int (nI k)] 0 0 (wF c t) (z_pi (fun v w => w = wF c t ∧ v = zLa f len k)) := by
  refine Sp.of (own := RX6) 0 false rfl (by decide +kernel) rfl rfl (fun h => by cases h) (fun K hKd M => ?_)
  have C := M.1
  show GG Γ K 0 0 (wF c t) 0 [some (.ref 56), some (.int (nI k))] []
  refine g_iload1 C dX6_letterAt_0 ?_
  refine g_aload0 C dX6_letterAt_1 ?_
  refine g_getIE C hX.1 dX6_letterAt_2 flX6_56 (show 56 < 68 by decide) rfl rfl ?_
  refine g_icmp_geN C 17 (by have := hX.2.1; omega) (by have := hX.2.1; omega) dX6_letterAt_5 (by decide) (fun h5 => ?_) (fun h5 => ?_)
  · -- X6_letterAt 5t
    have hz := zLa_f (f := f) (len := len) (k := k) (by omega)
    refine g_iconst C (-1) dX6_letterAt_17 (by decide) ?_
    exact g_reti M dX6_letterAt_18 (⟨rfl, hz.symm⟩)
  · -- X6_letterAt 5f
    have hz := zLa_t (f := f) h5
    refine g_aload0 C dX6_letterAt_8 ?_
    refine g_getRT C dX6_letterAt_9 flX6_7 (show 56 < 68 by decide) rfl rfl (by decide) ?_
    refine g_iload1 C dX6_letterAt_12 ?_
    refine g_ialdE C (hX.2.2.1 k h5) (by have := hX.2.1; omega) (by decide) dX6_letterAt_13 (show 57 < 68 by decide) rfl ?_
    refine g_goto C 18 dX6_letterAt_14 (by decide) ?_
    exact g_reti M dX6_letterAt_18 (⟨rfl, hz.symm⟩)
set_option maxRecDepth 100000 in
set_option maxHeartbeats 4000000 in
theorem n_token {Γ : zG} {c : Nat → Nat → Int32} {t : Nat → Int64} {len : Nat} {f : Nat → Nat} (hX : TmC c len f) {p : Nat} (hp : p ≤ len) (h10 : c 56 10 = nI p) : Sp Γ 2 mX6_token [.ref 56] 0 0 (wF c t) (z_pv (fun w => ∃ c', w = wF c' t ∧ FrT c c' ∧ c' 56 10 = nI (zTok f len p).2.1 ∧ c' 56 12 = nI (zTok f len p).1 ∧ zTC (zTok f len p).2.2 (c' 56 11) (c' 56 13))) := by
  refine Sp.of (own := RX6) 1 false rfl (by decide +kernel) rfl rfl (fun h => by cases h) (fun K hKd M => ?_)
  have C := M.1
  show GG Γ K 0 0 (wF c t) 0 [some (.ref 56), none] []
  have hl := hX.2.1
  have hsk := zSkp_le f len (len - p) p hp
  have hq1 : p ≤ zSt f len p := hsk.1
  have hq2 : zSt f len p ≤ len := hsk.2
  have hF1 : FrT c (z_up (z_up c 56 10 (nI (zSt f len p))) 56 12 (nI (zSt f len p))) := (FrT.up (by decide)).tr (FrT.up (by decide))
  have hX1 : TmC (z_up (z_up c 56 10 (nI (zSt f len p))) 56 12 (nI (zSt f len p))) len f := hX.fr hF1
  have H141 : (zSt f len p) < len → 48 ≤ f (zSt f len p) ∧ f (zSt f len p) ≤ 57 → ∀ (n k : Nat) (c' : Nat → Nat → Int32), (zSt f len p) + (k + 1) ≤ len → zEd f len ((zSt f len p) + (k + 1)) = zEd f len (zSt f len p) → FrT c c' → c' 56 10 = nI ((zSt f len p) + (k + 1)) → c' 56 11 = nI 2 → c' 56 12 = nI (zSt f len p) → c' 56 13 = nI (zMv f (zSt f len p) k) → zMv f (zSt f len p) k ≤ 1300 → (∀ i, i ≤ k → 48 ≤ f ((zSt f len p) + i) ∧ f ((zSt f len p) + i) ≤ 57) → len - k < n → GG Γ K 0 0 (wF c' t) 141 [some (.ref 56), some (.int (nI (f (zSt f len p))))] [] := by
    intro hlt hdg n
    induction n with
    | zero => intro k c' hk he hF h10 h11 h12 h13 hb hd hn; omega
    | succ n ih =>
      intro k c' hk he hF h10 h11 h12 h13 hb hd hn
      have hX' : TmC c' len f := hX.fr hF
      have hf255 := hX.2.2.2 _ hlt
      refine g_aload0 C dX6_token_141 ?_
      refine g_aload0 C dX6_token_142 ?_
      refine g_getIE C h10 dX6_token_143 flX6_60 (show 56 < 68 by decide) rfl rfl ?_
      refine g_callV1i C dX6_token_146 vlX6_63 (n_letterAt hX' hk) hKd (by first | decide | omega) rfl (Nat.le_of_ble_eq_true rfl) (show 56 < 68 by decide) rfl ?_
      rintro _ _ ⟨rfl, rfl⟩
      refine g_callS1i C dX6_token_149 slX6_70 (n_isDigit) hKd (by first | decide | omega) rfl (Nat.le_of_ble_eq_true rfl) ?_
      rintro _ _ ⟨rfl, rfl⟩
      refine g_if_eqB C 213 dX6_token_152 (by decide) (fun h152 => ?_) (fun h152 => ?_)
      · -- X6_token 152t
        have hstop : ¬ ((zSt f len p) + (k + 1) < len ∧ 48 ≤ f ((zSt f len p) + (k + 1)) ∧ f ((zSt f len p) + (k + 1)) ≤ 57) := fun e => by rw [zLa_t e.1, zdg _ (hX.2.2.2 _ e.1), decide_eq_true e.2] at h152; cases h152
        rw [zEd_stop hstop] at he
        have htk : zTok f len p = ((zSt f len p), zEd f len (zSt f len p), zNv f len (zSt f len p)) := by unfold zTok; rw [if_neg (by omega), if_pos hdg]
        exact g_retv M dX6_token_213 (⟨c', rfl, hF, by rw [htk]; exact h10.trans (congrArg nI he), by rw [htk]; exact h12, by rw [htk, h11, h13]; exact zTC_num hdg hlt he.symm⟩)
      · -- X6_token 152f
        have hlk : (zSt f len p) + (k + 1) < len := by
          refine Classical.byContradiction fun e => ?_
          rw [zLa_f e, zdg_n] at h152
          cases h152
        have hdk : 48 ≤ f ((zSt f len p) + (k + 1)) ∧ f ((zSt f len p) + (k + 1)) ≤ 57 := by
          rw [zLa_t hlk, zdg _ (hX.2.2.2 _ hlk)] at h152
          exact of_decide_eq_true h152
        refine g_aload0 C dX6_token_155 ?_
        refine g_iload1 C dX6_token_156 ?_
        refine g_bipush C (nI 48) dX6_token_157 (by decide) ?_
        refine g_icmp_eqN C 171 (by omega) (by decide) dX6_token_159 (by decide) (fun h159 => ?_) (fun h159 => ?_)
        · -- X6_token 159t
          have hmv : 1000 = zMv f (zSt f len p) (k + 1) := (if_pos (Or.inl h159)).symm
          refine g_sipush C (nI 1000) dX6_token_171 (by decide) ?_
          refine g_goto C 197 dX6_token_174 (by decide) ?_
          refine g_putI C dX6_token_197 fpX6_77 (show 56 < 68 by decide) rfl rfl rfl rfl ?_
          refine g_aload0 C dX6_token_200 ?_
          refine g_dup C dX6_token_201 rfl ?_
          refine g_getIE C ((up_j _ (by decide)).trans h10) dX6_token_202 flX6_60 (show 56 < 68 by decide) rfl rfl ?_
          refine g_iconst C (nI 1) dX6_token_205 (by decide) ?_
          refine g_iaddN C dX6_token_206 ?_
          refine g_putI C dX6_token_207 fpX6_60 (show 56 < 68 by decide) rfl rfl rfl rfl ?_
          refine g_goto C 141 dX6_token_210 (by decide) ?_
          exact ih (k + 1) _ (by omega) (by rw [show (zSt f len p) + (k + 1 + 1) = (zSt f len p) + (k + 1) + 1 by omega, zEd_step hlk hdk]; exact he) (hF.tr ((FrT.up (by decide)).tr (FrT.up (by decide)))) (up_s _ _ _ _) (by rw [up_j _ (by decide), up_j _ (by decide)]; exact h11) (by rw [up_j _ (by decide), up_j _ (by decide)]; exact h12) (by rw [up_j _ (by decide), up_s]; exact congrArg nI hmv) (by have := (zMv_cv hdg (k + 1) (fun i hi => by by_cases e : i = k + 1; (subst e; exact hdk); exact hd i (by omega))).1; exact this) (fun i hi => by by_cases e : i = k + 1; (subst e; exact hdk); exact hd i (by omega)) (by omega)
        · -- X6_token 159f
          
          refine g_aload0 C dX6_token_162 ?_
          refine g_getIE C h13 dX6_token_163 flX6_77 (show 56 < 68 by decide) rfl rfl ?_
          refine g_bipush C (nI 127) dX6_token_166 (by decide) ?_
          refine g_icmp_leN C 177 (by omega) (by decide) dX6_token_168 (by decide) (fun h168 => ?_) (fun h168 => ?_)
          · -- X6_token 168t
            have hmv : 10 * zMv f (zSt f len p) k + f ((zSt f len p) + (k + 1)) - 48 = zMv f (zSt f len p) (k + 1) := (if_neg (by omega)).symm
            refine g_bipush C (nI 10) dX6_token_177 (by decide) ?_
            refine g_aload0 C dX6_token_179 ?_
            refine g_getIE C h13 dX6_token_180 flX6_77 (show 56 < 68 by decide) rfl rfl ?_
            refine g_imulN C dX6_token_183 ?_
            refine g_aload0 C dX6_token_184 ?_
            refine g_getRT C dX6_token_185 flX6_7 (show 56 < 68 by decide) rfl rfl (by decide) ?_
            refine g_aload0 C dX6_token_188 ?_
            refine g_getIE C h10 dX6_token_189 flX6_60 (show 56 < 68 by decide) rfl rfl ?_
            refine g_ialdE C (hX'.2.2.1 _ hlk) (by omega) (by decide) dX6_token_192 (show 57 < 68 by decide) rfl ?_
            refine g_iaddN C dX6_token_193 ?_
            refine g_bipush C (nI 48) dX6_token_194 (by decide) ?_
            refine g_isubN C dX6_token_196 (by omega) ?_
            refine g_putI C dX6_token_197 fpX6_77 (show 56 < 68 by decide) rfl rfl rfl rfl ?_
            refine g_aload0 C dX6_token_200 ?_
            refine g_dup C dX6_token_201 rfl ?_
            refine g_getIE C ((up_j _ (by decide)).trans h10) dX6_token_202 flX6_60 (show 56 < 68 by decide) rfl rfl ?_
            refine g_iconst C (nI 1) dX6_token_205 (by decide) ?_
            refine g_iaddN C dX6_token_206 ?_
            refine g_putI C dX6_token_207 fpX6_60 (show 56 < 68 by decide) rfl rfl rfl rfl ?_
            refine g_goto C 141 dX6_token_210 (by decide) ?_
            exact ih (k + 1) _ (by omega) (by rw [show (zSt f len p) + (k + 1 + 1) = (zSt f len p) + (k + 1) + 1 by omega, zEd_step hlk hdk]; exact he) (hF.tr ((FrT.up (by decide)).tr (FrT.up (by decide)))) (up_s _ _ _ _) (by rw [up_j _ (by decide), up_j _ (by decide)]; exact h11) (by rw [up_j _ (by decide), up_j _ (by decide)]; exact h12) (by rw [up_j _ (by decide), up_s]; exact congrArg nI hmv) (by have := (zMv_cv hdg (k + 1) (fun i hi => by by_cases e : i = k + 1; (subst e; exact hdk); exact hd i (by omega))).1; exact this) (fun i hi => by by_cases e : i = k + 1; (subst e; exact hdk); exact hd i (by omega)) (by omega)
          · -- X6_token 168f
            have hmv : 1000 = zMv f (zSt f len p) (k + 1) := (if_pos (Or.inr h168)).symm
            refine g_sipush C (nI 1000) dX6_token_171 (by decide) ?_
            refine g_goto C 197 dX6_token_174 (by decide) ?_
            refine g_putI C dX6_token_197 fpX6_77 (show 56 < 68 by decide) rfl rfl rfl rfl ?_
            refine g_aload0 C dX6_token_200 ?_
            refine g_dup C dX6_token_201 rfl ?_
            refine g_getIE C ((up_j _ (by decide)).trans h10) dX6_token_202 flX6_60 (show 56 < 68 by decide) rfl rfl ?_
            refine g_iconst C (nI 1) dX6_token_205 (by decide) ?_
            refine g_iaddN C dX6_token_206 ?_
            refine g_putI C dX6_token_207 fpX6_60 (show 56 < 68 by decide) rfl rfl rfl rfl ?_
            refine g_goto C 141 dX6_token_210 (by decide) ?_
            exact ih (k + 1) _ (by omega) (by rw [show (zSt f len p) + (k + 1 + 1) = (zSt f len p) + (k + 1) + 1 by omega, zEd_step hlk hdk]; exact he) (hF.tr ((FrT.up (by decide)).tr (FrT.up (by decide)))) (up_s _ _ _ _) (by rw [up_j _ (by decide), up_j _ (by decide)]; exact h11) (by rw [up_j _ (by decide), up_j _ (by decide)]; exact h12) (by rw [up_j _ (by decide), up_s]; exact congrArg nI hmv) (by have := (zMv_cv hdg (k + 1) (fun i hi => by by_cases e : i = k + 1; (subst e; exact hdk); exact hd i (by omega))).1; exact this) (fun i hi => by by_cases e : i = k + 1; (subst e; exact hdk); exact hd i (by omega)) (by omega)
  have h43 : ∀ x, x = zLa f len (zSt f len p) → GG Γ K 0 0 (wF (z_up (z_up c 56 10 (nI (zSt f len p))) 56 12 (nI (zSt f len p))) t) 43 [some (.ref 56), some (.int x)] [] := by
    intro x hx
    by_cases hlt : (zSt f len p) < len
    · rw [zLa_t hlt] at hx
      subst hx
      have hf255 := hX.2.2.2 _ hlt
      refine g_aload0 C dX6_token_43 ?_
      refine g_iload1 C dX6_token_44 ?_
      refine g_if_geN C 52 (by omega) dX6_token_45 (by decide) (fun _ => ?_) (fun h => h.elim)
      refine g_iload1 C dX6_token_52 ?_
      refine g_bipush C (nI 115) dX6_token_53 (by decide) ?_
      refine g_icmp_eqN C 70 (by omega) (by decide) dX6_token_55 (by decide) (fun h55 => ?_) (fun h55 => ?_)
      · -- X6_token 55t
        have htk : zTok f len p = ((zSt f len p), (zSt f len p) + 1, 128 + 115) := by unfold zTok; rw [if_neg (by omega), if_neg (by omega), if_pos (by unfold zLet; exact decide_eq_true (by omega)), h55]
        rw [h55]
        have hcode : zTC (128 + 115) (nI 1) (nI 115) := Or.inr (Or.inr (Or.inr (Or.inr (Or.inr ⟨115, by omega, rfl, rfl, rfl⟩))))
        refine g_iconst C (nI 1) dX6_token_70 (by decide) ?_
        refine g_goto C 96 dX6_token_71 (by decide) ?_
        refine g_putI C dX6_token_96 fpX6_74 (show 56 < 68 by decide) rfl rfl rfl rfl ?_
        refine g_aload0 C dX6_token_99 ?_
        refine g_iload1 C dX6_token_100 ?_
        refine g_putI C dX6_token_101 fpX6_77 (show 56 < 68 by decide) rfl rfl rfl rfl ?_
        refine g_aload0 C dX6_token_104 ?_
        refine g_dup C dX6_token_105 rfl ?_
        refine g_getIE C ((up_j _ (by decide)).trans ((up_j _ (by decide)).trans ((up_j _ (by decide)).trans (up_s _ _ _ _)))) dX6_token_106 flX6_60 (show 56 < 68 by decide) rfl rfl ?_
        refine g_aload0 C dX6_token_109 ?_
        refine g_getIE C ((up_j _ (by decide)).trans (up_s _ _ _ _)) dX6_token_110 flX6_74 (show 56 < 68 by decide) rfl rfl ?_
        refine g_if_neN C 120 (by decide) dX6_token_113 (by decide) (fun h113 => ?_) (fun h113 => absurd h113 (by decide))
        refine g_iconst C (nI 1) dX6_token_120 (by decide) ?_
        refine g_iaddN C dX6_token_121 ?_
        refine g_putI C dX6_token_122 fpX6_60 (show 56 < 68 by decide) rfl rfl rfl rfl ?_
        refine g_aload0 C dX6_token_125 ?_
        refine g_getIE C ((up_j _ (by decide)).trans ((up_j _ (by decide)).trans (up_s _ _ _ _))) dX6_token_126 flX6_74 (show 56 < 68 by decide) rfl rfl ?_
        refine g_iconst C (nI 2) dX6_token_129 (by decide) ?_
        refine g_icmp_neN C 213 (by decide) (by decide) dX6_token_130 (by decide) (fun h130 => ?_) (fun h130 => absurd h130 (by decide))
        exact g_retv M dX6_token_213 (⟨_, rfl, hF1.tr (((FrT.up (by decide)).tr (FrT.up (by decide))).tr (FrT.up (by decide))), by rw [htk]; exact up_s _ _ _ _, by rw [htk, up_j _ (by decide), up_j _ (by decide), up_j _ (by decide)]; exact up_s _ _ _ _, by rw [htk, up_j _ (by decide), up_j _ (by decide), up_s, up_j _ (by decide), up_s]; exact by first | exact hcode | exact hcode _⟩)
      · -- X6_token 55f
        
        refine g_iload1 C dX6_token_58 ?_
        refine g_bipush C (nI 100) dX6_token_59 (by decide) ?_
        refine g_icmp_eqN C 70 (by omega) (by decide) dX6_token_61 (by decide) (fun h61 => ?_) (fun h61 => ?_)
        · -- X6_token 61t
          have htk : zTok f len p = ((zSt f len p), (zSt f len p) + 1, 128 + 100) := by unfold zTok; rw [if_neg (by omega), if_neg (by omega), if_pos (by unfold zLet; exact decide_eq_true (by omega)), h61]
          rw [h61]
          have hcode : zTC (128 + 100) (nI 1) (nI 100) := Or.inr (Or.inr (Or.inr (Or.inr (Or.inr ⟨100, by omega, rfl, rfl, rfl⟩))))
          refine g_iconst C (nI 1) dX6_token_70 (by decide) ?_
          refine g_goto C 96 dX6_token_71 (by decide) ?_
          refine g_putI C dX6_token_96 fpX6_74 (show 56 < 68 by decide) rfl rfl rfl rfl ?_
          refine g_aload0 C dX6_token_99 ?_
          refine g_iload1 C dX6_token_100 ?_
          refine g_putI C dX6_token_101 fpX6_77 (show 56 < 68 by decide) rfl rfl rfl rfl ?_
          refine g_aload0 C dX6_token_104 ?_
          refine g_dup C dX6_token_105 rfl ?_
          refine g_getIE C ((up_j _ (by decide)).trans ((up_j _ (by decide)).trans ((up_j _ (by decide)).trans (up_s _ _ _ _)))) dX6_token_106 flX6_60 (show 56 < 68 by decide) rfl rfl ?_
          refine g_aload0 C dX6_token_109 ?_
          refine g_getIE C ((up_j _ (by decide)).trans (up_s _ _ _ _)) dX6_token_110 flX6_74 (show 56 < 68 by decide) rfl rfl ?_
          refine g_if_neN C 120 (by decide) dX6_token_113 (by decide) (fun h113 => ?_) (fun h113 => absurd h113 (by decide))
          refine g_iconst C (nI 1) dX6_token_120 (by decide) ?_
          refine g_iaddN C dX6_token_121 ?_
          refine g_putI C dX6_token_122 fpX6_60 (show 56 < 68 by decide) rfl rfl rfl rfl ?_
          refine g_aload0 C dX6_token_125 ?_
          refine g_getIE C ((up_j _ (by decide)).trans ((up_j _ (by decide)).trans (up_s _ _ _ _))) dX6_token_126 flX6_74 (show 56 < 68 by decide) rfl rfl ?_
          refine g_iconst C (nI 2) dX6_token_129 (by decide) ?_
          refine g_icmp_neN C 213 (by decide) (by decide) dX6_token_130 (by decide) (fun h130 => ?_) (fun h130 => absurd h130 (by decide))
          exact g_retv M dX6_token_213 (⟨_, rfl, hF1.tr (((FrT.up (by decide)).tr (FrT.up (by decide))).tr (FrT.up (by decide))), by rw [htk]; exact up_s _ _ _ _, by rw [htk, up_j _ (by decide), up_j _ (by decide), up_j _ (by decide)]; exact up_s _ _ _ _, by rw [htk, up_j _ (by decide), up_j _ (by decide), up_s, up_j _ (by decide), up_s]; exact by first | exact hcode | exact hcode _⟩)
        · -- X6_token 61f
          
          refine g_iload1 C dX6_token_64 ?_
          refine g_bipush C (nI 110) dX6_token_65 (by decide) ?_
          refine g_icmp_neN C 74 (by omega) (by decide) dX6_token_67 (by decide) (fun h67 => ?_) (fun h67 => ?_)
          · -- X6_token 67t
            
            refine g_iload1 C dX6_token_74 ?_
            refine g_callS1i C dX6_token_75 slX6_70 (n_isDigit) hKd (by first | decide | omega) rfl (Nat.le_of_ble_eq_true rfl) ?_
            rintro _ _ ⟨rfl, rfl⟩
            rw [zdg _ hf255]
            refine g_if_eqB C 85 dX6_token_78 (by decide) (fun h78 => ?_) (fun h78 => ?_)
            · -- X6_token 78t
              have hnd := of_decide_eq_false h78
              refine g_iload1 C dX6_token_85 ?_
              refine g_bipush C (nI 59) dX6_token_86 (by decide) ?_
              refine g_icmp_neN C 95 (by omega) (by decide) dX6_token_88 (by decide) (fun h88 => ?_) (fun h88 => ?_)
              · -- X6_token 88t
                have htk : zTok f len p = ((zSt f len p), (zSt f len p) + 1, 1001) := by unfold zTok; rw [if_neg (by omega), if_neg (by omega), if_neg (by unfold zLet; rw [decide_eq_false (by omega)]; decide)]
                have hcode : ∀ v, zTC 1001 (nI 4) v := fun v => Or.inr (Or.inr (Or.inr (Or.inl ⟨rfl, rfl⟩)))
                refine g_iconst C (nI 4) dX6_token_95 (by decide) ?_
                refine g_putI C dX6_token_96 fpX6_74 (show 56 < 68 by decide) rfl rfl rfl rfl ?_
                refine g_aload0 C dX6_token_99 ?_
                refine g_iload1 C dX6_token_100 ?_
                refine g_putI C dX6_token_101 fpX6_77 (show 56 < 68 by decide) rfl rfl rfl rfl ?_
                refine g_aload0 C dX6_token_104 ?_
                refine g_dup C dX6_token_105 rfl ?_
                refine g_getIE C ((up_j _ (by decide)).trans ((up_j _ (by decide)).trans ((up_j _ (by decide)).trans (up_s _ _ _ _)))) dX6_token_106 flX6_60 (show 56 < 68 by decide) rfl rfl ?_
                refine g_aload0 C dX6_token_109 ?_
                refine g_getIE C ((up_j _ (by decide)).trans (up_s _ _ _ _)) dX6_token_110 flX6_74 (show 56 < 68 by decide) rfl rfl ?_
                refine g_if_neN C 120 (by decide) dX6_token_113 (by decide) (fun h113 => ?_) (fun h113 => absurd h113 (by decide))
                refine g_iconst C (nI 1) dX6_token_120 (by decide) ?_
                refine g_iaddN C dX6_token_121 ?_
                refine g_putI C dX6_token_122 fpX6_60 (show 56 < 68 by decide) rfl rfl rfl rfl ?_
                refine g_aload0 C dX6_token_125 ?_
                refine g_getIE C ((up_j _ (by decide)).trans ((up_j _ (by decide)).trans (up_s _ _ _ _))) dX6_token_126 flX6_74 (show 56 < 68 by decide) rfl rfl ?_
                refine g_iconst C (nI 2) dX6_token_129 (by decide) ?_
                refine g_icmp_neN C 213 (by decide) (by decide) dX6_token_130 (by decide) (fun h130 => ?_) (fun h130 => absurd h130 (by decide))
                exact g_retv M dX6_token_213 (⟨_, rfl, hF1.tr (((FrT.up (by decide)).tr (FrT.up (by decide))).tr (FrT.up (by decide))), by rw [htk]; exact up_s _ _ _ _, by rw [htk, up_j _ (by decide), up_j _ (by decide), up_j _ (by decide)]; exact up_s _ _ _ _, by rw [htk, up_j _ (by decide), up_j _ (by decide), up_s, up_j _ (by decide), up_s]; exact by first | exact hcode | exact hcode _⟩)
              · -- X6_token 88f
                have htk : zTok f len p = ((zSt f len p), (zSt f len p) + 1, 187) := by unfold zTok; rw [if_neg (by omega), if_neg (by omega), if_pos (by unfold zLet; exact decide_eq_true (by omega)), h88]
                have hcode : ∀ v, zTC 187 (nI 3) v := fun v => Or.inr (Or.inr (Or.inr (Or.inr (Or.inl ⟨rfl, rfl⟩))))
                refine g_iconst C (nI 3) dX6_token_91 (by decide) ?_
                refine g_goto C 96 dX6_token_92 (by decide) ?_
                refine g_putI C dX6_token_96 fpX6_74 (show 56 < 68 by decide) rfl rfl rfl rfl ?_
                refine g_aload0 C dX6_token_99 ?_
                refine g_iload1 C dX6_token_100 ?_
                refine g_putI C dX6_token_101 fpX6_77 (show 56 < 68 by decide) rfl rfl rfl rfl ?_
                refine g_aload0 C dX6_token_104 ?_
                refine g_dup C dX6_token_105 rfl ?_
                refine g_getIE C ((up_j _ (by decide)).trans ((up_j _ (by decide)).trans ((up_j _ (by decide)).trans (up_s _ _ _ _)))) dX6_token_106 flX6_60 (show 56 < 68 by decide) rfl rfl ?_
                refine g_aload0 C dX6_token_109 ?_
                refine g_getIE C ((up_j _ (by decide)).trans (up_s _ _ _ _)) dX6_token_110 flX6_74 (show 56 < 68 by decide) rfl rfl ?_
                refine g_if_neN C 120 (by decide) dX6_token_113 (by decide) (fun h113 => ?_) (fun h113 => absurd h113 (by decide))
                refine g_iconst C (nI 1) dX6_token_120 (by decide) ?_
                refine g_iaddN C dX6_token_121 ?_
                refine g_putI C dX6_token_122 fpX6_60 (show 56 < 68 by decide) rfl rfl rfl rfl ?_
                refine g_aload0 C dX6_token_125 ?_
                refine g_getIE C ((up_j _ (by decide)).trans ((up_j _ (by decide)).trans (up_s _ _ _ _))) dX6_token_126 flX6_74 (show 56 < 68 by decide) rfl rfl ?_
                refine g_iconst C (nI 2) dX6_token_129 (by decide) ?_
                refine g_icmp_neN C 213 (by decide) (by decide) dX6_token_130 (by decide) (fun h130 => ?_) (fun h130 => absurd h130 (by decide))
                exact g_retv M dX6_token_213 (⟨_, rfl, hF1.tr (((FrT.up (by decide)).tr (FrT.up (by decide))).tr (FrT.up (by decide))), by rw [htk]; exact up_s _ _ _ _, by rw [htk, up_j _ (by decide), up_j _ (by decide), up_j _ (by decide)]; exact up_s _ _ _ _, by rw [htk, up_j _ (by decide), up_j _ (by decide), up_s, up_j _ (by decide), up_s]; exact by first | exact hcode | exact hcode _⟩)
            · -- X6_token 78f
              have hdg := of_decide_eq_true h78
              have hes := zEd_step hlt hdg
              refine g_iconst C (nI 2) dX6_token_81 (by decide) ?_
              refine g_goto C 96 dX6_token_82 (by decide) ?_
              refine g_putI C dX6_token_96 fpX6_74 (show 56 < 68 by decide) rfl rfl rfl rfl ?_
              refine g_aload0 C dX6_token_99 ?_
              refine g_iload1 C dX6_token_100 ?_
              refine g_putI C dX6_token_101 fpX6_77 (show 56 < 68 by decide) rfl rfl rfl rfl ?_
              refine g_aload0 C dX6_token_104 ?_
              refine g_dup C dX6_token_105 rfl ?_
              refine g_getIE C ((up_j _ (by decide)).trans ((up_j _ (by decide)).trans ((up_j _ (by decide)).trans (up_s _ _ _ _)))) dX6_token_106 flX6_60 (show 56 < 68 by decide) rfl rfl ?_
              refine g_aload0 C dX6_token_109 ?_
              refine g_getIE C ((up_j _ (by decide)).trans (up_s _ _ _ _)) dX6_token_110 flX6_74 (show 56 < 68 by decide) rfl rfl ?_
              refine g_if_neN C 120 (by decide) dX6_token_113 (by decide) (fun h113 => ?_) (fun h113 => absurd h113 (by decide))
              refine g_iconst C (nI 1) dX6_token_120 (by decide) ?_
              refine g_iaddN C dX6_token_121 ?_
              refine g_putI C dX6_token_122 fpX6_60 (show 56 < 68 by decide) rfl rfl rfl rfl ?_
              refine g_aload0 C dX6_token_125 ?_
              refine g_getIE C ((up_j _ (by decide)).trans ((up_j _ (by decide)).trans (up_s _ _ _ _))) dX6_token_126 flX6_74 (show 56 < 68 by decide) rfl rfl ?_
              refine g_iconst C (nI 2) dX6_token_129 (by decide) ?_
              refine g_icmp_neN C 213 (by decide) (by decide) dX6_token_130 (by decide) (fun h130 => absurd h130 (by decide)) (fun h130 => ?_)
              refine g_aload0 C dX6_token_133 ?_
              refine g_iload1 C dX6_token_134 ?_
              refine g_bipush C (nI 48) dX6_token_135 (by decide) ?_
              refine g_isubN C dX6_token_137 (by omega) ?_
              refine g_putI C dX6_token_138 fpX6_77 (show 56 < 68 by decide) rfl rfl rfl rfl ?_
              exact H141 hlt hdg (len + 1) 0 _ (by omega) hes (hF1.tr ((((FrT.up (by decide)).tr (FrT.up (by decide))).tr (FrT.up (by decide))).tr (FrT.up (by decide)))) (by rw [up_j _ (by decide), up_s]) (by rw [up_j _ (by decide), up_j _ (by decide), up_j _ (by decide), up_s]) (by rw [up_j _ (by decide), up_j _ (by decide), up_j _ (by decide), up_j _ (by decide), up_s]) (up_s _ _ _ _) (by show f (zSt f len p) - 48 ≤ 1300; omega) (fun i hi => by rw [show i = 0 by omega]; exact hdg) (by omega)
          · -- X6_token 67f
            have htk : zTok f len p = ((zSt f len p), (zSt f len p) + 1, 128 + 110) := by unfold zTok; rw [if_neg (by omega), if_neg (by omega), if_pos (by unfold zLet; exact decide_eq_true (by omega)), h67]
            rw [h67]
            have hcode : zTC (128 + 110) (nI 1) (nI 110) := Or.inr (Or.inr (Or.inr (Or.inr (Or.inr ⟨110, by omega, rfl, rfl, rfl⟩))))
            refine g_iconst C (nI 1) dX6_token_70 (by decide) ?_
            refine g_goto C 96 dX6_token_71 (by decide) ?_
            refine g_putI C dX6_token_96 fpX6_74 (show 56 < 68 by decide) rfl rfl rfl rfl ?_
            refine g_aload0 C dX6_token_99 ?_
            refine g_iload1 C dX6_token_100 ?_
            refine g_putI C dX6_token_101 fpX6_77 (show 56 < 68 by decide) rfl rfl rfl rfl ?_
            refine g_aload0 C dX6_token_104 ?_
            refine g_dup C dX6_token_105 rfl ?_
            refine g_getIE C ((up_j _ (by decide)).trans ((up_j _ (by decide)).trans ((up_j _ (by decide)).trans (up_s _ _ _ _)))) dX6_token_106 flX6_60 (show 56 < 68 by decide) rfl rfl ?_
            refine g_aload0 C dX6_token_109 ?_
            refine g_getIE C ((up_j _ (by decide)).trans (up_s _ _ _ _)) dX6_token_110 flX6_74 (show 56 < 68 by decide) rfl rfl ?_
            refine g_if_neN C 120 (by decide) dX6_token_113 (by decide) (fun h113 => ?_) (fun h113 => absurd h113 (by decide))
            refine g_iconst C (nI 1) dX6_token_120 (by decide) ?_
            refine g_iaddN C dX6_token_121 ?_
            refine g_putI C dX6_token_122 fpX6_60 (show 56 < 68 by decide) rfl rfl rfl rfl ?_
            refine g_aload0 C dX6_token_125 ?_
            refine g_getIE C ((up_j _ (by decide)).trans ((up_j _ (by decide)).trans (up_s _ _ _ _))) dX6_token_126 flX6_74 (show 56 < 68 by decide) rfl rfl ?_
            refine g_iconst C (nI 2) dX6_token_129 (by decide) ?_
            refine g_icmp_neN C 213 (by decide) (by decide) dX6_token_130 (by decide) (fun h130 => ?_) (fun h130 => absurd h130 (by decide))
            exact g_retv M dX6_token_213 (⟨_, rfl, hF1.tr (((FrT.up (by decide)).tr (FrT.up (by decide))).tr (FrT.up (by decide))), by rw [htk]; exact up_s _ _ _ _, by rw [htk, up_j _ (by decide), up_j _ (by decide), up_j _ (by decide)]; exact up_s _ _ _ _, by rw [htk, up_j _ (by decide), up_j _ (by decide), up_s, up_j _ (by decide), up_s]; exact by first | exact hcode | exact hcode _⟩)
    · rw [zLa_f hlt] at hx
      subst hx
      have htk : zTok f len p = ((zSt f len p), (zSt f len p), 1000) := by unfold zTok; rw [if_pos (by omega)]
      refine g_aload0 C dX6_token_43 ?_
      refine g_iload1 C dX6_token_44 ?_
      refine g_if_ge C 52 dX6_token_45 (by decide) (fun h45 => absurd h45 (by decide)) (fun h45 => ?_)
      refine g_iconst C (nI 0) dX6_token_48 (by decide) ?_
      refine g_goto C 96 dX6_token_49 (by decide) ?_
      refine g_putI C dX6_token_96 fpX6_74 (show 56 < 68 by decide) rfl rfl rfl rfl ?_
      refine g_aload0 C dX6_token_99 ?_
      refine g_iload1 C dX6_token_100 ?_
      refine g_putI C dX6_token_101 fpX6_77 (show 56 < 68 by decide) rfl rfl rfl rfl ?_
      refine g_aload0 C dX6_token_104 ?_
      refine g_dup C dX6_token_105 rfl ?_
      refine g_getIE C ((up_j _ (by decide)).trans ((up_j _ (by decide)).trans ((up_j _ (by decide)).trans (up_s _ _ _ _)))) dX6_token_106 flX6_60 (show 56 < 68 by decide) rfl rfl ?_
      refine g_aload0 C dX6_token_109 ?_
      refine g_getIE C ((up_j _ (by decide)).trans (up_s _ _ _ _)) dX6_token_110 flX6_74 (show 56 < 68 by decide) rfl rfl ?_
      refine g_if_neN C 120 (by decide) dX6_token_113 (by decide) (fun h113 => absurd h113 (by decide)) (fun h113 => ?_)
      refine g_iconst C (nI 0) dX6_token_116 (by decide) ?_
      refine g_goto C 121 dX6_token_117 (by decide) ?_
      refine g_iaddN C dX6_token_121 ?_
      refine g_putI C dX6_token_122 fpX6_60 (show 56 < 68 by decide) rfl rfl rfl rfl ?_
      refine g_aload0 C dX6_token_125 ?_
      refine g_getIE C ((up_j _ (by decide)).trans ((up_j _ (by decide)).trans (up_s _ _ _ _))) dX6_token_126 flX6_74 (show 56 < 68 by decide) rfl rfl ?_
      refine g_iconst C (nI 2) dX6_token_129 (by decide) ?_
      refine g_icmp_neN C 213 (by decide) (by decide) dX6_token_130 (by decide) (fun h130 => ?_) (fun h130 => absurd h130 (by decide))
      exact g_retv M dX6_token_213 (⟨_, rfl, hF1.tr (((FrT.up (by decide)).tr (FrT.up (by decide))).tr (FrT.up (by decide))), by rw [htk]; exact up_s _ _ _ _, by rw [htk, up_j _ (by decide), up_j _ (by decide), up_j _ (by decide)]; exact up_s _ _ _ _, by rw [htk, up_j _ (by decide), up_j _ (by decide), up_s, up_j _ (by decide), up_s]; exact Or.inl ⟨rfl, rfl⟩⟩)
  have H0 : ∀ (n r : Nat), r ≤ len → zSt f len r = (zSt f len p) → len - r < n → GG Γ K 0 0 (wF (z_up c 56 10 (nI r)) t) 0 [some (.ref 56), none] [] := by
    intro n
    induction n with
    | zero => intro r hr he hn; omega
    | succ n ih =>
      intro r hr he hn
      have hX0 : TmC (z_up c 56 10 (nI r)) len f := hX.fr (FrT.up (by decide))
      refine g_aload0 C dX6_token_0 ?_
      refine g_aload0 C dX6_token_1 ?_
      refine g_getIE C (up_s _ _ _ _) dX6_token_2 flX6_60 (show 56 < 68 by decide) rfl rfl ?_
      refine g_callV1i C dX6_token_5 vlX6_63 (n_letterAt hX0 hr) hKd (by first | decide | omega) rfl (Nat.le_of_ble_eq_true rfl) (show 56 < 68 by decide) rfl ?_
      rintro _ _ ⟨rfl, rfl⟩
      refine g_bipush C (nI 32) dX6_token_8 (by decide) ?_
      refine g_icmp_ne C 26 dX6_token_10 (by decide) (fun h10 => ?_) (fun h10 => ?_)
      · -- X6_token 10t
        have hst : ¬ (r < len ∧ f r = 32) := fun e => h10 (by rw [zLa_t e.1, e.2])
        rw [zSt_stop hst] at he
        subst he
        refine g_aload0 C dX6_token_26 ?_
        refine g_aload0 C dX6_token_27 ?_
        refine g_getIE C (up_s _ _ _ _) dX6_token_28 flX6_60 (show 56 < 68 by decide) rfl rfl ?_
        refine g_putI C dX6_token_31 fpX6_67 (show 56 < 68 by decide) rfl rfl rfl rfl ?_
        refine g_aload0 C dX6_token_34 ?_
        refine g_aload0 C dX6_token_35 ?_
        refine g_getIE C ((up_j _ (by decide)).trans (up_s _ _ _ _)) dX6_token_36 flX6_60 (show 56 < 68 by decide) rfl rfl ?_
        refine g_callV1i C dX6_token_39 vlX6_63 (n_letterAt (hX.fr ((FrT.up (by decide)).tr (FrT.up (by decide)))) hr) hKd (by first | decide | omega) rfl (Nat.le_of_ble_eq_true rfl) (show 56 < 68 by decide) rfl ?_
        rintro _ _ ⟨rfl, rfl⟩
        refine g_istore1 C dX6_token_42 ?_
        exact h43 _ rfl
      · -- X6_token 10f
        have hrl : r < len := by
          refine Classical.byContradiction fun e => ?_
          rw [zLa_f e] at h10
          exact absurd h10 (by decide)
        have hr32 : f r = 32 := by rw [zLa_t hrl] at h10; exact zLa_32 _ (hX.2.2.2 r hrl) h10
        refine g_aload0 C dX6_token_13 ?_
        refine g_dup C dX6_token_14 rfl ?_
        refine g_getIE C (up_s _ _ _ _) dX6_token_15 flX6_60 (show 56 < 68 by decide) rfl rfl ?_
        refine g_iconst C (nI 1) dX6_token_18 (by decide) ?_
        refine g_iaddN C dX6_token_19 ?_
        refine g_putI C dX6_token_20 fpX6_60 (show 56 < 68 by decide) rfl rfl rfl rfl ?_
        refine g_con (c' := z_up c 56 10 (nI (r + 1))) (by funext a b; unfold z_up; split <;> (try rfl); split <;> rfl) rfl ?_
        refine g_goto C 0 dX6_token_23 (by decide) ?_
        exact ih (r + 1) (by omega) ((zSt_step hrl hr32).trans he) (by omega)
  refine g_con (up_self h10).symm rfl ?_
  exact H0 (len + 1) p hp rfl (by omega)
