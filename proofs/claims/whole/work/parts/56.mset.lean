/-! the reference: sets, chances, letters, kinds -/
theorem zSb_le {a T : Nat} (h : zSb a T) : a ≤ T := by
  have e : a = T &&& a := by
    refine Nat.eq_of_testBit_eq fun q => ?_
    rw [Nat.testBit_and]
    cases h2 : a.testBit q with
    | false => rw [Bool.and_false]
    | true => rw [h q h2]; rfl
  rw [e]
  exact Nat.and_le_left
theorem zSub_le {a T : Nat} (h : a &&& (T ^^^ 4294967295) = 0) (ha : a < 128) : a ≤ T := by
  have hs : ∀ q, a.testBit q = true → T.testBit q = true := zSub_bit (decide_eq_true h) ha
  exact zSb_le hs
def zCp (A : zCr) (k i : Nat) : Bool := decide (zp8 (zCl A k) < zp8 k ∧ ∀ q, q < i → k.testBit q = true → zNC A k q = 0)
theorem zCp_iff {A : zCr} {k i : Nat} : zCp A k i = true ↔ (zp8 (zCl A k) < zp8 k ∧ ∀ q, q < i → k.testBit q = true → zNC A k q = 0) := by
  unfold zCp
  exact decide_eq_true_iff
theorem zCp_f {A : zCr} {k i : Nat} (h : zCp A k i = false) : ¬ (zp8 (zCl A k) < zp8 k ∧ ∀ q, q < i → k.testBit q = true → zNC A k q = 0) := fun e => by
  rw [zCp_iff.mpr e] at h
  cases h
theorem zCp_n {A : zCr} {k i : Nat} (h : ¬ (zp8 (zCl A k) < zp8 k ∧ ∀ q, q < i → k.testBit q = true → zNC A k q = 0)) : zCp A k i = false := by
  cases e : zCp A k i with
  | false => rfl
  | true => exact absurd (zCp_iff.mp e) h
set_option maxRecDepth 100000 in
set_option maxHeartbeats 4000000 in
theorem n_closed {Γ : zG} {c : Nat → Nat → Int32} {t : Nat → Int64} {A : zCr} (ok : OkA A) (hA : ToC (c 58) A) {m : Nat} (hm : m < 128) : Sp Γ 2 mX6_closed [.ref 56, .int (nI m)] 0 0 (wF c t) (z_pi (fun v w => w = wF c t ∧ v = nI (zWr A 7 m))) := by
  refine Sp.of (own := RX6) 3 false rfl (by decide +kernel) rfl rfl (fun h => by cases h) (fun K hKd M => ?_)
  have C := M.1
  show GG Γ K 0 0 (wF c t) 0 [some (.ref 56), some (.int (nI m)), none, none, none] []
  have hn7 : cN A ≤ 7 := ok.1
  have H14a : ∀ w, w < 128 → GG Γ K 0 0 (wF c t) 4 [some (.ref 56), some (.int (nI m)), some (.int (nI (zFs A w (cN A) w))), some (.int (nI w)), some (.int (nI (cN A)))] [] → GG Γ K 0 0 (wF c t) 14 [some (.ref 56), some (.int (nI m)), some (.int (nI w)), some (.int (nI w)), some (.int (nI 0))] [] := by
    intro w hw hexit
    have H14 : ∀ (n : Nat) (i : Nat), i ≤ cN A → cN A - i < n → GG Γ K 0 0 (wF c t) 14 [some (.ref 56), some (.int (nI m)), some (.int (nI (zFs A w i w))), some (.int (nI w)), some (.int (nI i))] [] := by
      intro n
      induction n with
      | zero => intro i hi hn; exact absurd hn (by omega)
      | succ n ih =>
        intro i hi hn
        refine g_iload4 C dX6_closed_14 ?_
        refine g_aload0 C dX6_closed_16 ?_
        refine g_getRT C dX6_closed_17 flX6_13 (show 56 < 68 by decide) rfl rfl (by decide) ?_
        refine g_iconst C (nI 0) dX6_closed_20 (by decide) ?_
        refine g_ialdE C hA.1 (by omega) (by decide) dX6_closed_21 (show 58 < 68 by decide) rfl ?_
        refine g_icmp_geN C 52 (by omega) (by omega) dX6_closed_22 (by decide) (fun h22 => ?_) (fun h22 => ?_)
        · -- X6_closed 22t
          obtain rfl : i = cN A := by omega
          refine g_goto C 4 dX6_closed_52 (by decide) ?_
          exact hexit
        · -- X6_closed 22f
          
          refine g_iload2 C dX6_closed_25 ?_
          refine g_aload0 C dX6_closed_26 ?_
          refine g_iload4 C dX6_closed_27 ?_
          refine g_iload3 C dX6_closed_29 ?_
          refine g_callV2i C dX6_closed_30 vlX6_98 (n_would ok hA h22 hw) hKd (by first | decide | omega) rfl (Nat.le_of_ble_eq_true rfl) (show 56 < 68 by decide) rfl ?_
          rintro _ _ ⟨rfl, rfl⟩
          refine g_if_eqB C 43 dX6_closed_33 (by decide) (fun h33 => ?_) (fun h33 => ?_)
          · -- X6_closed 33t
            
            refine g_iconst C (nI 0) dX6_closed_43 (by decide) ?_
            refine g_iorN C dX6_closed_44 ?_
            refine g_istore2 C dX6_closed_45 ?_
            refine g_set (L' := [some (.ref 56), some (.int (nI m)), some (.int (nI (zFs A w (i + 1) w))), some (.int (nI w)), some (.int (nI i))]) rfl (by rw [zFs, if_neg (by rw [h33]; decide), Nat.or_zero]) rfl ?_
            refine g_iinc4N C dX6_closed_46 ?_
            refine g_goto C 14 dX6_closed_49 (by decide) ?_
            exact ih (i + 1) (by omega) (by omega)
          · -- X6_closed 33f
            
            refine g_iconst C (nI 1) dX6_closed_36 (by decide) ?_
            refine g_iload4 C dX6_closed_37 ?_
            refine g_ishlN C dX6_closed_39 (by omega) ?_
            refine g_goto C 44 dX6_closed_40 (by decide) ?_
            refine g_iorN C dX6_closed_44 ?_
            refine g_istore2 C dX6_closed_45 ?_
            refine g_set (L' := [some (.ref 56), some (.int (nI m)), some (.int (nI (zFs A w (i + 1) w))), some (.int (nI w)), some (.int (nI i))]) rfl (by rw [zFs, if_pos h33]) rfl ?_
            refine g_iinc4N C dX6_closed_46 ?_
            refine g_goto C 14 dX6_closed_49 (by decide) ?_
            exact ih (i + 1) (by omega) (by omega)
    exact H14 (cN A + 1) 0 (Nat.zero_le _) (by omega)
  have H4 : ∀ (n B : Nat) (x : Int32) (y : Option Value), B < 128 → zSb m B → zSb B (zWr A 7 m) → (x = nI B → zCls A B) → 2 * (8 - zp8 B) + (if x = nI B then 0 else 1) < n → GG Γ K 0 0 (wF c t) 4 [some (.ref 56), some (.int (nI m)), some (.int (nI B)), some (.int x), y] [] := by
    intro n
    induction n with
    | zero => intro B x y hB h1 h2 h3 hn; exact absurd hn (by omega)
    | succ n ih =>
      intro B x y hB h1 h2 h3 hn
      refine g_iload3 C dX6_closed_4 ?_
      refine g_iload2 C dX6_closed_5 ?_
      refine g_icmp_eq C 55 dX6_closed_6 (by decide) (fun h6 => ?_) (fun h6 => ?_)
      · -- X6_closed 6t
        have hR := zWr_is ok hm h1 h2 (h3 h6)
        refine g_iload2 C dX6_closed_55 ?_
        exact g_reti M dX6_closed_56 (⟨rfl, by rw [hR]⟩)
      · -- X6_closed 6f
        rw [if_neg h6] at hn
        refine g_iload2 C dX6_closed_9 ?_
        refine g_istore3 C dX6_closed_10 ?_
        refine g_iconst C (nI 0) dX6_closed_11 (by decide) ?_
        refine g_istore4 C dX6_closed_12 ?_
        refine H14a B hB ?_
        have hF : zSb B (zFs A B (cN A) B) := zFs_sup A B B (cN A)
        refine ih _ _ _ (zFs_lt hB _ hn7) (h1.tr hF) (zFs_sub h2 h2 (zWr_cls ok hm) _ (Nat.le_refl _)) (fun e q hq hd => ?_) ?_
        · have e : B = zFs A B (cN A) B := (nI_eq (by omega) (by have := zFs_lt (A := A) (w := B) hB _ hn7; omega)).mp e
          rw [← e] at hd
          exact zFs_has hd _ hq
        · by_cases e : B = zFs A B (cN A) B
          · rw [← e, if_pos rfl]; omega
          · have hlt : zp8 B < zp8 (zFs A B (cN A) B) := by
              have hne : ∃ q, (zFs A B (cN A) B).testBit q = true ∧ B.testBit q = false := by
                refine Classical.byContradiction fun hq => e (hF.eq fun q h5 => ?_)
                cases h6 : B.testBit q with
                | true => rfl
                | false => exact absurd ⟨q, h5, h6⟩ hq
              obtain ⟨q, h5, h6⟩ := hne
              have hq8 : q < 8 := by
                refine Nat.lt_of_not_le fun h7 => ?_
                rw [Nat.testBit_lt_two_pow (Nat.lt_of_lt_of_le (zFs_lt (A := A) (w := B) hB _ hn7) (show 2 ^ 7 ≤ 2 ^ q from Nat.pow_le_pow_right (by decide) (by omega)))] at h5
                cases h5
              exact hF.lt h6 h5 8 hq8
            have h8 : zp8 (zFs A B (cN A) B) ≤ 8 := zp8_8 _
            split <;> omega
  refine g_iload1 C dX6_closed_0 ?_
  refine g_istore2 C dX6_closed_1 ?_
  refine g_iconst C (-1) dX6_closed_2 (by decide) ?_
  refine g_istore3 C dX6_closed_3 ?_
  exact H4 40 m (-1) _ hm (zSb.rf _) (zWr_sup A m 7) (fun e => absurd e ((show ∀ m, m < 128 → (-1 : Int32) ≠ nI m by decide +kernel) m hm)) (by split <;> omega)
set_option maxRecDepth 100000 in
set_option maxHeartbeats 4000000 in
theorem q_will {Γ : zG} {c : Nat → Nat → Int32} {t : Nat → Int64} {S : zAb} (hS : OkS S) (hR : RepM c t S)  : Sp Γ 4 mX6_will [.ref 56] 0 0 (wF c t) (z_pi (zOutM c t (nI (zWr S.1 7 (mG S.2.1))) (S))) := by
  refine Sp.of (own := RX6) 0 false rfl (by decide +kernel) rfl rfl (fun h => by cases h) (fun K hKd M => ?_)
  have C := M.1
  show GG Γ K 0 0 (wF c t) 0 [some (.ref 56)] []
  refine g_aload0 C dX6_will_0 ?_
  refine g_aload0 C dX6_will_1 ?_
  refine g_getRT C dX6_will_2 flX6_19 (show 56 < 68 by decide) rfl rfl (by decide) ?_
  refine g_iconst C (nI 1) dX6_will_5 (by decide) ?_
  refine g_ialdE C hR.2.1.2.1 (by omega) (by decide) dX6_will_6 (show 60 < 68 by decide) rfl ?_
  refine g_callV1i C dX6_will_7 vlX6_121 (n_closed hS.1 hR.1 hS.g) hKd (by first | decide | omega) rfl (Nat.le_of_ble_eq_true rfl) (show 56 < 68 by decide) rfl ?_
  rintro _ _ ⟨rfl, rfl⟩
  exact g_reti M dX6_will_10 (zOutM.same hR)
set_option maxRecDepth 100000 in
set_option maxHeartbeats 4000000 in
theorem q_begin {Γ : zG} {c : Nat → Nat → Int32} {t : Nat → Int64} {S : zAb} (hS : OkS S) (hR : RepM c t S)  : Sp Γ 4 mX6_begin [.ref 56] 0 0 (wF c t) (z_pi (zOutM c t (a_begin S) (S))) := by
  refine Sp.of (own := RX6) 4 false rfl (by decide +kernel) rfl rfl (fun h => by cases h) (fun K hKd M => ?_)
  have C := M.1
  show GG Γ K 0 0 (wF c t) 0 [some (.ref 56), none, none, none, none] []
  have hal := zAll_lt hS.1.1
  have hot : (zAll (cN S.1) &&& (mG S.2.1 ^^^ 4294967295)) < 128 := zand_l hal
  have hg := hS.g
  have H24 : ∀ (k f : Nat) (x : Option Value), k ≤ 128 → zLo (zBg S.1 S.2.1) (zAll (cN S.1)) k f → GG Γ K 0 0 (wF c t) 24 [some (.ref 56), some (.int (nI (zAll (cN S.1)))), some (.int (nI f)), some (.int (nI k + (-1))), x] [] := by
    intro k
    induction k with
    | zero =>
      intro f x hk hL
      refine g_iload3 C dX6_begin_24 ?_
      refine g_if_lt C 96 dX6_begin_25 (by decide) (fun h25 => ?_) (fun h25 => absurd h25 (by exact fun h => h zdn_0))
      refine g_iload2 C dX6_begin_96 ?_
      exact g_reti M dX6_begin_97 (by unfold a_begin; rw [zArg_eq hL.best]; exact zOutM.same hR)
    | succ a ih =>
      intro f x hk hL
      refine g_set (L' := [some (.ref 56), some (.int (nI (zAll (cN S.1)))), some (.int (nI f)), some (.int (nI a)), x]) rfl (by rw [zdn a (by omega)]) rfl ?_
      have ha : a < 128 := by omega
      have hf : f < 128 := by have := hL.2.1; omega
      have hfp := zp8_8 f
      have hap := zp8_8 a
      have hfa := zWr_lt hS.1 (Nat.or_lt_two_pow (n := 7) hg ha) 7
      refine g_iload3 C dX6_begin_24 ?_
      refine g_if_ltN C 96 (by omega) dX6_begin_25 (by decide) (fun h => h.elim) (fun _ => ?_)
      refine g_iload3 C dX6_begin_28 ?_
      refine g_iload1 C dX6_begin_29 ?_
      refine g_aload0 C dX6_begin_30 ?_
      refine g_getRT C dX6_begin_31 flX6_19 (show 56 < 68 by decide) rfl rfl (by decide) ?_
      refine g_iconst C (nI 1) dX6_begin_34 (by decide) ?_
      refine g_ialdE C hR.2.1.2.1 (by omega) (by decide) dX6_begin_35 (show 60 < 68 by decide) rfl ?_
      refine g_iconst C (nI 4294967295) dX6_begin_36 (by decide) ?_
      refine g_ixorN C dX6_begin_37 ?_
      refine g_iandN C dX6_begin_38 ?_
      refine g_iconst C (nI 4294967295) dX6_begin_39 (by decide) ?_
      refine g_ixorN C dX6_begin_40 ?_
      refine g_iandN C dX6_begin_41 ?_
      refine g_if_neN C 76 (zand_l (by omega)) dX6_begin_42 (by decide) (fun h42 => ?_) (fun h42 => ?_)
      · -- X6_begin 42t
        have hno : zBg S.1 S.2.1 a = true → zp8 f < zp8 a := fun h => by unfold zBg at h; rw [decide_eq_false (show ¬ a &&& ((zAll (cN S.1) &&& (mG S.2.1 ^^^ 4294967295)) ^^^ 4294967295) = 0 by omega)] at h; cases h
        refine g_iconst C (nI 0) dX6_begin_76 (by decide) ?_
        refine g_istore4 C dX6_begin_77 ?_
        refine g_iload4 C dX6_begin_79 ?_
        refine g_if_eqN C 88 (by omega) dX6_begin_81 (by decide) (fun h81 => ?_) (fun h81 => absurd h81 (by decide))
        refine g_iload2 C dX6_begin_88 ?_
        refine g_istore2 C dX6_begin_89 ?_
        refine g_iinc3 C dX6_begin_90 ?_
        refine g_goto C 24 dX6_begin_93 (by decide) ?_
        first | exact ih f _ (by omega) (hL.no hno) | exact ih a _ (by omega) (hL.yes hyes (Nat.le_trans (zSub_le (of_decide_eq_true (Bool.and_eq_true_iff.mp hyes).1) ha) Nat.and_le_left) h53)
      · -- X6_begin 42f
        
        refine g_iload3 C dX6_begin_45 ?_
        refine g_callS1i C dX6_begin_46 slX6_95 (n_ones (by omega)) hKd (by first | decide | omega) rfl (Nat.le_of_ble_eq_true rfl) ?_
        rintro _ _ ⟨rfl, rfl⟩
        refine g_iload2 C dX6_begin_49 ?_
        refine g_callS1i C dX6_begin_50 slX6_95 (n_ones (by omega)) hKd (by first | decide | omega) rfl (Nat.le_of_ble_eq_true rfl) ?_
        rintro _ _ ⟨rfl, rfl⟩
        refine g_icmp_gtN C 76 (by omega) (by omega) dX6_begin_53 (by decide) (fun h53 => ?_) (fun h53 => ?_)
        · -- X6_begin 53t
          have hno : zBg S.1 S.2.1 a = true → zp8 f < zp8 a := fun _ => h53
          refine g_iconst C (nI 0) dX6_begin_76 (by decide) ?_
          refine g_istore4 C dX6_begin_77 ?_
          refine g_iload4 C dX6_begin_79 ?_
          refine g_if_eqN C 88 (by omega) dX6_begin_81 (by decide) (fun h81 => ?_) (fun h81 => absurd h81 (by decide))
          refine g_iload2 C dX6_begin_88 ?_
          refine g_istore2 C dX6_begin_89 ?_
          refine g_iinc3 C dX6_begin_90 ?_
          refine g_goto C 24 dX6_begin_93 (by decide) ?_
          first | exact ih f _ (by omega) (hL.no hno) | exact ih a _ (by omega) (hL.yes hyes (Nat.le_trans (zSub_le (of_decide_eq_true (Bool.and_eq_true_iff.mp hyes).1) ha) Nat.and_le_left) h53)
        · -- X6_begin 53f
          
          refine g_aload0 C dX6_begin_56 ?_
          refine g_aload0 C dX6_begin_57 ?_
          refine g_getRT C dX6_begin_58 flX6_19 (show 56 < 68 by decide) rfl rfl (by decide) ?_
          refine g_iconst C (nI 1) dX6_begin_61 (by decide) ?_
          refine g_ialdE C hR.2.1.2.1 (by omega) (by decide) dX6_begin_62 (show 60 < 68 by decide) rfl ?_
          refine g_iload3 C dX6_begin_63 ?_
          refine g_iorN C dX6_begin_64 ?_
          refine g_callV1i C dX6_begin_65 vlX6_121 (n_closed hS.1 hR.1 (Nat.or_lt_two_pow (n := 7) hg ha)) hKd (by first | decide | omega) rfl (Nat.le_of_ble_eq_true rfl) (show 56 < 68 by decide) rfl ?_
          rintro _ _ ⟨rfl, rfl⟩
          refine g_iload1 C dX6_begin_68 ?_
          refine g_icmp_neN C 76 (by omega) (by omega) dX6_begin_69 (by decide) (fun h69 => ?_) (fun h69 => ?_)
          · -- X6_begin 69t
            have hno : zBg S.1 S.2.1 a = true → zp8 f < zp8 a := fun h => by unfold zBg at h; rw [decide_eq_false h69] at h; simp at h
            refine g_iconst C (nI 0) dX6_begin_76 (by decide) ?_
            refine g_istore4 C dX6_begin_77 ?_
            refine g_iload4 C dX6_begin_79 ?_
            refine g_if_eqN C 88 (by omega) dX6_begin_81 (by decide) (fun h81 => ?_) (fun h81 => absurd h81 (by decide))
            refine g_iload2 C dX6_begin_88 ?_
            refine g_istore2 C dX6_begin_89 ?_
            refine g_iinc3 C dX6_begin_90 ?_
            refine g_goto C 24 dX6_begin_93 (by decide) ?_
            first | exact ih f _ (by omega) (hL.no hno) | exact ih a _ (by omega) (hL.yes hyes (Nat.le_trans (zSub_le (of_decide_eq_true (Bool.and_eq_true_iff.mp hyes).1) ha) Nat.and_le_left) h53)
          · -- X6_begin 69f
            have hyes : zBg S.1 S.2.1 a = true := by unfold zBg; rw [decide_eq_true h42, decide_eq_true h69]; rfl
            refine g_iconst C (nI 1) dX6_begin_72 (by decide) ?_
            refine g_goto C 77 dX6_begin_73 (by decide) ?_
            refine g_istore4 C dX6_begin_77 ?_
            refine g_iload4 C dX6_begin_79 ?_
            refine g_if_eqN C 88 (by omega) dX6_begin_81 (by decide) (fun h81 => absurd h81 (by decide)) (fun h81 => ?_)
            refine g_iload3 C dX6_begin_84 ?_
            refine g_goto C 89 dX6_begin_85 (by decide) ?_
            refine g_istore2 C dX6_begin_89 ?_
            refine g_iinc3 C dX6_begin_90 ?_
            refine g_goto C 24 dX6_begin_93 (by decide) ?_
            first | exact ih f _ (by omega) (hL.no hno) | exact ih a _ (by omega) (hL.yes hyes (Nat.le_trans (zSub_le (of_decide_eq_true (Bool.and_eq_true_iff.mp hyes).1) ha) Nat.and_le_left) h53)
  refine g_iconst C (nI 1) dX6_begin_0 (by decide) ?_
  refine g_aload0 C dX6_begin_1 ?_
  refine g_getRT C dX6_begin_2 flX6_13 (show 56 < 68 by decide) rfl rfl (by decide) ?_
  refine g_iconst C (nI 0) dX6_begin_5 (by decide) ?_
  refine g_ialdE C hR.1.1 (by omega) (by decide) dX6_begin_6 (show 58 < 68 by decide) rfl ?_
  refine g_ishlN C dX6_begin_7 (by have := hS.1.1; omega) ?_
  refine g_iconst C (nI 1) dX6_begin_8 (by decide) ?_
  refine g_isubN C dX6_begin_9 (zs_pos _) ?_
  refine g_istore1 C dX6_begin_10 ?_
  refine g_iload1 C dX6_begin_11 ?_
  refine g_aload0 C dX6_begin_12 ?_
  refine g_getRT C dX6_begin_13 flX6_19 (show 56 < 68 by decide) rfl rfl (by decide) ?_
  refine g_iconst C (nI 1) dX6_begin_16 (by decide) ?_
  refine g_ialdE C hR.2.1.2.1 (by omega) (by decide) dX6_begin_17 (show 60 < 68 by decide) rfl ?_
  refine g_iconst C (nI 4294967295) dX6_begin_18 (by decide) ?_
  refine g_ixorN C dX6_begin_19 ?_
  refine g_iandN C dX6_begin_20 ?_
  refine g_istore2 C dX6_begin_21 ?_
  refine g_iload2 C dX6_begin_22 ?_
  refine g_istore3 C dX6_begin_23 ?_
  refine g_set (L' := [some (.ref 56), some (.int (nI (zAll (cN S.1)))), some (.int (nI (zAll (cN S.1) &&& (mG S.2.1 ^^^ 4294967295)))), some (.int (nI ((zAll (cN S.1) &&& (mG S.2.1 ^^^ 4294967295)) + 1) + (-1))), _]) rfl (by rw [zdn _ (by omega)]; rfl) rfl ?_
  exact H24 _ _ _ (by omega) ⟨zBg_top hS.1 hS.2.1.2.1, Nat.and_le_left, fun b h1 h2 h3 => absurd (zSub_le (of_decide_eq_true (Bool.and_eq_true_iff.mp h3).1) (by omega)) (by omega)⟩
set_option maxRecDepth 100000 in
set_option maxHeartbeats 4000000 in
theorem n_common {Γ : zG} {w0 : zW} {a b : Nat} (ha : a < 2 ^ 31) (hb : b < 2 ^ 31) : Sp Γ 0 mX6_common [.int (nI a), .int (nI b)] 0 0 (w0) (z_pi (fun v w => w = w0 ∧ v = nI (Nat.gcd a b))) := by
  refine Sp.of (own := RX6) 3 false rfl (by decide +kernel) rfl rfl (fun h => by cases h) (fun K hKd M => ?_)
  have C := M.1
  show GG Γ K 0 0 (w0) 0 [some (.int (nI a)), some (.int (nI b)), none, none, none] []
  have H4 : ∀ (n a' b' : Nat) (x : Option Value), a' < 2 ^ 31 → b' < 2 ^ 31 → Nat.gcd a' b' = Nat.gcd a b → b' < n → GG Γ K 0 0 w0 4 [some (.int (nI a)), some (.int (nI b)), some (.int (nI a')), some (.int (nI b')), x] [] := by
    intro n
    induction n with
    | zero => intro a' b' x ha2 hb2 hg hn; omega
    | succ n ih =>
      intro a' b' x ha2 hb2 hg hn
      refine g_iload3 C dX6_common_4 ?_
      refine g_if_leN C 21 (by omega) dX6_common_5 (by decide) (fun h5 => ?_) (fun h5 => ?_)
      · -- X6_common 5t
        subst h5
        refine g_iload2 C dX6_common_21 ?_
        exact g_reti M dX6_common_22 (⟨rfl, by rw [← hg, Nat.gcd_zero_right]⟩)
      · -- X6_common 5f
        have hmo := Nat.mod_lt a' h5
        refine g_iload2 C dX6_common_8 ?_
        refine g_iload3 C dX6_common_9 ?_
        refine g_iremN C dX6_common_10 ha2 h5 hb2 ?_
        refine g_istore4 C dX6_common_11 ?_
        refine g_iload3 C dX6_common_13 ?_
        refine g_istore2 C dX6_common_14 ?_
        refine g_iload4 C dX6_common_15 ?_
        refine g_istore3 C dX6_common_17 ?_
        refine g_goto C 4 dX6_common_18 (by decide) ?_
        exact ih b' (a' % b') _ hb2 (Nat.lt_trans hmo hb2) ((zgcd_s a' b').trans hg) (by omega)
  refine g_iload0 C dX6_common_0 ?_
  refine g_istore2 C dX6_common_1 ?_
  refine g_iload1 C dX6_common_2 ?_
  refine g_istore3 C dX6_common_3 ?_
  exact H4 (b + 1) a b _ ha hb rfl (by omega)
set_option maxRecDepth 100000 in
set_option maxHeartbeats 4000000 in
theorem q_clique {Γ : zG} {c : Nat → Nat → Int32} {t : Nat → Int64} {S : zAb} (hS : OkS S) (hR : RepM c t S) {w : Int32} : Sp Γ 4 mX6_clique [.ref 56, .int w] 0 0 (wF c t) (z_pi (zOutM c t (a_clique S w) (S))) := by
  refine Sp.of (own := RX6) 4 false rfl (by decide +kernel) rfl rfl (fun h => by cases h) (fun K hKd M => ?_)
  have C := M.1
  show GG Γ K 0 0 (wF c t) 0 [some (.ref 56), some (.int w), none, none, none, none] []
  have hn7 : cN S.1 ≤ 7 := hS.1.1
  have hs128 := zs_le hn7
  have H48a : ∀ (j k : Nat), k < 128 → GG Γ K 0 0 (wF c t) 107 [some (.ref 56), some (.int (nI j)), some (.int (nI (zCl S.1 k))), some (.int (nI k)), some (.int (nI (zCp S.1 k (cN S.1)).toNat)), some (.int (nI (cN S.1)))] [] → GG Γ K 0 0 (wF c t) 48 [some (.ref 56), some (.int (nI j)), some (.int (nI (zCl S.1 k))), some (.int (nI k)), some (.int (nI (zCp S.1 k (0)).toNat)), some (.int (nI 0))] [] := by
    intro j k hk hexit
    have hcl := zCl_le (A := S.1) k
    have H48 : ∀ (n : Nat) (i : Nat), i ≤ cN S.1 → cN S.1 - i < n → GG Γ K 0 0 (wF c t) 48 [some (.ref 56), some (.int (nI j)), some (.int (nI (zCl S.1 k))), some (.int (nI k)), some (.int (nI (zCp S.1 k (i)).toNat)), some (.int (nI i))] [] := by
      intro n
      induction n with
      | zero => intro i hi hn; exact absurd hn (by omega)
      | succ n ih =>
        intro i hi hn
        refine g_iload5 C dX6_clique_48 ?_
        refine g_aload0 C dX6_clique_50 ?_
        refine g_getRT C dX6_clique_51 flX6_13 (show 56 < 68 by decide) rfl rfl (by decide) ?_
        refine g_iconst C (nI 0) dX6_clique_54 (by decide) ?_
        refine g_ialdE C hR.1.1 (by omega) (by decide) dX6_clique_55 (show 58 < 68 by decide) rfl ?_
        refine g_icmp_geN C 107 (by omega) (by omega) dX6_clique_56 (by decide) (fun h56 => ?_) (fun h56 => ?_)
        · -- X6_clique 56t
          obtain rfl : i = cN S.1 := by omega
          exact hexit
        · -- X6_clique 56f
          
          refine g_iload4 C dX6_clique_59 ?_
          refine g_if_eqB C 98 dX6_clique_61 (by decide) (fun h61 => ?_) (fun h61 => ?_)
          · -- X6_clique 61t
            have hd := zCp_f h61
            refine g_iconst C (nI 0) dX6_clique_98 (by decide) ?_
            refine g_istore4 C dX6_clique_99 ?_
            refine g_set (L' := [some (.ref 56), some (.int (nI j)), some (.int (nI (zCl S.1 k))), some (.int (nI k)), some (.int (nI (zCp S.1 k (i + 1)).toNat)), some (.int (nI i))]) rfl (by rw [show zCp S.1 k (i + 1) = false from zCp_n fun e => hd ⟨e.1, fun q hq => e.2 q (by omega)⟩]; rfl) rfl ?_
            refine g_iinc5N C dX6_clique_101 ?_
            refine g_goto C 48 dX6_clique_104 (by decide) ?_
            exact ih (i + 1) (by omega) (by omega)
          · -- X6_clique 61f
            have hd := zCp_iff.mp h61
            refine g_iload3 C dX6_clique_64 ?_
            refine g_iload5 C dX6_clique_65 ?_
            refine g_ishrN C dX6_clique_67 (by omega) (by omega) ?_
            refine g_iconst C (nI 1) dX6_clique_68 (by decide) ?_
            refine g_iandN C dX6_clique_69 ?_
            refine g_top (by rw [zn_bit]) ?_
            refine g_if_eqB C 94 dX6_clique_70 (by decide) (fun h70 => ?_) (fun h70 => ?_)
            · -- X6_clique 70t
              
              refine g_iconst C (nI 1) dX6_clique_94 (by decide) ?_
              refine g_goto C 99 dX6_clique_95 (by decide) ?_
              refine g_istore4 C dX6_clique_99 ?_
              refine g_set (L' := [some (.ref 56), some (.int (nI j)), some (.int (nI (zCl S.1 k))), some (.int (nI k)), some (.int (nI (zCp S.1 k (i + 1)).toNat)), some (.int (nI i))]) rfl (by rw [show zCp S.1 k (i + 1) = true from zCp_iff.mpr ⟨hd.1, fun q hq hb => by by_cases e : q = i; (subst e; rw [h70] at hb; cases hb); exact hd.2 q (by omega) hb⟩]; rfl) rfl ?_
              refine g_iinc5N C dX6_clique_101 ?_
              refine g_goto C 48 dX6_clique_104 (by decide) ?_
              exact ih (i + 1) (by omega) (by omega)
            · -- X6_clique 70f
              
              refine g_iload3 C dX6_clique_73 ?_
              refine g_aload0 C dX6_clique_74 ?_
              refine g_getRT C dX6_clique_75 flX6_13 (show 56 < 68 by decide) rfl rfl (by decide) ?_
              refine g_bipush C (nI 19) dX6_clique_78 (by decide) ?_
              refine g_iload5 C dX6_clique_80 ?_
              refine g_iaddN C dX6_clique_82 ?_
              refine g_ialdE C (hR.1.2.2.2.2.2 i h56) (by omega) (by decide) dX6_clique_83 (show 58 < 68 by decide) rfl ?_
              refine g_iconst C (nI 4294967295) dX6_clique_84 (by decide) ?_
              refine g_ixorN C dX6_clique_85 ?_
              refine g_iandN C dX6_clique_86 ?_
              refine g_iconst C (nI 1) dX6_clique_87 (by decide) ?_
              refine g_iload5 C dX6_clique_88 ?_
              refine g_ishlN C dX6_clique_90 (by omega) ?_
              refine g_icmp_neN C 98 (zand_l (by omega)) (by have := (show ∀ i, i < 7 → 1 <<< i < 128 by decide) i (by omega); omega) dX6_clique_91 (by decide) (fun h91 => ?_) (fun h91 => ?_)
              · -- X6_clique 91t
                have hnc : ¬ zNC S.1 k i = 0 := fun e => h91 ((zNC_iff hS.1 hk (by omega) h70).mpr e)
                refine g_iconst C (nI 0) dX6_clique_98 (by decide) ?_
                refine g_istore4 C dX6_clique_99 ?_
                refine g_set (L' := [some (.ref 56), some (.int (nI j)), some (.int (nI (zCl S.1 k))), some (.int (nI k)), some (.int (nI (zCp S.1 k (i + 1)).toNat)), some (.int (nI i))]) rfl (by rw [show zCp S.1 k (i + 1) = false from zCp_n fun e => hnc (e.2 i (by omega) h70)]; rfl) rfl ?_
                refine g_iinc5N C dX6_clique_101 ?_
                refine g_goto C 48 dX6_clique_104 (by decide) ?_
                exact ih (i + 1) (by omega) (by omega)
              · -- X6_clique 91f
                have hnc := (zNC_iff hS.1 hk (by omega) h70).mp h91
                refine g_iconst C (nI 1) dX6_clique_94 (by decide) ?_
                refine g_goto C 99 dX6_clique_95 (by decide) ?_
                refine g_istore4 C dX6_clique_99 ?_
                refine g_set (L' := [some (.ref 56), some (.int (nI j)), some (.int (nI (zCl S.1 k))), some (.int (nI k)), some (.int (nI (zCp S.1 k (i + 1)).toNat)), some (.int (nI i))]) rfl (by rw [show zCp S.1 k (i + 1) = true from zCp_iff.mpr ⟨hd.1, fun q hq hb => by by_cases e : q = i; (subst e; exact hnc); exact hd.2 q (by omega) hb⟩]; rfl) rfl ?_
                refine g_iinc5N C dX6_clique_101 ?_
                refine g_goto C 48 dX6_clique_104 (by decide) ?_
                exact ih (i + 1) (by omega) (by omega)
    exact H48 (cN S.1 + 1) 0 (Nat.zero_le _) (by omega)
  have H15 : ∀ (n : Nat) (j k : Nat) (x y : Option Value), j < 2 → a_clique S w = (if j = 0 then nI (zp8 (zCl S.1 (1 <<< cN S.1))) else nI (zCl S.1 (1 <<< cN S.1))) → k ≤ 1 <<< cN S.1 → 1 <<< cN S.1 - k < n → GG Γ K 0 0 (wF c t) 15 [some (.ref 56), some (.int (nI j)), some (.int (nI (zCl S.1 k))), some (.int (nI k)), x, y] [] := by
    intro n
    induction n with
    | zero => intro j k x y hj hr hk hn; exact absurd hn (by omega)
    | succ n ih =>
      intro j k x y hj hr hk hn
      have hzs : 1 <<< cN S.1 ≤ 128 := hs128
      refine g_iload3 C dX6_clique_15 ?_
      refine g_iconst C (nI 1) dX6_clique_16 (by decide) ?_
      refine g_aload0 C dX6_clique_17 ?_
      refine g_getRT C dX6_clique_18 flX6_13 (show 56 < 68 by decide) rfl rfl (by decide) ?_
      refine g_iconst C (nI 0) dX6_clique_21 (by decide) ?_
      refine g_ialdE C hR.1.1 (by omega) (by decide) dX6_clique_22 (show 58 < 68 by decide) rfl ?_
      refine g_ishlN C dX6_clique_23 (by omega) ?_
      refine g_icmp_geN C 124 (by omega) (by omega) dX6_clique_24 (by decide) (fun h24 => ?_) (fun h24 => ?_)
      · -- X6_clique 24t
        obtain rfl : k = 1 <<< cN S.1 := by omega
        have hcl := zCl_le (A := S.1) (1 <<< cN S.1)
        refine g_iload1 C dX6_clique_124 ?_
        refine g_if_neN C 135 (by omega) dX6_clique_125 (by decide) (fun h125 => ?_) (fun h125 => ?_)
        · -- X6_clique 125t
          rw [if_neg (by omega)] at hr
          refine g_iload2 C dX6_clique_135 ?_
          exact g_reti M dX6_clique_136 (by rw [hr]; exact zOutM.same hR)
        · -- X6_clique 125f
          rw [if_pos h125] at hr
          refine g_iload2 C dX6_clique_128 ?_
          refine g_callS1i C dX6_clique_129 slX6_95 (n_ones (by omega)) hKd (by first | decide | omega) rfl (Nat.le_of_ble_eq_true rfl) ?_
          rintro _ _ ⟨rfl, rfl⟩
          refine g_goto C 136 dX6_clique_132 (by decide) ?_
          exact g_reti M dX6_clique_136 (by rw [hr]; exact zOutM.same hR)
      · -- X6_clique 24f
        have hcl := zCl_le (A := S.1) k
        have hk8 := zp8_8 k
        have hc8 := zp8_8 (zCl S.1 k)
        refine g_iload3 C dX6_clique_27 ?_
        refine g_callS1i C dX6_clique_28 slX6_95 (n_ones (by omega)) hKd (by first | decide | omega) rfl (Nat.le_of_ble_eq_true rfl) ?_
        rintro _ _ ⟨rfl, rfl⟩
        refine g_iload2 C dX6_clique_31 ?_
        refine g_callS1i C dX6_clique_32 slX6_95 (n_ones (by omega)) hKd (by first | decide | omega) rfl (Nat.le_of_ble_eq_true rfl) ?_
        rintro _ _ ⟨rfl, rfl⟩
        refine g_icmp_leN C 42 (by omega) (by omega) dX6_clique_35 (by decide) (fun h35 => ?_) (fun h35 => ?_)
        · -- X6_clique 35t
          
          refine g_iconst C (nI 0) dX6_clique_42 (by decide) ?_
          refine g_istore4 C dX6_clique_43 ?_
          refine g_iconst C (nI 0) dX6_clique_45 (by decide) ?_
          refine g_istore5 C dX6_clique_46 ?_
          refine g_set (L' := [some (.ref 56), some (.int (nI j)), some (.int (nI (zCl S.1 k))), some (.int (nI k)), some (.int (nI (zCp S.1 k (0)).toNat)), some (.int (nI 0))]) rfl (by rw [show zCp S.1 k 0 = false from zCp_n fun e => by have := e.1; omega]; rfl) rfl ?_
          refine H48a j k (by omega) ?_
          refine g_iload4 C dX6_clique_107 ?_
          refine g_if_eqB C 116 dX6_clique_109 (by decide) (fun h109 => ?_) (fun h109 => ?_)
          · -- X6_clique 109t
            
            refine g_iload2 C dX6_clique_116 ?_
            refine g_istore2 C dX6_clique_117 ?_
            refine g_set (L' := [some (.ref 56), some (.int (nI j)), some (.int (nI (zCl S.1 (k + 1)))), some (.int (nI k)), some (.int (nI (zCp S.1 k (cN S.1)).toNat)), some (.int (nI (cN S.1)))]) rfl (by rw [show zCl S.1 (k + 1) = zCl S.1 k from if_neg (fun e => zCp_f h109 ⟨e.1, of_decide_eq_true e.2⟩)]) rfl ?_
            refine g_iinc3N C dX6_clique_118 ?_
            refine g_goto C 15 dX6_clique_121 (by decide) ?_
            exact ih j (k + 1) _ _ hj hr (by omega) (by omega)
          · -- X6_clique 109f
            
            refine g_iload3 C dX6_clique_112 ?_
            refine g_goto C 117 dX6_clique_113 (by decide) ?_
            refine g_istore2 C dX6_clique_117 ?_
            refine g_set (L' := [some (.ref 56), some (.int (nI j)), some (.int (nI (zCl S.1 (k + 1)))), some (.int (nI k)), some (.int (nI (zCp S.1 k (cN S.1)).toNat)), some (.int (nI (cN S.1)))]) rfl (by rw [show zCl S.1 (k + 1) = k from if_pos ⟨(zCp_iff.mp h109).1, decide_eq_true (zCp_iff.mp h109).2⟩]) rfl ?_
            refine g_iinc3N C dX6_clique_118 ?_
            refine g_goto C 15 dX6_clique_121 (by decide) ?_
            exact ih j (k + 1) _ _ hj hr (by omega) (by omega)
        · -- X6_clique 35f
          
          refine g_iconst C (nI 1) dX6_clique_38 (by decide) ?_
          refine g_goto C 43 dX6_clique_39 (by decide) ?_
          refine g_istore4 C dX6_clique_43 ?_
          refine g_iconst C (nI 0) dX6_clique_45 (by decide) ?_
          refine g_istore5 C dX6_clique_46 ?_
          refine g_set (L' := [some (.ref 56), some (.int (nI j)), some (.int (nI (zCl S.1 k))), some (.int (nI k)), some (.int (nI (zCp S.1 k (0)).toNat)), some (.int (nI 0))]) rfl (by rw [show zCp S.1 k 0 = true from zCp_iff.mpr ⟨by omega, fun q hq => by omega⟩]; rfl) rfl ?_
          refine H48a j k (by omega) ?_
          refine g_iload4 C dX6_clique_107 ?_
          refine g_if_eqB C 116 dX6_clique_109 (by decide) (fun h109 => ?_) (fun h109 => ?_)
          · -- X6_clique 109t
            
            refine g_iload2 C dX6_clique_116 ?_
            refine g_istore2 C dX6_clique_117 ?_
            refine g_set (L' := [some (.ref 56), some (.int (nI j)), some (.int (nI (zCl S.1 (k + 1)))), some (.int (nI k)), some (.int (nI (zCp S.1 k (cN S.1)).toNat)), some (.int (nI (cN S.1)))]) rfl (by rw [show zCl S.1 (k + 1) = zCl S.1 k from if_neg (fun e => zCp_f h109 ⟨e.1, of_decide_eq_true e.2⟩)]) rfl ?_
            refine g_iinc3N C dX6_clique_118 ?_
            refine g_goto C 15 dX6_clique_121 (by decide) ?_
            exact ih j (k + 1) _ _ hj hr (by omega) (by omega)
          · -- X6_clique 109f
            
            refine g_iload3 C dX6_clique_112 ?_
            refine g_goto C 117 dX6_clique_113 (by decide) ?_
            refine g_istore2 C dX6_clique_117 ?_
            refine g_set (L' := [some (.ref 56), some (.int (nI j)), some (.int (nI (zCl S.1 (k + 1)))), some (.int (nI k)), some (.int (nI (zCp S.1 k (cN S.1)).toNat)), some (.int (nI (cN S.1)))]) rfl (by rw [show zCl S.1 (k + 1) = k from if_pos ⟨(zCp_iff.mp h109).1, decide_eq_true (zCp_iff.mp h109).2⟩]) rfl ?_
            refine g_iinc3N C dX6_clique_118 ?_
            refine g_goto C 15 dX6_clique_121 (by decide) ?_
            exact ih j (k + 1) _ _ hj hr (by omega) (by omega)
  refine g_iload1 C dX6_clique_0 ?_
  refine g_iconst C (nI 0) dX6_clique_1 (by decide) ?_
  refine g_iconst C (nI 1) dX6_clique_2 (by decide) ?_
  refine g_callS3i C dX6_clique_3 slX6_52 (n_in) hKd (by first | decide | omega) rfl (Nat.le_of_ble_eq_true rfl) ?_
  rintro _ _ ⟨rfl, rfl⟩
  rw [zIn_ix (n := 2) (by decide) (by decide)]
  refine g_if_neB C 11 dX6_clique_6 (by decide) (fun h6 => ?_) (fun h6 => ?_)
  · -- X6_clique 6t
    obtain ⟨j, hz⟩ := zsome_t h6
    obtain ⟨hj, hw⟩ := zIdx_iff hz
    have hr : a_clique S w = (if j = 0 then nI (zp8 (zCl S.1 (1 <<< cN S.1))) else nI (zCl S.1 (1 <<< cN S.1))) := by
      unfold a_clique
      rw [hz, show zAll (cN S.1) + 1 = 1 <<< cN S.1 by have := zs_pos (cN S.1); unfold zAll; omega]
    rw [hw]
    refine g_iconst C (nI 0) dX6_clique_11 (by decide) ?_
    refine g_istore2 C dX6_clique_12 ?_
    refine g_iconst C (nI 0) dX6_clique_13 (by decide) ?_
    refine g_istore3 C dX6_clique_14 ?_
    exact H15 (1 <<< cN S.1 + 1) j 0 _ _ hj hr (Nat.zero_le _) (Nat.lt_succ_of_le (Nat.sub_le _ _))
  · -- X6_clique 6f
    have hz := zsome_f h6
    have hr : a_clique S w = -1 := by unfold a_clique; rw [hz]
    refine g_iconst C (-1) dX6_clique_9 (by decide) ?_
    exact g_reti M dX6_clique_10 (by rw [hr]; exact zOutM.same hR)
