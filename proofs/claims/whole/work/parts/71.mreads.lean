/-! the reference: the whole text read -/
theorem zIt_inl {f : Nat → Nat} {len p e : Nat} {D : zDr} (h : zIq f len (zTok f len p).2.2 (zTok f len p).1 (zTok f len p).2.1 D = .inl e) {n it : Nat} (hc : (zTok f len p).2.2 ≠ 1000) : zRun f len (n + 1) p it D = (false, e, D) := by
  obtain ⟨h1, h2⟩ := (zIt_q f len p D).1 e h
  show (if _ then _ else _) = _
  rw [if_neg hc, if_neg (by rw [h1]; decide), h2]
theorem zIt_no {f : Nat → Nat} {len p : Nat} {r : Nat × zDr} {D : zDr} (h : zIq f len (zTok f len p).2.2 (zTok f len p).1 (zTok f len p).2.1 D = .inr r) {n it : Nat} (hc : (zTok f len p).2.2 ≠ 1000) (h7 : (zTok f len r.1).2.2 ≠ 187) : zRun f len (n + 1) p it D = (false, (zTok f len r.1).1, D) := by
  have h1 := (zIt_q f len p D).2 r h
  show (if _ then _ else _) = _
  rw [if_neg hc, h1]
  unfold zSemi
  rw [if_neg (by rw [decide_eq_false h7]; exact Bool.false_ne_true)]
theorem zIt_yes {f : Nat → Nat} {len p : Nat} {r : Nat × zDr} {D : zDr} (h : zIq f len (zTok f len p).2.2 (zTok f len p).1 (zTok f len p).2.1 D = .inr r) {n it : Nat} (hc : (zTok f len p).2.2 ≠ 1000) (h7 : (zTok f len r.1).2.2 = 187) : zRun f len (n + 1) p it D = zRun f len n (zTok f len r.1).2.1 (it + 1) r.2 ∧ zIt f len p D = (true, (zTok f len r.1).1, (zTok f len r.1).2.1, r.2) := by
  have h1 := (zIt_q f len p D).2 r h
  have h2 : zIt f len p D = (true, (zTok f len r.1).1, (zTok f len r.1).2.1, r.2) := by rw [h1]; unfold zSemi; rw [decide_eq_true h7]
  refine ⟨?_, h2⟩
  show (if _ then _ else _) = _
  rw [if_neg hc, h2, if_pos rfl]
theorem DrM.it {c : Nat → Nat → Int32} {D : zDr} {it it' : Nat} (h : DrM (c 59) D it) : DrM (z_up c 59 3 (nI it') 59) D it' := by
  obtain ⟨a0, a1, a2, a3, a4, a5, a6, a7⟩ := h
  exact ⟨(up_j _ (by decide)).trans a0, (up_j _ (by decide)).trans a1, (up_j _ (by decide)).trans a2, up_s _ _ _ _, (up_j _ (by decide)).trans a4, fun i hi => (up_j _ (by omega)).trans (a5 i hi), fun i hi => (up_j _ (by omega)).trans (a6 i hi), fun i hi => (up_j _ (by omega)).trans (a7 i hi)⟩
set_option maxRecDepth 100000 in
set_option maxHeartbeats 4000000 in
theorem n_reads {Γ : zG} {c : Nat → Nat → Int32} {t : Nat → Int64} {len : Nat} {f : Nat → Nat} (hX : TmC c len f)  : Sp Γ 6 mX6_reads [.ref 56] 0 0 (wF c t) (z_pi (fun v w => ∃ c', w = wF c' t ∧ FrR c c' ∧ v = nI (zRun f len 201 0 0 zD0).1.toNat ∧ ((zRun f len 201 0 0 zD0).1 = true → DrM (c' 59) (zRun f len 201 0 0 zD0).2.2 (zRun f len 201 0 0 zD0).2.1) ∧ ((zRun f len 201 0 0 zD0).1 = false → c' 56 12 = nI (zRun f len 201 0 0 zD0).2.1))) := by
  refine Sp.of (own := RX6) 1 false rfl (by decide +kernel) rfl rfl (fun h => by cases h) (fun K hKd M => ?_)
  have C := M.1
  show GG Γ K 0 0 (wF c t) 0 [some (.ref 56), none] []
  have hl := hX.2.1
  have H45 : ∀ (n p it : Nat) (D : zDr) (c' : Nat → Nat → Int32) (x : Option Value), zRun f len n p it D = zRun f len 201 0 0 zD0 → len - p < n → p ≤ len → FrR c c' → c' 56 10 = nI (zTok f len p).2.1 → c' 56 12 = nI (zTok f len p).1 → zTC (zTok f len p).2.2 (c' 56 11) (c' 56 13) → DrM (c' 59) D it → OkD D → GG Γ K 0 0 (wF c' t) 45 [some (.ref 56), x] [] := by
    intro n
    induction n with
    | zero => intro p it D c' x hR hn; exact absurd hn (by omega)
    | succ n ih =>
      intro p it D c' x hR hn hp hF h10 h12 hC hD hOk
      have hp1 := zTok_pos f hp
      have hX1 := hX.frr hF
      refine g_aload0 C dX6_reads_45 ?_
      refine g_getIT C dX6_reads_46 flX6_74 (show 56 < 68 by decide) rfl rfl ?_
      refine g_if_eq C 92 dX6_reads_49 (by decide) (fun h49 => ?_) (fun h49 => ?_)
      · -- X6_reads 49t
        have hc := (zTC_0 hC).mp h49
        have hV : zRun f len (n + 1) p it D = (true, it, D) := if_pos hc
        refine g_iconst C (nI 1) dX6_reads_92 (by decide) ?_
        exact g_ret1 M dX6_reads_93 (⟨c', rfl, hF, by rw [← hR, hV]; rfl, fun _ => by rw [← hR, hV]; exact hD, fun e => by (rw [← hR, hV] at e; cases e)⟩)
      · -- X6_reads 49f
        have hc : (zTok f len p).2.2 ≠ 1000 := fun e => h49 ((zTC_0 hC).mpr e)
        refine g_aload0 C dX6_reads_52 ?_
        refine g_callV0i C dX6_reads_53 vlX6_89 (n_readsItem hX1 (show (zTok f len p).2.1 ≤ len by omega) h10 h12 hC hD hOk) hKd (by first | decide | omega) rfl (Nat.le_of_ble_eq_true rfl) (show 56 < 68 by decide) rfl ?_
        rintro v w' ⟨c2, rfl, hF2, hE, hRr⟩
        rcases hq : zIq f len (zTok f len p).2.2 (zTok f len p).1 (zTok f len p).2.1 D with e | r
        · obtain ⟨rfl, he⟩ := hE e hq
          have hV := zIt_inl (n := n) (it := it) hq hc
          refine g_if_neN C 61 (by omega) dX6_reads_56 (by decide) (fun h56 => absurd h56 (by decide)) (fun h56 => ?_)
          refine g_iconst C (nI 0) dX6_reads_59 (by decide) ?_
          exact g_ret0 M dX6_reads_60 (⟨c2, rfl, hF.tr hF2, by rw [← hR, hV]; rfl, fun e => by (rw [← hR, hV] at e; cases e), fun _ => by rw [← hR, hV]; exact he⟩)
        · obtain ⟨rfl, b10, hrl, hD2⟩ := hRr r hq
          have hX2 := hX1.frr hF2
          refine g_if_neN C 61 (by omega) dX6_reads_56 (by decide) (fun h56 => ?_) (fun h56 => absurd h56 (by decide))
          refine g_aload0 C dX6_reads_61 ?_
          refine g_callV0v C dX6_reads_62 vlX6_80 (n_token hX2 hrl b10) hKd (by first | decide | omega) rfl (Nat.le_of_ble_eq_true rfl) (show 56 < 68 by decide) rfl ?_
          rintro _ ⟨c3, rfl, hF3, g10, g12, gTC⟩
          refine g_aload0 C dX6_reads_65 ?_
          refine g_getIT C dX6_reads_66 flX6_74 (show 56 < 68 by decide) rfl rfl ?_
          refine g_iconst C (nI 3) dX6_reads_69 (by decide) ?_
          refine g_icmp_eq C 75 dX6_reads_70 (by decide) (fun h70 => ?_) (fun h70 => ?_)
          · -- X6_reads 70t
            have h7 := (zTC_3 gTC).mp h70
            have hV := zIt_yes (n := n) (it := it) hq hc h7
            have hok := zIt_ok hp hOk (by rw [hV.2])
            rw [hV.2] at hok
            have hok1 : p + 2 ≤ (zTok f len r.1).2.1 := hok.1
            have hD3 : DrM (c3 59) r.2 it := by rw [hF3.1 59 (by decide)]; exact hD2
            have hp3 := zTok_pos f hrl
            refine g_aload0 C dX6_reads_75 ?_
            refine g_getRT C dX6_reads_76 flX6_16 (show 56 < 68 by decide) rfl rfl (by decide) ?_
            refine g_iconst C (nI 3) dX6_reads_79 (by decide) ?_
            refine g_dup2 C dX6_reads_80 rfl rfl ?_
            refine g_ialdE C hD3.2.2.2.1 (by omega) (by decide) dX6_reads_81 (show 59 < 68 by decide) rfl ?_
            refine g_iconst C (nI 1) dX6_reads_82 (by decide) ?_
            refine g_iaddN C dX6_reads_83 ?_
            refine g_iastN C (by omega) (by decide) dX6_reads_84 (show 59 < 68 by decide) rfl ?_
            refine g_aload0 C dX6_reads_85 ?_
            refine g_callV0v C dX6_reads_86 vlX6_80 (n_token (hX2.frr (hF3.r.tr FrR.u59)) (p := (zTok f len r.1).2.1) (by omega) ((up_k (by decide) _).trans g10)) hKd (by first | decide | omega) rfl (Nat.le_of_ble_eq_true rfl) (show 56 < 68 by decide) rfl ?_
            rintro _ ⟨c4, rfl, hF4, k10, k12, kTC⟩
            refine g_goto C 45 dX6_reads_89 (by decide) ?_
            exact ih _ (it + 1) r.2 c4 _ (hV.1.symm.trans hR) (by omega) (by omega) ((((hF.tr hF2).tr hF3.r).tr FrR.u59).tr hF4.r) k10 k12 kTC (by rw [hF4.1 59 (by decide)]; exact hD3.it) hok.2.2
          · -- X6_reads 70f
            have hV := zIt_no (n := n) (it := it) hq hc (fun e => h70 ((zTC_3 gTC).mpr e))
            refine g_iconst C (nI 0) dX6_reads_73 (by decide) ?_
            exact g_ret0 M dX6_reads_74 (⟨c3, rfl, ((hF.tr hF2).tr hF3.r), by rw [← hR, hV]; rfl, fun e => by (rw [← hR, hV] at e; cases e), fun _ => by rw [← hR, hV]; exact g12⟩)
        --
  have H2 : ∀ (n : Nat) (k : Nat), k ≤ 26 → 26 - k < n → GG Γ K 0 0 (wF (z_fill c 59 k (nI 0)) t) 2 [some (.ref 56), some (.int (nI k))] [] := by
    intro n
    induction n with
    | zero => intro k hk hn; exact absurd hn (by omega)
    | succ n ih =>
      intro k hk hn
      refine g_iload1 C dX6_reads_2 ?_
      refine g_bipush C (nI 26) dX6_reads_3 (by decide) ?_
      refine g_icmp_geN C 21 (by omega) (by omega) dX6_reads_5 (by decide) (fun h5 => ?_) (fun h5 => ?_)
      · -- X6_reads 5t
        obtain rfl : k = 26 := by omega
        have hz : ∀ b, b < 26 → z_fill c 59 26 (nI 0) 59 b = nI 0 := fun b hb => z_fill_i hb
        refine g_aload0 C dX6_reads_21 ?_
        refine g_getRT C dX6_reads_22 flX6_16 (show 56 < 68 by decide) rfl rfl (by decide) ?_
        refine g_iconst C (nI 1) dX6_reads_25 (by decide) ?_
        refine g_iconst C (nI 3) dX6_reads_26 (by decide) ?_
        refine g_iastN C (by omega) (by decide) dX6_reads_27 (show 59 < 68 by decide) rfl ?_
        refine g_aload0 C dX6_reads_28 ?_
        refine g_getRT C dX6_reads_29 flX6_16 (show 56 < 68 by decide) rfl rfl (by decide) ?_
        refine g_iconst C (nI 2) dX6_reads_32 (by decide) ?_
        refine g_bipush C (nI 8) dX6_reads_33 (by decide) ?_
        refine g_iastN C (by omega) (by decide) dX6_reads_35 (show 59 < 68 by decide) rfl ?_
        refine g_aload0 C dX6_reads_36 ?_
        refine g_iconst C (nI 0) dX6_reads_37 (by decide) ?_
        refine g_putI C dX6_reads_38 fpX6_60 (show 56 < 68 by decide) rfl rfl rfl rfl ?_
        refine g_aload0 C dX6_reads_41 ?_
        refine g_callV0v C dX6_reads_42 vlX6_80 (n_token (c := z_up (z_up (z_up (z_fill c 59 26 (nI 0)) 59 1 (nI 3)) 59 2 (nI 8)) 56 10 (nI 0)) (hX.frr ⟨fun a h1 h2 => by rw [up_K h1, up_K h2, up_K h2, z_fill_k h2], fun b h1 h2 h3 h4 => by rw [up_j _ h1, up_k (by decide), up_k (by decide), z_fill_k (by decide)]⟩) (Nat.zero_le _) (up_s _ _ _ _)) hKd (by first | decide | omega) rfl (Nat.le_of_ble_eq_true rfl) (show 56 < 68 by decide) rfl ?_
        rintro _ ⟨c1, rfl, hF1, g10, g12, gTC⟩
        refine H45 201 0 0 zD0 c1 _ rfl (by omega) (Nat.zero_le _) ((FrR.tr ⟨fun a h1 h2 => by rw [up_K h1, up_K h2, up_K h2, z_fill_k h2], fun b h1 h2 h3 h4 => by rw [up_j _ h1, up_k (by decide), up_k (by decide), z_fill_k (by decide)]⟩ hF1.r)) g10 g12 gTC ?_ OkD0
        rw [hF1.1 59 (by decide), up_K (by decide)]
        exact ⟨by rw [up_j _ (by decide), up_j _ (by decide)]; exact hz 0 (by decide), by rw [up_j _ (by decide)]; exact up_s _ _ _ _, up_s _ _ _ _, by rw [up_j _ (by decide), up_j _ (by decide)]; exact hz 3 (by decide), by rw [up_j _ (by decide), up_j _ (by decide)]; exact hz 4 (by decide), fun i hi => absurd hi (Nat.not_lt_zero i), fun i hi => absurd hi (Nat.not_lt_zero i), fun i hi => absurd hi (Nat.not_lt_zero i)⟩
      · -- X6_reads 5f
        
        refine g_aload0 C dX6_reads_8 ?_
        refine g_getRT C dX6_reads_9 flX6_16 (show 56 < 68 by decide) rfl rfl (by decide) ?_
        refine g_iload1 C dX6_reads_12 ?_
        refine g_iconst C (nI 0) dX6_reads_13 (by decide) ?_
        refine g_iastN C (by omega) (by decide) dX6_reads_14 (show 59 < 68 by decide) rfl ?_
        refine g_con (z_fill_s _ _ _ _) rfl ?_
        refine g_iinc1N C dX6_reads_15 ?_
        refine g_goto C 2 dX6_reads_18 (by decide) ?_
        exact ih (k + 1) (by omega) (by omega)
  refine g_iconst C (nI 0) dX6_reads_0 (by decide) ?_
  refine g_istore1 C dX6_reads_1 ?_
  refine g_con (z_fill_0 c 59 (nI 0)).symm rfl ?_
  exact H2 27 0 (Nat.zero_le _) (by omega)
