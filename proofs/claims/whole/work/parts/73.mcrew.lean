/-! the reference: crew() -/
set_option maxRecDepth 100000 in
set_option maxHeartbeats 4000000 in
theorem q_crew {Γ : zG} {c : Nat → Nat → Int32} {t : Nat → Int64} {S : zAb} (hS : OkS S) (hR : RepM c t S)  : Sp Γ 7 mX6_crew [.ref 56] 0 0 (wF c t) (z_pi (zOutM c t ((a_crew S).1) ((a_crew S).2))) := by
  refine Sp.of (own := RX6) 0 false rfl (by decide +kernel) rfl rfl (fun h => by cases h) (fun K hKd M => ?_)
  have C := M.1
  show GG Γ K 0 0 (wF c t) 0 [some (.ref 56)] []
  have hX : TmC c S.2.2.2.2.1.1 S.2.2.2.2.1.2 := ⟨hR.2.2.2.2.1.1, hS.2.2.2.2.2.1, hR.2.2.2.2.1.2, hS.2.2.2.2.2.2⟩
  have hb2 := zRun_ok (f := S.2.2.2.2.1.2) hS.2.2.2.2.2.1 201 0 0 zD0 (Nat.zero_le _) (Nat.le_refl _) OkD0
  refine g_aload0 C dX6_crew_0 ?_
  refine g_callV0i C dX6_crew_1 vlX6_45 (n_reads hX) hKd (by first | decide | omega) rfl (Nat.le_of_ble_eq_true rfl) (show 56 < 68 by decide) rfl ?_
  rintro _ _ ⟨c1, rfl, hF1, rfl, hDr, hNo⟩
  refine g_if_neB C 15 dX6_crew_4 (by decide) (fun h4 => ?_) (fun h4 => ?_)
  · -- X6_crew 4t
    have hDr := hDr h4
    have hr : a_crew S = (nI (zPr S).2.1, ((zPr S).2.2.1, zY0, [], (none, none), (0, S.2.2.2.2.1.2), S.2.2.2.2.2)) := by unfold a_crew; rw [if_pos (show (zPr S).1 = true from h4)]
    refine g_aload0 C dX6_crew_15 ?_
    refine g_callV0v C dX6_crew_16 vlX6_49 (n_tells hDr hb2.2) hKd (by first | decide | omega) rfl (Nat.le_of_ble_eq_true rfl) (show 56 < 68 by decide) rfl ?_
    rintro _ ⟨c2, rfl, hTo, h3, hRo, h7, hke, hsa, hs56⟩
    refine g_aload0 C dX6_crew_19 ?_
    refine g_iconst C (nI 0) dX6_crew_20 (by decide) ?_
    refine g_putI C dX6_crew_21 fpX6_56 (show 56 < 68 by decide) rfl rfl rfl rfl ?_
    refine g_aload0 C dX6_crew_24 ?_
    refine g_getRT C dX6_crew_25 flX6_13 (show 56 < 68 by decide) rfl rfl (by decide) ?_
    refine g_iconst C (nI 3) dX6_crew_28 (by decide) ?_
    refine g_ialdE C ((up_k (by decide) _).trans h3) (by omega) (by decide) dX6_crew_29 (show 58 < 68 by decide) rfl ?_
    exact g_reti M dX6_crew_30 (by rw [hr]; exact zOutM.mk' rfl ⟨by rw [up_K (by decide)]; exact hTo, by rw [up_K (by decide)]; exact hRo, ⟨(up_j _ (by decide)).trans h7, fun i M h => by cases h⟩, fun j hj => ⟨by rw [up_k (by decide), hke j hj]; rcases (show j = 0 ∨ j = 1 by omega) with rfl | rfl <;> rfl, fun M h => by rcases (show j = 0 ∨ j = 1 by omega) with rfl | rfl <;> cases h⟩, ⟨up_s _ _ _ _, fun i hi => absurd hi (Nat.not_lt_zero i)⟩, hR.2.2.2.2.2⟩ (fun a ha => by rw [up_K (by omega), hsa a (by omega) (by omega) (by omega) (by omega), hF1.1 a (by omega) (by omega)]) (fun _ _ => rfl))
  · -- X6_crew 4f
    have hNo := hNo h4
    have hr : a_crew S = (-10 - nI (zPr S).2.1, S) := by unfold a_crew; rw [if_neg (by show ¬ (zPr S).1 = true; rw [show (zPr S).1 = false from h4]; exact Bool.false_ne_true)]
    refine g_bipush C (-10) dX6_crew_7 (by decide) ?_
    refine g_aload0 C dX6_crew_9 ?_
    refine g_getIE C hNo dX6_crew_10 flX6_67 (show 56 < 68 by decide) rfl rfl ?_
    refine g_isub C dX6_crew_13 ?_
    exact g_reti M dX6_crew_14 (by rw [hr]; exact zOutM.mk' rfl (hR.irr (fun a h1 h2 h3 => hF1.1 a (by omega) h3) (hF1.2 2 (by decide) (by decide) (by decide) (by decide)) (hF1.2 7 (by decide) (by decide) (by decide) (by decide)) rfl) (fun a ha => hF1.1 a (by omega) (by omega)) (fun _ _ => rfl))
