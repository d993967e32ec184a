/-! the class: its public calls, second part -/
theorem zCrewRep {c c1 c2 : Nat → Nat → Int32} {t : Nat → Int64} {S : zAb} {B : zCr} (hR : RepC c t S) (htf : zTF c c1) (hc3 : CrC 3 c2 B) (fr2 : ∀ a, (a < 3 ∨ 6 < a) → c2 a = c1 a) : RepC (z_up (z_up (z_up (z_up (z_fill (z_fill (z_up c2 1 1 (nI 0)) (11 + 1) 8 (-9)) (11 + 2) 8 (nI 0)) 11 2 (nI 0)) 11 3 (nI 0)) 14 2 (nI 0)) 0 7 (nI 0)) t (B, zY0, [], (none, none), (0, S.2.2.2.2.1.2), S.2.2.2.2.2) := by
  refine ⟨hc3.eq ?_ ?_ ?_ ?_, ⟨?_, ?_, fun k hk => ?_, fun k hk => ?_⟩, ?_, ⟨by rw [up_s]; exact congrArg nI (show 0 = zKm (none, none) by decide), fun M h => (by cases h), fun M h => (by cases h)⟩, ⟨?_, fun i hi => absurd hi (Nat.not_lt_zero i)⟩, hR.2.2.2.2.2⟩
  · rw [up_K (by decide), up_K (by decide), up_K (by decide), up_K (by decide), z_fill_k (by decide), z_fill_k (by decide), up_K (by decide)]
  · rw [up_K (by decide), up_K (by decide), up_K (by decide), up_K (by decide), z_fill_k (by decide), z_fill_k (by decide), up_K (by decide)]
  · rw [up_K (by decide), up_K (by decide), up_K (by decide), up_K (by decide), z_fill_k (by decide), z_fill_k (by decide), up_K (by decide)]
  · rw [up_K (by decide), up_K (by decide), up_K (by decide), up_K (by decide), z_fill_k (by decide), z_fill_k (by decide), up_K (by decide)]
  · rw [up_k (by decide), up_k (by decide), up_j _ (by decide), up_s]; rfl
  · rw [up_k (by decide), up_k (by decide), up_s]; rfl
  · rw [up_k (by decide), up_k (by decide), up_k (by decide), up_k (by decide), z_fill_k (by decide), z_fill_i hk]; rfl
  · rw [up_k (by decide), up_k (by decide), up_k (by decide), up_k (by decide), z_fill_i hk]; rfl
  · obtain ⟨nx, h1, h2, -⟩ := hR.2.2.1
    refine ⟨nx, h1, ?_, ?_, fun i M h => by cases h⟩
    · rw [up_k (by decide), up_j _ (by decide), up_k (by decide), up_k (by decide), z_fill_k (by decide), z_fill_k (by decide), up_k (by decide), fr2 14 (by decide), htf.1 14 (by decide) (by decide)]; exact h2
    · rw [up_k (by decide), up_s]; rfl
  · rw [up_k (by decide), up_k (by decide), up_k (by decide), up_k (by decide), z_fill_k (by decide), z_fill_k (by decide), up_s]
set_option maxRecDepth 100000 in
set_option maxHeartbeats 4000000 in
theorem p_orders {Γ : zG} {c : Nat → Nat → Int32} {t : Nat → Int64} {S : zAb} (hS : OkS S) (hR : RepC c t S)  : Sp Γ 12 mX5_orders [.ref 0] 0 0 (wF c t) (z_pi (zOutC c t (nI (zO0 S).length) (S))) := by
  refine Sp.of (own := RX5) 0 false rfl (by decide +kernel) rfl rfl (fun h => by cases h) (fun K hKd M => ?_)
  have C := M.1
  show GG Γ K 0 0 (wF c t) 0 [some (.ref 0)] []
  refine g_aload0 C dX5_orders_0 ?_
  refine g_getRT C dX5_orders_1 flX5_49 (show 0 < 68 by decide) rfl rfl (by decide) ?_
  refine g_aload0 C dX5_orders_4 ?_
  refine g_getRT C dX5_orders_5 flX5_19 (show 0 < 68 by decide) rfl rfl (by decide) ?_
  refine g_aload0 C dX5_orders_8 ?_
  refine g_getRT C dX5_orders_9 flX5_29 (show 0 < 68 by decide) rfl rfl (by decide) ?_
  refine g_bipush C (-9) dX5_orders_12 (by decide) ?_
  refine g_callV3v C dX5_orders_14 vlX5_157 (s_find hS.1 hR.1 hR.2.1 hS.2.1 (x := -9)) hKd (by first | decide | omega) rfl (Nat.le_of_ble_eq_true rfl) (show 52 < 68 by decide) rfl ?_
  rintro _ ⟨c1, rfl, hO, h4, fr⟩
  rw [zThX_none _ 8 (Nat.le_refl 8)] at hO h4
  have hQ : zQ c1 (zO0 S) (zT0 S) := zQ_of hO h4 hS.t
  have hR1 : RepC c1 t S := hR.irr (fun a _ _ h => fr a (by omega) (by omega) (by omega)) rfl
  have hfr : ∀ a, 56 ≤ a → c1 a = c a := fun a ha => fr a (by omega) (by omega) (by omega)
  refine g_aload0 C dX5_orders_17 ?_
  refine g_getRT C dX5_orders_18 flX5_49 (show 0 < 68 by decide) rfl rfl (by decide) ?_
  refine g_getIE C hQ.len dX5_orders_21 flX5_161 (show 52 < 68 by decide) rfl rfl ?_
  exact g_reti M dX5_orders_24 (⟨rfl, _, t, rfl, hR1, hfr, fun _ _ => rfl⟩)
set_option maxRecDepth 100000 in
set_option maxHeartbeats 4000000 in
theorem p_first {Γ : zG} {c : Nat → Nat → Int32} {t : Nat → Int64} {S : zAb} (hS : OkS S) (hR : RepC c t S)  : Sp Γ 12 mX5_first [.ref 0] 0 0 (wF c t) (z_pi (zOutC c t (a_first S) (S))) := by
  refine Sp.of (own := RX5) 0 false rfl (by decide +kernel) rfl rfl (fun h => by cases h) (fun K hKd M => ?_)
  have C := M.1
  show GG Γ K 0 0 (wF c t) 0 [some (.ref 0)] []
  refine g_aload0 C dX5_first_0 ?_
  refine g_getRT C dX5_first_1 flX5_49 (show 0 < 68 by decide) rfl rfl (by decide) ?_
  refine g_aload0 C dX5_first_4 ?_
  refine g_getRT C dX5_first_5 flX5_19 (show 0 < 68 by decide) rfl rfl (by decide) ?_
  refine g_aload0 C dX5_first_8 ?_
  refine g_getRT C dX5_first_9 flX5_29 (show 0 < 68 by decide) rfl rfl (by decide) ?_
  refine g_bipush C (-9) dX5_first_12 (by decide) ?_
  refine g_callV3v C dX5_first_14 vlX5_157 (s_find hS.1 hR.1 hR.2.1 hS.2.1 (x := -9)) hKd (by first | decide | omega) rfl (Nat.le_of_ble_eq_true rfl) (show 52 < 68 by decide) rfl ?_
  rintro _ ⟨c1, rfl, hO, h4, fr⟩
  rw [zThX_none _ 8 (Nat.le_refl 8)] at hO h4
  have hQ : zQ c1 (zO0 S) (zT0 S) := zQ_of hO h4 hS.t
  have hR1 : RepC c1 t S := hR.irr (fun a _ _ h => fr a (by omega) (by omega) (by omega)) rfl
  have hfr : ∀ a, 56 ≤ a → c1 a = c a := fun a ha => fr a (by omega) (by omega) (by omega)
  refine g_aload0 C dX5_first_17 ?_
  refine g_getRT C dX5_first_18 flX5_49 (show 0 < 68 by decide) rfl rfl (by decide) ?_
  refine g_callV0i C dX5_first_21 vlX5_162 (s_firsts hQ) hKd (by first | decide | omega) rfl (Nat.le_of_ble_eq_true rfl) (show 52 < 68 by decide) rfl ?_
  rintro _ _ ⟨rfl, rfl⟩
  exact g_reti M dX5_first_24 (⟨rfl, _, t, rfl, hR1, hfr, fun _ _ => rfl⟩)
set_option maxRecDepth 100000 in
set_option maxHeartbeats 4000000 in
theorem p_hang {Γ : zG} {c : Nat → Nat → Int32} {t : Nat → Int64} {S : zAb} (hS : OkS S) (hR : RepC c t S)  : Sp Γ 12 mX5_hang [.ref 0] 0 0 (wF c t) (z_pi (zOutC c t (a_hang S) (S))) := by
  refine Sp.of (own := RX5) 0 false rfl (by decide +kernel) rfl rfl (fun h => by cases h) (fun K hKd M => ?_)
  have C := M.1
  show GG Γ K 0 0 (wF c t) 0 [some (.ref 0)] []
  refine g_aload0 C dX5_hang_0 ?_
  refine g_getRT C dX5_hang_1 flX5_49 (show 0 < 68 by decide) rfl rfl (by decide) ?_
  refine g_aload0 C dX5_hang_4 ?_
  refine g_getRT C dX5_hang_5 flX5_19 (show 0 < 68 by decide) rfl rfl (by decide) ?_
  refine g_aload0 C dX5_hang_8 ?_
  refine g_getRT C dX5_hang_9 flX5_29 (show 0 < 68 by decide) rfl rfl (by decide) ?_
  refine g_bipush C (-9) dX5_hang_12 (by decide) ?_
  refine g_callV3v C dX5_hang_14 vlX5_157 (s_find hS.1 hR.1 hR.2.1 hS.2.1 (x := -9)) hKd (by first | decide | omega) rfl (Nat.le_of_ble_eq_true rfl) (show 52 < 68 by decide) rfl ?_
  rintro _ ⟨c1, rfl, hO, h4, fr⟩
  rw [zThX_none _ 8 (Nat.le_refl 8)] at hO h4
  have hQ : zQ c1 (zO0 S) (zT0 S) := zQ_of hO h4 hS.t
  have hR1 : RepC c1 t S := hR.irr (fun a _ _ h => fr a (by omega) (by omega) (by omega)) rfl
  have hfr : ∀ a, 56 ≤ a → c1 a = c a := fun a ha => fr a (by omega) (by omega) (by omega)
  refine g_aload0 C dX5_hang_17 ?_
  refine g_getRT C dX5_hang_18 flX5_49 (show 0 < 68 by decide) rfl rfl (by decide) ?_
  refine g_callV0i C dX5_hang_21 vlX5_190 (s_likeliest hQ) hKd (by first | decide | omega) rfl (Nat.le_of_ble_eq_true rfl) (show 52 < 68 by decide) rfl ?_
  rintro _ _ ⟨rfl, rfl⟩
  exact g_reti M dX5_hang_24 (⟨rfl, _, t, rfl, hR1, hfr, fun _ _ => rfl⟩)
set_option maxRecDepth 100000 in
set_option maxHeartbeats 4000000 in
theorem p_ask {Γ : zG} {c : Nat → Nat → Int32} {t : Nat → Int64} {S : zAb} (hS : OkS S) (hR : RepC c t S)  : Sp Γ 12 mX5_ask [.ref 0] 0 0 (wF c t) (z_pi (zOutC c t (a_ask S) (S))) := by
  refine Sp.of (own := RX5) 0 false rfl (by decide +kernel) rfl rfl (fun h => by cases h) (fun K hKd M => ?_)
  have C := M.1
  show GG Γ K 0 0 (wF c t) 0 [some (.ref 0)] []
  refine g_aload0 C dX5_ask_0 ?_
  refine g_getRT C dX5_ask_1 flX5_49 (show 0 < 68 by decide) rfl rfl (by decide) ?_
  refine g_aload0 C dX5_ask_4 ?_
  refine g_getRT C dX5_ask_5 flX5_19 (show 0 < 68 by decide) rfl rfl (by decide) ?_
  refine g_aload0 C dX5_ask_8 ?_
  refine g_getRT C dX5_ask_9 flX5_29 (show 0 < 68 by decide) rfl rfl (by decide) ?_
  refine g_bipush C (-9) dX5_ask_12 (by decide) ?_
  refine g_callV3v C dX5_ask_14 vlX5_157 (s_find hS.1 hR.1 hR.2.1 hS.2.1 (x := -9)) hKd (by first | decide | omega) rfl (Nat.le_of_ble_eq_true rfl) (show 52 < 68 by decide) rfl ?_
  rintro _ ⟨c1, rfl, hO, h4, fr⟩
  rw [zThX_none _ 8 (Nat.le_refl 8)] at hO h4
  have hQ : zQ c1 (zO0 S) (zT0 S) := zQ_of hO h4 hS.t
  have hR1 : RepC c1 t S := hR.irr (fun a _ _ h => fr a (by omega) (by omega) (by omega)) rfl
  have hfr : ∀ a, 56 ≤ a → c1 a = c a := fun a ha => fr a (by omega) (by omega) (by omega)
  refine g_aload0 C dX5_ask_17 ?_
  refine g_getRT C dX5_ask_18 flX5_49 (show 0 < 68 by decide) rfl rfl (by decide) ?_
  refine g_callV0i C dX5_ask_21 vlX5_187 (s_few hQ) hKd (by first | decide | omega) rfl (Nat.le_of_ble_eq_true rfl) (show 52 < 68 by decide) rfl ?_
  rintro _ _ ⟨hv, c2, rfl, fr2⟩
  exact g_reti M dX5_ask_24 (⟨by unfold a_ask; rcases hv with ⟨h0, rfl⟩ | ⟨h0, a, rfl, hb⟩; exact (if_pos h0).symm; rw [if_neg (by omega), zArg_eq hb], c2, t, rfl, hR1.irr (fun a _ _ h => fr2 a (by omega)) rfl, fun a ha => (fr2 a (by omega)).trans (hfr a ha), fun _ _ => rfl⟩)
set_option maxRecDepth 100000 in
set_option maxHeartbeats 4000000 in
theorem p_sure {Γ : zG} {c : Nat → Nat → Int32} {t : Nat → Int64} {S : zAb} (hS : OkS S) (hR : RepC c t S) {s : Int32} : Sp Γ 12 mX5_sure [.ref 0, .int s] 0 0 (wF c t) (z_pi (zOutC c t (a_sure S s) (S))) := by
  refine Sp.of (own := RX5) 0 false rfl (by decide +kernel) rfl rfl (fun h => by cases h) (fun K hKd M => ?_)
  have C := M.1
  show GG Γ K 0 0 (wF c t) 0 [some (.ref 0), some (.int s)] []
  refine g_aload0 C dX5_sure_0 ?_
  refine g_iload1 C dX5_sure_1 ?_
  refine g_callV1i C dX5_sure_2 vlX5_165 (s_isThere hS hR) hKd (by first | decide | omega) rfl (Nat.le_of_ble_eq_true rfl) (show 0 < 68 by decide) rfl ?_
  rintro _ _ ⟨rfl, rfl⟩
  refine g_if_neB C 10 dX5_sure_5 (by decide) (fun h5 => ?_) (fun h5 => ?_)
  · -- X5_sure 5t
    obtain ⟨i, hz⟩ := zsome_t h5
    obtain ⟨hi, rfl, hb⟩ := zTh'_some hz
    have hr : a_sure S (nI i) = nI (zSure (zO0 S) (zT0 S) i) := by unfold a_sure; rw [hz]
    refine g_aload0 C dX5_sure_10 ?_
    refine g_getRT C dX5_sure_11 flX5_49 (show 0 < 68 by decide) rfl rfl (by decide) ?_
    refine g_aload0 C dX5_sure_14 ?_
    refine g_getRT C dX5_sure_15 flX5_19 (show 0 < 68 by decide) rfl rfl (by decide) ?_
    refine g_aload0 C dX5_sure_18 ?_
    refine g_getRT C dX5_sure_19 flX5_29 (show 0 < 68 by decide) rfl rfl (by decide) ?_
    refine g_bipush C (-9) dX5_sure_22 (by decide) ?_
    refine g_callV3v C dX5_sure_24 vlX5_157 (s_find hS.1 hR.1 hR.2.1 hS.2.1 (x := -9)) hKd (by first | decide | omega) rfl (Nat.le_of_ble_eq_true rfl) (show 52 < 68 by decide) rfl ?_
    rintro _ ⟨c1, rfl, hO, h4, fr⟩
    rw [zThX_none _ 8 (Nat.le_refl 8)] at hO h4
    have hQ : zQ c1 (zO0 S) (zT0 S) := zQ_of hO h4 hS.t
    have hR1 : RepC c1 t S := hR.irr (fun a _ _ h => fr a (by omega) (by omega) (by omega)) rfl
    have hfr : ∀ a, 56 ≤ a → c1 a = c a := fun a ha => fr a (by omega) (by omega) (by omega)
    refine g_aload0 C dX5_sure_27 ?_
    refine g_getRT C dX5_sure_28 flX5_49 (show 0 < 68 by decide) rfl rfl (by decide) ?_
    refine g_iload1 C dX5_sure_31 ?_
    refine g_callV1i C dX5_sure_32 vlX5_168 (s_always hQ (by have := hS.1.1; omega)) hKd (by first | decide | omega) rfl (Nat.le_of_ble_eq_true rfl) (show 52 < 68 by decide) rfl ?_
    rintro _ _ ⟨rfl, rfl⟩
    exact g_reti M dX5_sure_35 (⟨hr.symm, _, t, rfl, hR1, hfr, fun _ _ => rfl⟩)
  · -- X5_sure 5f
    have hz := zsome_f h5
    have hr : a_sure S s = -1 := by unfold a_sure; rw [hz]
    refine g_iconst C (-1) dX5_sure_8 (by decide) ?_
    exact g_reti M dX5_sure_9 (by rw [hr]; exact zOutC.same hR)
set_option maxRecDepth 100000 in
set_option maxHeartbeats 4000000 in
theorem p_chance {Γ : zG} {c : Nat → Nat → Int32} {t : Nat → Int64} {S : zAb} (hS : OkS S) (hR : RepC c t S) {s w : Int32} : Sp Γ 12 mX5_chance [.ref 0, .int s, .int w] 0 0 (wF c t) (z_pi (zOutC c t (a_chance S s w) (S))) := by
  refine Sp.of (own := RX5) 0 false rfl (by decide +kernel) rfl rfl (fun h => by cases h) (fun K hKd M => ?_)
  have C := M.1
  show GG Γ K 0 0 (wF c t) 0 [some (.ref 0), some (.int s), some (.int w)] []
  refine g_aload0 C dX5_chance_0 ?_
  refine g_iload1 C dX5_chance_1 ?_
  refine g_callV1i C dX5_chance_2 vlX5_165 (s_isThere hS hR) hKd (by first | decide | omega) rfl (Nat.le_of_ble_eq_true rfl) (show 0 < 68 by decide) rfl ?_
  rintro _ _ ⟨rfl, rfl⟩
  refine g_if_eqB C 15 dX5_chance_5 (by decide) (fun h5 => ?_) (fun h5 => ?_)
  · -- X5_chance 5t
    have hz := zsome_f h5
    have hr : a_chance S s w = -1 := by unfold a_chance; rw [hz]
    refine g_iconst C (-1) dX5_chance_15 (by decide) ?_
    exact g_reti M dX5_chance_16 (by rw [hr]; exact zOutC.same hR)
  · -- X5_chance 5f
    obtain ⟨i, hz⟩ := zsome_t h5
    obtain ⟨hi, rfl, hb⟩ := zTh'_some hz
    refine g_iload2 C dX5_chance_8 ?_
    refine g_callS1i C dX5_chance_9 slX5_171 (s_isPart) hKd (by first | decide | omega) rfl (Nat.le_of_ble_eq_true rfl) ?_
    rintro _ _ ⟨rfl, rfl⟩
    refine g_if_neB C 17 dX5_chance_12 (by decide) (fun h12 => ?_) (fun h12 => ?_)
    · -- X5_chance 12t
      rw [zPart_iff] at h12
      obtain ⟨j, hz2⟩ := zsome_t h12
      obtain ⟨hj, rfl⟩ := zIdx_iff hz2
      have hr : a_chance S (nI i) (nI j) = zFr (zTi (zO0 S) i (zO0 S).length) (max (zO0 S).length 1) j := by unfold a_chance; rw [hz, hz2]
      refine g_aload0 C dX5_chance_17 ?_
      refine g_getRT C dX5_chance_18 flX5_49 (show 0 < 68 by decide) rfl rfl (by decide) ?_
      refine g_aload0 C dX5_chance_21 ?_
      refine g_getRT C dX5_chance_22 flX5_19 (show 0 < 68 by decide) rfl rfl (by decide) ?_
      refine g_aload0 C dX5_chance_25 ?_
      refine g_getRT C dX5_chance_26 flX5_29 (show 0 < 68 by decide) rfl rfl (by decide) ?_
      refine g_bipush C (-9) dX5_chance_29 (by decide) ?_
      refine g_callV3v C dX5_chance_31 vlX5_157 (s_find hS.1 hR.1 hR.2.1 hS.2.1 (x := -9)) hKd (by first | decide | omega) rfl (Nat.le_of_ble_eq_true rfl) (show 52 < 68 by decide) rfl ?_
      rintro _ ⟨c1, rfl, hO, h4, fr⟩
      rw [zThX_none _ 8 (Nat.le_refl 8)] at hO h4
      have hQ : zQ c1 (zO0 S) (zT0 S) := zQ_of hO h4 hS.t
      have hR1 : RepC c1 t S := hR.irr (fun a _ _ h => fr a (by omega) (by omega) (by omega)) rfl
      have hfr : ∀ a, 56 ≤ a → c1 a = c a := fun a ha => fr a (by omega) (by omega) (by omega)
      refine g_aload0 C dX5_chance_34 ?_
      refine g_getRT C dX5_chance_35 flX5_49 (show 0 < 68 by decide) rfl rfl (by decide) ?_
      refine g_iload1 C dX5_chance_38 ?_
      refine g_callV1i C dX5_chance_39 vlX5_174 (s_times hQ (by have := hS.1.1; omega)) hKd (by first | decide | omega) rfl (Nat.le_of_ble_eq_true rfl) (show 52 < 68 by decide) rfl ?_
      rintro _ _ ⟨rfl, rfl⟩
      refine g_aload0 C dX5_chance_42 ?_
      refine g_getRT C dX5_chance_43 flX5_49 (show 0 < 68 by decide) rfl rfl (by decide) ?_
      refine g_getIE C hQ.len dX5_chance_46 flX5_161 (show 52 < 68 by decide) rfl rfl ?_
      refine g_iconst C (nI 1) dX5_chance_49 (by decide) ?_
      refine g_mmax C dX5_chance_50 mmlX5_177 hKd (by decide) rfl (Nat.le_of_ble_eq_true rfl) ?_
      refine g_top (zmax (by have := hQ.2.2.2.1; omega) (by decide)) ?_
      refine g_iload2 C dX5_chance_53 ?_
      refine g_callS3i C dX5_chance_54 slX5_183 (s_terms (by have := zTi_le (zO0 S) i (zO0 S).length; have := hQ.2.2.2.1; omega) (by have := hQ.2.2.2.1; omega) (by omega) hj) hKd (by first | decide | omega) rfl (Nat.le_of_ble_eq_true rfl) ?_
      rintro _ _ ⟨rfl, rfl⟩
      exact g_reti M dX5_chance_57 (⟨hr.symm, _, t, rfl, hR1, hfr, fun _ _ => rfl⟩)
    · -- X5_chance 12f
      rw [zPart_iff] at h12
      have hz2 := zsome_f h12
      have hr : a_chance S (nI i) w = -1 := by unfold a_chance; rw [hz, hz2]
      refine g_iconst C (-1) dX5_chance_15 (by decide) ?_
      exact g_reti M dX5_chance_16 (by rw [hr]; exact zOutC.same hR)
set_option maxRecDepth 100000 in
set_option maxHeartbeats 4000000 in
theorem p_shift {Γ : zG} {c : Nat → Nat → Int32} {t : Nat → Int64} {S : zAb} (hS : OkS S) (hR : RepC c t S) {w : Int32} : Sp Γ 12 mX5_shift [.ref 0, .int w] 0 0 (wF c t) (z_pi (zOutC c t (a_shift S w) (S))) := by
  refine Sp.of (own := RX5) 4 false rfl (by decide +kernel) rfl rfl (fun h => by cases h) (fun K hKd M => ?_)
  have C := M.1
  show GG Γ K 0 0 (wF c t) 0 [some (.ref 0), some (.int w), none, none, none, none] []
  have h89 : ∀ (c' : Nat → Nat → Int32) (j : Nat) (x y : Option Value), j < 2 → RepC c' t S → (∀ a, 56 ≤ a → c' a = c a) → zIdx w 2 = some j → GG Γ K 0 0 (wF c' t) 89 [some (.ref 0), some (.int (nI j)), some (.int (zB1 (zShf S.1 S.2.1 8))), some (.int (zB2 (zShf S.1 S.2.1 8))), x, y] [] := by
    intro c' j x y hj hR' hfr hz
    refine g_iload1 C dX5_shift_89 ?_
    refine g_if_neN C 97 (by omega) dX5_shift_90 (by decide) (fun h90 => ?_) (fun h90 => ?_)
    · -- X5_shift 90t
      have hr : a_shift S w = zB2 (zShf S.1 S.2.1 8) := by unfold a_shift; rw [hz]; simp only; cases zShf S.1 S.2.1 8 with | none => rfl | some b => exact if_neg (by omega)
      refine g_iload3 C dX5_shift_97 ?_
      exact g_reti M dX5_shift_98 (⟨hr.symm, c', t, rfl, hR', hfr, fun _ _ => rfl⟩)
    · -- X5_shift 90f
      have hr : a_shift S w = zB1 (zShf S.1 S.2.1 8) := by unfold a_shift; rw [hz]; simp only; cases zShf S.1 S.2.1 8 with | none => rfl | some b => exact if_pos h90
      refine g_iload2 C dX5_shift_93 ?_
      refine g_goto C 98 dX5_shift_94 (by decide) ?_
      exact g_reti M dX5_shift_98 (⟨hr.symm, c', t, rfl, hR', hfr, fun _ _ => rfl⟩)
  have H18 : ∀ (n : Nat) (c' : Nat → Nat → Int32) (j k : Nat) (x : Option Value), zIdx w 2 = some j → j < 2 → k ≤ 8 → RepC c' t S → (∀ a, 56 ≤ a → c' a = c a) → 8 - k < n → GG Γ K 0 0 (wF c' t) 18 [some (.ref 0), some (.int (nI j)), some (.int (zB1 (zShf S.1 S.2.1 k))), some (.int (zB2 (zShf S.1 S.2.1 k))), some (.int (nI k)), x] [] := by
    intro n
    induction n with
    | zero => intro c' j k x hz hj hk hR' hfr hn; exact absurd hn (by omega)
    | succ n ih =>
      intro c' j k x hz hj hk hR' hfr hn
      refine g_iload4 C dX5_shift_18 ?_
      refine g_bipush C (nI 8) dX5_shift_20 (by decide) ?_
      refine g_icmp_geN C 89 (by omega) (by omega) dX5_shift_22 (by decide) (fun h22 => ?_) (fun h22 => ?_)
      · -- X5_shift 22t
        obtain rfl : k = 8 := by omega
        exact h89 c' j _ _ hj hR' hfr hz
      · -- X5_shift 22f
        
        refine g_aload0 C dX5_shift_25 ?_
        refine g_getRT C dX5_shift_26 flX5_29 (show 0 < 68 by decide) rfl rfl (by decide) ?_
        refine g_getRT C dX5_shift_29 flX5_112 (show 11 < 68 by decide) rfl rfl (by decide) ?_
        refine g_iload4 C dX5_shift_32 ?_
        refine g_callS2i C dX5_shift_34 slX5_85 (s_at (show 12 < 68 by decide) rfl h22 (by decide) (hR'.2.1.2.2.1 k h22)) hKd (by first | decide | omega) rfl (Nat.le_of_ble_eq_true rfl) ?_
        rintro _ _ ⟨rfl, rfl⟩
        refine g_bipush C (-9) dX5_shift_37 (by decide) ?_
        refine g_icmp_eq C 83 dX5_shift_39 (by decide) (fun h39 => ?_) (fun h39 => ?_)
        · -- X5_shift 39t
          have hq := zE_n h39 (fun s h => by have := hS.w k s h22 h; omega)
          refine g_set (L' := [some (.ref 0), some (.int (nI j)), some (.int (zB1 (zShf S.1 S.2.1 (k + 1)))), some (.int (zB2 (zShf S.1 S.2.1 (k + 1)))), some (.int (nI k)), x]) rfl (by rw [show zShf S.1 S.2.1 (k + 1) = zShf S.1 S.2.1 k from by rw [zShf, hq]]) rfl ?_
          refine g_iinc4N C dX5_shift_83 ?_
          refine g_goto C 18 dX5_shift_86 (by decide) ?_
          exact ih c' j (k + 1) _ hz hj (by omega) hR' hfr (by omega)
        · -- X5_shift 39f
          obtain ⟨s, hq⟩ := zE_s h39
          refine g_aload0 C dX5_shift_42 ?_
          refine g_getRT C dX5_shift_43 flX5_49 (show 0 < 68 by decide) rfl rfl (by decide) ?_
          refine g_aload0 C dX5_shift_46 ?_
          refine g_getRT C dX5_shift_47 flX5_19 (show 0 < 68 by decide) rfl rfl (by decide) ?_
          refine g_aload0 C dX5_shift_50 ?_
          refine g_getRT C dX5_shift_51 flX5_29 (show 0 < 68 by decide) rfl rfl (by decide) ?_
          refine g_iload4 C dX5_shift_54 ?_
          refine g_callV3v C dX5_shift_56 vlX5_157 (s_find hS.1 hR'.1 hR'.2.1 hS.2.1 (x := nI k)) hKd (by first | decide | omega) rfl (Nat.le_of_ble_eq_true rfl) (show 52 < 68 by decide) rfl ?_
          rintro _ ⟨c1, rfl, hO, h4, fr⟩
          have hT7 := zThX_lt (x := nI k) hS.w 8 (Nat.le_refl 8)
          have hQ := zQ_of hO h4 hT7
          have hR1 : RepC c1 t S := hR'.irr (fun a _ _ h => fr a (by omega) (by omega) (by omega)) rfl
          have hfr1 : ∀ a, 56 ≤ a → c1 a = c a := fun a ha => (fr a (by omega) (by omega) (by omega)).trans (hfr a ha)
          refine g_aload0 C dX5_shift_59 ?_
          refine g_getRT C dX5_shift_60 flX5_49 (show 0 < 68 by decide) rfl rfl (by decide) ?_
          refine g_callV0i C dX5_shift_63 vlX5_162 (s_firsts hQ) hKd (by first | decide | omega) rfl (Nat.le_of_ble_eq_true rfl) (show 52 < 68 by decide) rfl ?_
          rintro _ _ ⟨rfl, rfl⟩
          refine g_callS1i C dX5_shift_66 slX5_135 (s_bc (zand_r (by omega))) hKd (by first | decide | omega) rfl (Nat.le_of_ble_eq_true rfl) ?_
          rintro _ _ ⟨rfl, rfl⟩
          refine g_istore5 C dX5_shift_69 ?_
          have hf8 : zFk S.1 S.2.1 k ≤ 8 := zp8_8 _
          rcases hb : zShf S.1 S.2.1 k with _ | b
          · -- case
            
            refine g_iload5 C dX5_shift_71 ?_
            refine g_iload3 C dX5_shift_73 ?_
            refine g_icmp_le C 83 dX5_shift_74 (by decide) (fun h74 => absurd h74 (by exact zf_m9 _ hf8)) (fun h74 => ?_)
            refine g_iload5 C dX5_shift_77 ?_
            refine g_istore3 C dX5_shift_79 ?_
            refine g_iload4 C dX5_shift_80 ?_
            refine g_istore2 C dX5_shift_82 ?_
            refine g_set (L' := [some (.ref 0), some (.int (nI j)), some (.int (zB1 (zShf S.1 S.2.1 (k + 1)))), some (.int (zB2 (zShf S.1 S.2.1 (k + 1)))), some (.int (nI k)), some (.int (nI (zFk S.1 S.2.1 k)))]) rfl (by rw [show zShf S.1 S.2.1 (k + 1) = some (k, zFk S.1 S.2.1 k) from by rw [zShf, hq]; simp only; rw [hb]]; rfl) rfl ?_
            refine g_iinc4N C dX5_shift_83 ?_
            refine g_goto C 18 dX5_shift_86 (by decide) ?_
            exact ih c1 j (k + 1) _ hz hj (by omega) hR1 hfr1 (by omega)
          · -- case
            have hb8 := (zShf_le S.1 S.2.1 k b hb).1
            refine g_set (L' := [some (.ref 0), some (.int (nI j)), some (.int (nI b.1)), some (.int (nI b.2)), some (.int (nI k)), some (.int (nI (zFk S.1 S.2.1 k)))]) rfl rfl rfl ?_
            refine g_iload5 C dX5_shift_71 ?_
            refine g_iload3 C dX5_shift_73 ?_
            refine g_icmp_leN C 83 (by omega) (by omega) dX5_shift_74 (by decide) (fun h74 => ?_) (fun h74 => ?_)
            · -- X5_shift 74t
              refine g_set (L' := [some (.ref 0), some (.int (nI j)), some (.int (zB1 (zShf S.1 S.2.1 (k + 1)))), some (.int (zB2 (zShf S.1 S.2.1 (k + 1)))), some (.int (nI k)), some (.int (nI (zFk S.1 S.2.1 k)))]) rfl (by rw [show zShf S.1 S.2.1 (k + 1) = some b from by rw [zShf, hq]; simp only; rw [hb]; exact if_neg (by omega)]; rfl) rfl ?_
              refine g_iinc4N C dX5_shift_83 ?_
              refine g_goto C 18 dX5_shift_86 (by decide) ?_
              exact ih c1 j (k + 1) _ hz hj (by omega) hR1 hfr1 (by omega)
            · -- X5_shift 74f
              
              refine g_iload5 C dX5_shift_77 ?_
              refine g_istore3 C dX5_shift_79 ?_
              refine g_iload4 C dX5_shift_80 ?_
              refine g_istore2 C dX5_shift_82 ?_
              refine g_set (L' := [some (.ref 0), some (.int (nI j)), some (.int (zB1 (zShf S.1 S.2.1 (k + 1)))), some (.int (zB2 (zShf S.1 S.2.1 (k + 1)))), some (.int (nI k)), some (.int (nI (zFk S.1 S.2.1 k)))]) rfl (by rw [show zShf S.1 S.2.1 (k + 1) = some (k, zFk S.1 S.2.1 k) from by rw [zShf, hq]; simp only; rw [hb]; exact if_pos h74]; rfl) rfl ?_
              refine g_iinc4N C dX5_shift_83 ?_
              refine g_goto C 18 dX5_shift_86 (by decide) ?_
              exact ih c1 j (k + 1) _ hz hj (by omega) hR1 hfr1 (by omega)
  refine g_iload1 C dX5_shift_0 ?_
  refine g_callS1i C dX5_shift_1 slX5_171 (s_isPart) hKd (by first | decide | omega) rfl (Nat.le_of_ble_eq_true rfl) ?_
  rintro _ _ ⟨rfl, rfl⟩
  refine g_if_neB C 9 dX5_shift_4 (by decide) (fun h4 => ?_) (fun h4 => ?_)
  · -- X5_shift 4t
    rw [zPart_iff] at h4
    obtain ⟨j, hz⟩ := zsome_t h4
    obtain ⟨hj, hw⟩ := zIdx_iff hz
    rw [hw]
    refine g_bipush C (-9) dX5_shift_9 (by decide) ?_
    refine g_istore2 C dX5_shift_11 ?_
    refine g_bipush C (-9) dX5_shift_12 (by decide) ?_
    refine g_istore3 C dX5_shift_14 ?_
    refine g_iconst C (nI 0) dX5_shift_15 (by decide) ?_
    refine g_istore4 C dX5_shift_16 ?_
    exact H18 9 c j 0 _ hz hj (by omega) hR (fun _ _ => rfl) (by omega)
  · -- X5_shift 4f
    rw [zPart_iff] at h4
    have hz := zsome_f h4
    have hr : a_shift S w = -1 := by unfold a_shift; rw [hz]
    refine g_iconst C (-1) dX5_shift_7 (by decide) ?_
    exact g_reti M dX5_shift_8 (by rw [hr]; exact zOutC.same hR)
set_option maxRecDepth 100000 in
set_option maxHeartbeats 4000000 in
theorem p_begin {Γ : zG} {c : Nat → Nat → Int32} {t : Nat → Int64} {S : zAb} (hS : OkS S) (hR : RepC c t S)  : Sp Γ 4 mX5_begin [.ref 0] 0 0 (wF c t) (z_pi (zOutC c t (a_begin S) (S))) := by
  refine Sp.of (own := RX5) 4 false rfl (by decide +kernel) rfl rfl (fun h => by cases h) (fun K hKd M => ?_)
  have C := M.1
  show GG Γ K 0 0 (wF c t) 0 [some (.ref 0), none, none, none, none] []
  have hal := zAll_lt hS.1.1
  have hot : (zAll (cN S.1) &&& (mG S.2.1 ^^^ 4294967295)) < 128 := zand_l hal
  have hg := hS.g
  have H31a : ∀ z, z ≤ 7 → ((∀ x, x ≤ zAll (cN S.1) → zBg S.1 S.2.1 x = true → ¬ (zp8 x < z ∨ (zp8 x = z ∧ x < (zAll (cN S.1) + 1)))) → GG Γ K 0 0 (wF c t) 85 [some (.ref 0), some (.int (nI (zAll (cN S.1)))), some (.int (nI (zAll (cN S.1) &&& (mG S.2.1 ^^^ 4294967295)))), some (.int (nI z)), some (.int (nI (zAll (cN S.1) + 1)))] []) → (∀ x, x ≤ zAll (cN S.1) → zBg S.1 S.2.1 x = true → ¬ (zp8 x < z ∨ (zp8 x = z ∧ x < 0))) → GG Γ K 0 0 (wF c t) 31 [some (.ref 0), some (.int (nI (zAll (cN S.1)))), some (.int (nI (zAll (cN S.1) &&& (mG S.2.1 ^^^ 4294967295)))), some (.int (nI z)), some (.int (nI 0))] [] := by
    intro z hz hexit
    have H31 : ∀ (n : Nat) (b : Nat), b ≤ zAll (cN S.1) + 1 → (∀ x, x ≤ zAll (cN S.1) → zBg S.1 S.2.1 x = true → ¬ (zp8 x < z ∨ (zp8 x = z ∧ x < b))) → zAll (cN S.1) + 1 - b < n → GG Γ K 0 0 (wF c t) 31 [some (.ref 0), some (.int (nI (zAll (cN S.1)))), some (.int (nI (zAll (cN S.1) &&& (mG S.2.1 ^^^ 4294967295)))), some (.int (nI z)), some (.int (nI b))] [] := by
      intro n
      induction n with
      | zero => intro b hb hN hn2; exact absurd hn2 (by omega)
      | succ n ih =>
        intro b hb hN hn2
        refine g_iload4 C dX5_begin_31 ?_
        refine g_iload1 C dX5_begin_33 ?_
        refine g_icmp_gtN C 85 (by omega) (by omega) dX5_begin_34 (by decide) (fun h34 => ?_) (fun h34 => ?_)
        · -- X5_begin 34t
          obtain rfl : b = zAll (cN S.1) + 1 := by omega
          exact hexit hN
        · -- X5_begin 34f
          have hbT : b < 128 := by omega
          refine g_iload4 C dX5_begin_37 ?_
          refine g_iload2 C dX5_begin_39 ?_
          refine g_iconst C (nI 4294967295) dX5_begin_40 (by decide) ?_
          refine g_ixorN C dX5_begin_41 ?_
          refine g_iandN C dX5_begin_42 ?_
          refine g_if_neN C 79 (zand_l (by omega)) dX5_begin_43 (by decide) (fun h43 => ?_) (fun h43 => ?_)
          · -- X5_begin 43t
            --
            refine g_iinc4N C dX5_begin_79 ?_
            refine g_goto C 31 dX5_begin_82 (by decide) ?_
            exact ih (b + 1) (by omega) (fun x hx hq => by have h9 := hN x hx hq; intro h; by_cases e : x = b; (subst e; unfold zBg at hq; rw [decide_eq_false (show ¬ x &&& (_ ^^^ 4294967295) = 0 by omega)] at hq; cases hq); exact h9 (by omega)) (by omega)
          · -- X5_begin 43f
            
            refine g_iload4 C dX5_begin_46 ?_
            refine g_callS1i C dX5_begin_48 slX5_135 (s_bc (by omega)) hKd (by first | decide | omega) rfl (Nat.le_of_ble_eq_true rfl) ?_
            rintro _ _ ⟨rfl, rfl⟩
            refine g_iload3 C dX5_begin_51 ?_
            refine g_icmp_neN C 79 (by have := zp8_8 b; omega) (by omega) dX5_begin_52 (by decide) (fun h52 => ?_) (fun h52 => ?_)
            · -- X5_begin 52t
              --
              refine g_iinc4N C dX5_begin_79 ?_
              refine g_goto C 31 dX5_begin_82 (by decide) ?_
              exact ih (b + 1) (by omega) (fun x hx hq => by have h9 := hN x hx hq; intro h; by_cases e : x = b; (subst e; omega); exact h9 (by omega)) (by omega)
            · -- X5_begin 52f
              
              refine g_aload0 C dX5_begin_55 ?_
              refine g_getRT C dX5_begin_56 flX5_19 (show 0 < 68 by decide) rfl rfl (by decide) ?_
              refine g_aload0 C dX5_begin_59 ?_
              refine g_getRT C dX5_begin_60 flX5_29 (show 0 < 68 by decide) rfl rfl (by decide) ?_
              refine g_getIE C hR.2.1.2.1 dX5_begin_63 flX5_96 (show 11 < 68 by decide) rfl rfl ?_
              refine g_iload4 C dX5_begin_66 ?_
              refine g_iorN C dX5_begin_68 ?_
              refine g_callV1i C dX5_begin_69 vlX5_151 (s_send hS.1 hR.1 (Nat.or_lt_two_pow (n := 7) hg hbT)) hKd (by first | decide | omega) rfl (Nat.le_of_ble_eq_true rfl) (show 3 < 68 by decide) rfl ?_
              rintro _ _ ⟨rfl, rfl⟩
              refine g_iload1 C dX5_begin_72 ?_
              refine g_icmp_neN C 79 (by have := zWr_lt hS.1 (Nat.or_lt_two_pow (n := 7) hg hbT) 7; omega) (by omega) dX5_begin_73 (by decide) (fun h73 => ?_) (fun h73 => ?_)
              · -- X5_begin 73t
                --
                refine g_iinc4N C dX5_begin_79 ?_
                refine g_goto C 31 dX5_begin_82 (by decide) ?_
                exact ih (b + 1) (by omega) (fun x hx hq => by have h9 := hN x hx hq; intro h; by_cases e : x = b; (subst e; unfold zBg at hq; rw [decide_eq_false h73] at hq; simp at hq); exact h9 (by omega)) (by omega)
              · -- X5_begin 73f
                have hB : zBest (zBg S.1 S.2.1) (zAll (cN S.1)) b := ⟨by unfold zBg; rw [decide_eq_true h43, decide_eq_true h73]; rfl, by omega, fun x hx hq => by have := hN x hx hq; have e := h52; omega⟩
                refine g_iload4 C dX5_begin_76 ?_
                exact g_reti M dX5_begin_78 (⟨by unfold a_begin; rw [zArg_eq hB], c, t, rfl, hR, fun _ _ => rfl, fun _ _ => rfl⟩)
    exact fun hN => H31 (zAll (cN S.1) + 2) 0 (by omega) hN (by omega)
  have H22 : ∀ (n : Nat) (z : Nat) (x : Option Value), z ≤ 8 → (∀ x, x ≤ zAll (cN S.1) → zBg S.1 S.2.1 x = true → ¬ (zp8 x < z ∨ (zp8 x = z ∧ x < 0))) → 8 - z < n → GG Γ K 0 0 (wF c t) 22 [some (.ref 0), some (.int (nI (zAll (cN S.1)))), some (.int (nI (zAll (cN S.1) &&& (mG S.2.1 ^^^ 4294967295)))), some (.int (nI z)), x] [] := by
    intro n
    induction n with
    | zero => intro z x hz hN hn2; exact absurd hn2 (by omega)
    | succ n ih =>
      intro z x hz hN hn2
      refine g_iload3 C dX5_begin_22 ?_
      refine g_bipush C (nI 7) dX5_begin_23 (by decide) ?_
      refine g_icmp_gtN C 91 (by omega) (by omega) dX5_begin_25 (by decide) (fun h25 => ?_) (fun h25 => ?_)
      · -- X5_begin 25t
        exact absurd (hN (zAll (cN S.1) &&& (mG S.2.1 ^^^ 4294967295)) (Nat.and_le_left) (zBg_top hS.1 hS.2.1.2.1)) (by have := zp8_7 hot; omega)
      · -- X5_begin 25f
        
        refine g_iconst C (nI 0) dX5_begin_28 (by decide) ?_
        refine g_istore4 C dX5_begin_29 ?_
        refine H31a z (by omega) (fun hN2 => ?_) hN
        refine g_iinc3N C dX5_begin_85 ?_
        refine g_goto C 22 dX5_begin_88 (by decide) ?_
        exact ih (z + 1) _ (by omega) (fun x hx hq => by have h9 := hN2 x hx hq; omega) (by omega)
  refine g_aload0 C dX5_begin_0 ?_
  refine g_getRT C dX5_begin_1 flX5_19 (show 0 < 68 by decide) rfl rfl (by decide) ?_
  refine g_callV0i C dX5_begin_4 vlX5_154 (s_all hS.1 hR.1) hKd (by first | decide | omega) rfl (Nat.le_of_ble_eq_true rfl) (show 3 < 68 by decide) rfl ?_
  rintro _ _ ⟨rfl, rfl⟩
  refine g_istore1 C dX5_begin_7 ?_
  refine g_iload1 C dX5_begin_8 ?_
  refine g_aload0 C dX5_begin_9 ?_
  refine g_getRT C dX5_begin_10 flX5_29 (show 0 < 68 by decide) rfl rfl (by decide) ?_
  refine g_getIE C hR.2.1.2.1 dX5_begin_13 flX5_96 (show 11 < 68 by decide) rfl rfl ?_
  refine g_iconst C (nI 4294967295) dX5_begin_16 (by decide) ?_
  refine g_ixorN C dX5_begin_17 ?_
  refine g_iandN C dX5_begin_18 ?_
  refine g_istore2 C dX5_begin_19 ?_
  refine g_iconst C (nI 0) dX5_begin_20 (by decide) ?_
  refine g_istore3 C dX5_begin_21 ?_
  exact H22 9 0 _ (by omega) (fun x hx hq => by omega) (by omega)
set_option maxRecDepth 100000 in
set_option maxHeartbeats 4000000 in
theorem p_odds {Γ : zG} {c : Nat → Nat → Int32} {t : Nat → Int64} {S : zAb} (hS : OkS S) (hR : RepC c t S) {p k w : Int32} : Sp Γ 4 mX5_odds [.ref 0, .int p, .int k, .int w] 0 0 (wF c t) (z_pi (zOutC c t (a_odds S p k w) (S))) := by
  refine Sp.of (own := RX5) 4 false rfl (by decide +kernel) rfl rfl (fun h => by cases h) (fun K hKd M => ?_)
  have C := M.1
  show GG Γ K 0 0 (wF c t) 0 [some (.ref 0), some (.int p), some (.int k), some (.int w), none, none, none, none] []
  have hsl := zSl_le hS
  have H57 : ∀ (n : Nat) (a b j i : Nat) (x : Option Value), a < 11 → b < 8 → j < 2 → a_odds S p k w = zFr (zOd a b (zSl S) (1 <<< zSl S)) (10 ^ zSl S) j → i ≤ 1 <<< zSl S → 1 <<< zSl S - i < n → GG Γ K 0 0 (wF c t) 57 [some (.ref 0), some (.int (nI a)), some (.int (nI b)), some (.int (nI j)), some (.int (nI (zSl S))), some (.int (nI (zOd a b (zSl S) i))), some (.int (nI i)), x] [] := by
    intro n
    induction n with
    | zero => intro a b j i x ha hb hj hr hi hn; exact absurd hn (by omega)
    | succ n ih =>
      intro a b j i x ha hb hj hr hi hn
      have hs128 := zs_le hsl
      refine g_iload6 C dX5_odds_57 ?_
      refine g_iconst C (nI 1) dX5_odds_59 (by decide) ?_
      refine g_iload4 C dX5_odds_60 ?_
      refine g_ishlN C dX5_odds_62 (by omega) ?_
      refine g_icmp_geN C 109 (by have := zs_le hsl; omega) (by have := zs_le hsl; omega) dX5_odds_63 (by decide) (fun h63 => ?_) (fun h63 => ?_)
      · -- X5_odds 63t
        obtain rfl : i = 1 <<< zSl S := by omega
        have hbd := zOd_lt (k := b) (show a ≤ 10 by omega) hsl
        refine g_iload5 C dX5_odds_109 ?_
        refine g_bipush C (nI 10) dX5_odds_111 (by decide) ?_
        refine g_iload4 C dX5_odds_113 ?_
        refine g_callS2i C dX5_odds_115 slX5_193 (s_power (by omega)) hKd (by first | decide | omega) rfl (Nat.le_of_ble_eq_true rfl) ?_
        rintro _ _ ⟨rfl, rfl⟩
        refine g_iload3 C dX5_odds_118 ?_
        refine g_callS3i C dX5_odds_119 slX5_183 (s_terms hbd.1 hbd.2.1 hbd.2.2 hj) hKd (by first | decide | omega) rfl (Nat.le_of_ble_eq_true rfl) ?_
        rintro _ _ ⟨rfl, rfl⟩
        exact g_reti M dX5_odds_122 (⟨hr.symm, c, t, rfl, hR, fun _ _ => rfl, fun _ _ => rfl⟩)
      · -- X5_odds 63f
        have hz8 := zp8_lt (n := zSl S) (i := i) (by omega) h63
        refine g_iload6 C dX5_odds_66 ?_
        refine g_callS1i C dX5_odds_68 slX5_135 (s_bc (by have := zs_le hsl; omega)) hKd (by first | decide | omega) rfl (Nat.le_of_ble_eq_true rfl) ?_
        rintro _ _ ⟨rfl, rfl⟩
        refine g_istore7 C dX5_odds_71 ?_
        refine g_iload7 C dX5_odds_73 ?_
        refine g_iload2 C dX5_odds_75 ?_
        refine g_icmp_gtN C 103 (by omega) (by omega) dX5_odds_76 (by decide) (fun h76 => ?_) (fun h76 => ?_)
        · -- X5_odds 76t
          refine g_set (L' := [some (.ref 0), some (.int (nI a)), some (.int (nI b)), some (.int (nI j)), some (.int (nI (zSl S))), some (.int (nI (zOd a b (zSl S) (i + 1)))), some (.int (nI i)), some (.int (nI (zp8 i)))]) rfl (by rw [zOd, if_neg (by omega)]) rfl ?_
          refine g_iinc6N C dX5_odds_103 ?_
          refine g_goto C 57 dX5_odds_106 (by decide) ?_
          exact ih a b j (i + 1) _ ha hb hj hr (by omega) (by omega)
        · -- X5_odds 76f
          
          refine g_iload5 C dX5_odds_79 ?_
          refine g_iload1 C dX5_odds_81 ?_
          refine g_iload7 C dX5_odds_82 ?_
          refine g_callS2i C dX5_odds_84 slX5_193 (s_power (by omega)) hKd (by first | decide | omega) rfl (Nat.le_of_ble_eq_true rfl) ?_
          rintro _ _ ⟨rfl, rfl⟩
          refine g_bipush C (nI 10) dX5_odds_87 (by decide) ?_
          refine g_iload1 C dX5_odds_89 ?_
          refine g_isubN C dX5_odds_90 (by omega) ?_
          refine g_iload4 C dX5_odds_91 ?_
          refine g_iload7 C dX5_odds_93 ?_
          refine g_isubN C dX5_odds_95 hz8 ?_
          refine g_callS2i C dX5_odds_96 slX5_193 (s_power (by omega)) hKd (by first | decide | omega) rfl (Nat.le_of_ble_eq_true rfl) ?_
          rintro _ _ ⟨rfl, rfl⟩
          refine g_imulN C dX5_odds_99 ?_
          refine g_iaddN C dX5_odds_100 ?_
          refine g_istore5 C dX5_odds_101 ?_
          refine g_set (L' := [some (.ref 0), some (.int (nI a)), some (.int (nI b)), some (.int (nI j)), some (.int (nI (zSl S))), some (.int (nI (zOd a b (zSl S) (i + 1)))), some (.int (nI i)), some (.int (nI (zp8 i)))]) rfl (by rw [zOd, if_pos h76]) rfl ?_
          refine g_iinc6N C dX5_odds_103 ?_
          refine g_goto C 57 dX5_odds_106 (by decide) ?_
          exact ih a b j (i + 1) _ ha hb hj hr (by omega) (by omega)
  refine g_iload1 C dX5_odds_0 ?_
  refine g_if_lt C 27 dX5_odds_1 (by decide) (fun h1 => ?_) (fun h1 => ?_)
  · -- X5_odds 1t
    have hz := zIdx_lt (x := p) (n := 11) (by decide) (Or.inl h1)
    have hr : a_odds S p k w = -1 := by unfold a_odds; rw [hz]
    refine g_iconst C (-1) dX5_odds_27 (by decide) ?_
    exact g_reti M dX5_odds_28 (by rw [hr]; exact zOutC.same hR)
  · -- X5_odds 1f
    
    refine g_iload1 C dX5_odds_4 ?_
    refine g_bipush C (nI 10) dX5_odds_5 (by decide) ?_
    refine g_icmp_gt C 27 dX5_odds_7 (by decide) (fun h7 => ?_) (fun h7 => ?_)
    · -- X5_odds 7t
      have hz := zIdx_gt (x := p) (n := 10) (by decide) (zgt_nle h7)
      have hr : a_odds S p k w = -1 := by unfold a_odds; rw [hz]
      refine g_iconst C (-1) dX5_odds_27 (by decide) ?_
      exact g_reti M dX5_odds_28 (by rw [hr]; exact zOutC.same hR)
    · -- X5_odds 7f
      obtain ⟨a, ha, rfl, hz⟩ := zIdx_le (n := 10) (by decide) h1 (zgt_le h7)
      refine g_iload2 C dX5_odds_10 ?_
      refine g_if_lt C 27 dX5_odds_11 (by decide) (fun h11 => ?_) (fun h11 => ?_)
      · -- X5_odds 11t
        have hz2 := zIdx_lt (x := k) (n := 8) (by decide) (Or.inl h11)
        have hr : a_odds S (nI a) k w = -1 := by unfold a_odds; rw [hz, hz2]
        refine g_iconst C (-1) dX5_odds_27 (by decide) ?_
        exact g_reti M dX5_odds_28 (by rw [hr]; exact zOutC.same hR)
      · -- X5_odds 11f
        
        refine g_iload2 C dX5_odds_14 ?_
        refine g_bipush C (nI 7) dX5_odds_15 (by decide) ?_
        refine g_icmp_gt C 27 dX5_odds_17 (by decide) (fun h17 => ?_) (fun h17 => ?_)
        · -- X5_odds 17t
          have hz2 := zIdx_gt (x := k) (n := 7) (by decide) (zgt_nle h17)
          have hr : a_odds S (nI a) k w = -1 := by unfold a_odds; rw [hz, hz2]
          refine g_iconst C (-1) dX5_odds_27 (by decide) ?_
          exact g_reti M dX5_odds_28 (by rw [hr]; exact zOutC.same hR)
        · -- X5_odds 17f
          obtain ⟨b, hb, rfl, hz2⟩ := zIdx_le (n := 7) (by decide) h11 (zgt_le h17)
          refine g_iload3 C dX5_odds_20 ?_
          refine g_callS1i C dX5_odds_21 slX5_171 (s_isPart) hKd (by first | decide | omega) rfl (Nat.le_of_ble_eq_true rfl) ?_
          rintro _ _ ⟨rfl, rfl⟩
          refine g_if_neB C 29 dX5_odds_24 (by decide) (fun h24 => ?_) (fun h24 => ?_)
          · -- X5_odds 24t
            rw [zPart_iff] at h24
            obtain ⟨j, hz3⟩ := zsome_t h24
            obtain ⟨hj, rfl⟩ := zIdx_iff hz3
            have hr : a_odds S (nI a) (nI b) (nI j) = zFr (zOd a b (zSl S) (1 <<< zSl S)) (10 ^ zSl S) j := by unfold a_odds; rw [hz, hz2, hz3]
            refine g_aload0 C dX5_odds_29 ?_
            refine g_getRT C dX5_odds_30 flX5_19 (show 0 < 68 by decide) rfl rfl (by decide) ?_
            refine g_callV0i C dX5_odds_33 vlX5_154 (s_all hS.1 hR.1) hKd (by first | decide | omega) rfl (Nat.le_of_ble_eq_true rfl) (show 3 < 68 by decide) rfl ?_
            rintro _ _ ⟨rfl, rfl⟩
            refine g_aload0 C dX5_odds_36 ?_
            refine g_getRT C dX5_odds_37 flX5_29 (show 0 < 68 by decide) rfl rfl (by decide) ?_
            refine g_getIE C hR.2.1.2.1 dX5_odds_40 flX5_96 (show 11 < 68 by decide) rfl rfl ?_
            refine g_iconst C (nI 4294967295) dX5_odds_43 (by decide) ?_
            refine g_ixorN C dX5_odds_44 ?_
            refine g_iandN C dX5_odds_45 ?_
            refine g_callS1i C dX5_odds_46 slX5_135 (s_bc (zand_l (by have := zAll_lt hS.1.1; omega))) hKd (by first | decide | omega) rfl (Nat.le_of_ble_eq_true rfl) ?_
            rintro _ _ ⟨rfl, rfl⟩
            refine g_istore4 C dX5_odds_49 ?_
            refine g_iconst C (nI 0) dX5_odds_51 (by decide) ?_
            refine g_istore5 C dX5_odds_52 ?_
            refine g_iconst C (nI 0) dX5_odds_54 (by decide) ?_
            refine g_istore6 C dX5_odds_55 ?_
            exact H57 (1 <<< zSl S + 1) a b j 0 _ ha hb hj hr (Nat.zero_le _) (Nat.lt_succ_of_le (Nat.sub_le _ _))
          · -- X5_odds 24f
            rw [zPart_iff] at h24
            have hz3 := zsome_f h24
            have hr : a_odds S (nI a) (nI b) w = -1 := by unfold a_odds; rw [hz, hz2, hz3]
            refine g_iconst C (-1) dX5_odds_27 (by decide) ?_
            exact g_reti M dX5_odds_28 (by rw [hr]; exact zOutC.same hR)
set_option maxRecDepth 100000 in
set_option maxHeartbeats 4000000 in
theorem p_bold {Γ : zG} {c : Nat → Nat → Int32} {t : Nat → Int64} {S : zAb} (hS : OkS S) (hR : RepC c t S) {x : Int32} : Sp Γ 1 mX5_bold [.ref 0, .int x] 0 0 (wF c t) (z_pi (zOutC c t (a_bold S x) (S))) := by
  refine Sp.of (own := RX5) 2 false rfl (by decide +kernel) rfl rfl (fun h => by cases h) (fun K hKd M => ?_)
  have C := M.1
  show GG Γ K 0 0 (wF c t) 0 [some (.ref 0), some (.int x), none, none] []
  have H16 : ∀ (n : Nat) (b i : Nat), b < 8 → a_bold S x = nI (zBo S.1 b (cN S.1)) → i ≤ cN S.1 → cN S.1 - i < n → GG Γ K 0 0 (wF c t) 16 [some (.ref 0), some (.int (nI b)), some (.int (nI (zBo S.1 b i))), some (.int (nI i))] [] := by
    intro n
    induction n with
    | zero => intro b i hb hr hi hn; exact absurd hn (by omega)
    | succ n ih =>
      intro b i hb hr hi hn
      refine g_iload3 C dX5_bold_16 ?_
      refine g_aload0 C dX5_bold_17 ?_
      refine g_getRT C dX5_bold_18 flX5_19 (show 0 < 68 by decide) rfl rfl (by decide) ?_
      refine g_getIE C hR.1.1 dX5_bold_21 flX5_196 (show 3 < 68 by decide) rfl rfl ?_
      refine g_icmp_geN C 51 (by have := hS.1.1; omega) (by have := hS.1.1; omega) dX5_bold_24 (by decide) (fun h24 => ?_) (fun h24 => ?_)
      · -- X5_bold 24t
        obtain rfl : i = cN S.1 := by omega
        refine g_iload2 C dX5_bold_51 ?_
        exact g_reti M dX5_bold_52 (by rw [hr]; exact zOutC.same hR)
      · -- X5_bold 24f
        
        refine g_aload0 C dX5_bold_27 ?_
        refine g_getRT C dX5_bold_28 flX5_19 (show 0 < 68 by decide) rfl rfl (by decide) ?_
        refine g_getRT C dX5_bold_31 flX5_89 (show 3 < 68 by decide) rfl rfl (by decide) ?_
        refine g_iload3 C dX5_bold_34 ?_
        refine g_callS2i C dX5_bold_35 slX5_85 (s_at (show 5 < 68 by decide) rfl (by have := hS.1.1; omega) (by decide) (hR.1.2.2.2.2.1 i h24)) hKd (by first | decide | omega) rfl (Nat.le_of_ble_eq_true rfl) ?_
        rintro _ _ ⟨rfl, rfl⟩
        refine g_iload1 C dX5_bold_38 ?_
        refine g_icmp_gtN C 45 (by have := hS.1.2.2.1 i h24; omega) (by omega) dX5_bold_39 (by decide) (fun h39 => ?_) (fun h39 => ?_)
        · -- X5_bold 39t
          refine g_set (L' := [some (.ref 0), some (.int (nI b)), some (.int (nI (zBo S.1 b (i + 1)))), some (.int (nI i))]) rfl (by rw [zBo, if_neg (by omega)]) rfl ?_
          refine g_iinc3N C dX5_bold_45 ?_
          refine g_goto C 16 dX5_bold_48 (by decide) ?_
          exact ih b (i + 1) hb hr (by omega) (by omega)
        · -- X5_bold 39f
          
          refine g_iinc2N C dX5_bold_42 ?_
          refine g_set (L' := [some (.ref 0), some (.int (nI b)), some (.int (nI (zBo S.1 b (i + 1)))), some (.int (nI i))]) rfl (by rw [zBo, if_pos h39]) rfl ?_
          refine g_iinc3N C dX5_bold_45 ?_
          refine g_goto C 16 dX5_bold_48 (by decide) ?_
          exact ih b (i + 1) hb hr (by omega) (by omega)
  refine g_iload1 C dX5_bold_0 ?_
  refine g_if_lt C 10 dX5_bold_1 (by decide) (fun h1 => ?_) (fun h1 => ?_)
  · -- X5_bold 1t
    have hz := zIdx_lt (x := x) (n := 8) (by decide) (Or.inl h1)
    have hr : a_bold S x = -1 := by unfold a_bold; rw [hz]
    refine g_iconst C (-1) dX5_bold_10 (by decide) ?_
    exact g_reti M dX5_bold_11 (by rw [hr]; exact zOutC.same hR)
  · -- X5_bold 1f
    
    refine g_iload1 C dX5_bold_4 ?_
    refine g_bipush C (nI 7) dX5_bold_5 (by decide) ?_
    refine g_icmp_le C 12 dX5_bold_7 (by decide) (fun h7 => ?_) (fun h7 => ?_)
    · -- X5_bold 7t
      obtain ⟨b, hb, rfl, hz⟩ := zIdx_le (n := 7) (by decide) h1 h7
      have hr : a_bold S (nI b) = nI (zBo S.1 b (cN S.1)) := by unfold a_bold; rw [hz]
      refine g_iconst C (nI 0) dX5_bold_12 (by decide) ?_
      refine g_istore2 C dX5_bold_13 ?_
      refine g_iconst C (nI 0) dX5_bold_14 (by decide) ?_
      refine g_istore3 C dX5_bold_15 ?_
      exact H16 (cN S.1 + 1) b 0 hb hr (Nat.zero_le _) (by omega)
    · -- X5_bold 7f
      have hz := zIdx_gt (x := x) (n := 7) (by decide) h7
      have hr : a_bold S x = -1 := by unfold a_bold; rw [hz]
      refine g_iconst C (-1) dX5_bold_10 (by decide) ?_
      exact g_reti M dX5_bold_11 (by rw [hr]; exact zOutC.same hR)
set_option maxRecDepth 100000 in
set_option maxHeartbeats 4000000 in
theorem p_clique {Γ : zG} {c : Nat → Nat → Int32} {t : Nat → Int64} {S : zAb} (hS : OkS S) (hR : RepC c t S) {w : Int32} : Sp Γ 4 mX5_clique [.ref 0, .int w] 0 0 (wF c t) (z_pi (zOutC c t (a_clique S w) (S))) := by
  refine Sp.of (own := RX5) 1 false rfl (by decide +kernel) rfl rfl (fun h => by cases h) (fun K hKd M => ?_)
  have C := M.1
  show GG Γ K 0 0 (wF c t) 0 [some (.ref 0), some (.int w), none] []
  refine g_iload1 C dX5_clique_0 ?_
  refine g_callS1i C dX5_clique_1 slX5_171 (s_isPart) hKd (by first | decide | omega) rfl (Nat.le_of_ble_eq_true rfl) ?_
  rintro _ _ ⟨rfl, rfl⟩
  refine g_if_neB C 9 dX5_clique_4 (by decide) (fun h4 => ?_) (fun h4 => ?_)
  · -- X5_clique 4t
    rw [zPart_iff] at h4
    obtain ⟨j, hz⟩ := zsome_t h4
    obtain ⟨hj, rfl⟩ := zIdx_iff hz
    refine g_aload0 C dX5_clique_9 ?_
    refine g_getRT C dX5_clique_10 flX5_19 (show 0 < 68 by decide) rfl rfl (by decide) ?_
    refine g_callV0i C dX5_clique_13 vlX5_197 (s_lcl hS.1 hR.1) hKd (by first | decide | omega) rfl (Nat.le_of_ble_eq_true rfl) (show 3 < 68 by decide) rfl ?_
    rintro _ _ ⟨rfl, rfl⟩
    refine g_istore2 C dX5_clique_16 ?_
    refine g_iload1 C dX5_clique_17 ?_
    refine g_if_neN C 28 (by omega) dX5_clique_18 (by decide) (fun h18 => ?_) (fun h18 => ?_)
    · -- X5_clique 18t
      have hr : a_clique S (nI j) = nI (zCl S.1 (zAll (cN S.1) + 1)) := by unfold a_clique; rw [hz]; exact if_neg (by omega)
      refine g_iload2 C dX5_clique_28 ?_
      exact g_reti M dX5_clique_29 (by rw [hr]; exact zOutC.same hR)
    · -- X5_clique 18f
      have hr : a_clique S (nI j) = nI (zp8 (zCl S.1 (zAll (cN S.1) + 1))) := by unfold a_clique; rw [hz]; exact if_pos h18
      refine g_iload2 C dX5_clique_21 ?_
      refine g_callS1i C dX5_clique_22 slX5_135 (s_bc (by have := zCl_le (A := S.1) (zAll (cN S.1) + 1); have := zAll_lt hS.1.1; omega)) hKd (by first | decide | omega) rfl (Nat.le_of_ble_eq_true rfl) ?_
      rintro _ _ ⟨rfl, rfl⟩
      refine g_goto C 29 dX5_clique_25 (by decide) ?_
      exact g_reti M dX5_clique_29 (by rw [hr]; exact zOutC.same hR)
  · -- X5_clique 4f
    rw [zPart_iff] at h4
    have hz := zsome_f h4
    have hr : a_clique S w = -1 := by unfold a_clique; rw [hz]
    refine g_iconst C (-1) dX5_clique_7 (by decide) ?_
    exact g_reti M dX5_clique_8 (by rw [hr]; exact zOutC.same hR)
set_option maxRecDepth 100000 in
set_option maxHeartbeats 4000000 in
set_option maxRecDepth 20000 in
theorem p_rate {Γ : zG} {c : Nat → Nat → Int32} {t : Nat → Int64} {S : zAb} (hS : OkS S) (hR : RepC c t S) {k s : Int32} : Sp Γ 5 mX5_rate [.ref 0, .int k, .int s] 0 0 (wF c t) (z_pi (zOutC c t ((a_rate S k s).1) ((a_rate S k s).2))) := by
  refine Sp.of (own := RX5) 0 false rfl (by decide +kernel) rfl rfl (fun h => by cases h) (fun K hKd M => ?_)
  have C := M.1
  show GG Γ K 0 0 (wF c t) 0 [some (.ref 0), some (.int k), some (.int s)] []
  refine g_aload0 C dX5_rate_0 ?_
  refine g_iload2 C dX5_rate_1 ?_
  refine g_callV1i C dX5_rate_2 vlX5_78 (s_isSailor hS hR) hKd (by first | decide | omega) rfl (Nat.le_of_ble_eq_true rfl) (show 0 < 68 by decide) rfl ?_
  rintro _ _ ⟨rfl, rfl⟩
  refine g_if_neB C 11 dX5_rate_5 (by decide) (fun h5 => ?_) (fun h5 => ?_)
  · -- X5_rate 5t
    obtain ⟨i, hz⟩ := zsome_t h5
    obtain ⟨hi, rfl⟩ := zIdx_iff hz
    refine g_iload1 C dX5_rate_11 ?_
    by_cases hs0 : k = nI 0
    · -- X5_rate 12 case 0
      subst hs0
      refine g_tswIn C 0 52 dX5_rate_12 (by decide) rfl (by decide) ?_
      have hr : a_rate S (nI 0) (nI i) = (zRv S.1 S.2.1 i 0, zAddT S (zRt 0)) := by unfold a_rate; rw [hz, zIdx_n (n := 6) (by decide) (by decide)]
      refine g_aload0 C dX5_rate_52 ?_
      refine g_iload2 C dX5_rate_53 ?_
      refine g_callV1i C dX5_rate_54 vlX5_201 (s_asSailor hS.1 hR.1 hi) hKd (by first | decide | omega) rfl (Nat.le_of_ble_eq_true rfl) (show 0 < 68 by decide) rfl ?_
      rintro _ _ ⟨rfl, rfl⟩
      exact g_reti M dX5_rate_57 (by rw [hr]; exact ⟨rfl, c, _, rfl, ⟨hR.1, hR.2.1, hR.2.2.1, hR.2.2.2.1, hR.2.2.2.2.1, by rw [upL_s, hR.2.2.2.2.2]; rfl⟩, fun _ _ => rfl, fun a ha => upL_k ha⟩)
    by_cases hs1 : k = nI 1
    · -- X5_rate 12 case 1
      subst hs1
      refine g_tswIn C 1 58 dX5_rate_12 (by decide) rfl (by decide) ?_
      have hr : a_rate S (nI 1) (nI i) = (zRv S.1 S.2.1 i 1, zAddT S (zRt 1)) := by unfold a_rate; rw [hz, zIdx_n (n := 6) (by decide) (by decide)]
      refine g_aload0 C dX5_rate_58 ?_
      refine g_iload2 C dX5_rate_59 ?_
      refine g_callV1i C dX5_rate_60 vlX5_204 (s_asCook hS.1 hR.1 hi hR.2.1 hS.w) hKd (by first | decide | omega) rfl (Nat.le_of_ble_eq_true rfl) (show 0 < 68 by decide) rfl ?_
      rintro _ _ ⟨rfl, rfl⟩
      exact g_reti M dX5_rate_63 (by rw [hr]; exact ⟨rfl, c, _, rfl, ⟨hR.1, hR.2.1, hR.2.2.1, hR.2.2.2.1, hR.2.2.2.2.1, by rw [upL_s, hR.2.2.2.2.2]; rfl⟩, fun _ _ => rfl, fun a ha => upL_k ha⟩)
    by_cases hs2 : k = nI 2
    · -- X5_rate 12 case 2
      subst hs2
      refine g_tswIn C 2 64 dX5_rate_12 (by decide) rfl (by decide) ?_
      have hr : a_rate S (nI 2) (nI i) = (zRv S.1 S.2.1 i 2, zAddT S (zRt 2)) := by unfold a_rate; rw [hz, zIdx_n (n := 6) (by decide) (by decide)]
      refine g_aload0 C dX5_rate_64 ?_
      refine g_iload2 C dX5_rate_65 ?_
      refine g_callV1i C dX5_rate_66 vlX5_207 (s_asMate hS.1 hR.1 hi) hKd (by first | decide | omega) rfl (Nat.le_of_ble_eq_true rfl) (show 0 < 68 by decide) rfl ?_
      rintro _ _ ⟨rfl, rfl⟩
      exact g_reti M dX5_rate_69 (by rw [hr]; exact ⟨rfl, c, _, rfl, ⟨hR.1, hR.2.1, hR.2.2.1, hR.2.2.2.1, hR.2.2.2.2.1, by rw [upL_s, hR.2.2.2.2.2]; rfl⟩, fun _ _ => rfl, fun a ha => upL_k ha⟩)
    by_cases hs3 : k = nI 3
    · -- X5_rate 12 case 3
      subst hs3
      refine g_tswIn C 3 70 dX5_rate_12 (by decide) rfl (by decide) ?_
      have hr : a_rate S (nI 3) (nI i) = (zRv S.1 S.2.1 i 3, zAddT S (zRt 3)) := by unfold a_rate; rw [hz, zIdx_n (n := 6) (by decide) (by decide)]
      refine g_aload0 C dX5_rate_70 ?_
      refine g_iload2 C dX5_rate_71 ?_
      refine g_callV1i C dX5_rate_72 vlX5_210 (s_asBosun hS.1 hR.1 hi hR.2.1 hS.w) hKd (by first | decide | omega) rfl (Nat.le_of_ble_eq_true rfl) (show 0 < 68 by decide) rfl ?_
      rintro _ _ ⟨rfl, rfl⟩
      exact g_reti M dX5_rate_75 (by rw [hr]; exact ⟨rfl, c, _, rfl, ⟨hR.1, hR.2.1, hR.2.2.1, hR.2.2.2.1, hR.2.2.2.2.1, by rw [upL_s, hR.2.2.2.2.2]; rfl⟩, fun _ _ => rfl, fun a ha => upL_k ha⟩)
    by_cases hs4 : k = nI 4
    · -- X5_rate 12 case 4
      subst hs4
      refine g_tswIn C 4 76 dX5_rate_12 (by decide) rfl (by decide) ?_
      have hr : a_rate S (nI 4) (nI i) = (zRv S.1 S.2.1 i 4, zAddT S (zRt 4)) := by unfold a_rate; rw [hz, zIdx_n (n := 6) (by decide) (by decide)]
      refine g_aload0 C dX5_rate_76 ?_
      refine g_iload2 C dX5_rate_77 ?_
      refine g_callV1i C dX5_rate_78 vlX5_213 (s_asGunner hS.1 hR.1 hi) hKd (by first | decide | omega) rfl (Nat.le_of_ble_eq_true rfl) (show 0 < 68 by decide) rfl ?_
      rintro _ _ ⟨rfl, rfl⟩
      exact g_reti M dX5_rate_81 (by rw [hr]; exact ⟨rfl, c, _, rfl, ⟨hR.1, hR.2.1, hR.2.2.1, hR.2.2.2.1, hR.2.2.2.2.1, by rw [upL_s, hR.2.2.2.2.2]; rfl⟩, fun _ _ => rfl, fun a ha => upL_k ha⟩)
    by_cases hs5 : k = nI 5
    · -- X5_rate 12 case 5
      subst hs5
      refine g_tswIn C 5 82 dX5_rate_12 (by decide) rfl (by decide) ?_
      have hr : a_rate S (nI 5) (nI i) = (zRv S.1 S.2.1 i 5, zAddT S (zRt 5)) := by unfold a_rate; rw [hz, zIdx_n (n := 6) (by decide) (by decide)]
      refine g_aload0 C dX5_rate_82 ?_
      refine g_iload2 C dX5_rate_83 ?_
      refine g_callV1i C dX5_rate_84 vlX5_216 (s_asBoy hS.1 hR.1 hi hR.2.1) hKd (by first | decide | omega) rfl (Nat.le_of_ble_eq_true rfl) (show 0 < 68 by decide) rfl ?_
      rintro _ _ ⟨rfl, rfl⟩
      exact g_reti M dX5_rate_87 (by rw [hr]; refine ⟨rfl, c, _, rfl, ?_, fun _ _ => rfl, fun a ha => upL_k ha⟩; exact hR.add ((congrArg (· + (100001 : Int64)) hR.2.2.2.2.2).trans (congrArg (S.2.2.2.2.2 + ·) zRt_5.symm)))
    refine g_tswOut C 5 88 dX5_rate_12 (fun j hj => ?_) (by decide) (by decide) ?_
    · match j, hj with
      | 0, _ => exact hs0
      | 1, _ => exact hs1
      | 2, _ => exact hs2
      | 3, _ => exact hs3
      | 4, _ => exact hs4
      | 5, _ => exact hs5
      | n + 6, q => exact absurd q (by omega)
    have hr : a_rate S k (nI i) = (-1000000, S) := by
      unfold a_rate
      rw [hz, zIdx_none (n := 6) (fun j hj => by match j, hj with | 0, _ => exact hs0 | 1, _ => exact hs1 | 2, _ => exact hs2 | 3, _ => exact hs3 | 4, _ => exact hs4 | 5, _ => exact hs5 | n + 6, h => omega)]
    refine g_ldc C _ dX5_rate_88 kkX5_200 ?_
    exact g_reti M dX5_rate_90 (by rw [hr]; exact zOutC.same hR)
  · -- X5_rate 5f
    have hz := zsome_f h5
    have hr : a_rate S k s = (-1000000, S) := by unfold a_rate; rw [hz]
    refine g_ldc C _ dX5_rate_8 kkX5_200 ?_
    exact g_reti M dX5_rate_10 (by rw [hr]; exact zOutC.same hR)
set_option maxRecDepth 100000 in
set_option maxHeartbeats 4000000 in
theorem p_keep {Γ : zG} {c : Nat → Nat → Int32} {t : Nat → Int64} {S : zAb} (hS : OkS S) (hR : RepC c t S) {x : Int32} : Sp Γ 3 mX5_keep [.ref 0, .int x] 0 0 (wF c t) (z_pi (zOutC c t ((a_keep S x).1) ((a_keep S x).2))) := by
  refine Sp.of (own := RX5) 0 false rfl (by decide +kernel) rfl rfl (fun h => by cases h) (fun K hKd M => ?_)
  have C := M.1
  show GG Γ K 0 0 (wF c t) 0 [some (.ref 0), some (.int x)] []
  refine g_iload1 C dX5_keep_0 ?_
  refine g_callS1i C dX5_keep_1 slX5_171 (s_isPart) hKd (by first | decide | omega) rfl (Nat.le_of_ble_eq_true rfl) ?_
  rintro _ _ ⟨rfl, rfl⟩
  refine g_if_neB C 9 dX5_keep_4 (by decide) (fun h4 => ?_) (fun h4 => ?_)
  · -- X5_keep 4t
    rw [zPart_iff] at h4
    obtain ⟨j, hz⟩ := zsome_t h4
    obtain ⟨hj, rfl⟩ := zIdx_iff hz
    have hr : a_keep S (nI j) = (nI (mH S.2.1), (S.1, S.2.1, S.2.2.1, zKp S.2.2.2.1 S.2.1 j, S.2.2.2.2)) := by unfold a_keep; rw [hz]
    refine g_aload0 C dX5_keep_9 ?_
    refine g_iload1 C dX5_keep_10 ?_
    refine g_callV1r C dX5_keep_11 vlX5_219 (s_imageAt hj) hKd (by first | decide | omega) rfl (Nat.le_of_ble_eq_true rfl) (show 0 < 68 by decide) rfl ?_
    rintro _ _ ⟨rfl, rfl⟩
    refine g_aload0 C dX5_keep_14 ?_
    refine g_getRT C dX5_keep_15 flX5_29 (show 0 < 68 by decide) rfl rfl (by decide) ?_
    refine g_callV1v C dX5_keep_18 vlX5_223 (s_mbec (zMo_im j hj) zMo_11 (by omega)) hKd (by first | decide | omega) rfl (Nat.le_of_ble_eq_true rfl) (show (46 + 3 * j) < 68 by have := (zMo_im j hj).1; omega) (zMo_im j hj).2.1 ?_
    rintro _ rfl
    refine g_aload0 C dX5_keep_21 ?_
    refine g_dup C dX5_keep_22 rfl ?_
    refine g_getIE C ((congrFun (zBec_o (by omega)) 7).trans hR.2.2.2.1.1) dX5_keep_23 flX5_75 (show 0 < 68 by decide) rfl rfl ?_
    refine g_iconst C (nI 1) dX5_keep_26 (by decide) ?_
    refine g_iload1 C dX5_keep_27 ?_
    refine g_ishlN C dX5_keep_28 (by omega) ?_
    refine g_iorN C dX5_keep_29 ?_
    refine g_putI C dX5_keep_30 fpX5_75 (show 0 < 68 by decide) rfl rfl rfl rfl ?_
    refine g_aload0 C dX5_keep_33 ?_
    refine g_getRT C dX5_keep_34 flX5_29 (show 0 < 68 by decide) rfl rfl (by decide) ?_
    refine g_getIE C ((up_k (by decide) _).trans ((congrFun (zBec_o (by omega)) 2).trans hR.2.1.1)) dX5_keep_37 flX5_118 (show 11 < 68 by decide) rfl rfl ?_
    exact g_reti M dX5_keep_40 (by rw [hr]; exact ⟨rfl, _, t, rfl, hR.keep hj, fun a ha => (up_K (by omega)).trans (zBec_o (by omega)), fun _ _ => rfl⟩)
  · -- X5_keep 4f
    rw [zPart_iff] at h4
    have hz := zsome_f h4
    have hr : a_keep S x = (-1, S) := by unfold a_keep; rw [hz]
    refine g_iconst C (-1) dX5_keep_7 (by decide) ?_
    exact g_reti M dX5_keep_8 (by rw [hr]; exact zOutC.same hR)
set_option maxRecDepth 100000 in
set_option maxHeartbeats 4000000 in
theorem p_back {Γ : zG} {c : Nat → Nat → Int32} {t : Nat → Int64} {S : zAb} (hS : OkS S) (hR : RepC c t S) {x : Int32} : Sp Γ 3 mX5_back [.ref 0, .int x] 0 0 (wF c t) (z_pi (zOutC c t ((a_back S x).1) ((a_back S x).2))) := by
  refine Sp.of (own := RX5) 0 false rfl (by decide +kernel) rfl rfl (fun h => by cases h) (fun K hKd M => ?_)
  have C := M.1
  show GG Γ K 0 0 (wF c t) 0 [some (.ref 0), some (.int x)] []
  refine g_iload1 C dX5_back_0 ?_
  refine g_callS1i C dX5_back_1 slX5_171 (s_isPart) hKd (by first | decide | omega) rfl (Nat.le_of_ble_eq_true rfl) ?_
  rintro _ _ ⟨rfl, rfl⟩
  refine g_if_neB C 9 dX5_back_4 (by decide) (fun h4 => ?_) (fun h4 => ?_)
  · -- X5_back 4t
    rw [zPart_iff] at h4
    obtain ⟨j, hz⟩ := zsome_t h4
    obtain ⟨hj, rfl⟩ := zIdx_iff hz
    refine g_aload0 C dX5_back_9 ?_
    refine g_getIE C hR.2.2.2.1.1 dX5_back_10 flX5_75 (show 0 < 68 by decide) rfl rfl ?_
    refine g_iload1 C dX5_back_13 ?_
    refine g_callS2i C dX5_back_14 slX5_99 (s_has (by have := zKm_lt S.2.2.2.1; omega) (by omega)) hKd (by first | decide | omega) rfl (Nat.le_of_ble_eq_true rfl) ?_
    rintro _ _ ⟨rfl, rfl⟩
    refine g_if_neB C 23 dX5_back_17 (by decide) (fun h17 => ?_) (fun h17 => ?_)
    · -- X5_back 17t
      rw [zKm_bit _ j hj] at h17
      obtain ⟨Y, hg⟩ := Option.isSome_iff_exists.mp h17
      have hr : a_back S (nI j) = (nI (mH Y), (S.1, Y, [], S.2.2.2)) := by unfold a_back; rw [hz]; simp only; rw [hg]
      have hYm := zBec_mo (m := 11) (hR.2.2.2.1.get hj hg)
      refine g_aload0 C dX5_back_23 ?_
      refine g_getRT C dX5_back_24 flX5_29 (show 0 < 68 by decide) rfl rfl (by decide) ?_
      refine g_aload0 C dX5_back_27 ?_
      refine g_iload1 C dX5_back_28 ?_
      refine g_callV1r C dX5_back_29 vlX5_219 (s_imageAt hj) hKd (by first | decide | omega) rfl (Nat.le_of_ble_eq_true rfl) (show 0 < 68 by decide) rfl ?_
      rintro _ _ ⟨rfl, rfl⟩
      refine g_callV1v C dX5_back_32 vlX5_223 (s_mbec zMo_11 (zMo_im j hj) (by omega)) hKd (by first | decide | omega) rfl (Nat.le_of_ble_eq_true rfl) (show 11 < 68 by decide) rfl ?_
      rintro _ rfl
      refine g_aload0 C dX5_back_35 ?_
      refine g_getRT C dX5_back_36 flX5_36 (show 0 < 68 by decide) rfl rfl (by decide) ?_
      refine g_callV0v C dX5_back_39 vlX5_72 (s_forget) hKd (by first | decide | omega) rfl (Nat.le_of_ble_eq_true rfl) (show 14 < 68 by decide) rfl ?_
      rintro _ rfl
      refine g_aload0 C dX5_back_42 ?_
      refine g_getRT C dX5_back_43 flX5_29 (show 0 < 68 by decide) rfl rfl (by decide) ?_
      refine g_getIE C ((up_k (by decide) _).trans hYm.1) dX5_back_46 flX5_118 (show 11 < 68 by decide) rfl rfl ?_
      exact g_reti M dX5_back_49 (by rw [hr]; exact ⟨rfl, _, t, rfl, (hR.mom (c' := zBec c 11 (46 + 3 * j)) (fun a _ h => zBec_o (by omega)) hYm).past (P := []) (fun a _ h => up_K (by omega)) (let ⟨nx, h1, h2, h3, h4⟩ := hR.2.2.1; ⟨nx, h1, (up_j _ (by decide)).trans ((congrFun (zBec_o (by decide)) 1).trans h2), up_s _ _ _ _, fun i M h => by cases h⟩), fun a ha => (up_K (by omega)).trans (zBec_o (by omega)), fun _ _ => rfl⟩)
    · -- X5_back 17f
      rw [zKm_bit _ j hj] at h17
      have hg : zGt S.2.2.2.1 j = none := by cases h : zGt S.2.2.2.1 j with | none => rfl | some M => rw [h] at h17; cases h17
      have hr : a_back S (nI j) = (-2, S) := by unfold a_back; rw [hz]; simp only; rw [hg]
      refine g_bipush C (-2) dX5_back_20 (by decide) ?_
      exact g_reti M dX5_back_22 (by rw [hr]; exact zOutC.same hR)
  · -- X5_back 4f
    rw [zPart_iff] at h4
    have hz := zsome_f h4
    have hr : a_back S x = (-1, S) := by unfold a_back; rw [hz]
    refine g_iconst C (-1) dX5_back_7 (by decide) ?_
    exact g_reti M dX5_back_8 (by rw [hr]; exact zOutC.same hR)
theorem RepC.text {c c' : Nat → Nat → Int32} {t : Nat → Int64} {S : zAb} {T : zTx} (h : RepC c t S) (he : ∀ a, a < 56 → a ≠ 1 → a ≠ 2 → c' a = c a) (h1 : c' 1 1 = nI T.1) (h2 : ∀ i, i < T.1 → c' 2 i = nI (T.2 i)) : RepC c' t (S.1, S.2.1, S.2.2.1, S.2.2.2.1, T, S.2.2.2.2.2) := by
  obtain ⟨g1, g2, g3, g4, g5, g6⟩ := h
  exact ⟨g1.eq (he _ (by decide) (by decide) (by decide)) (he _ (by decide) (by decide) (by decide)) (he _ (by decide) (by decide) (by decide)) (he _ (by decide) (by decide) (by decide)), g2.eq (he _ (by decide) (by decide) (by decide)) (he _ (by decide) (by decide) (by decide)) (he _ (by decide) (by decide) (by decide)), g3.eq fun a p q => he a (by omega) (by omega) (by omega), g4.eq (he _ (by decide) (by decide) (by decide)) fun a p q => he a (by omega) (by omega) (by omega), ⟨h1, h2⟩, g6⟩
set_option maxRecDepth 100000 in
set_option maxHeartbeats 4000000 in
theorem p_type {Γ : zG} {c : Nat → Nat → Int32} {t : Nat → Int64} {S : zAb} (hS : OkS S) (hR : RepC c t S) {x : Int32} : Sp Γ 2 mX5_type [.ref 0, .int x] 0 0 (wF c t) (z_pi (zOutC c t ((a_type S x).1) ((a_type S x).2))) := by
  refine Sp.of (own := RX5) 0 false rfl (by decide +kernel) rfl rfl (fun h => by cases h) (fun K hKd M => ?_)
  have C := M.1
  show GG Γ K 0 0 (wF c t) 0 [some (.ref 0), some (.int x)] []
  refine g_iload1 C dX5_type_0 ?_
  refine g_if_lt C 11 dX5_type_1 (by decide) (fun h1 => ?_) (fun h1 => ?_)
  · -- X5_type 1t
    have hz := zIdx_lt (x := x) (n := 256) (by decide) (Or.inl h1)
    have hr : a_type S x = (-1, S) := by unfold a_type; rw [hz]
    refine g_iconst C (-1) dX5_type_11 (by decide) ?_
    exact g_reti M dX5_type_12 (by rw [hr]; exact zOutC.same hR)
  · -- X5_type 1f
    
    refine g_iload1 C dX5_type_4 ?_
    refine g_sipush C (nI 255) dX5_type_5 (by decide) ?_
    refine g_icmp_le C 13 dX5_type_8 (by decide) (fun h8 => ?_) (fun h8 => ?_)
    · -- X5_type 8t
      obtain ⟨a, ha, rfl, hz⟩ := zIdx_le (n := 255) (by decide) h1 h8
      refine g_aload0 C dX5_type_13 ?_
      refine g_getRT C dX5_type_14 flX5_10 (show 0 < 68 by decide) rfl rfl (by decide) ?_
      refine g_iload1 C dX5_type_17 ?_
      refine g_callV1i C dX5_type_18 vlX5_53 (s_append (hR.tx hS)) hKd (by first | decide | omega) rfl (Nat.le_of_ble_eq_true rfl) (show 1 < 68 by decide) rfl ?_
      rintro _ _ (⟨hl, rfl, rfl⟩ | ⟨hl, rfl, rfl⟩)
      · -- fork
        have hr : a_type S (nI a) = (-3, S) := by unfold a_type; rw [hz]; exact if_neg (by omega)
        refine g_if_eqN C 34 (by omega) dX5_type_21 (by decide) (fun h21 => ?_) (fun h21 => absurd h21 (by decide))
        refine g_bipush C (-3) dX5_type_34 (by decide) ?_
        exact g_reti M dX5_type_36 (by first | (rw [hr]; exact zOutC.same hR) | (rw [hr]; exact ⟨rfl, _, t, rfl, hR.text (fun b _ h1 h2 => by rw [up_K h1, up_K h2]) (up_s _ _ _ _) (fun i hi => by
            rw [up_k (by decide)]
            show z_up c 2 _ _ 2 i = nI (if i = S.2.2.2.2.1.1 then a else S.2.2.2.2.1.2 i)
            by_cases e : i = S.2.2.2.2.1.1
            · rw [if_pos e, e, up_s]
            · rw [if_neg e, up_j _ e]; exact hR.2.2.2.2.1.2 i (by have : i < S.2.2.2.2.1.1 + 1 := hi; omega)), fun b hb => by rw [up_K (by omega), up_K (by omega)], fun _ _ => rfl⟩))
      · -- fork
        have hr : a_type S (nI a) = (nI (S.2.2.2.2.1.1 + 1), (S.1, S.2.1, S.2.2.1, S.2.2.2.1, (S.2.2.2.2.1.1 + 1, fun i => if i = S.2.2.2.2.1.1 then a else S.2.2.2.2.1.2 i), S.2.2.2.2.2)) := by unfold a_type; rw [hz]; exact if_pos hl
        refine g_if_eqN C 34 (by omega) dX5_type_21 (by decide) (fun h21 => absurd h21 (by decide)) (fun h21 => ?_)
        refine g_aload0 C dX5_type_24 ?_
        refine g_getRT C dX5_type_25 flX5_10 (show 0 < 68 by decide) rfl rfl (by decide) ?_
        refine g_getIE C (up_s _ _ _ _) dX5_type_28 flX5_57 (show 1 < 68 by decide) rfl rfl ?_
        refine g_goto C 36 dX5_type_31 (by decide) ?_
        exact g_reti M dX5_type_36 (by first | (rw [hr]; exact zOutC.same hR) | (rw [hr]; exact ⟨rfl, _, t, rfl, hR.text (fun b _ h1 h2 => by rw [up_K h1, up_K h2]) (up_s _ _ _ _) (fun i hi => by
            rw [up_k (by decide)]
            show z_up c 2 _ _ 2 i = nI (if i = S.2.2.2.2.1.1 then a else S.2.2.2.2.1.2 i)
            by_cases e : i = S.2.2.2.2.1.1
            · rw [if_pos e, e, up_s]
            · rw [if_neg e, up_j _ e]; exact hR.2.2.2.2.1.2 i (by have : i < S.2.2.2.2.1.1 + 1 := hi; omega)), fun b hb => by rw [up_K (by omega), up_K (by omega)], fun _ _ => rfl⟩))
    · -- X5_type 8f
      have hz := zIdx_gt (x := x) (n := 255) (by decide) h8
      have hr : a_type S x = (-1, S) := by unfold a_type; rw [hz]
      refine g_iconst C (-1) dX5_type_11 (by decide) ?_
      exact g_reti M dX5_type_12 (by rw [hr]; exact zOutC.same hR)
set_option maxRecDepth 100000 in
set_option maxHeartbeats 4000000 in
theorem p_clear {Γ : zG} {c : Nat → Nat → Int32} {t : Nat → Int64} {S : zAb} (hS : OkS S) (hR : RepC c t S)  : Sp Γ 0 mX5_clear [.ref 0] 0 0 (wF c t) (z_pi (zOutC c t ((a_clear S).1) ((a_clear S).2))) := by
  refine Sp.of (own := RX5) 1 false rfl (by decide +kernel) rfl rfl (fun h => by cases h) (fun K hKd M => ?_)
  have C := M.1
  show GG Γ K 0 0 (wF c t) 0 [some (.ref 0), none] []
  refine g_aload0 C dX5_clear_0 ?_
  refine g_getRT C dX5_clear_1 flX5_10 (show 0 < 68 by decide) rfl rfl (by decide) ?_
  refine g_getIE C hR.2.2.2.2.1.1 dX5_clear_4 flX5_57 (show 1 < 68 by decide) rfl rfl ?_
  refine g_istore1 C dX5_clear_7 ?_
  refine g_aload0 C dX5_clear_8 ?_
  refine g_getRT C dX5_clear_9 flX5_10 (show 0 < 68 by decide) rfl rfl (by decide) ?_
  refine g_iconst C (nI 0) dX5_clear_12 (by decide) ?_
  refine g_putI C dX5_clear_13 fpX5_57 (show 1 < 68 by decide) rfl rfl rfl rfl ?_
  refine g_iload1 C dX5_clear_16 ?_
  exact g_reti M dX5_clear_17 (⟨rfl, _, t, rfl, hR.text (T := (0, S.2.2.2.2.1.2)) (fun b _ h1 _ => up_K h1) (up_s _ _ _ _) (fun i hi => absurd hi (Nat.not_lt_zero i)), fun b hb => up_K (by omega), fun _ _ => rfl⟩)
set_option maxRecDepth 100000 in
set_option maxHeartbeats 4000000 in
theorem p_trace {Γ : zG} {c : Nat → Nat → Int32} {t : Nat → Int64} {S : zAb} (hS : OkS S) (hR : RepC c t S)  : Sp Γ 0 mX5_trace [.ref 0] 0 0 (wF c t) (z_pl (fun v w => v = S.2.2.2.2.2 ∧ w = wF c t)) := by
  refine Sp.of (own := RX5) 0 false rfl (by decide +kernel) rfl rfl (fun h => by cases h) (fun K hKd M => ?_)
  have C := M.1
  show GG Γ K 0 0 (wF c t) 0 [some (.ref 0)] []
  refine g_aload0 C dX5_trace_0 ?_
  refine g_getLT C dX5_trace_1 flX5_231 (show 0 < 68 by decide) rfl rfl ?_
  exact g_retl M dX5_trace_4 (⟨hR.2.2.2.2.2, rfl⟩)
set_option maxRecDepth 100000 in
set_option maxHeartbeats 4000000 in
theorem p_crew {Γ : zG} {c : Nat → Nat → Int32} {t : Nat → Int64} {S : zAb} (hS : OkS S) (hR : RepC c t S)  : Sp Γ 6 mX5_crew [.ref 0] 0 0 (wF c t) (z_pi (zOutC c t ((a_crew S).1) ((a_crew S).2))) := by
  refine Sp.of (own := RX5) 1 false rfl (by decide +kernel) rfl rfl (fun h => by cases h) (fun K hKd M => ?_)
  have C := M.1
  show GG Γ K 0 0 (wF c t) 0 [some (.ref 0), none] []
  refine g_aload0 C dX5_crew_0 ?_
  refine g_getRT C dX5_crew_1 flX5_10 (show 0 < 68 by decide) rfl rfl (by decide) ?_
  refine g_aload0 C dX5_crew_4 ?_
  refine g_getRT C dX5_crew_5 flX5_23 (show 0 < 68 by decide) rfl rfl (by decide) ?_
  refine g_callV1i C dX5_crew_8 vlX5_61 (s_readInto (hR.tx hS)) hKd (by first | decide | omega) rfl (Nat.le_of_ble_eq_true rfl) (show 1 < 68 by decide) rfl ?_
  rintro _ _ ⟨rfl, c1, rfl, htf, hok⟩
  have hb2 := zRun_ok (f := S.2.2.2.2.1.2) hS.2.2.2.2.2.1 201 0 0 zD0 (Nat.zero_le _) (Nat.le_refl _) OkD0
  by_cases hb : (zRun S.2.2.2.2.1.2 S.2.2.2.2.1.1 201 0 0 zD0).1 = true
  · -- case
    rw [if_pos hb]
    obtain ⟨hc7, ok7⟩ := hok hb
    have hr : a_crew S = (nI (zPr S).2.1, ((zPr S).2.2.1, zY0, [], (none, none), (0, S.2.2.2.2.1.2), S.2.2.2.2.2)) := by unfold a_crew; rw [if_pos (show (zPr S).1 = true from hb)]
    refine g_istore1 C dX5_crew_11 ?_
    refine g_iload1 C dX5_crew_12 ?_
    refine g_if_geN C 18 (by have := hb2.1; omega) dX5_crew_13 (by decide) (fun _ => ?_) (fun h => h.elim)
    refine g_aload0 C dX5_crew_18 ?_
    refine g_getRT C dX5_crew_19 flX5_19 (show 0 < 68 by decide) rfl rfl (by decide) ?_
    refine g_aload0 C dX5_crew_22 ?_
    refine g_getRT C dX5_crew_23 flX5_23 (show 0 < 68 by decide) rfl rfl (by decide) ?_
    refine g_callV1v C dX5_crew_26 vlX5_65 (s_cbec ok7 hc7) hKd (by first | decide | omega) rfl (Nat.le_of_ble_eq_true rfl) (show 3 < 68 by decide) rfl ?_
    rintro _ ⟨c2, rfl, hc3, fr2⟩
    refine g_aload0 C dX5_crew_29 ?_
    refine g_getRT C dX5_crew_30 flX5_10 (show 0 < 68 by decide) rfl rfl (by decide) ?_
    refine g_iconst C (nI 0) dX5_crew_33 (by decide) ?_
    refine g_putI C dX5_crew_34 fpX5_57 (show 1 < 68 by decide) rfl rfl rfl rfl ?_
    refine g_aload0 C dX5_crew_37 ?_
    refine g_getRT C dX5_crew_38 flX5_29 (show 0 < 68 by decide) rfl rfl (by decide) ?_
    refine g_callV0v C dX5_crew_41 vlX5_69 (s_mrst zMo_11) hKd (by first | decide | omega) rfl (Nat.le_of_ble_eq_true rfl) (show 11 < 68 by decide) rfl ?_
    rintro _ rfl
    refine g_aload0 C dX5_crew_44 ?_
    refine g_getRT C dX5_crew_45 flX5_36 (show 0 < 68 by decide) rfl rfl (by decide) ?_
    refine g_callV0v C dX5_crew_48 vlX5_72 (s_forget) hKd (by first | decide | omega) rfl (Nat.le_of_ble_eq_true rfl) (show 14 < 68 by decide) rfl ?_
    rintro _ rfl
    refine g_aload0 C dX5_crew_51 ?_
    refine g_iconst C (nI 0) dX5_crew_52 (by decide) ?_
    refine g_putI C dX5_crew_53 fpX5_75 (show 0 < 68 by decide) rfl rfl rfl rfl ?_
    refine g_iload1 C dX5_crew_56 ?_
    exact g_reti M dX5_crew_57 (by rw [hr]; exact ⟨rfl, _, t, rfl, zCrewRep hR htf hc3 fr2, fun a ha => by rw [up_K (by omega), up_K (by omega), up_K (by omega), up_K (by omega), z_fill_k (by omega), z_fill_k (by omega), up_K (by omega), fr2 a (by omega), htf.1 a (by omega) (by omega)], fun _ _ => rfl⟩)
  · -- case
    rw [if_neg hb]
    have hr : a_crew S = (-10 - nI (zPr S).2.1, S) := by unfold a_crew; rw [if_neg (show ¬ (zPr S).1 = true from hb)]
    refine g_istore1 C dX5_crew_11 ?_
    refine g_iload1 C dX5_crew_12 ?_
    refine g_if_ge C 18 dX5_crew_13 (by decide) (fun h13 => absurd h13 (by exact zcr_neg _ hb2.1)) (fun h13 => ?_)
    refine g_iload1 C dX5_crew_16 ?_
    exact g_reti M dX5_crew_17 (by rw [hr]; exact ⟨rfl, c1, t, rfl, ⟨hR.1.eq (htf.1 3 (by decide) (by decide)) (htf.1 4 (by decide) (by decide)) (htf.1 5 (by decide) (by decide)) (htf.1 6 (by decide) (by decide)), hR.2.1.eq (htf.1 11 (by decide) (by decide)) (htf.1 12 (by decide) (by decide)) (htf.1 13 (by decide) (by decide)), hR.2.2.1.eq (fun a p q => htf.1 a (by omega) (by omega)), hR.2.2.2.1.eq (htf.1 0 (by decide) (by decide)) (fun a p q => htf.1 a (by omega) (by omega)), ⟨htf.2.trans hR.2.2.2.2.1.1, fun i hi => (congrFun (htf.1 2 (by decide) (by decide)) i).trans (hR.2.2.2.2.1.2 i hi)⟩, hR.2.2.2.2.2⟩, fun a ha => htf.1 a (by omega) (by omega), fun _ _ => rfl⟩)
