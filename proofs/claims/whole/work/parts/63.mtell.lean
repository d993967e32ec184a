/-! the reference: what the orders tell -/
theorem zT0_n {S : zAb} (hS : OkS S) : ∀ s, (zT0 S).testBit s = true → s < cN S.1 := fun s hs => by
  obtain ⟨k, hk, hw⟩ := zTh_bit 8 hs
  exact (hS.2.1.2.2.1 k s hk hw).1
theorem zp8_nz : ∀ T, T < 128 → T ≠ 0 → 0 < zp8 T := by decide +kernel
set_option maxRecDepth 100000 in
set_option maxHeartbeats 4000000 in
theorem n_of {Γ : zG} {w0 : zW} {l : List Nat} {k : Nat} (h8 : ∀ s ∈ l, s < 8) (hr : zRc l < 2 ^ 31) (hk : k ≤ 7) : Sp Γ 0 mX6_of [.int (nI (zRc l)), .int (nI k)] 0 0 (w0) (z_pi (fun v w => w = w0 ∧ v = nI (zGd l k))) := by
  refine Sp.of (own := RX6) 0 false rfl (by decide +kernel) rfl rfl (fun h => by cases h) (fun K hKd M => ?_)
  have C := M.1
  show GG Γ K 0 0 (w0) 0 [some (.int (nI (zRc l))), some (.int (nI k))] []
  refine g_iload0 C dX6_of_0 ?_
  refine g_iconst C (nI 3) dX6_of_1 (by decide) ?_
  refine g_iload1 C dX6_of_2 ?_
  refine g_imulN C dX6_of_3 ?_
  refine g_ishrN C dX6_of_4 (by omega) hr ?_
  refine g_bipush C (nI 7) dX6_of_5 (by decide) ?_
  refine g_iandN C dX6_of_7 ?_
  refine g_top (by rw [zRc_of l k h8]) ?_
  exact g_reti M dX6_of_8 (⟨rfl, rfl⟩)
set_option maxRecDepth 100000 in
set_option maxHeartbeats 4000000 in
theorem n_placeIn {Γ : zG} {w0 : zW} {l : List Nat} {i : Nat} (h : zVal l) (hi : i < 7) : Sp Γ 0 mX6_placeIn [.int (nI (zRc l)), .int (nI l.length), .int (nI i)] 0 0 (w0) (z_pi (fun v w => w = w0 ∧ v = nI (zPl l i))) := by
  refine Sp.of (own := RX6) 2 false rfl (by decide +kernel) rfl rfl (fun h => by cases h) (fun K hKd M => ?_)
  have C := M.1
  show GG Γ K 0 0 (w0) 0 [some (.int (nI (zRc l))), some (.int (nI l.length)), some (.int (nI i)), none, none] []
  have hl7 := h.2.2
  have H5 : ∀ (n : Nat) (k : Nat), k ≤ l.length → l.length - k < n → GG Γ K 0 0 (w0) 5 [some (.int (nI (zRc l))), some (.int (nI l.length)), some (.int (nI i)), some (.int (nI (zPk l i k))), some (.int (nI k))] [] := by
    intro n
    induction n with
    | zero => intro k hk hn; exact absurd hn (by omega)
    | succ n ih =>
      intro k hk hn
      refine g_iload4 C dX6_placeIn_5 ?_
      refine g_iload1 C dX6_placeIn_7 ?_
      refine g_icmp_geN C 37 (by omega) (by omega) dX6_placeIn_8 (by decide) (fun h8 => ?_) (fun h8 => ?_)
      · -- X6_placeIn 8t
        obtain rfl : k = l.length := by omega
        refine g_iload3 C dX6_placeIn_37 ?_
        exact g_reti M dX6_placeIn_38 (⟨rfl, by rw [zPk_all h]⟩)
      · -- X6_placeIn 8f
        have hg8 := h.s8 _ (zGd_mem h8)
        refine g_iload0 C dX6_placeIn_11 ?_
        refine g_iconst C (nI 3) dX6_placeIn_12 (by decide) ?_
        refine g_iload4 C dX6_placeIn_13 ?_
        refine g_imulN C dX6_placeIn_15 ?_
        refine g_ishrN C dX6_placeIn_16 (by omega) h.rlt ?_
        refine g_bipush C (nI 7) dX6_placeIn_17 (by decide) ?_
        refine g_iandN C dX6_placeIn_19 ?_
        refine g_top (by rw [zRc_of l k h.s8]) ?_
        refine g_iload2 C dX6_placeIn_20 ?_
        refine g_icmp_neN C 29 (by omega) (by omega) dX6_placeIn_21 (by decide) (fun h21 => ?_) (fun h21 => ?_)
        · -- X6_placeIn 21t
          
          refine g_iload3 C dX6_placeIn_29 ?_
          refine g_istore3 C dX6_placeIn_30 ?_
          refine g_set (L' := [some (.int (nI (zRc l))), some (.int (nI l.length)), some (.int (nI i)), some (.int (nI (zPk l i (k + 1)))), some (.int (nI k))]) rfl (by rw [zPk, if_neg h21]) rfl ?_
          refine g_iinc4N C dX6_placeIn_31 ?_
          refine g_goto C 5 dX6_placeIn_34 (by decide) ?_
          exact ih (k + 1) (by omega) (by omega)
        · -- X6_placeIn 21f
          
          refine g_iload4 C dX6_placeIn_24 ?_
          refine g_goto C 30 dX6_placeIn_26 (by decide) ?_
          refine g_istore3 C dX6_placeIn_30 ?_
          refine g_set (L' := [some (.int (nI (zRc l))), some (.int (nI l.length)), some (.int (nI i)), some (.int (nI (zPk l i (k + 1)))), some (.int (nI k))]) rfl (by rw [zPk, if_pos h21]) rfl ?_
          refine g_iinc4N C dX6_placeIn_31 ?_
          refine g_goto C 5 dX6_placeIn_34 (by decide) ?_
          exact ih (k + 1) (by omega) (by omega)
  refine g_iconst C (nI 0) dX6_placeIn_0 (by decide) ?_
  refine g_istore3 C dX6_placeIn_1 ?_
  refine g_iconst C (nI 0) dX6_placeIn_2 (by decide) ?_
  refine g_istore4 C dX6_placeIn_3 ?_
  exact H5 (l.length + 1) 0 (Nat.zero_le _) (by omega)
set_option maxRecDepth 100000 in
set_option maxHeartbeats 4000000 in
theorem q_orders {Γ : zG} {c : Nat → Nat → Int32} {t : Nat → Int64} {S : zAb} (hS : OkS S) (hR : RepM c t S)  : Sp Γ 12 mX6_orders [.ref 56] 0 0 (wF c t) (z_pi (zOutM c t (nI (zO0 S).length) (S))) := by
  refine Sp.of (own := RX6) 0 false rfl (by decide +kernel) rfl rfl (fun h => by cases h) (fun K hKd M => ?_)
  have C := M.1
  show GG Γ K 0 0 (wF c t) 0 [some (.ref 56)] []
  refine g_aload0 C dX6_orders_0 ?_
  refine g_aload0 C dX6_orders_1 ?_
  refine g_callV0i C dX6_orders_2 vlX6_114 (n_there hS hR) hKd (by first | decide | omega) rfl (Nat.le_of_ble_eq_true rfl) (show 56 < 68 by decide) rfl ?_
  rintro _ _ ⟨rfl, rfl⟩
  refine g_callV1v C dX6_orders_5 vlX6_130 (n_lays hS hR hS.t (zT0_n hS)) hKd (by first | decide | omega) rfl (Nat.le_of_ble_eq_true rfl) (show 56 < 68 by decide) rfl ?_
  rintro _ ⟨c1, rfl, hrw, hf⟩
  have hQ : RwQ c1 (zO0 S) (zT0 S) := RwQ_of hrw hS.t
  have hR1 : RepM c1 t S := hR.frl hf
  have hO := hQ.2.2.1
  refine g_aload0 C dX6_orders_8 ?_
  refine g_getIE C hQ.1.1 dX6_orders_9 flX6_124 (show 56 < 68 by decide) rfl rfl ?_
  exact g_reti M dX6_orders_12 (zOutM.mk' rfl hR1 (fun a ha => hf.1 a (by omega) (by omega) (by omega) (by omega)) (fun _ _ => rfl))
set_option maxRecDepth 100000 in
set_option maxHeartbeats 4000000 in
theorem n_firsts {Γ : zG} {c : Nat → Nat → Int32} {t : Nat → Int64} {O : List (List Nat)} {T : Nat} (hQ : RwQ c O T)  : Sp Γ 1 mX6_firsts [.ref 56, .int (nI T)] 0 0 (wF c t) (z_pi (fun v w => w = wF c t ∧ v = nI (zFb O O.length &&& T))) := by
  refine Sp.of (own := RX6) 2 false rfl (by decide +kernel) rfl rfl (fun h => by cases h) (fun K hKd M => ?_)
  have C := M.1
  show GG Γ K 0 0 (wF c t) 0 [some (.ref 56), some (.int (nI T)), none, none] []
  have hO := hQ.2.2.1
  have hT := hQ.2.1
  by_cases hT0 : T = 0
  · subst hT0
    refine g_iconst C (nI 0) dX6_firsts_0 (by decide) ?_
    refine g_istore2 C dX6_firsts_1 ?_
    refine g_iconst C (nI 0) dX6_firsts_2 (by decide) ?_
    refine g_istore3 C dX6_firsts_3 ?_
    refine g_iload3 C dX6_firsts_4 ?_
    refine g_aload0 C dX6_firsts_5 ?_
    refine g_getIE C hQ.1.1 dX6_firsts_6 flX6_124 (show 56 < 68 by decide) rfl rfl ?_
    refine g_icmp_geN C 37 (by omega) (by omega) dX6_firsts_9 (by decide) (fun h9 => ?_) (fun h9 => ?_)
    · -- X6_firsts 9t
      
      refine g_iload2 C dX6_firsts_37 ?_
      exact g_reti M dX6_firsts_38 (⟨rfl, by rw [Nat.and_zero]⟩)
    · -- X6_firsts 9f
      
      refine g_iload1 C dX6_firsts_12 ?_
      refine g_if_eqN C 37 (by omega) dX6_firsts_13 (by decide) (fun h13 => ?_) (fun h13 => absurd h13 (by omega))
      refine g_iload2 C dX6_firsts_37 ?_
      exact g_reti M dX6_firsts_38 (⟨rfl, by rw [Nat.and_zero]⟩)
  · have hz := zp8_nz T hT hT0
    have H4 : ∀ (n : Nat) (r : Nat), r ≤ O.length → O.length - r < n → GG Γ K 0 0 (wF c t) 4 [some (.ref 56), some (.int (nI T)), some (.int (nI (zFb O r))), some (.int (nI r))] [] := by
      intro n
      induction n with
      | zero => intro r hr hn; exact absurd hn (by omega)
      | succ n ih =>
        intro r hr hn
        refine g_iload3 C dX6_firsts_4 ?_
        refine g_aload0 C dX6_firsts_5 ?_
        refine g_getIE C hQ.1.1 dX6_firsts_6 flX6_124 (show 56 < 68 by decide) rfl rfl ?_
        refine g_icmp_geN C 37 (by omega) (by omega) dX6_firsts_9 (by decide) (fun h9 => ?_) (fun h9 => ?_)
        · -- X6_firsts 9t
          obtain rfl : r = O.length := by omega
          have hand := (zFb_sub hQ hz O.length (Nat.le_refl _)).and
          refine g_iload2 C dX6_firsts_37 ?_
          exact g_reti M dX6_firsts_38 (⟨rfl, by rw [hand]⟩)
        · -- X6_firsts 9f
          have hv := (hQ.val h9).1
          have hh := hQ.hd hz h9
          refine g_iload1 C dX6_firsts_12 ?_
          refine g_if_eqN C 37 (by omega) dX6_firsts_13 (by decide) (fun h13 => absurd h13 (by omega)) (fun h13 => ?_)
          refine g_iload2 C dX6_firsts_16 ?_
          refine g_iconst C (nI 1) dX6_firsts_17 (by decide) ?_
          refine g_aload0 C dX6_firsts_18 ?_
          refine g_getRT C dX6_firsts_19 flX6_32 (show 56 < 68 by decide) rfl rfl (by decide) ?_
          refine g_iload3 C dX6_firsts_22 ?_
          refine g_ialdE C (hQ.at h9) (by omega) (by decide) dX6_firsts_23 (show 64 < 68 by decide) rfl ?_
          refine g_iconst C (nI 0) dX6_firsts_24 (by decide) ?_
          refine g_callS2i C dX6_firsts_25 slX6_134 (n_of hv.s8 hv.rlt (Nat.zero_le _)) hKd (by first | decide | omega) rfl (Nat.le_of_ble_eq_true rfl) ?_
          rintro _ _ ⟨rfl, rfl⟩
          rw [hh.1]
          refine g_ishlN C dX6_firsts_28 (by omega) ?_
          refine g_iorN C dX6_firsts_29 ?_
          refine g_istore2 C dX6_firsts_30 ?_
          refine g_iinc3N C dX6_firsts_31 ?_
          refine g_goto C 4 dX6_firsts_34 (by decide) ?_
          exact ih (r + 1) (by omega) (by omega)
    refine g_iconst C (nI 0) dX6_firsts_0 (by decide) ?_
    refine g_istore2 C dX6_firsts_1 ?_
    refine g_iconst C (nI 0) dX6_firsts_2 (by decide) ?_
    refine g_istore3 C dX6_firsts_3 ?_
    exact H4 (O.length + 1) 0 (Nat.zero_le _) (by omega)
set_option maxRecDepth 100000 in
set_option maxHeartbeats 4000000 in
theorem q_first {Γ : zG} {c : Nat → Nat → Int32} {t : Nat → Int64} {S : zAb} (hS : OkS S) (hR : RepM c t S)  : Sp Γ 12 mX6_first [.ref 56] 0 0 (wF c t) (z_pi (zOutM c t (a_first S) (S))) := by
  refine Sp.of (own := RX6) 0 false rfl (by decide +kernel) rfl rfl (fun h => by cases h) (fun K hKd M => ?_)
  have C := M.1
  show GG Γ K 0 0 (wF c t) 0 [some (.ref 56)] []
  refine g_aload0 C dX6_first_0 ?_
  refine g_aload0 C dX6_first_1 ?_
  refine g_callV0i C dX6_first_2 vlX6_114 (n_there hS hR) hKd (by first | decide | omega) rfl (Nat.le_of_ble_eq_true rfl) (show 56 < 68 by decide) rfl ?_
  rintro _ _ ⟨rfl, rfl⟩
  refine g_callV1v C dX6_first_5 vlX6_130 (n_lays hS hR hS.t (zT0_n hS)) hKd (by first | decide | omega) rfl (Nat.le_of_ble_eq_true rfl) (show 56 < 68 by decide) rfl ?_
  rintro _ ⟨c1, rfl, hrw, hf⟩
  have hQ : RwQ c1 (zO0 S) (zT0 S) := RwQ_of hrw hS.t
  have hR1 : RepM c1 t S := hR.frl hf
  have hO := hQ.2.2.1
  refine g_aload0 C dX6_first_8 ?_
  refine g_aload0 C dX6_first_9 ?_
  refine g_callV0i C dX6_first_10 vlX6_114 (n_there hS hR1) hKd (by first | decide | omega) rfl (Nat.le_of_ble_eq_true rfl) (show 56 < 68 by decide) rfl ?_
  rintro _ _ ⟨rfl, rfl⟩
  refine g_callV1i C dX6_first_13 vlX6_138 (n_firsts hQ) hKd (by first | decide | omega) rfl (Nat.le_of_ble_eq_true rfl) (show 56 < 68 by decide) rfl ?_
  rintro _ _ ⟨rfl, rfl⟩
  exact g_reti M dX6_first_16 (zOutM.mk' rfl hR1 (fun a ha => hf.1 a (by omega) (by omega) (by omega) (by omega)) (fun _ _ => rfl))
set_option maxRecDepth 100000 in
set_option maxHeartbeats 4000000 in
theorem n_leads {Γ : zG} {c : Nat → Nat → Int32} {t : Nat → Int64} {O : List (List Nat)} {T : Nat} (hQ : RwQ c O T) {i : Nat} (hi : i < 7) (hb : T.testBit i = true) : Sp Γ 1 mX6_leads [.ref 56, .int (nI i)] 0 0 (wF c t) (z_pi (fun v w => w = wF c t ∧ v = nI (zTi O i O.length))) := by
  refine Sp.of (own := RX6) 2 false rfl (by decide +kernel) rfl rfl (fun h => by cases h) (fun K hKd M => ?_)
  have C := M.1
  show GG Γ K 0 0 (wF c t) 0 [some (.ref 56), some (.int (nI i)), none, none] []
  have hO := hQ.2.2.1
  have hz := zp8_pos (show i < 8 by omega) hb
  have H4 : ∀ (n : Nat) (r : Nat), r ≤ O.length → O.length - r < n → GG Γ K 0 0 (wF c t) 4 [some (.ref 56), some (.int (nI i)), some (.int (nI (zTi O i r))), some (.int (nI r))] [] := by
    intro n
    induction n with
    | zero => intro r hr hn; exact absurd hn (by omega)
    | succ n ih =>
      intro r hr hn
      refine g_iload3 C dX6_leads_4 ?_
      refine g_aload0 C dX6_leads_5 ?_
      refine g_getIE C hQ.1.1 dX6_leads_6 flX6_124 (show 56 < 68 by decide) rfl rfl ?_
      refine g_icmp_geN C 40 (by omega) (by omega) dX6_leads_9 (by decide) (fun h9 => ?_) (fun h9 => ?_)
      · -- X6_leads 9t
        obtain rfl : r = O.length := by omega
        refine g_iload2 C dX6_leads_40 ?_
        exact g_reti M dX6_leads_41 (⟨rfl, rfl⟩)
      · -- X6_leads 9f
        have hv := (hQ.val h9).1
        have hh := hQ.hd hz h9
        refine g_iload2 C dX6_leads_12 ?_
        refine g_aload0 C dX6_leads_13 ?_
        refine g_getRT C dX6_leads_14 flX6_32 (show 56 < 68 by decide) rfl rfl (by decide) ?_
        refine g_iload3 C dX6_leads_17 ?_
        refine g_ialdE C (hQ.at h9) (by omega) (by decide) dX6_leads_18 (show 64 < 68 by decide) rfl ?_
        refine g_iconst C (nI 0) dX6_leads_19 (by decide) ?_
        refine g_callS2i C dX6_leads_20 slX6_134 (n_of hv.s8 hv.rlt (Nat.zero_le _)) hKd (by first | decide | omega) rfl (Nat.le_of_ble_eq_true rfl) ?_
        rintro _ _ ⟨rfl, rfl⟩
        rw [hh.1]
        refine g_iload1 C dX6_leads_23 ?_
        refine g_icmp_neN C 31 (by omega) (by omega) dX6_leads_24 (by decide) (fun h24 => ?_) (fun h24 => ?_)
        · -- X6_leads 24t
          
          refine g_iconst C (nI 0) dX6_leads_31 (by decide) ?_
          refine g_iaddN C dX6_leads_32 ?_
          refine g_istore2 C dX6_leads_33 ?_
          refine g_set (L' := [some (.ref 56), some (.int (nI i)), some (.int (nI (zTi O i (r + 1)))), some (.int (nI r))]) rfl (by rw [zTi, if_neg h24, Nat.add_zero]) rfl ?_
          refine g_iinc3N C dX6_leads_34 ?_
          refine g_goto C 4 dX6_leads_37 (by decide) ?_
          exact ih (r + 1) (by omega) (by omega)
        · -- X6_leads 24f
          
          refine g_iconst C (nI 1) dX6_leads_27 (by decide) ?_
          refine g_goto C 32 dX6_leads_28 (by decide) ?_
          refine g_iaddN C dX6_leads_32 ?_
          refine g_istore2 C dX6_leads_33 ?_
          refine g_set (L' := [some (.ref 56), some (.int (nI i)), some (.int (nI (zTi O i (r + 1)))), some (.int (nI r))]) rfl (by rw [zTi, if_pos h24]) rfl ?_
          refine g_iinc3N C dX6_leads_34 ?_
          refine g_goto C 4 dX6_leads_37 (by decide) ?_
          exact ih (r + 1) (by omega) (by omega)
  refine g_iconst C (nI 0) dX6_leads_0 (by decide) ?_
  refine g_istore2 C dX6_leads_1 ?_
  refine g_iconst C (nI 0) dX6_leads_2 (by decide) ?_
  refine g_istore3 C dX6_leads_3 ?_
  exact H4 (O.length + 1) 0 (Nat.zero_le _) (by omega)
set_option maxRecDepth 100000 in
set_option maxHeartbeats 4000000 in
theorem q_chance {Γ : zG} {c : Nat → Nat → Int32} {t : Nat → Int64} {S : zAb} (hS : OkS S) (hR : RepM c t S) {s w : Int32} : Sp Γ 12 mX6_chance [.ref 56, .int s, .int w] 0 0 (wF c t) (z_pi (zOutM c t (a_chance S s w) (S))) := by
  refine Sp.of (own := RX6) 3 false rfl (by decide +kernel) rfl rfl (fun h => by cases h) (fun K hKd M => ?_)
  have C := M.1
  show GG Γ K 0 0 (wF c t) 0 [some (.ref 56), some (.int s), some (.int w), none, none, none] []
  refine g_aload0 C dX6_chance_0 ?_
  refine g_iload1 C dX6_chance_1 ?_
  refine g_callV1i C dX6_chance_2 vlX6_141 (n_isThere hS hR) hKd (by first | decide | omega) rfl (Nat.le_of_ble_eq_true rfl) (show 56 < 68 by decide) rfl ?_
  rintro _ _ ⟨rfl, rfl⟩
  refine g_if_eqB C 17 dX6_chance_5 (by decide) (fun h5 => ?_) (fun h5 => ?_)
  · -- X6_chance 5t
    have hz := zsome_f h5
    have hr : a_chance S s w = -1 := by unfold a_chance; rw [hz]
    refine g_iconst C (-1) dX6_chance_17 (by decide) ?_
    exact g_reti M dX6_chance_18 (by rw [hr]; exact zOutM.same hR)
  · -- X6_chance 5f
    obtain ⟨i, hz⟩ := zsome_t h5
    obtain ⟨hi, rfl, hb⟩ := zTh'_some hz
    have hi7 : i < 7 := by have := hS.1.1; omega
    refine g_iload2 C dX6_chance_8 ?_
    refine g_iconst C (nI 0) dX6_chance_9 (by decide) ?_
    refine g_iconst C (nI 1) dX6_chance_10 (by decide) ?_
    refine g_callS3i C dX6_chance_11 slX6_52 (n_in) hKd (by first | decide | omega) rfl (Nat.le_of_ble_eq_true rfl) ?_
    rintro _ _ ⟨rfl, rfl⟩
    rw [zIn_ix (n := 2) (by decide) (by decide)]
    refine g_if_neB C 19 dX6_chance_14 (by decide) (fun h14 => ?_) (fun h14 => ?_)
    · -- X6_chance 14t
      obtain ⟨j, hz2⟩ := zsome_t h14
      obtain ⟨hj, rfl⟩ := zIdx_iff hz2
      have hr : a_chance S (nI i) (nI j) = zFr (zTi (zO0 S) i (zO0 S).length) (max (zO0 S).length 1) j := by unfold a_chance; rw [hz, hz2]
      refine g_aload0 C dX6_chance_19 ?_
      refine g_aload0 C dX6_chance_20 ?_
      refine g_callV0i C dX6_chance_21 vlX6_114 (n_there hS hR) hKd (by first | decide | omega) rfl (Nat.le_of_ble_eq_true rfl) (show 56 < 68 by decide) rfl ?_
      rintro _ _ ⟨rfl, rfl⟩
      refine g_callV1v C dX6_chance_24 vlX6_130 (n_lays hS hR hS.t (zT0_n hS)) hKd (by first | decide | omega) rfl (Nat.le_of_ble_eq_true rfl) (show 56 < 68 by decide) rfl ?_
      rintro _ ⟨c1, rfl, hrw, hf⟩
      have hQ : RwQ c1 (zO0 S) (zT0 S) := RwQ_of hrw hS.t
      have hR1 : RepM c1 t S := hR.frl hf
      have hO := hQ.2.2.1
      refine g_aload0 C dX6_chance_27 ?_
      refine g_iload1 C dX6_chance_28 ?_
      refine g_callV1i C dX6_chance_29 vlX6_148 (n_leads hQ hi7 hb) hKd (by first | decide | omega) rfl (Nat.le_of_ble_eq_true rfl) (show 56 < 68 by decide) rfl ?_
      rintro _ _ ⟨rfl, rfl⟩
      have hti := zTi_le (zO0 S) i (zO0 S).length
      refine g_istore3 C dX6_chance_32 ?_
      refine g_aload0 C dX6_chance_33 ?_
      refine g_getIE C hQ.1.1 dX6_chance_34 flX6_124 (show 56 < 68 by decide) rfl rfl ?_
      refine g_if_neN C 44 (by omega) dX6_chance_37 (by decide) (fun h37 => ?_) (fun h37 => ?_)
      · -- X6_chance 37t
        have hmx : (zO0 S).length = max (zO0 S).length 1 := by omega
        refine g_aload0 C dX6_chance_44 ?_
        refine g_getIE C hQ.1.1 dX6_chance_45 flX6_124 (show 56 < 68 by decide) rfl rfl ?_
        refine g_istore4 C dX6_chance_48 ?_
        refine g_set (L' := [some (.ref 56), some (.int (nI i)), some (.int (nI j)), some (.int (nI (zTi (zO0 S) i (zO0 S).length))), some (.int (nI (max (zO0 S).length 1))), none]) rfl (by rw [← hmx]) rfl ?_
        have hgp : 0 < Nat.gcd (zTi (zO0 S) i (zO0 S).length) (max (zO0 S).length 1) := Nat.gcd_pos_of_pos_right _ (by omega)
        have hgl : Nat.gcd (zTi (zO0 S) i (zO0 S).length) (max (zO0 S).length 1) ≤ max (zO0 S).length 1 := Nat.gcd_le_right _ (by omega)
        refine g_iload3 C dX6_chance_50 ?_
        refine g_iload4 C dX6_chance_51 ?_
        refine g_callS2i C dX6_chance_53 slX6_151 (n_common (by omega) (by omega)) hKd (by first | decide | omega) rfl (Nat.le_of_ble_eq_true rfl) ?_
        rintro _ _ ⟨rfl, rfl⟩
        refine g_istore5 C dX6_chance_56 ?_
        refine g_iload2 C dX6_chance_58 ?_
        refine g_if_neN C 69 (by omega) dX6_chance_59 (by decide) (fun h59 => ?_) (fun h59 => ?_)
        · -- X6_chance 59t
          
          refine g_iload4 C dX6_chance_69 ?_
          refine g_iload5 C dX6_chance_71 ?_
          refine g_idivN C dX6_chance_73 (by omega) hgp (by omega) ?_
          exact g_reti M dX6_chance_74 (by rw [hr]; unfold zFr; first | (rw [if_pos h59]; exact zOutM.mk' rfl hR1 (fun a ha => hf.1 a (by omega) (by omega) (by omega) (by omega)) (fun _ _ => rfl)) | (rw [if_neg (by omega)]; exact zOutM.mk' rfl hR1 (fun a ha => hf.1 a (by omega) (by omega) (by omega) (by omega)) (fun _ _ => rfl)))
        · -- X6_chance 59f
          
          refine g_iload3 C dX6_chance_62 ?_
          refine g_iload5 C dX6_chance_63 ?_
          refine g_idivN C dX6_chance_65 (by omega) hgp (by omega) ?_
          refine g_goto C 74 dX6_chance_66 (by decide) ?_
          exact g_reti M dX6_chance_74 (by rw [hr]; unfold zFr; first | (rw [if_pos h59]; exact zOutM.mk' rfl hR1 (fun a ha => hf.1 a (by omega) (by omega) (by omega) (by omega)) (fun _ _ => rfl)) | (rw [if_neg (by omega)]; exact zOutM.mk' rfl hR1 (fun a ha => hf.1 a (by omega) (by omega) (by omega) (by omega)) (fun _ _ => rfl)))
      · -- X6_chance 37f
        have hmx : 1 = max (zO0 S).length 1 := by omega
        refine g_iconst C (nI 1) dX6_chance_40 (by decide) ?_
        refine g_goto C 48 dX6_chance_41 (by decide) ?_
        refine g_istore4 C dX6_chance_48 ?_
        refine g_set (L' := [some (.ref 56), some (.int (nI i)), some (.int (nI j)), some (.int (nI (zTi (zO0 S) i (zO0 S).length))), some (.int (nI (max (zO0 S).length 1))), none]) rfl (by rw [← hmx]) rfl ?_
        have hgp : 0 < Nat.gcd (zTi (zO0 S) i (zO0 S).length) (max (zO0 S).length 1) := Nat.gcd_pos_of_pos_right _ (by omega)
        have hgl : Nat.gcd (zTi (zO0 S) i (zO0 S).length) (max (zO0 S).length 1) ≤ max (zO0 S).length 1 := Nat.gcd_le_right _ (by omega)
        refine g_iload3 C dX6_chance_50 ?_
        refine g_iload4 C dX6_chance_51 ?_
        refine g_callS2i C dX6_chance_53 slX6_151 (n_common (by omega) (by omega)) hKd (by first | decide | omega) rfl (Nat.le_of_ble_eq_true rfl) ?_
        rintro _ _ ⟨rfl, rfl⟩
        refine g_istore5 C dX6_chance_56 ?_
        refine g_iload2 C dX6_chance_58 ?_
        refine g_if_neN C 69 (by omega) dX6_chance_59 (by decide) (fun h59 => ?_) (fun h59 => ?_)
        · -- X6_chance 59t
          
          refine g_iload4 C dX6_chance_69 ?_
          refine g_iload5 C dX6_chance_71 ?_
          refine g_idivN C dX6_chance_73 (by omega) hgp (by omega) ?_
          exact g_reti M dX6_chance_74 (by rw [hr]; unfold zFr; first | (rw [if_pos h59]; exact zOutM.mk' rfl hR1 (fun a ha => hf.1 a (by omega) (by omega) (by omega) (by omega)) (fun _ _ => rfl)) | (rw [if_neg (by omega)]; exact zOutM.mk' rfl hR1 (fun a ha => hf.1 a (by omega) (by omega) (by omega) (by omega)) (fun _ _ => rfl)))
        · -- X6_chance 59f
          
          refine g_iload3 C dX6_chance_62 ?_
          refine g_iload5 C dX6_chance_63 ?_
          refine g_idivN C dX6_chance_65 (by omega) hgp (by omega) ?_
          refine g_goto C 74 dX6_chance_66 (by decide) ?_
          exact g_reti M dX6_chance_74 (by rw [hr]; unfold zFr; first | (rw [if_pos h59]; exact zOutM.mk' rfl hR1 (fun a ha => hf.1 a (by omega) (by omega) (by omega) (by omega)) (fun _ _ => rfl)) | (rw [if_neg (by omega)]; exact zOutM.mk' rfl hR1 (fun a ha => hf.1 a (by omega) (by omega) (by omega) (by omega)) (fun _ _ => rfl)))
    · -- X6_chance 14f
      have hz2 := zsome_f h14
      have hr : a_chance S (nI i) w = -1 := by unfold a_chance; rw [hz, hz2]
      refine g_iconst C (-1) dX6_chance_17 (by decide) ?_
      exact g_reti M dX6_chance_18 (by rw [hr]; exact zOutM.same hR)
set_option maxRecDepth 100000 in
set_option maxHeartbeats 4000000 in
theorem q_sure {Γ : zG} {c : Nat → Nat → Int32} {t : Nat → Int64} {S : zAb} (hS : OkS S) (hR : RepM c t S) {s : Int32} : Sp Γ 12 mX6_sure [.ref 56, .int s] 0 0 (wF c t) (z_pi (zOutM c t (a_sure S s) (S))) := by
  refine Sp.of (own := RX6) 5 false rfl (by decide +kernel) rfl rfl (fun h => by cases h) (fun K hKd M => ?_)
  have C := M.1
  show GG Γ K 0 0 (wF c t) 0 [some (.ref 56), some (.int s), none, none, none, none, none] []
  have hgo : ∀ i, i < cN S.1 → (zT0 S).testBit i = true → a_sure S s = nI (zSure (zO0 S) (zT0 S) i) → ∀ c1, FrL 0 c c1 → RwQ c1 (zO0 S) (zT0 S) → 0 < (zO0 S).length → ∀ x y, GG Γ K 0 0 (wF c1 t) 45 [some (.ref 56), some (.int (nI i)), some (.int (nI (zp8 (zT0 S)))), some (.int (nI (zSv (zO0 S) (zT0 S) i 0))), some (.int (nI 0)), x, y] [] := by
    intro i hi hb hr c1 hf hQ hlen0 x y
    have hi7 : i < 7 := by have := hS.1.1; omega
    have hR1 : RepM c1 t S := hR.frl hf
    have hO := hQ.2.2.1
    have hT8 := zp8_8 (zT0 S)
    have H60a : ∀ r, r < (zO0 S).length → GG Γ K 0 0 (wF c1 t) 102 [some (.ref 56), some (.int (nI i)), some (.int (nI (zp8 (zT0 S)))), some (.int (nI (zSv (zO0 S) (zT0 S) i r))), some (.int (nI r)), some (.int (nI (zBf (zGd (zAt (zO0 S) r)) (zPl (zAt (zO0 S) r) i)))), some (.int (nI (zPl (zAt (zO0 S) r) i)))] [] → GG Γ K 0 0 (wF c1 t) 60 [some (.ref 56), some (.int (nI i)), some (.int (nI (zp8 (zT0 S)))), some (.int (nI (zSv (zO0 S) (zT0 S) i r))), some (.int (nI r)), some (.int (nI (zBf (zGd (zAt (zO0 S) r)) 0))), some (.int (nI 0))] [] := by
      intro r hr1 hexit
      have hv := hQ.val hr1
      have hp7 := zPl_lt hv.1 i
      have hvl := hv.1.2.2
      have hple : zPl (zAt (zO0 S) r) i ≤ (zAt (zO0 S) r).length := by omega
      have H60 : ∀ (n : Nat) (k : Nat), k ≤ zPl (zAt (zO0 S) r) i → zPl (zAt (zO0 S) r) i - k < n → GG Γ K 0 0 (wF c1 t) 60 [some (.ref 56), some (.int (nI i)), some (.int (nI (zp8 (zT0 S)))), some (.int (nI (zSv (zO0 S) (zT0 S) i r))), some (.int (nI r)), some (.int (nI (zBf (zGd (zAt (zO0 S) r)) k))), some (.int (nI k))] [] := by
        intro n
        induction n with
        | zero => intro k hk hn; exact absurd hn (by omega)
        | succ n ih =>
          intro k hk hn
          refine g_iload6 C dX6_sure_60 ?_
          refine g_aload0 C dX6_sure_62 ?_
          refine g_getRT C dX6_sure_63 flX6_32 (show 56 < 68 by decide) rfl rfl (by decide) ?_
          refine g_iload4 C dX6_sure_66 ?_
          refine g_ialdE C (hQ.at hr1) (by omega) (by decide) dX6_sure_68 (show 64 < 68 by decide) rfl ?_
          refine g_iload2 C dX6_sure_69 ?_
          refine g_top (show nI (zp8 (zT0 S)) = nI (zAt (zO0 S) r).length by rw [hv.2.2]) ?_
          refine g_iload1 C dX6_sure_70 ?_
          refine g_callS3i C dX6_sure_71 slX6_144 (n_placeIn hv.1 hi7) hKd (by first | decide | omega) rfl (Nat.le_of_ble_eq_true rfl) ?_
          rintro _ _ ⟨rfl, rfl⟩
          refine g_icmp_geN C 102 (by omega) (by omega) dX6_sure_74 (by decide) (fun h74 => ?_) (fun h74 => ?_)
          · -- X6_sure 74t
            obtain rfl : k = zPl (zAt (zO0 S) r) i := by omega
            exact hexit
          · -- X6_sure 74f
            have hg7 := hv.1.1 _ (zGd_mem (show k < (zAt (zO0 S) r).length by omega))
            refine g_iload5 C dX6_sure_77 ?_
            refine g_iconst C (nI 1) dX6_sure_79 (by decide) ?_
            refine g_aload0 C dX6_sure_80 ?_
            refine g_getRT C dX6_sure_81 flX6_32 (show 56 < 68 by decide) rfl rfl (by decide) ?_
            refine g_iload4 C dX6_sure_84 ?_
            refine g_ialdE C (hQ.at hr1) (by omega) (by decide) dX6_sure_86 (show 64 < 68 by decide) rfl ?_
            refine g_iload6 C dX6_sure_87 ?_
            refine g_callS2i C dX6_sure_89 slX6_134 (n_of hv.1.s8 hv.1.rlt (by omega)) hKd (by first | decide | omega) rfl (Nat.le_of_ble_eq_true rfl) ?_
            rintro _ _ ⟨rfl, rfl⟩
            refine g_ishlN C dX6_sure_92 (by omega) ?_
            refine g_iorN C dX6_sure_93 ?_
            refine g_istore5 C dX6_sure_94 ?_
            refine g_iinc6N C dX6_sure_96 ?_
            refine g_goto C 60 dX6_sure_99 (by decide) ?_
            exact ih (k + 1) (by omega) (by omega)
      exact H60 (zPl (zAt (zO0 S) r) i + 1) 0 (Nat.zero_le _) (by omega)
    have H45 : ∀ (n : Nat) (r : Nat) (x y : Option Value), r ≤ (zO0 S).length → (zO0 S).length - r < n → GG Γ K 0 0 (wF c1 t) 45 [some (.ref 56), some (.int (nI i)), some (.int (nI (zp8 (zT0 S)))), some (.int (nI (zSv (zO0 S) (zT0 S) i r))), some (.int (nI r)), x, y] [] := by
      intro n
      induction n with
      | zero => intro r x y hr0 hn; exact absurd hn (by omega)
      | succ n ih =>
        intro r x y hr0 hn
        refine g_iload4 C dX6_sure_45 ?_
        refine g_aload0 C dX6_sure_47 ?_
        refine g_getIE C hQ.1.1 dX6_sure_48 flX6_124 (show 56 < 68 by decide) rfl rfl ?_
        refine g_icmp_geN C 113 (by omega) (by omega) dX6_sure_51 (by decide) (fun h51 => ?_) (fun h51 => ?_)
        · -- X6_sure 51t
          obtain rfl : r = (zO0 S).length := by omega
          have hsu : zSv (zO0 S) (zT0 S) i (zO0 S).length = zSure (zO0 S) (zT0 S) i := by
            obtain ⟨q, hq⟩ : ∃ q, (zO0 S).length = q + 1 := ⟨(zO0 S).length - 1, by omega⟩
            unfold zSure
            rw [if_neg (by omega), hq, zSv_su _ _ _ (by omega)]
          refine g_iload3 C dX6_sure_113 ?_
          exact g_reti M dX6_sure_114 (by rw [hr, ← hsu]; exact zOutM.mk' rfl hR1 (fun a ha => hf.1 a (by omega) (by omega) (by omega) (by omega)) (fun _ _ => rfl))
        · -- X6_sure 51f
          have hvv := hQ.val h51
          refine g_iconst C (nI 0) dX6_sure_54 (by decide) ?_
          refine g_istore5 C dX6_sure_55 ?_
          refine g_iconst C (nI 0) dX6_sure_57 (by decide) ?_
          refine g_istore6 C dX6_sure_58 ?_
          refine H60a r h51 ?_
          refine g_iload3 C dX6_sure_102 ?_
          refine g_iload5 C dX6_sure_103 ?_
          refine g_iandN C dX6_sure_105 ?_
          refine g_istore3 C dX6_sure_106 ?_
          refine g_set (L' := [some (.ref 56), some (.int (nI i)), some (.int (nI (zp8 (zT0 S)))), some (.int (nI (zSv (zO0 S) (zT0 S) i (r + 1)))), some (.int (nI r)), some (.int (nI (zBf (zGd (zAt (zO0 S) r)) (zPl (zAt (zO0 S) r) i)))), some (.int (nI (zPl (zAt (zO0 S) r) i)))]) rfl (by rw [zAh_bf hvv.1 hvv.2.1]; rfl) rfl ?_
          refine g_iinc4N C dX6_sure_107 ?_
          refine g_goto C 45 dX6_sure_110 (by decide) ?_
          exact ih (r + 1) _ _ (by omega) (by omega)
    exact H45 ((zO0 S).length + 1) 0 x y (Nat.zero_le _) (by omega)
  refine g_aload0 C dX6_sure_0 ?_
  refine g_iload1 C dX6_sure_1 ?_
  refine g_callV1i C dX6_sure_2 vlX6_141 (n_isThere hS hR) hKd (by first | decide | omega) rfl (Nat.le_of_ble_eq_true rfl) (show 56 < 68 by decide) rfl ?_
  rintro _ _ ⟨rfl, rfl⟩
  refine g_if_neB C 10 dX6_sure_5 (by decide) (fun h5 => ?_) (fun h5 => ?_)
  · -- X6_sure 5t
    obtain ⟨i, hz⟩ := zsome_t h5
    obtain ⟨hi, hs, hb⟩ := zTh'_some hz
    have hr : a_sure S s = nI (zSure (zO0 S) (zT0 S) i) := by unfold a_sure; rw [hz]
    rw [hs]
    refine g_aload0 C dX6_sure_10 ?_
    refine g_callV0i C dX6_sure_11 vlX6_114 (n_there hS hR) hKd (by first | decide | omega) rfl (Nat.le_of_ble_eq_true rfl) (show 56 < 68 by decide) rfl ?_
    rintro _ _ ⟨rfl, rfl⟩
    refine g_callS1i C dX6_sure_14 slX6_95 (n_ones (by have : zT0 S < 128 := hS.t; exact Nat.lt_of_lt_of_le this (by decide))) hKd (by first | decide | omega) rfl (Nat.le_of_ble_eq_true rfl) ?_
    rintro _ _ ⟨rfl, rfl⟩
    refine g_istore2 C dX6_sure_17 ?_
    refine g_aload0 C dX6_sure_18 ?_
    refine g_aload0 C dX6_sure_19 ?_
    refine g_callV0i C dX6_sure_20 vlX6_114 (n_there hS hR) hKd (by first | decide | omega) rfl (Nat.le_of_ble_eq_true rfl) (show 56 < 68 by decide) rfl ?_
    rintro _ _ ⟨rfl, rfl⟩
    refine g_callV1v C dX6_sure_23 vlX6_130 (n_lays hS hR hS.t (zT0_n hS)) hKd (by first | decide | omega) rfl (Nat.le_of_ble_eq_true rfl) (show 56 < 68 by decide) rfl ?_
    rintro _ ⟨c1, rfl, hrw, hf⟩
    have hQ : RwQ c1 (zO0 S) (zT0 S) := RwQ_of hrw hS.t
    have hR1 : RepM c1 t S := hR.frl hf
    have hO := hQ.2.2.1
    refine g_aload0 C dX6_sure_26 ?_
    refine g_getIE C hQ.1.1 dX6_sure_27 flX6_124 (show 56 < 68 by decide) rfl rfl ?_
    refine g_if_neN C 37 (by omega) dX6_sure_30 (by decide) (fun h30 => ?_) (fun h30 => ?_)
    · -- X6_sure 30t
      
      refine g_aload0 C dX6_sure_37 ?_
      refine g_callV0i C dX6_sure_38 vlX6_114 (n_there hS hR1) hKd (by first | decide | omega) rfl (Nat.le_of_ble_eq_true rfl) (show 56 < 68 by decide) rfl ?_
      rintro _ _ ⟨rfl, rfl⟩
      refine g_istore3 C dX6_sure_41 ?_
      refine g_iconst C (nI 0) dX6_sure_42 (by decide) ?_
      refine g_istore4 C dX6_sure_43 ?_
      exact hgo i hi hb hr c1 hf hQ (by omega) _ _
    · -- X6_sure 30f
      refine g_iconst C (nI 0) dX6_sure_33 (by decide) ?_
      refine g_goto C 41 dX6_sure_34 (by decide) ?_
      refine g_istore3 C dX6_sure_41 ?_
      refine g_iconst C (nI 0) dX6_sure_42 (by decide) ?_
      refine g_istore4 C dX6_sure_43 ?_
      refine g_iload4 C dX6_sure_45 ?_
      refine g_aload0 C dX6_sure_47 ?_
      refine g_getIE C hQ.1.1 dX6_sure_48 flX6_124 (show 56 < 68 by decide) rfl rfl ?_
      refine g_icmp_geN C 113 (by omega) (by omega) dX6_sure_51 (by decide) (fun h51 => ?_) (fun h51 => absurd h51 (by omega))
      refine g_iload3 C dX6_sure_113 ?_
      exact g_reti M dX6_sure_114 (by rw [hr, show zSure (zO0 S) (zT0 S) i = 0 from if_pos h30]; exact zOutM.mk' rfl hR1 (fun a ha => hf.1 a (by omega) (by omega) (by omega) (by omega)) (fun _ _ => rfl))
  · -- X6_sure 5f
    have hz := zsome_f h5
    have hr : a_sure S s = -1 := by unfold a_sure; rw [hz]
    refine g_iconst C (-1) dX6_sure_8 (by decide) ?_
    exact g_reti M dX6_sure_9 (by rw [hr]; exact zOutM.same hR)
