/-! crew: told anew; moments; the past -/
set_option maxRecDepth 100000 in
set_option maxHeartbeats 4000000 in
theorem s_crst3 {Γ : zG} {c : Nat → Nat → Int32} {t : Nat → Int64}  : Sp Γ 0 mX0_restart [.ref 3] 0 0 (wF c t) (z_pv (fun w => w = wF (z_up (z_up (z_up c 3 3 (nI 0)) 3 4 (nI 3)) 3 5 (nI 8)) t)) := by
  refine Sp.of (own := RX0) 0 false rfl (by decide +kernel) rfl rfl (fun h => by cases h) (fun K hKd M => ?_)
  have C := M.1
  show GG Γ K 0 0 (wF c t) 0 [some (.ref 3)] []
  refine g_aload0 C dX0_restart_0 ?_
  refine g_iconst C (nI 0) dX0_restart_1 (by decide) ?_
  refine g_putI C dX0_restart_2 fpX0_28 (show 3 < 68 by decide) rfl rfl rfl rfl ?_
  refine g_aload0 C dX0_restart_5 ?_
  refine g_iconst C (nI 3) dX0_restart_6 (by decide) ?_
  refine g_putI C dX0_restart_7 fpX0_21 (show 3 < 68 by decide) rfl rfl rfl rfl ?_
  refine g_aload0 C dX0_restart_10 ?_
  refine g_bipush C (nI 8) dX0_restart_11 (by decide) ?_
  refine g_putI C dX0_restart_13 fpX0_25 (show 3 < 68 by decide) rfl rfl rfl rfl ?_
  exact g_retv M dX0_restart_16 (rfl)
set_option maxRecDepth 100000 in
set_option maxHeartbeats 4000000 in
theorem s_enl3 {Γ : zG} {c : Nat → Nat → Int32} {t : Nat → Int64} {n : Nat} {x y z : Int32} (hn : n < 7) (h0 : c 3 3 = nI n) : Sp Γ 1 mX0_enlist [.ref 3, .int x, .int y, .int z] 0 0 (wF c t) (z_pv (fun w => w = wF (z_up (z_up (z_up (z_up c 4 n x) 5 n y) 6 n z) 3 3 (nI (n + 1))) t)) := by
  refine Sp.of (own := RX0) 0 false rfl (by decide +kernel) rfl rfl (fun h => by cases h) (fun K hKd M => ?_)
  have C := M.1
  show GG Γ K 0 0 (wF c t) 0 [some (.ref 3), some (.int x), some (.int y), some (.int z)] []
  refine g_aload0 C dX0_enlist_0 ?_
  refine g_getRT C dX0_enlist_1 flX0_9 (show 3 < 68 by decide) rfl rfl (by decide) ?_
  refine g_aload0 C dX0_enlist_4 ?_
  refine g_getIE C h0 dX0_enlist_5 flX0_28 (show 3 < 68 by decide) rfl rfl ?_
  refine g_iload1 C dX0_enlist_8 ?_
  refine g_callS3v C dX0_enlist_9 slX0_31 (s_put (show 4 < 68 by decide) rfl hn (by decide)) hKd (by first | decide | omega) rfl (Nat.le_of_ble_eq_true rfl) ?_
  rintro _ rfl
  refine g_aload0 C dX0_enlist_12 ?_
  refine g_getRT C dX0_enlist_13 flX0_15 (show 3 < 68 by decide) rfl rfl (by decide) ?_
  refine g_aload0 C dX0_enlist_16 ?_
  refine g_getIE C ((up_k (by decide) _).trans h0) dX0_enlist_17 flX0_28 (show 3 < 68 by decide) rfl rfl ?_
  refine g_iload2 C dX0_enlist_20 ?_
  refine g_callS3v C dX0_enlist_21 slX0_31 (s_put (show 5 < 68 by decide) rfl hn (by decide)) hKd (by first | decide | omega) rfl (Nat.le_of_ble_eq_true rfl) ?_
  rintro _ rfl
  refine g_aload0 C dX0_enlist_24 ?_
  refine g_getRT C dX0_enlist_25 flX0_18 (show 3 < 68 by decide) rfl rfl (by decide) ?_
  refine g_aload0 C dX0_enlist_28 ?_
  refine g_getIE C ((up_k (by decide) _).trans ((up_k (by decide) _).trans h0)) dX0_enlist_29 flX0_28 (show 3 < 68 by decide) rfl rfl ?_
  refine g_iload3 C dX0_enlist_32 ?_
  refine g_callS3v C dX0_enlist_33 slX0_31 (s_put (show 6 < 68 by decide) rfl hn (by decide)) hKd (by first | decide | omega) rfl (Nat.le_of_ble_eq_true rfl) ?_
  rintro _ rfl
  refine g_aload0 C dX0_enlist_36 ?_
  refine g_dup C dX0_enlist_37 rfl ?_
  refine g_getIE C ((up_k (by decide) _).trans ((up_k (by decide) _).trans ((up_k (by decide) _).trans h0))) dX0_enlist_38 flX0_28 (show 3 < 68 by decide) rfl rfl ?_
  refine g_iconst C (nI 1) dX0_enlist_41 (by decide) ?_
  refine g_iaddN C dX0_enlist_42 ?_
  refine g_putI C dX0_enlist_43 fpX0_28 (show 3 < 68 by decide) rfl rfl rfl rfl ?_
  exact g_retv M dX0_enlist_46 (rfl)
set_option maxRecDepth 100000 in
set_option maxHeartbeats 4000000 in
theorem s_crst7 {Γ : zG} {c : Nat → Nat → Int32} {t : Nat → Int64}  : Sp Γ 0 mX0_restart [.ref 7] 0 0 (wF c t) (z_pv (fun w => w = wF (z_up (z_up (z_up c 7 3 (nI 0)) 7 4 (nI 3)) 7 5 (nI 8)) t)) := by
  refine Sp.of (own := RX0) 0 false rfl (by decide +kernel) rfl rfl (fun h => by cases h) (fun K hKd M => ?_)
  have C := M.1
  show GG Γ K 0 0 (wF c t) 0 [some (.ref 7)] []
  refine g_aload0 C dX0_restart_0 ?_
  refine g_iconst C (nI 0) dX0_restart_1 (by decide) ?_
  refine g_putI C dX0_restart_2 fpX0_28 (show 7 < 68 by decide) rfl rfl rfl rfl ?_
  refine g_aload0 C dX0_restart_5 ?_
  refine g_iconst C (nI 3) dX0_restart_6 (by decide) ?_
  refine g_putI C dX0_restart_7 fpX0_21 (show 7 < 68 by decide) rfl rfl rfl rfl ?_
  refine g_aload0 C dX0_restart_10 ?_
  refine g_bipush C (nI 8) dX0_restart_11 (by decide) ?_
  refine g_putI C dX0_restart_13 fpX0_25 (show 7 < 68 by decide) rfl rfl rfl rfl ?_
  exact g_retv M dX0_restart_16 (rfl)
set_option maxRecDepth 100000 in
set_option maxHeartbeats 4000000 in
theorem s_enl7 {Γ : zG} {c : Nat → Nat → Int32} {t : Nat → Int64} {n : Nat} {x y z : Int32} (hn : n < 7) (h0 : c 7 3 = nI n) : Sp Γ 1 mX0_enlist [.ref 7, .int x, .int y, .int z] 0 0 (wF c t) (z_pv (fun w => w = wF (z_up (z_up (z_up (z_up c 8 n x) 9 n y) 10 n z) 7 3 (nI (n + 1))) t)) := by
  refine Sp.of (own := RX0) 0 false rfl (by decide +kernel) rfl rfl (fun h => by cases h) (fun K hKd M => ?_)
  have C := M.1
  show GG Γ K 0 0 (wF c t) 0 [some (.ref 7), some (.int x), some (.int y), some (.int z)] []
  refine g_aload0 C dX0_enlist_0 ?_
  refine g_getRT C dX0_enlist_1 flX0_9 (show 7 < 68 by decide) rfl rfl (by decide) ?_
  refine g_aload0 C dX0_enlist_4 ?_
  refine g_getIE C h0 dX0_enlist_5 flX0_28 (show 7 < 68 by decide) rfl rfl ?_
  refine g_iload1 C dX0_enlist_8 ?_
  refine g_callS3v C dX0_enlist_9 slX0_31 (s_put (show 8 < 68 by decide) rfl hn (by decide)) hKd (by first | decide | omega) rfl (Nat.le_of_ble_eq_true rfl) ?_
  rintro _ rfl
  refine g_aload0 C dX0_enlist_12 ?_
  refine g_getRT C dX0_enlist_13 flX0_15 (show 7 < 68 by decide) rfl rfl (by decide) ?_
  refine g_aload0 C dX0_enlist_16 ?_
  refine g_getIE C ((up_k (by decide) _).trans h0) dX0_enlist_17 flX0_28 (show 7 < 68 by decide) rfl rfl ?_
  refine g_iload2 C dX0_enlist_20 ?_
  refine g_callS3v C dX0_enlist_21 slX0_31 (s_put (show 9 < 68 by decide) rfl hn (by decide)) hKd (by first | decide | omega) rfl (Nat.le_of_ble_eq_true rfl) ?_
  rintro _ rfl
  refine g_aload0 C dX0_enlist_24 ?_
  refine g_getRT C dX0_enlist_25 flX0_18 (show 7 < 68 by decide) rfl rfl (by decide) ?_
  refine g_aload0 C dX0_enlist_28 ?_
  refine g_getIE C ((up_k (by decide) _).trans ((up_k (by decide) _).trans h0)) dX0_enlist_29 flX0_28 (show 7 < 68 by decide) rfl rfl ?_
  refine g_iload3 C dX0_enlist_32 ?_
  refine g_callS3v C dX0_enlist_33 slX0_31 (s_put (show 10 < 68 by decide) rfl hn (by decide)) hKd (by first | decide | omega) rfl (Nat.le_of_ble_eq_true rfl) ?_
  rintro _ rfl
  refine g_aload0 C dX0_enlist_36 ?_
  refine g_dup C dX0_enlist_37 rfl ?_
  refine g_getIE C ((up_k (by decide) _).trans ((up_k (by decide) _).trans ((up_k (by decide) _).trans h0))) dX0_enlist_38 flX0_28 (show 7 < 68 by decide) rfl rfl ?_
  refine g_iconst C (nI 1) dX0_enlist_41 (by decide) ?_
  refine g_iaddN C dX0_enlist_42 ?_
  refine g_putI C dX0_enlist_43 fpX0_28 (show 7 < 68 by decide) rfl rfl rfl rfl ?_
  exact g_retv M dX0_enlist_46 (rfl)
set_option maxRecDepth 100000 in
set_option maxHeartbeats 4000000 in
theorem s_write {Γ : zG} {c : Nat → Nat → Int32} {t : Nat → Int64} {m : Nat} (hm : zMo m) {k : Nat} {x y : Int32} (hk : k < 8) : Sp Γ 1 mX1_write [.ref m, .int (nI k), .int x, .int y] 0 0 (wF c t) (z_pv (fun w => w = wF (z_up (z_up c (m + 1) k x) (m + 2) k y) t)) := by
  refine Sp.of (own := RX1) 0 false rfl (by decide +kernel) rfl rfl (fun h => by cases h) (fun K hKd M => ?_)
  have C := M.1
  show GG Γ K 0 0 (wF c t) 0 [some (.ref m), some (.int (nI k)), some (.int x), some (.int y)] []
  refine g_aload0 C dX1_write_0 ?_
  refine g_getRT C dX1_write_1 flX1_9 (show m < 68 by have := hm.1; omega) hm.2.1 rfl (by have := hm.1; omega) ?_
  refine g_iload1 C dX1_write_4 ?_
  refine g_iload2 C dX1_write_5 ?_
  refine g_callS3v C dX1_write_6 slX1_39 (s_put (by have := hm.1; omega) hm.2.2.1 hk (by decide)) hKd (by first | decide | omega) rfl (Nat.le_of_ble_eq_true rfl) ?_
  rintro _ rfl
  refine g_aload0 C dX1_write_9 ?_
  refine g_getRT C dX1_write_10 flX1_15 (show m < 68 by have := hm.1; omega) hm.2.1 rfl (by have := hm.1; omega) ?_
  refine g_iload1 C dX1_write_13 ?_
  refine g_iload3 C dX1_write_14 ?_
  refine g_callS3v C dX1_write_15 slX1_39 (s_put (by have := hm.1; omega) hm.2.2.2 hk (by decide)) hKd (by first | decide | omega) rfl (Nat.le_of_ble_eq_true rfl) ?_
  rintro _ rfl
  exact g_retv M dX1_write_18 (rfl)
set_option maxRecDepth 100000 in
set_option maxHeartbeats 4000000 in
theorem s_mrst {Γ : zG} {c : Nat → Nat → Int32} {t : Nat → Int64} {m : Nat} (hm : zMo m)  : Sp Γ 1 mX1_restart [.ref m] 0 0 (wF c t) (z_pv (fun w => w = wF (z_up (z_up (z_fill (z_fill c (m + 1) 8 (-9)) (m + 2) 8 (nI 0)) m 2 (nI 0)) m 3 (nI 0)) t)) := by
  refine Sp.of (own := RX1) 0 false rfl (by decide +kernel) rfl rfl (fun h => by cases h) (fun K hKd M => ?_)
  have C := M.1
  show GG Γ K 0 0 (wF c t) 0 [some (.ref m)] []
  refine g_aload0 C dX1_restart_0 ?_
  refine g_getRT C dX1_restart_1 flX1_9 (show m < 68 by have := hm.1; omega) hm.2.1 rfl (by have := hm.1; omega) ?_
  refine g_bipush C (-9) dX1_restart_4 (by decide) ?_
  refine g_callS2v C dX1_restart_6 slX1_18 (s_fill (by have := hm.1; omega) hm.2.2.1 (by decide)) hKd (by first | decide | omega) rfl (Nat.le_of_ble_eq_true rfl) ?_
  rintro _ rfl
  refine g_aload0 C dX1_restart_9 ?_
  refine g_getRT C dX1_restart_10 flX1_15 (show m < 68 by have := hm.1; omega) hm.2.1 rfl (by have := hm.1; omega) ?_
  refine g_iconst C (nI 0) dX1_restart_13 (by decide) ?_
  refine g_callS2v C dX1_restart_14 slX1_18 (s_fill (by have := hm.1; omega) hm.2.2.2 (by decide)) hKd (by first | decide | omega) rfl (Nat.le_of_ble_eq_true rfl) ?_
  rintro _ rfl
  refine g_aload0 C dX1_restart_17 ?_
  refine g_iconst C (nI 0) dX1_restart_18 (by decide) ?_
  refine g_putI C dX1_restart_19 fpX1_24 (show m < 68 by have := hm.1; omega) hm.2.1 rfl rfl rfl ?_
  refine g_aload0 C dX1_restart_22 ?_
  refine g_iconst C (nI 0) dX1_restart_23 (by decide) ?_
  refine g_putI C dX1_restart_24 fpX1_28 (show m < 68 by have := hm.1; omega) hm.2.1 rfl rfl rfl ?_
  exact g_retv M dX1_restart_27 (rfl)
set_option maxRecDepth 100000 in
set_option maxHeartbeats 4000000 in
theorem s_mbec {Γ : zG} {c : Nat → Nat → Int32} {t : Nat → Int64} {m : Nat} (hm : zMo m) {o : Nat} (ho : zMo o) (hd : m + 2 < o ∨ o + 2 < m) : Sp Γ 2 mX1_become [.ref m, .ref o] 0 0 (wF c t) (z_pv (fun w => w = wF (zBec c m o) t)) := by
  refine Sp.of (own := RX1) 1 false rfl (by decide +kernel) rfl rfl (fun h => by cases h) (fun K hKd M => ?_)
  have C := M.1
  show GG Γ K 0 0 (wF c t) 0 [some (.ref m), some (.ref o), none] []
  have H2 : ∀ (n : Nat) (k : Nat), k ≤ 8 → 8 - k < n → GG Γ K 0 0 (wF (zBk c m o k) t) 2 [some (.ref m), some (.ref o), some (.int (nI k))] [] := by
    intro n
    induction n with
    | zero => intro k hk hn; exact absurd hn (by omega)
    | succ n ih =>
      intro k hk hn
      refine g_iload2 C dX1_become_2 ?_
      refine g_bipush C (nI 8) dX1_become_3 (by decide) ?_
      refine g_icmp_geN C 35 (by omega) (by omega) dX1_become_5 (by decide) (fun h5 => ?_) (fun h5 => ?_)
      · -- X1_become 5t
        obtain rfl : k = 8 := by omega
        refine g_aload0 C dX1_become_35 ?_
        refine g_aload1 C dX1_become_36 ?_
        refine g_getIE C (congrFun (zBk_o (by omega) (by omega)) 2) dX1_become_37 flX1_24 (show o < 68 by have := ho.1; omega) ho.2.1 rfl ?_
        refine g_putI C dX1_become_40 fpX1_24 (show m < 68 by have := hm.1; omega) hm.2.1 rfl rfl rfl ?_
        refine g_aload0 C dX1_become_43 ?_
        refine g_aload1 C dX1_become_44 ?_
        refine g_getIE C ((up_k (by omega) 3).trans (congrFun (zBk_o (by omega) (by omega)) 3)) dX1_become_45 flX1_28 (show o < 68 by have := ho.1; omega) ho.2.1 rfl ?_
        refine g_putI C dX1_become_48 fpX1_28 (show m < 68 by have := hm.1; omega) hm.2.1 rfl rfl rfl ?_
        exact g_retv M dX1_become_51 (rfl)
      · -- X1_become 5f
        refine g_aload0 C dX1_become_8 ?_
        refine g_iload2 C dX1_become_9 ?_
        refine g_aload1 C dX1_become_10 ?_
        refine g_getRT C dX1_become_11 flX1_9 (show o < 68 by have := ho.1; omega) ho.2.1 rfl (by have := ho.1; omega) ?_
        refine g_iload2 C dX1_become_14 ?_
        refine g_callS2i C dX1_become_15 slX1_31 (s_at (by have := ho.1; omega) ho.2.2.1 h5 (by decide) (congrFun (zBk_o (by omega) (by omega)) k)) hKd (by first | decide | omega) rfl (Nat.le_of_ble_eq_true rfl) ?_
        rintro _ _ ⟨rfl, rfl⟩
        refine g_aload1 C dX1_become_18 ?_
        refine g_getRT C dX1_become_19 flX1_15 (show o < 68 by have := ho.1; omega) ho.2.1 rfl (by have := ho.1; omega) ?_
        refine g_iload2 C dX1_become_22 ?_
        refine g_callS2i C dX1_become_23 slX1_31 (s_at (by have := ho.1; omega) ho.2.2.2 h5 (by decide) (congrFun (zBk_o (by omega) (by omega)) k)) hKd (by first | decide | omega) rfl (Nat.le_of_ble_eq_true rfl) ?_
        rintro _ _ ⟨rfl, rfl⟩
        refine g_callV3v C dX1_become_26 vlX1_35 (s_write hm h5) hKd (by first | decide | omega) rfl (Nat.le_of_ble_eq_true rfl) (show m < 68 by have := hm.1; omega) hm.2.1 ?_
        rintro _ rfl
        refine g_con (zBk_s c m o k) rfl ?_
        refine g_iinc2N C dX1_become_29 ?_
        refine g_goto C 2 dX1_become_32 (by decide) ?_
        exact ih (k + 1) (by omega) (by omega)
  refine g_iconst C (nI 0) dX1_become_0 (by decide) ?_
  refine g_istore2 C dX1_become_1 ?_
  refine g_con (zBk_0 c m o).symm rfl ?_
  exact H2 9 0 (by omega) (by omega)
set_option maxRecDepth 100000 in
set_option maxHeartbeats 4000000 in
theorem s_there {Γ : zG} {c : Nat → Nat → Int32} {t : Nat → Int64} {m : Nat} (hm : zMo m) {Y : zMm} (hM : MoC m c Y) (hw : ∀ k s, k < 8 → mW Y k = some s → s < 7) : Sp Γ 1 mX1_there [.ref m] 0 0 (wF c t) (z_pi (fun v w => w = wF c t ∧ v = nI (zThere Y))) := by
  refine Sp.of (own := RX1) 3 false rfl (by decide +kernel) rfl rfl (fun h => by cases h) (fun K hKd M => ?_)
  have C := M.1
  show GG Γ K 0 0 (wF c t) 0 [some (.ref m), none, none, none] []
  have H4 : ∀ (n : Nat) (k : Nat) (x : Option Value), k ≤ 8 → 8 - k < n → GG Γ K 0 0 (wF c t) 4 [some (.ref m), some (.int (nI (zTh (mW Y) k))), some (.int (nI k)), x] [] := by
    intro n
    induction n with
    | zero => intro k x hk hn; exact absurd hn (by omega)
    | succ n ih =>
      intro k x hk hn
      refine g_iload2 C dX1_there_4 ?_
      refine g_bipush C (nI 8) dX1_there_5 (by decide) ?_
      refine g_icmp_geN C 37 (by omega) (by omega) dX1_there_7 (by decide) (fun h7 => ?_) (fun h7 => ?_)
      · -- X1_there 7t
        obtain rfl : k = 8 := by omega
        refine g_iload1 C dX1_there_37 ?_
        exact g_reti M dX1_there_38 (⟨rfl, rfl⟩)
      · -- X1_there 7f
        refine g_aload0 C dX1_there_10 ?_
        refine g_getRT C dX1_there_11 flX1_9 (show m < 68 by have := hm.1; omega) hm.2.1 rfl (by have := hm.1; omega) ?_
        refine g_iload2 C dX1_there_14 ?_
        refine g_callS2i C dX1_there_15 slX1_31 (s_at (by have := hm.1; omega) hm.2.2.1 h7 (by decide) (hM.2.2.1 k h7)) hKd (by first | decide | omega) rfl (Nat.le_of_ble_eq_true rfl) ?_
        rintro _ _ ⟨rfl, rfl⟩
        refine g_istore3 C dX1_there_18 ?_
        refine g_iload3 C dX1_there_19 ?_
        refine g_bipush C (-9) dX1_there_20 (by decide) ?_
        refine g_icmp_eq C 31 dX1_there_22 (by decide) (fun h22 => ?_) (fun h22 => ?_)
        · -- X1_there 22t
          have hq := zE_n h22 (fun s h => by have := hw k s h7 h; omega)
          refine g_set (L' := [some (.ref m), some (.int (nI (zTh (mW Y) (k + 1)))), some (.int (nI k)), some (.int (zE (mW Y k)))]) rfl (by rw [show zTh (mW Y) (k + 1) = zTh (mW Y) k by rw [zTh, hq]]) rfl ?_
          refine g_iinc2N C dX1_there_31 ?_
          refine g_goto C 4 dX1_there_34 (by decide) ?_
          exact ih (k + 1) _ (by omega) (by omega)
        · -- X1_there 22f
          obtain ⟨s, hq⟩ := zE_s h22
          rw [hq]
          have hs7 := hw k s h7 hq
          refine g_iload1 C dX1_there_25 ?_
          refine g_iconst C (nI 1) dX1_there_26 (by decide) ?_
          refine g_iload3 C dX1_there_27 ?_
          refine g_ishlN C dX1_there_28 (by omega) ?_
          refine g_iorN C dX1_there_29 ?_
          refine g_istore1 C dX1_there_30 ?_
          refine g_set (L' := [some (.ref m), some (.int (nI (zTh (mW Y) (k + 1)))), some (.int (nI k)), some (.int (zE (some s)))]) rfl (by rw [show zTh (mW Y) (k + 1) = zTh (mW Y) k ||| (1 <<< s) by rw [zTh, hq]]) rfl ?_
          refine g_iinc2N C dX1_there_31 ?_
          refine g_goto C 4 dX1_there_34 (by decide) ?_
          exact ih (k + 1) _ (by omega) (by omega)
  refine g_iconst C (nI 0) dX1_there_0 (by decide) ?_
  refine g_istore1 C dX1_there_1 ?_
  refine g_iconst C (nI 0) dX1_there_2 (by decide) ?_
  refine g_istore2 C dX1_there_3 ?_
  exact H4 9 0 _ (by omega) (by omega)
set_option maxRecDepth 100000 in
set_option maxHeartbeats 4000000 in
theorem s_seatOf {Γ : zG} {c : Nat → Nat → Int32} {t : Nat → Int64} {m : Nat} (hm : zMo m) {Y : zMm} (hM : MoC m c Y) (hw : ∀ k s, k < 8 → mW Y k = some s → s < 7) {s : Nat} (hs : s < 7) : Sp Γ 1 mX1_seatOf [.ref m, .int (nI s)] 0 0 (wF c t) (z_pi (fun v w => w = wF c t ∧ v = zE (zSeat (mW Y) s 8))) := by
  refine Sp.of (own := RX1) 1 false rfl (by decide +kernel) rfl rfl (fun h => by cases h) (fun K hKd M => ?_)
  have C := M.1
  show GG Γ K 0 0 (wF c t) 0 [some (.ref m), some (.int (nI s)), none] []
  have H2 : ∀ (n : Nat) (k : Nat), k ≤ 8 → zSeat (mW Y) s k = none → 8 - k < n → GG Γ K 0 0 (wF c t) 2 [some (.ref m), some (.int (nI s)), some (.int (nI k))] [] := by
    intro n
    induction n with
    | zero => intro k hk hz hn; exact absurd hn (by omega)
    | succ n ih =>
      intro k hk hz hn
      refine g_iload2 C dX1_seatOf_2 ?_
      refine g_bipush C (nI 8) dX1_seatOf_3 (by decide) ?_
      refine g_icmp_geN C 28 (by omega) (by omega) dX1_seatOf_5 (by decide) (fun h5 => ?_) (fun h5 => ?_)
      · -- X1_seatOf 5t
        obtain rfl : k = 8 := by omega
        refine g_bipush C (-9) dX1_seatOf_28 (by decide) ?_
        exact g_reti M dX1_seatOf_30 (⟨rfl, by rw [hz]; rfl⟩)
      · -- X1_seatOf 5f
        refine g_aload0 C dX1_seatOf_8 ?_
        refine g_getRT C dX1_seatOf_9 flX1_9 (show m < 68 by have := hm.1; omega) hm.2.1 rfl (by have := hm.1; omega) ?_
        refine g_iload2 C dX1_seatOf_12 ?_
        refine g_callS2i C dX1_seatOf_13 slX1_31 (s_at (by have := hm.1; omega) hm.2.2.1 h5 (by decide) (hM.2.2.1 k h5)) hKd (by first | decide | omega) rfl (Nat.le_of_ble_eq_true rfl) ?_
        rintro _ _ ⟨rfl, rfl⟩
        refine g_iload1 C dX1_seatOf_16 ?_
        refine g_icmp_ne C 22 dX1_seatOf_17 (by decide) (fun h17 => ?_) (fun h17 => ?_)
        · -- X1_seatOf 17t
          refine g_iinc2N C dX1_seatOf_22 ?_
          refine g_goto C 2 dX1_seatOf_25 (by decide) ?_
          exact ih (k + 1) (by omega) (by rw [zSeat, hz]; exact if_neg (fun q => h17 (by rw [q]; rfl))) (by omega)
        · -- X1_seatOf 17f
          have hq := zE_i (by omega) h17 (fun j h => by have := hw k j h5 h; omega)
          refine g_iload2 C dX1_seatOf_20 ?_
          exact g_reti M dX1_seatOf_21 (⟨rfl, by rw [show zSeat (mW Y) s 8 = some k from (show k + 1 + (7 - k) = 8 by omega) ▸ zSeat_keep (k := k + 1) (by rw [zSeat, hz]; exact if_pos hq) (7 - k)]; rfl⟩)
  refine g_iconst C (nI 0) dX1_seatOf_0 (by decide) ?_
  refine g_istore2 C dX1_seatOf_1 ?_
  exact H2 9 0 (by omega) rfl (by omega)
set_option maxRecDepth 100000 in
set_option maxHeartbeats 4000000 in
theorem s_inkOf {Γ : zG} {c : Nat → Nat → Int32} {t : Nat → Int64} {m : Nat} (hm : zMo m) {Y : zMm} (hM : MoC m c Y) (hw : ∀ k s, k < 8 → mW Y k = some s → s < 7) {s : Nat} (hs : s < 7) : Sp Γ 2 mX1_inkOf [.ref m, .int (nI s)] 0 0 (wF c t) (z_pi (fun v w => w = wF c t ∧ v = nI (zInkS Y s))) := by
  refine Sp.of (own := RX1) 1 false rfl (by decide +kernel) rfl rfl (fun h => by cases h) (fun K hKd M => ?_)
  have C := M.1
  show GG Γ K 0 0 (wF c t) 0 [some (.ref m), some (.int (nI s)), none] []
  refine g_aload0 C dX1_inkOf_0 ?_
  refine g_iload1 C dX1_inkOf_1 ?_
  refine g_callV1i C dX1_inkOf_2 vlX1_43 (s_seatOf hm hM hw hs) hKd (by first | decide | omega) rfl (Nat.le_of_ble_eq_true rfl) (show m < 68 by have := hm.1; omega) hm.2.1 ?_
  rintro _ _ ⟨rfl, rfl⟩
  refine g_istore2 C dX1_inkOf_5 ?_
  refine g_iload2 C dX1_inkOf_6 ?_
  refine g_bipush C (-9) dX1_inkOf_7 (by decide) ?_
  refine g_icmp_ne C 16 dX1_inkOf_9 (by decide) (fun h9 => ?_) (fun h9 => ?_)
  · -- X1_inkOf 9t
    obtain ⟨k, hk⟩ := zE_s h9
    have hk8 := (zSeat_lt 8 k hk).1
    rw [hk]
    refine g_aload0 C dX1_inkOf_16 ?_
    refine g_getRT C dX1_inkOf_17 flX1_15 (show m < 68 by have := hm.1; omega) hm.2.1 rfl (by have := hm.1; omega) ?_
    refine g_iload2 C dX1_inkOf_20 ?_
    refine g_callS2i C dX1_inkOf_21 slX1_31 (s_at (by have := hm.1; omega) hm.2.2.2 hk8 (by decide) (hM.2.2.2 k hk8)) hKd (by first | decide | omega) rfl (Nat.le_of_ble_eq_true rfl) ?_
    rintro _ _ ⟨rfl, rfl⟩
    exact g_reti M dX1_inkOf_24 (⟨rfl, by unfold zInkS; rw [hk]⟩)
  · -- X1_inkOf 9f
    have hk := zE_n h9 (fun s h => (zSeat_lt 8 s h).1)
    refine g_iconst C (nI 0) dX1_inkOf_12 (by decide) ?_
    refine g_goto C 24 dX1_inkOf_13 (by decide) ?_
    exact g_reti M dX1_inkOf_24 (⟨rfl, by unfold zInkS; rw [hk]⟩)
set_option maxRecDepth 100000 in
set_option maxHeartbeats 4000000 in
theorem s_slotAt {Γ : zG} {c : Nat → Nat → Int32} {t : Nat → Int64} {i : Nat} (hi : i < 10) : Sp Γ 0 mX3_slotAt [.ref 14, .int (nI i)] 0 0 (wF c t) (z_pr' (fun v w => w = wF c t ∧ v = 16 + 3 * i)) := by
  refine Sp.of (own := RX3) 0 false rfl (by decide +kernel) rfl rfl (fun h => by cases h) (fun K hKd M => ?_)
  have C := M.1
  show GG Γ K 0 0 (wF c t) 0 [some (.ref 14), some (.int (nI i))] []
  refine g_iload1 C dX3_slotAt_0 ?_
  refine g_if_ltN C 22 (by omega) dX3_slotAt_1 (by decide) (fun h => h.elim) (fun _ => ?_)
  refine g_iload1 C dX3_slotAt_4 ?_
  refine g_aload0 C dX3_slotAt_5 ?_
  refine g_getRT C dX3_slotAt_6 flX3_11 (show 14 < 68 by decide) rfl rfl (by decide) ?_
  refine g_alen C dX3_slotAt_9 (show 15 < 68 by decide) rfl ?_
  refine g_icmp_geN C 22 (by omega) (by omega) dX3_slotAt_10 (by decide) (fun h10 => absurd h10 (by omega)) (fun h10 => ?_)
  refine g_aload0 C dX3_slotAt_13 ?_
  refine g_getRT C dX3_slotAt_14 flX3_11 (show 14 < 68 by decide) rfl rfl (by decide) ?_
  refine g_iload1 C dX3_slotAt_17 ?_
  refine g_aaldE C (if_pos hi) (by omega) (by omega) (by decide) dX3_slotAt_18 (show 15 < 68 by decide) rfl ?_
  refine g_goto C 23 dX3_slotAt_19 (by decide) ?_
  exact g_reta M dX3_slotAt_23 (⟨rfl, rfl⟩)
set_option maxRecDepth 100000 in
set_option maxHeartbeats 4000000 in
theorem s_remember {Γ : zG} {c : Nat → Nat → Int32} {t : Nat → Int64} {nx sz : Nat} (hn : nx < 10) (hsz : sz ≤ 10) (h1 : c 14 1 = nI nx) (h2 : c 14 2 = nI sz) {mo : Nat} (hmo : zMo mo) (hp : mo + 2 < 14 ∨ 45 < mo)  : Sp Γ 3 mX3_remember [.ref 14, .ref mo] 0 0 (wF c t) (z_pv (fun w => w = wF (z_up (z_up (zBec c (16 + 3 * nx) mo) 14 1 (nI ((nx + 1) % 10))) 14 2 (nI (min (sz + 1) 10))) t)) := by
  refine Sp.of (own := RX3) 1 false rfl (by decide +kernel) rfl rfl (fun h => by cases h) (fun K hKd M => ?_)
  have C := M.1
  show GG Γ K 0 0 (wF c t) 0 [some (.ref 14), some (.ref mo), none] []
  refine g_aload0 C dX3_remember_0 ?_
  refine g_aload0 C dX3_remember_1 ?_
  refine g_getIE C h1 dX3_remember_2 flX3_18 (show 14 < 68 by decide) rfl rfl ?_
  refine g_callV1r C dX3_remember_5 vlX3_22 (s_slotAt hn) hKd (by first | decide | omega) rfl (Nat.le_of_ble_eq_true rfl) (show 14 < 68 by decide) rfl ?_
  rintro _ _ ⟨rfl, rfl⟩
  refine g_astore2 C dX3_remember_8 ?_
  refine g_aload2 C dX3_remember_9 ?_
  refine g_ifnonnull C 14 dX3_remember_10 (by decide) ?_
  refine g_aload2 C dX3_remember_14 ?_
  refine g_aload1 C dX3_remember_15 ?_
  refine g_callV1v C dX3_remember_16 vlX3_26 (s_mbec (zMo_past nx hn) hmo (by omega)) hKd (by first | decide | omega) rfl (Nat.le_of_ble_eq_true rfl) (show (16 + 3 * nx) < 68 by have := (zMo_past nx hn).1; omega) (zMo_past nx hn).2.1 ?_
  rintro _ rfl
  refine g_aload0 C dX3_remember_19 ?_
  refine g_aload0 C dX3_remember_20 ?_
  refine g_getIE C ((congrFun (zBec_o (by omega)) 1).trans h1) dX3_remember_21 flX3_18 (show 14 < 68 by decide) rfl rfl ?_
  refine g_iconst C (nI 1) dX3_remember_24 (by decide) ?_
  refine g_iaddN C dX3_remember_25 ?_
  refine g_bipush C (nI 10) dX3_remember_26 (by decide) ?_
  refine g_icmp_geN C 40 (by omega) (by omega) dX3_remember_28 (by decide) (fun h28 => ?_) (fun h28 => ?_)
  · -- X3_remember 28t
    
    refine g_iconst C (nI 0) dX3_remember_40 (by decide) ?_
    refine g_putI C dX3_remember_41 fpX3_18 (show 14 < 68 by decide) rfl rfl rfl rfl ?_
    refine g_con (by first | rw [show nx + 1 = (nx + 1) % 10 by omega] | rw [show (0 : Nat) = (nx + 1) % 10 by omega]) rfl ?_
    refine g_aload0 C dX3_remember_44 ?_
    refine g_aload0 C dX3_remember_45 ?_
    refine g_getIE C ((up_j _ (by decide)).trans ((congrFun (zBec_o (by omega)) 2).trans h2)) dX3_remember_46 flX3_30 (show 14 < 68 by decide) rfl rfl ?_
    refine g_iconst C (nI 1) dX3_remember_49 (by decide) ?_
    refine g_iaddN C dX3_remember_50 ?_
    refine g_bipush C (nI 10) dX3_remember_51 (by decide) ?_
    refine g_mmin C dX3_remember_53 mmlX3_33 hKd (by decide) rfl (Nat.le_of_ble_eq_true rfl) ?_
    refine g_top (zmin (by omega) (by omega)) ?_
    refine g_putI C dX3_remember_56 fpX3_30 (show 14 < 68 by decide) rfl rfl rfl rfl ?_
    exact g_retv M dX3_remember_59 (rfl)
  · -- X3_remember 28f
    
    refine g_aload0 C dX3_remember_31 ?_
    refine g_getIE C ((congrFun (zBec_o (by omega)) 1).trans h1) dX3_remember_32 flX3_18 (show 14 < 68 by decide) rfl rfl ?_
    refine g_iconst C (nI 1) dX3_remember_35 (by decide) ?_
    refine g_iaddN C dX3_remember_36 ?_
    refine g_goto C 41 dX3_remember_37 (by decide) ?_
    refine g_putI C dX3_remember_41 fpX3_18 (show 14 < 68 by decide) rfl rfl rfl rfl ?_
    refine g_con (by first | rw [show nx + 1 = (nx + 1) % 10 by omega] | rw [show (0 : Nat) = (nx + 1) % 10 by omega]) rfl ?_
    refine g_aload0 C dX3_remember_44 ?_
    refine g_aload0 C dX3_remember_45 ?_
    refine g_getIE C ((up_j _ (by decide)).trans ((congrFun (zBec_o (by omega)) 2).trans h2)) dX3_remember_46 flX3_30 (show 14 < 68 by decide) rfl rfl ?_
    refine g_iconst C (nI 1) dX3_remember_49 (by decide) ?_
    refine g_iaddN C dX3_remember_50 ?_
    refine g_bipush C (nI 10) dX3_remember_51 (by decide) ?_
    refine g_mmin C dX3_remember_53 mmlX3_33 hKd (by decide) rfl (Nat.le_of_ble_eq_true rfl) ?_
    refine g_top (zmin (by omega) (by omega)) ?_
    refine g_putI C dX3_remember_56 fpX3_30 (show 14 < 68 by decide) rfl rfl rfl rfl ?_
    exact g_retv M dX3_remember_59 (rfl)
set_option maxRecDepth 100000 in
set_option maxHeartbeats 4000000 in
theorem s_forget {Γ : zG} {c : Nat → Nat → Int32} {t : Nat → Int64}  : Sp Γ 0 mX3_forget [.ref 14] 0 0 (wF c t) (z_pv (fun w => w = wF (z_up c 14 2 (nI 0)) t)) := by
  refine Sp.of (own := RX3) 0 false rfl (by decide +kernel) rfl rfl (fun h => by cases h) (fun K hKd M => ?_)
  have C := M.1
  show GG Γ K 0 0 (wF c t) 0 [some (.ref 14)] []
  refine g_aload0 C dX3_forget_0 ?_
  refine g_iconst C (nI 0) dX3_forget_1 (by decide) ?_
  refine g_putI C dX3_forget_2 fpX3_30 (show 14 < 68 by decide) rfl rfl rfl rfl ?_
  exact g_retv M dX3_forget_5 (rfl)
set_option maxRecDepth 100000 in
set_option maxHeartbeats 4000000 in
theorem s_giveBack {Γ : zG} {c : Nat → Nat → Int32} {t : Nat → Int64} {nx sz : Nat} (hn : nx < 10) (hsz : sz ≤ 10) (h1 : c 14 1 = nI nx) (h2 : c 14 2 = nI sz) {mo : Nat} (hmo : zMo mo) (hp : mo + 2 < 14 ∨ 45 < mo)  : Sp Γ 3 mX3_giveBack [.ref 14, .ref mo] 0 0 (wF c t) (z_pi (fun v w => v = nI (decide (0 < sz)).toNat ∧ w = wF (if 0 < sz then z_up (z_up (zBec c mo (16 + 3 * ((nx + 9) % 10))) 14 1 (nI ((nx + 9) % 10))) 14 2 (nI (sz - 1)) else c) t)) := by
  refine Sp.of (own := RX3) 2 false rfl (by decide +kernel) rfl rfl (fun h => by cases h) (fun K hKd M => ?_)
  have C := M.1
  show GG Γ K 0 0 (wF c t) 0 [some (.ref 14), some (.ref mo), none, none] []
  refine g_aload0 C dX3_giveBack_0 ?_
  refine g_getIE C h1 dX3_giveBack_1 flX3_18 (show 14 < 68 by decide) rfl rfl ?_
  refine g_if_leN C 16 (by omega) dX3_giveBack_4 (by decide) (fun h4 => ?_) (fun h4 => ?_)
  · -- X3_giveBack 4t
    
    refine g_bipush C (nI 9) dX3_giveBack_16 (by decide) ?_
    refine g_istore2 C dX3_giveBack_18 ?_
    refine g_set (L' := [some (.ref 14), some (.ref mo), some (.int (nI ((nx + 9) % 10))), none]) rfl (by first | rw [show nx - 1 = (nx + 9) % 10 by omega] | rw [show (nx + 9) % 10 = 9 by omega]) rfl ?_
    refine g_aload0 C dX3_giveBack_19 ?_
    refine g_iload2 C dX3_giveBack_20 ?_
    refine g_callV1r C dX3_giveBack_21 vlX3_22 (s_slotAt (by omega)) hKd (by first | decide | omega) rfl (Nat.le_of_ble_eq_true rfl) (show 14 < 68 by decide) rfl ?_
    rintro _ _ ⟨rfl, rfl⟩
    refine g_astore3 C dX3_giveBack_24 ?_
    refine g_aload0 C dX3_giveBack_25 ?_
    refine g_getIE C h2 dX3_giveBack_26 flX3_30 (show 14 < 68 by decide) rfl rfl ?_
    refine g_if_leN C 36 (by omega) dX3_giveBack_29 (by decide) (fun h29 => ?_) (fun h29 => ?_)
    · -- X3_giveBack 29t
      
      refine g_iconst C (nI 0) dX3_giveBack_36 (by decide) ?_
      exact g_ret0 M dX3_giveBack_37 (⟨z_b0 (by omega), by rw [if_neg (by omega)]⟩)
    · -- X3_giveBack 29f
      
      refine g_aload3 C dX3_giveBack_32 ?_
      refine g_ifnonnull C 38 dX3_giveBack_33 (by decide) ?_
      refine g_aload1 C dX3_giveBack_38 ?_
      refine g_aload3 C dX3_giveBack_39 ?_
      refine g_callV1v C dX3_giveBack_40 vlX3_26 (s_mbec hmo (zMo_past _ (by omega)) (by omega)) hKd (by first | decide | omega) rfl (Nat.le_of_ble_eq_true rfl) (show mo < 68 by have := hmo.1; omega) hmo.2.1 ?_
      rintro _ rfl
      refine g_aload0 C dX3_giveBack_43 ?_
      refine g_iload2 C dX3_giveBack_44 ?_
      refine g_putI C dX3_giveBack_45 fpX3_18 (show 14 < 68 by decide) rfl rfl rfl rfl ?_
      refine g_aload0 C dX3_giveBack_48 ?_
      refine g_dup C dX3_giveBack_49 rfl ?_
      refine g_getIE C ((up_j _ (by decide)).trans ((congrFun (zBec_o (by omega)) 2).trans h2)) dX3_giveBack_50 flX3_30 (show 14 < 68 by decide) rfl rfl ?_
      refine g_iconst C (nI 1) dX3_giveBack_53 (by decide) ?_
      refine g_isubN C dX3_giveBack_54 (by omega) ?_
      refine g_putI C dX3_giveBack_55 fpX3_30 (show 14 < 68 by decide) rfl rfl rfl rfl ?_
      refine g_iconst C (nI 1) dX3_giveBack_58 (by decide) ?_
      exact g_ret1 M dX3_giveBack_59 (⟨z_b1 h29, by rw [if_pos h29]⟩)
  · -- X3_giveBack 4f
    
    refine g_aload0 C dX3_giveBack_7 ?_
    refine g_getIE C h1 dX3_giveBack_8 flX3_18 (show 14 < 68 by decide) rfl rfl ?_
    refine g_iconst C (nI 1) dX3_giveBack_11 (by decide) ?_
    refine g_isubN C dX3_giveBack_12 (by omega) ?_
    refine g_goto C 18 dX3_giveBack_13 (by decide) ?_
    refine g_istore2 C dX3_giveBack_18 ?_
    refine g_set (L' := [some (.ref 14), some (.ref mo), some (.int (nI ((nx + 9) % 10))), none]) rfl (by first | rw [show nx - 1 = (nx + 9) % 10 by omega] | rw [show (nx + 9) % 10 = 9 by omega]) rfl ?_
    refine g_aload0 C dX3_giveBack_19 ?_
    refine g_iload2 C dX3_giveBack_20 ?_
    refine g_callV1r C dX3_giveBack_21 vlX3_22 (s_slotAt (by omega)) hKd (by first | decide | omega) rfl (Nat.le_of_ble_eq_true rfl) (show 14 < 68 by decide) rfl ?_
    rintro _ _ ⟨rfl, rfl⟩
    refine g_astore3 C dX3_giveBack_24 ?_
    refine g_aload0 C dX3_giveBack_25 ?_
    refine g_getIE C h2 dX3_giveBack_26 flX3_30 (show 14 < 68 by decide) rfl rfl ?_
    refine g_if_leN C 36 (by omega) dX3_giveBack_29 (by decide) (fun h29 => ?_) (fun h29 => ?_)
    · -- X3_giveBack 29t
      
      refine g_iconst C (nI 0) dX3_giveBack_36 (by decide) ?_
      exact g_ret0 M dX3_giveBack_37 (⟨z_b0 (by omega), by rw [if_neg (by omega)]⟩)
    · -- X3_giveBack 29f
      
      refine g_aload3 C dX3_giveBack_32 ?_
      refine g_ifnonnull C 38 dX3_giveBack_33 (by decide) ?_
      refine g_aload1 C dX3_giveBack_38 ?_
      refine g_aload3 C dX3_giveBack_39 ?_
      refine g_callV1v C dX3_giveBack_40 vlX3_26 (s_mbec hmo (zMo_past _ (by omega)) (by omega)) hKd (by first | decide | omega) rfl (Nat.le_of_ble_eq_true rfl) (show mo < 68 by have := hmo.1; omega) hmo.2.1 ?_
      rintro _ rfl
      refine g_aload0 C dX3_giveBack_43 ?_
      refine g_iload2 C dX3_giveBack_44 ?_
      refine g_putI C dX3_giveBack_45 fpX3_18 (show 14 < 68 by decide) rfl rfl rfl rfl ?_
      refine g_aload0 C dX3_giveBack_48 ?_
      refine g_dup C dX3_giveBack_49 rfl ?_
      refine g_getIE C ((up_j _ (by decide)).trans ((congrFun (zBec_o (by omega)) 2).trans h2)) dX3_giveBack_50 flX3_30 (show 14 < 68 by decide) rfl rfl ?_
      refine g_iconst C (nI 1) dX3_giveBack_53 (by decide) ?_
      refine g_isubN C dX3_giveBack_54 (by omega) ?_
      refine g_putI C dX3_giveBack_55 fpX3_30 (show 14 < 68 by decide) rfl rfl rfl rfl ?_
      refine g_iconst C (nI 1) dX3_giveBack_58 (by decide) ?_
      exact g_ret1 M dX3_giveBack_59 (⟨z_b1 h29, by rw [if_pos h29]⟩)
