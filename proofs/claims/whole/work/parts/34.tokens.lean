/-! the text: letters, tokens -/
set_option maxRecDepth 100000 in
set_option maxHeartbeats 4000000 in
theorem s_isDigit {Γ : zG} {w0 : zW} {x : Nat} (hx : x < 2 ^ 31) : Sp Γ 0 mX4_isDigit [.int (nI x)] 0 0 (w0) (z_pi (fun v w => w = w0 ∧ v = nI (decide (48 ≤ x ∧ x ≤ 57)).toNat)) := by
  refine Sp.of (own := RX4) 0 false rfl (by decide +kernel) rfl rfl (fun h => by cases h) (fun K hKd M => ?_)
  have C := M.1
  show GG Γ K 0 0 (w0) 0 [some (.int (nI x))] []
  refine g_iload0 C dX4_isDigit_0 ?_
  refine g_bipush C (nI 48) dX4_isDigit_1 (by decide) ?_
  refine g_icmp_ltN C 16 (by omega) (by omega) dX4_isDigit_3 (by decide) (fun h3 => ?_) (fun h3 => ?_)
  · -- X4_isDigit 3t
    refine g_iconst C (nI 0) dX4_isDigit_16 (by decide) ?_
    exact g_ret0 M dX4_isDigit_17 (⟨rfl, z_b0 (by omega)⟩)
  · -- X4_isDigit 3f
    refine g_iload0 C dX4_isDigit_6 ?_
    refine g_bipush C (nI 57) dX4_isDigit_7 (by decide) ?_
    refine g_icmp_gtN C 16 (by omega) (by omega) dX4_isDigit_9 (by decide) (fun h9 => ?_) (fun h9 => ?_)
    · -- X4_isDigit 9t
      refine g_iconst C (nI 0) dX4_isDigit_16 (by decide) ?_
      exact g_ret0 M dX4_isDigit_17 (⟨rfl, z_b0 (by omega)⟩)
    · -- X4_isDigit 9f
      refine g_iconst C (nI 1) dX4_isDigit_12 (by decide) ?_
      refine g_goto C 17 dX4_isDigit_13 (by decide) ?_
      exact g_ret1 M dX4_isDigit_17 (⟨rfl, z_b1 (by omega)⟩)
set_option maxRecDepth 100000 in
set_option maxHeartbeats 4000000 in
theorem s_append {Γ : zG} {c : Nat → Nat → Int32} {t : Nat → Int64} {len : Nat} {f : Nat → Nat} (hT : TxC c len f) {x : Int32} : Sp Γ 1 mX4_append [.ref 1, .int x] 0 0 (wF c t) (z_pi (fun v w => (200 ≤ len ∧ v = nI 0 ∧ w = wF c t) ∨ (len < 200 ∧ v = nI 1 ∧ w = wF (z_up (z_up c 2 len x) 1 1 (nI (len + 1))) t))) := by
  refine Sp.of (own := RX4) 0 false rfl (by decide +kernel) rfl rfl (fun h => by cases h) (fun K hKd M => ?_)
  have C := M.1
  show GG Γ K 0 0 (wF c t) 0 [some (.ref 1), some (.int x)] []
  refine g_aload0 C dX4_append_0 ?_
  refine g_getIE C hT.1 dX4_append_1 flX4_15 (show 1 < 68 by decide) rfl rfl ?_
  refine g_sipush C (nI 200) dX4_append_4 (by decide) ?_
  refine g_icmp_ltN C 12 (by have := hT.2.1; omega) (by omega) dX4_append_7 (by decide) (fun h7 => ?_) (fun h7 => ?_)
  · -- X4_append 7t
    refine g_aload0 C dX4_append_12 ?_
    refine g_getRT C dX4_append_13 flX4_9 (show 1 < 68 by decide) rfl rfl (by decide) ?_
    refine g_aload0 C dX4_append_16 ?_
    refine g_getIE C hT.1 dX4_append_17 flX4_15 (show 1 < 68 by decide) rfl rfl ?_
    refine g_iload1 C dX4_append_20 ?_
    refine g_callS3v C dX4_append_21 slX4_19 (s_put (show 2 < 68 by decide) rfl h7 (by decide)) hKd (by first | decide | omega) rfl (Nat.le_of_ble_eq_true rfl) ?_
    rintro _ rfl
    refine g_aload0 C dX4_append_24 ?_
    refine g_dup C dX4_append_25 rfl ?_
    refine g_getIE C ((up_k (by decide) _).trans hT.1) dX4_append_26 flX4_15 (show 1 < 68 by decide) rfl rfl ?_
    refine g_iconst C (nI 1) dX4_append_29 (by decide) ?_
    refine g_iaddN C dX4_append_30 ?_
    refine g_putI C dX4_append_31 fpX4_15 (show 1 < 68 by decide) rfl rfl rfl rfl ?_
    refine g_iconst C (nI 1) dX4_append_34 (by decide) ?_
    exact g_ret1 M dX4_append_35 (Or.inr ⟨h7, rfl, rfl⟩)
  · -- X4_append 7f
    refine g_iconst C (nI 0) dX4_append_10 (by decide) ?_
    exact g_ret0 M dX4_append_11 (Or.inl ⟨h7, rfl, rfl⟩)
set_option maxRecDepth 100000 in
set_option maxHeartbeats 4000000 in
theorem s_nextNumber {Γ : zG} {c : Nat → Nat → Int32} {t : Nat → Int64} {len : Nat} {f : Nat → Nat} (hT : TxC c len f) {q : Nat} (hq : q < len) : Sp Γ 1 mX4_nextNumber [.ref 1] 0 0 (wF (zPT c (nI q) (nI q)) t) (z_pi (fun v w => v = zTkI (zNv f len q) ∧ w = wF (zPT c (nI (zEd f len q)) (nI q)) t)) := by
  refine Sp.of (own := RX4) 3 false rfl (by decide +kernel) rfl rfl (fun h => by cases h) (fun K hKd M => ?_)
  have C := M.1
  show GG Γ K 0 0 (wF (zPT c (nI q) (nI q)) t) 0 [some (.ref 1), none, none, none] []
  have H24 : ∀ (n : Nat) (k : Nat), q + k ≤ len → zEd f len (q + k) = zEd f len q → len - (q + k) < n → GG Γ K 0 0 (wF (zPT c (nI (q + k)) (nI q)) t) 24 [some (.ref 1), some (.int (nI (decide (f q = 48)).toNat)), some (.int (nI (zCv f q k))), none] [] := by
    intro n
    induction n with
    | zero => intro k hk he hn; exact absurd hn (by omega)
    | succ n ih =>
      intro k hk he hn
      refine g_aload0 C dX4_nextNumber_24 ?_
      refine g_getIE C (zPT_2 c _ _) dX4_nextNumber_25 flX4_28 (show 1 < 68 by decide) rfl rfl ?_
      refine g_aload0 C dX4_nextNumber_28 ?_
      refine g_getIE C (hT.pt _ _).1 dX4_nextNumber_29 flX4_15 (show 1 < 68 by decide) rfl rfl ?_
      refine g_icmp_geN C 91 (by have := hT.2.1; omega) (by have := hT.2.1; omega) dX4_nextNumber_32 (by decide) (fun h32 => ?_) (fun h32 => ?_)
      · -- X4_nextNumber 32t
        have hend : zEd f len q = q + k := by rw [← he]; exact zEd_stop (by omega)
        refine g_iload2 C dX4_nextNumber_91 ?_
        refine g_bipush C (nI 127) dX4_nextNumber_92 (by decide) ?_
        refine g_icmp_gtN C 118 (by have := zCv_le f q k; omega) (by decide) dX4_nextNumber_94 (by decide) (fun h94 => ?_) (fun h94 => ?_)
        · -- X4_nextNumber 94t
          have hv : zNv f len q = 1001 := by unfold zNv; rw [hend, show q + k - q = k by omega]; exact if_neg (by omega)
          refine g_iconst C (nI 0) dX4_nextNumber_118 (by decide) ?_
          refine g_istore3 C dX4_nextNumber_119 ?_
          refine g_iload3 C dX4_nextNumber_120 ?_
          refine g_if_eqN C 128 (by omega) dX4_nextNumber_121 (by decide) (fun h121 => ?_) (fun h121 => absurd h121 (by decide))
          refine g_bipush C (-2) dX4_nextNumber_128 (by decide) ?_
          exact g_reti M dX4_nextNumber_130 (⟨by rw [hv]; first | rfl | (unfold zTkI; rw [if_neg (by omega), if_neg (by omega)]), by rw [hend]⟩)
        · -- X4_nextNumber 94f
          
          refine g_iload1 C dX4_nextNumber_97 ?_
          refine g_if_eqB C 114 dX4_nextNumber_98 (by decide) (fun h98 => ?_) (fun h98 => ?_)
          · -- X4_nextNumber 98t
            have hz := of_decide_eq_false h98
            have hv : zNv f len q = zCv f q k := by unfold zNv; rw [hend, show q + k - q = k by omega]; exact if_pos ⟨by omega, fun h => hz h.1⟩
            refine g_iconst C (nI 1) dX4_nextNumber_114 (by decide) ?_
            refine g_goto C 119 dX4_nextNumber_115 (by decide) ?_
            refine g_istore3 C dX4_nextNumber_119 ?_
            refine g_iload3 C dX4_nextNumber_120 ?_
            refine g_if_eqN C 128 (by omega) dX4_nextNumber_121 (by decide) (fun h121 => absurd h121 (by decide)) (fun h121 => ?_)
            refine g_iload2 C dX4_nextNumber_124 ?_
            refine g_goto C 130 dX4_nextNumber_125 (by decide) ?_
            exact g_reti M dX4_nextNumber_130 (⟨by rw [hv]; first | rfl | (unfold zTkI; rw [if_neg (by omega), if_neg (by omega)]), by rw [hend]⟩)
          · -- X4_nextNumber 98f
            have hz := of_decide_eq_true h98
            refine g_aload0 C dX4_nextNumber_101 ?_
            refine g_getIE C (zPT_2 c _ _) dX4_nextNumber_102 flX4_28 (show 1 < 68 by decide) rfl rfl ?_
            refine g_aload0 C dX4_nextNumber_105 ?_
            refine g_getIE C (zPT_3 c _ _) dX4_nextNumber_106 flX4_52 (show 1 < 68 by decide) rfl rfl ?_
            refine g_isubN C dX4_nextNumber_109 (by omega) ?_
            refine g_iconst C (nI 1) dX4_nextNumber_110 (by decide) ?_
            refine g_icmp_gtN C 118 (by have := hT.2.1; omega) (by decide) dX4_nextNumber_111 (by decide) (fun h111 => ?_) (fun h111 => ?_)
            · -- X4_nextNumber 111t
              have hv : zNv f len q = 1001 := by unfold zNv; rw [hend, show q + k - q = k by omega]; exact if_neg (fun h => h.2 ⟨hz, by omega⟩)
              refine g_iconst C (nI 0) dX4_nextNumber_118 (by decide) ?_
              refine g_istore3 C dX4_nextNumber_119 ?_
              refine g_iload3 C dX4_nextNumber_120 ?_
              refine g_if_eqN C 128 (by omega) dX4_nextNumber_121 (by decide) (fun h121 => ?_) (fun h121 => absurd h121 (by decide))
              refine g_bipush C (-2) dX4_nextNumber_128 (by decide) ?_
              exact g_reti M dX4_nextNumber_130 (⟨by rw [hv]; first | rfl | (unfold zTkI; rw [if_neg (by omega), if_neg (by omega)]), by rw [hend]⟩)
            · -- X4_nextNumber 111f
              have hv : zNv f len q = zCv f q k := by unfold zNv; rw [hend, show q + k - q = k by omega]; exact if_pos ⟨by omega, fun h => by omega⟩
              refine g_iconst C (nI 1) dX4_nextNumber_114 (by decide) ?_
              refine g_goto C 119 dX4_nextNumber_115 (by decide) ?_
              refine g_istore3 C dX4_nextNumber_119 ?_
              refine g_iload3 C dX4_nextNumber_120 ?_
              refine g_if_eqN C 128 (by omega) dX4_nextNumber_121 (by decide) (fun h121 => absurd h121 (by decide)) (fun h121 => ?_)
              refine g_iload2 C dX4_nextNumber_124 ?_
              refine g_goto C 130 dX4_nextNumber_125 (by decide) ?_
              exact g_reti M dX4_nextNumber_130 (⟨by rw [hv]; first | rfl | (unfold zTkI; rw [if_neg (by omega), if_neg (by omega)]), by rw [hend]⟩)
      · -- X4_nextNumber 32f
        
        refine g_aload0 C dX4_nextNumber_35 ?_
        refine g_getRT C dX4_nextNumber_36 flX4_9 (show 1 < 68 by decide) rfl rfl (by decide) ?_
        refine g_aload0 C dX4_nextNumber_39 ?_
        refine g_getIE C (zPT_2 c _ _) dX4_nextNumber_40 flX4_28 (show 1 < 68 by decide) rfl rfl ?_
        refine g_callS2i C dX4_nextNumber_43 slX4_76 (s_at (show 2 < 68 by decide) rfl (by have := hT.2.1; omega) (by decide) ((hT.pt _ _).2.2.1 _ h32)) hKd (by first | decide | omega) rfl (Nat.le_of_ble_eq_true rfl) ?_
        rintro _ _ ⟨rfl, rfl⟩
        refine g_callS1i C dX4_nextNumber_46 slX4_80 (s_isDigit (by have := hT.2.2.2 _ h32; omega)) hKd (by first | decide | omega) rfl (Nat.le_of_ble_eq_true rfl) ?_
        rintro _ _ ⟨rfl, rfl⟩
        refine g_if_eqB C 91 dX4_nextNumber_49 (by decide) (fun h49 => ?_) (fun h49 => ?_)
        · -- X4_nextNumber 49t
          have hend : zEd f len q = q + k := by rw [← he]; exact zEd_stop (fun h => (of_decide_eq_false h49) h.2)
          refine g_iload2 C dX4_nextNumber_91 ?_
          refine g_bipush C (nI 127) dX4_nextNumber_92 (by decide) ?_
          refine g_icmp_gtN C 118 (by have := zCv_le f q k; omega) (by decide) dX4_nextNumber_94 (by decide) (fun h94 => ?_) (fun h94 => ?_)
          · -- X4_nextNumber 94t
            have hv : zNv f len q = 1001 := by unfold zNv; rw [hend, show q + k - q = k by omega]; exact if_neg (by omega)
            refine g_iconst C (nI 0) dX4_nextNumber_118 (by decide) ?_
            refine g_istore3 C dX4_nextNumber_119 ?_
            refine g_iload3 C dX4_nextNumber_120 ?_
            refine g_if_eqN C 128 (by omega) dX4_nextNumber_121 (by decide) (fun h121 => ?_) (fun h121 => absurd h121 (by decide))
            refine g_bipush C (-2) dX4_nextNumber_128 (by decide) ?_
            exact g_reti M dX4_nextNumber_130 (⟨by rw [hv]; first | rfl | (unfold zTkI; rw [if_neg (by omega), if_neg (by omega)]), by rw [hend]⟩)
          · -- X4_nextNumber 94f
            
            refine g_iload1 C dX4_nextNumber_97 ?_
            refine g_if_eqB C 114 dX4_nextNumber_98 (by decide) (fun h98 => ?_) (fun h98 => ?_)
            · -- X4_nextNumber 98t
              have hz := of_decide_eq_false h98
              have hv : zNv f len q = zCv f q k := by unfold zNv; rw [hend, show q + k - q = k by omega]; exact if_pos ⟨by omega, fun h => hz h.1⟩
              refine g_iconst C (nI 1) dX4_nextNumber_114 (by decide) ?_
              refine g_goto C 119 dX4_nextNumber_115 (by decide) ?_
              refine g_istore3 C dX4_nextNumber_119 ?_
              refine g_iload3 C dX4_nextNumber_120 ?_
              refine g_if_eqN C 128 (by omega) dX4_nextNumber_121 (by decide) (fun h121 => absurd h121 (by decide)) (fun h121 => ?_)
              refine g_iload2 C dX4_nextNumber_124 ?_
              refine g_goto C 130 dX4_nextNumber_125 (by decide) ?_
              exact g_reti M dX4_nextNumber_130 (⟨by rw [hv]; first | rfl | (unfold zTkI; rw [if_neg (by omega), if_neg (by omega)]), by rw [hend]⟩)
            · -- X4_nextNumber 98f
              have hz := of_decide_eq_true h98
              refine g_aload0 C dX4_nextNumber_101 ?_
              refine g_getIE C (zPT_2 c _ _) dX4_nextNumber_102 flX4_28 (show 1 < 68 by decide) rfl rfl ?_
              refine g_aload0 C dX4_nextNumber_105 ?_
              refine g_getIE C (zPT_3 c _ _) dX4_nextNumber_106 flX4_52 (show 1 < 68 by decide) rfl rfl ?_
              refine g_isubN C dX4_nextNumber_109 (by omega) ?_
              refine g_iconst C (nI 1) dX4_nextNumber_110 (by decide) ?_
              refine g_icmp_gtN C 118 (by have := hT.2.1; omega) (by decide) dX4_nextNumber_111 (by decide) (fun h111 => ?_) (fun h111 => ?_)
              · -- X4_nextNumber 111t
                have hv : zNv f len q = 1001 := by unfold zNv; rw [hend, show q + k - q = k by omega]; exact if_neg (fun h => h.2 ⟨hz, by omega⟩)
                refine g_iconst C (nI 0) dX4_nextNumber_118 (by decide) ?_
                refine g_istore3 C dX4_nextNumber_119 ?_
                refine g_iload3 C dX4_nextNumber_120 ?_
                refine g_if_eqN C 128 (by omega) dX4_nextNumber_121 (by decide) (fun h121 => ?_) (fun h121 => absurd h121 (by decide))
                refine g_bipush C (-2) dX4_nextNumber_128 (by decide) ?_
                exact g_reti M dX4_nextNumber_130 (⟨by rw [hv]; first | rfl | (unfold zTkI; rw [if_neg (by omega), if_neg (by omega)]), by rw [hend]⟩)
              · -- X4_nextNumber 111f
                have hv : zNv f len q = zCv f q k := by unfold zNv; rw [hend, show q + k - q = k by omega]; exact if_pos ⟨by omega, fun h => by omega⟩
                refine g_iconst C (nI 1) dX4_nextNumber_114 (by decide) ?_
                refine g_goto C 119 dX4_nextNumber_115 (by decide) ?_
                refine g_istore3 C dX4_nextNumber_119 ?_
                refine g_iload3 C dX4_nextNumber_120 ?_
                refine g_if_eqN C 128 (by omega) dX4_nextNumber_121 (by decide) (fun h121 => absurd h121 (by decide)) (fun h121 => ?_)
                refine g_iload2 C dX4_nextNumber_124 ?_
                refine g_goto C 130 dX4_nextNumber_125 (by decide) ?_
                exact g_reti M dX4_nextNumber_130 (⟨by rw [hv]; first | rfl | (unfold zTkI; rw [if_neg (by omega), if_neg (by omega)]), by rw [hend]⟩)
        · -- X4_nextNumber 49f
          replace h49 := of_decide_eq_true h49
          refine g_iload2 C dX4_nextNumber_52 ?_
          refine g_bipush C (nI 10) dX4_nextNumber_53 (by decide) ?_
          refine g_imulN C dX4_nextNumber_55 ?_
          refine g_aload0 C dX4_nextNumber_56 ?_
          refine g_getRT C dX4_nextNumber_57 flX4_9 (show 1 < 68 by decide) rfl rfl (by decide) ?_
          refine g_aload0 C dX4_nextNumber_60 ?_
          refine g_getIE C (zPT_2 c _ _) dX4_nextNumber_61 flX4_28 (show 1 < 68 by decide) rfl rfl ?_
          refine g_callS2i C dX4_nextNumber_64 slX4_76 (s_at (show 2 < 68 by decide) rfl (by have := hT.2.1; omega) (by decide) ((hT.pt _ _).2.2.1 _ h32)) hKd (by first | decide | omega) rfl (Nat.le_of_ble_eq_true rfl) ?_
          rintro _ _ ⟨rfl, rfl⟩
          refine g_iaddN C dX4_nextNumber_67 ?_
          refine g_bipush C (nI 48) dX4_nextNumber_68 (by decide) ?_
          refine g_isubN C dX4_nextNumber_70 (by omega) ?_
          refine g_sipush C (nI 128) dX4_nextNumber_71 (by decide) ?_
          refine g_mmin C dX4_nextNumber_74 mmlX4_87 hKd (by decide) rfl (Nat.le_of_ble_eq_true rfl) ?_
          refine g_top ((congrArg (fun x : Nat => if nI 128 < nI x then nI 128 else nI x) (show zCv f q k * 10 + f (q + k) - 48 = zCv f q k * 10 + (f (q + k) - 48) by omega)).trans (zmin (by have := zCv_le f q k; have := hT.2.2.2 _ h32; omega) (by decide))) ?_
          refine g_istore2 C dX4_nextNumber_77 ?_
          refine g_aload0 C dX4_nextNumber_78 ?_
          refine g_dup C dX4_nextNumber_79 rfl ?_
          refine g_getIE C (zPT_2 c _ _) dX4_nextNumber_80 flX4_28 (show 1 < 68 by decide) rfl rfl ?_
          refine g_iconst C (nI 1) dX4_nextNumber_83 (by decide) ?_
          refine g_iaddN C dX4_nextNumber_84 ?_
          refine g_putI C dX4_nextNumber_85 fpX4_28 (show 1 < 68 by decide) rfl rfl rfl rfl ?_
          refine g_con (zPT_p c _ _ _) rfl ?_
          refine g_goto C 24 dX4_nextNumber_88 (by decide) ?_
          exact ih (k + 1) (by omega) (by rw [← Nat.add_assoc, zEd_step h32 h49]; exact he) (by omega)
  refine g_aload0 C dX4_nextNumber_0 ?_
  refine g_getRT C dX4_nextNumber_1 flX4_9 (show 1 < 68 by decide) rfl rfl (by decide) ?_
  refine g_aload0 C dX4_nextNumber_4 ?_
  refine g_getIE C (zPT_2 c _ _) dX4_nextNumber_5 flX4_28 (show 1 < 68 by decide) rfl rfl ?_
  refine g_callS2i C dX4_nextNumber_8 slX4_76 (s_at (show 2 < 68 by decide) rfl (by have := hT.2.1; omega) (by decide) ((hT.pt _ _).2.2.1 _ hq)) hKd (by first | decide | omega) rfl (Nat.le_of_ble_eq_true rfl) ?_
  rintro _ _ ⟨rfl, rfl⟩
  refine g_bipush C (nI 48) dX4_nextNumber_11 (by decide) ?_
  refine g_icmp_neN C 20 (by have := hT.2.2.2 _ hq; omega) (by decide) dX4_nextNumber_13 (by decide) (fun h13 => ?_) (fun h13 => ?_)
  · -- X4_nextNumber 13t
    refine g_iconst C (nI 0) dX4_nextNumber_20 (by decide) ?_
    refine g_istore1 C dX4_nextNumber_21 ?_
    refine g_set (L' := [some (.ref 1), some (.int (nI (decide (f q = 48)).toNat)), none, none]) rfl (by first | rw [decide_eq_true h13]; rfl | rw [decide_eq_false h13]; rfl) rfl ?_
    refine g_iconst C (nI 0) dX4_nextNumber_22 (by decide) ?_
    refine g_istore2 C dX4_nextNumber_23 ?_
    exact H24 (len + 1) 0 (by omega) rfl (by omega)
  · -- X4_nextNumber 13f
    refine g_iconst C (nI 1) dX4_nextNumber_16 (by decide) ?_
    refine g_goto C 21 dX4_nextNumber_17 (by decide) ?_
    refine g_istore1 C dX4_nextNumber_21 ?_
    refine g_set (L' := [some (.ref 1), some (.int (nI (decide (f q = 48)).toNat)), none, none]) rfl (by first | rw [decide_eq_true h13]; rfl | rw [decide_eq_false h13]; rfl) rfl ?_
    refine g_iconst C (nI 0) dX4_nextNumber_22 (by decide) ?_
    refine g_istore2 C dX4_nextNumber_23 ?_
    exact H24 (len + 1) 0 (by omega) rfl (by omega)
set_option maxRecDepth 100000 in
set_option maxHeartbeats 4000000 in
theorem s_next {Γ : zG} {c : Nat → Nat → Int32} {t : Nat → Int64} {len : Nat} {f : Nat → Nat} (hT : TxC c len f) {p0 : Nat} (hp0 : p0 ≤ len) {s : Int32} : Sp Γ 2 mX4_next [.ref 1] 0 0 (wF (zPT c (nI p0) s) t) (z_pi (fun v w => v = zTkI (zTok f len p0).2.2 ∧ w = wF (zPT c (nI (zTok f len p0).2.1) (nI (zTok f len p0).1)) t)) := by
  refine Sp.of (own := RX4) 2 false rfl (by decide +kernel) rfl rfl (fun h => by cases h) (fun K hKd M => ?_)
  have C := M.1
  show GG Γ K 0 0 (wF (zPT c (nI p0) s) t) 0 [some (.ref 1), none, none] []
  have H0 : ∀ (n : Nat) (p : Nat), p ≤ len → zSt f len p0 = zSt f len p → len - p < n → GG Γ K 0 0 (wF (zPT c (nI p) s) t) 0 [some (.ref 1), none, none] [] := by
    intro n
    induction n with
    | zero => intro p hp he hn; exact absurd hn (by omega)
    | succ n ih =>
      intro p hp he hn
      refine g_aload0 C dX4_next_0 ?_
      refine g_getIE C (zPT_2 c _ _) dX4_next_1 flX4_28 (show 1 < 68 by decide) rfl rfl ?_
      refine g_aload0 C dX4_next_4 ?_
      refine g_getIE C (hT.pt _ _).1 dX4_next_5 flX4_15 (show 1 < 68 by decide) rfl rfl ?_
      refine g_icmp_geN C 40 (by have := hT.2.1; omega) (by have := hT.2.1; omega) dX4_next_8 (by decide) (fun h8 => ?_) (fun h8 => ?_)
      · -- X4_next 8t
        replace he : zSt f len p0 = p := he.trans (zSt_stop (by omega))
        refine g_aload0 C dX4_next_40 ?_
        refine g_aload0 C dX4_next_41 ?_
        refine g_getIE C (zPT_2 c _ _) dX4_next_42 flX4_28 (show 1 < 68 by decide) rfl rfl ?_
        refine g_putI C dX4_next_45 fpX4_52 (show 1 < 68 by decide) rfl rfl rfl rfl ?_
        refine g_con (zPT_s c _ _ _) rfl ?_
        refine g_aload0 C dX4_next_48 ?_
        refine g_getIE C (zPT_2 c _ _) dX4_next_49 flX4_28 (show 1 < 68 by decide) rfl rfl ?_
        refine g_aload0 C dX4_next_52 ?_
        refine g_getIE C (hT.pt _ _).1 dX4_next_53 flX4_15 (show 1 < 68 by decide) rfl rfl ?_
        refine g_icmp_ltN C 61 (by have := hT.2.1; omega) (by have := hT.2.1; omega) dX4_next_56 (by decide) (fun h56 => ?_) (fun h56 => ?_)
        · -- X4_next 56t
          
          refine g_aload0 C dX4_next_61 ?_
          refine g_getRT C dX4_next_62 flX4_9 (show 1 < 68 by decide) rfl rfl (by decide) ?_
          refine g_aload0 C dX4_next_65 ?_
          refine g_getIE C (zPT_2 c _ _) dX4_next_66 flX4_28 (show 1 < 68 by decide) rfl rfl ?_
          refine g_callS2i C dX4_next_69 slX4_76 (s_at (show 2 < 68 by decide) rfl (by have := hT.2.1; omega) (by decide) ((hT.pt _ _).2.2.1 _ h56)) hKd (by first | decide | omega) rfl (Nat.le_of_ble_eq_true rfl) ?_
          rintro _ _ ⟨rfl, rfl⟩
          refine g_istore1 C dX4_next_72 ?_
          refine g_iload1 C dX4_next_73 ?_
          refine g_callS1i C dX4_next_74 slX4_80 (s_isDigit (by have := hT.2.2.2 _ h56; omega)) hKd (by first | decide | omega) rfl (Nat.le_of_ble_eq_true rfl) ?_
          rintro _ _ ⟨rfl, rfl⟩
          refine g_if_eqB C 85 dX4_next_77 (by decide) (fun h77 => ?_) (fun h77 => ?_)
          · -- X4_next 77t
            replace h77 := of_decide_eq_false h77
            refine g_aload0 C dX4_next_85 ?_
            refine g_dup C dX4_next_86 rfl ?_
            refine g_getIE C (zPT_2 c _ _) dX4_next_87 flX4_28 (show 1 < 68 by decide) rfl rfl ?_
            refine g_iconst C (nI 1) dX4_next_90 (by decide) ?_
            refine g_iaddN C dX4_next_91 ?_
            refine g_putI C dX4_next_92 fpX4_28 (show 1 < 68 by decide) rfl rfl rfl rfl ?_
            refine g_con (zPT_p c _ _ _) rfl ?_
            refine g_iload1 C dX4_next_95 ?_
            refine g_bipush C (nI 115) dX4_next_96 (by decide) ?_
            refine g_icmp_eqN C 119 (by have := hT.2.2.2 _ h56; omega) (by decide) dX4_next_98 (by decide) (fun h98 => ?_) (fun h98 => ?_)
            · -- X4_next 98t
              have hx : zLet (f p) = true := decide_eq_true (by omega)
              have htk : zTok f len p0 = (p, p + 1, 128 + f p) := by
                have e : ∀ b, zLet (f p) = b → (if zLet (f p) = true then 128 + f p else 1001) = if b = true then 128 + f p else 1001 := fun b h => by rw [h]
                unfold zTok
                rw [he, if_neg (by omega), if_neg h77, e _ hx]
                rfl
              refine g_iconst C (nI 1) dX4_next_119 (by decide) ?_
              refine g_goto C 124 dX4_next_120 (by decide) ?_
              refine g_istore2 C dX4_next_124 ?_
              refine g_iload2 C dX4_next_125 ?_
              refine g_if_eqN C 137 (by omega) dX4_next_126 (by decide) (fun h126 => absurd h126 (by decide)) (fun h126 => ?_)
              refine g_sipush C (nI 128) dX4_next_129 (by decide) ?_
              refine g_iload1 C dX4_next_132 ?_
              refine g_iaddN C dX4_next_133 ?_
              refine g_goto C 139 dX4_next_134 (by decide) ?_
              exact g_reti M dX4_next_139 (⟨by rw [htk]; first | rfl | exact (zTkI_lt (show 128 + f p < 1000 by omega)).symm, by rw [htk]⟩)
            · -- X4_next 98f
              refine g_iload1 C dX4_next_101 ?_
              refine g_bipush C (nI 100) dX4_next_102 (by decide) ?_
              refine g_icmp_eqN C 119 (by have := hT.2.2.2 _ h56; omega) (by decide) dX4_next_104 (by decide) (fun h104 => ?_) (fun h104 => ?_)
              · -- X4_next 104t
                have hx : zLet (f p) = true := decide_eq_true (by omega)
                have htk : zTok f len p0 = (p, p + 1, 128 + f p) := by
                  have e : ∀ b, zLet (f p) = b → (if zLet (f p) = true then 128 + f p else 1001) = if b = true then 128 + f p else 1001 := fun b h => by rw [h]
                  unfold zTok
                  rw [he, if_neg (by omega), if_neg h77, e _ hx]
                  rfl
                refine g_iconst C (nI 1) dX4_next_119 (by decide) ?_
                refine g_goto C 124 dX4_next_120 (by decide) ?_
                refine g_istore2 C dX4_next_124 ?_
                refine g_iload2 C dX4_next_125 ?_
                refine g_if_eqN C 137 (by omega) dX4_next_126 (by decide) (fun h126 => absurd h126 (by decide)) (fun h126 => ?_)
                refine g_sipush C (nI 128) dX4_next_129 (by decide) ?_
                refine g_iload1 C dX4_next_132 ?_
                refine g_iaddN C dX4_next_133 ?_
                refine g_goto C 139 dX4_next_134 (by decide) ?_
                exact g_reti M dX4_next_139 (⟨by rw [htk]; first | rfl | exact (zTkI_lt (show 128 + f p < 1000 by omega)).symm, by rw [htk]⟩)
              · -- X4_next 104f
                refine g_iload1 C dX4_next_107 ?_
                refine g_bipush C (nI 110) dX4_next_108 (by decide) ?_
                refine g_icmp_eqN C 119 (by have := hT.2.2.2 _ h56; omega) (by decide) dX4_next_110 (by decide) (fun h110 => ?_) (fun h110 => ?_)
                · -- X4_next 110t
                  have hx : zLet (f p) = true := decide_eq_true (by omega)
                  have htk : zTok f len p0 = (p, p + 1, 128 + f p) := by
                    have e : ∀ b, zLet (f p) = b → (if zLet (f p) = true then 128 + f p else 1001) = if b = true then 128 + f p else 1001 := fun b h => by rw [h]
                    unfold zTok
                    rw [he, if_neg (by omega), if_neg h77, e _ hx]
                    rfl
                  refine g_iconst C (nI 1) dX4_next_119 (by decide) ?_
                  refine g_goto C 124 dX4_next_120 (by decide) ?_
                  refine g_istore2 C dX4_next_124 ?_
                  refine g_iload2 C dX4_next_125 ?_
                  refine g_if_eqN C 137 (by omega) dX4_next_126 (by decide) (fun h126 => absurd h126 (by decide)) (fun h126 => ?_)
                  refine g_sipush C (nI 128) dX4_next_129 (by decide) ?_
                  refine g_iload1 C dX4_next_132 ?_
                  refine g_iaddN C dX4_next_133 ?_
                  refine g_goto C 139 dX4_next_134 (by decide) ?_
                  exact g_reti M dX4_next_139 (⟨by rw [htk]; first | rfl | exact (zTkI_lt (show 128 + f p < 1000 by omega)).symm, by rw [htk]⟩)
                · -- X4_next 110f
                  refine g_iload1 C dX4_next_113 ?_
                  refine g_bipush C (nI 59) dX4_next_114 (by decide) ?_
                  refine g_icmp_neN C 123 (by have := hT.2.2.2 _ h56; omega) (by decide) dX4_next_116 (by decide) (fun h116 => ?_) (fun h116 => ?_)
                  · -- X4_next 116t
                    have hx : zLet (f p) = false := decide_eq_false (by omega)
                    have htk : zTok f len p0 = (p, p + 1, 1001) := by
                      have e : ∀ b, zLet (f p) = b → (if zLet (f p) = true then 128 + f p else 1001) = if b = true then 128 + f p else 1001 := fun b h => by rw [h]
                      unfold zTok
                      rw [he, if_neg (by omega), if_neg h77, e _ hx]
                      rfl
                    refine g_iconst C (nI 0) dX4_next_123 (by decide) ?_
                    refine g_istore2 C dX4_next_124 ?_
                    refine g_iload2 C dX4_next_125 ?_
                    refine g_if_eqN C 137 (by omega) dX4_next_126 (by decide) (fun h126 => ?_) (fun h126 => absurd h126 (by decide))
                    refine g_bipush C (-2) dX4_next_137 (by decide) ?_
                    exact g_reti M dX4_next_139 (⟨by rw [htk]; first | rfl | exact (zTkI_lt (show 128 + f p < 1000 by omega)).symm, by rw [htk]⟩)
                  · -- X4_next 116f
                    have hx : zLet (f p) = true := decide_eq_true (by omega)
                    have htk : zTok f len p0 = (p, p + 1, 128 + f p) := by
                      have e : ∀ b, zLet (f p) = b → (if zLet (f p) = true then 128 + f p else 1001) = if b = true then 128 + f p else 1001 := fun b h => by rw [h]
                      unfold zTok
                      rw [he, if_neg (by omega), if_neg h77, e _ hx]
                      rfl
                    refine g_iconst C (nI 1) dX4_next_119 (by decide) ?_
                    refine g_goto C 124 dX4_next_120 (by decide) ?_
                    refine g_istore2 C dX4_next_124 ?_
                    refine g_iload2 C dX4_next_125 ?_
                    refine g_if_eqN C 137 (by omega) dX4_next_126 (by decide) (fun h126 => absurd h126 (by decide)) (fun h126 => ?_)
                    refine g_sipush C (nI 128) dX4_next_129 (by decide) ?_
                    refine g_iload1 C dX4_next_132 ?_
                    refine g_iaddN C dX4_next_133 ?_
                    refine g_goto C 139 dX4_next_134 (by decide) ?_
                    exact g_reti M dX4_next_139 (⟨by rw [htk]; first | rfl | exact (zTkI_lt (show 128 + f p < 1000 by omega)).symm, by rw [htk]⟩)
          · -- X4_next 77f
            replace h77 := of_decide_eq_true h77
            have htk : zTok f len p0 = (p, zEd f len p, zNv f len p) := by unfold zTok; rw [he, if_neg (by omega), if_pos h77]
            refine g_aload0 C dX4_next_80 ?_
            refine g_callV0i C dX4_next_81 vlX4_84 (s_nextNumber hT (by omega)) hKd (by first | decide | omega) rfl (Nat.le_of_ble_eq_true rfl) (show 1 < 68 by decide) rfl ?_
            rintro _ _ ⟨rfl, rfl⟩
            exact g_reti M dX4_next_84 (⟨by rw [htk], by rw [htk]⟩)
        · -- X4_next 56f
          have htk : zTok f len p0 = (p, p, 1000) := by unfold zTok; rw [he, if_pos (by omega)]
          refine g_iconst C (-1) dX4_next_59 (by decide) ?_
          exact g_reti M dX4_next_60 (⟨by rw [htk]; rfl, by rw [htk]⟩)
      · -- X4_next 8f
        
        refine g_aload0 C dX4_next_11 ?_
        refine g_getRT C dX4_next_12 flX4_9 (show 1 < 68 by decide) rfl rfl (by decide) ?_
        refine g_aload0 C dX4_next_15 ?_
        refine g_getIE C (zPT_2 c _ _) dX4_next_16 flX4_28 (show 1 < 68 by decide) rfl rfl ?_
        refine g_callS2i C dX4_next_19 slX4_76 (s_at (show 2 < 68 by decide) rfl (by have := hT.2.1; omega) (by decide) ((hT.pt _ _).2.2.1 _ h8)) hKd (by first | decide | omega) rfl (Nat.le_of_ble_eq_true rfl) ?_
        rintro _ _ ⟨rfl, rfl⟩
        refine g_bipush C (nI 32) dX4_next_22 (by decide) ?_
        refine g_icmp_neN C 40 (by have := hT.2.2.2 _ h8; omega) (by decide) dX4_next_24 (by decide) (fun h24 => ?_) (fun h24 => ?_)
        · -- X4_next 24t
          replace he : zSt f len p0 = p := he.trans (zSt_stop (fun h => h24 h.2))
          refine g_aload0 C dX4_next_40 ?_
          refine g_aload0 C dX4_next_41 ?_
          refine g_getIE C (zPT_2 c _ _) dX4_next_42 flX4_28 (show 1 < 68 by decide) rfl rfl ?_
          refine g_putI C dX4_next_45 fpX4_52 (show 1 < 68 by decide) rfl rfl rfl rfl ?_
          refine g_con (zPT_s c _ _ _) rfl ?_
          refine g_aload0 C dX4_next_48 ?_
          refine g_getIE C (zPT_2 c _ _) dX4_next_49 flX4_28 (show 1 < 68 by decide) rfl rfl ?_
          refine g_aload0 C dX4_next_52 ?_
          refine g_getIE C (hT.pt _ _).1 dX4_next_53 flX4_15 (show 1 < 68 by decide) rfl rfl ?_
          refine g_icmp_ltN C 61 (by have := hT.2.1; omega) (by have := hT.2.1; omega) dX4_next_56 (by decide) (fun h56 => ?_) (fun h56 => ?_)
          · -- X4_next 56t
            
            refine g_aload0 C dX4_next_61 ?_
            refine g_getRT C dX4_next_62 flX4_9 (show 1 < 68 by decide) rfl rfl (by decide) ?_
            refine g_aload0 C dX4_next_65 ?_
            refine g_getIE C (zPT_2 c _ _) dX4_next_66 flX4_28 (show 1 < 68 by decide) rfl rfl ?_
            refine g_callS2i C dX4_next_69 slX4_76 (s_at (show 2 < 68 by decide) rfl (by have := hT.2.1; omega) (by decide) ((hT.pt _ _).2.2.1 _ h56)) hKd (by first | decide | omega) rfl (Nat.le_of_ble_eq_true rfl) ?_
            rintro _ _ ⟨rfl, rfl⟩
            refine g_istore1 C dX4_next_72 ?_
            refine g_iload1 C dX4_next_73 ?_
            refine g_callS1i C dX4_next_74 slX4_80 (s_isDigit (by have := hT.2.2.2 _ h56; omega)) hKd (by first | decide | omega) rfl (Nat.le_of_ble_eq_true rfl) ?_
            rintro _ _ ⟨rfl, rfl⟩
            refine g_if_eqB C 85 dX4_next_77 (by decide) (fun h77 => ?_) (fun h77 => ?_)
            · -- X4_next 77t
              replace h77 := of_decide_eq_false h77
              refine g_aload0 C dX4_next_85 ?_
              refine g_dup C dX4_next_86 rfl ?_
              refine g_getIE C (zPT_2 c _ _) dX4_next_87 flX4_28 (show 1 < 68 by decide) rfl rfl ?_
              refine g_iconst C (nI 1) dX4_next_90 (by decide) ?_
              refine g_iaddN C dX4_next_91 ?_
              refine g_putI C dX4_next_92 fpX4_28 (show 1 < 68 by decide) rfl rfl rfl rfl ?_
              refine g_con (zPT_p c _ _ _) rfl ?_
              refine g_iload1 C dX4_next_95 ?_
              refine g_bipush C (nI 115) dX4_next_96 (by decide) ?_
              refine g_icmp_eqN C 119 (by have := hT.2.2.2 _ h56; omega) (by decide) dX4_next_98 (by decide) (fun h98 => ?_) (fun h98 => ?_)
              · -- X4_next 98t
                have hx : zLet (f p) = true := decide_eq_true (by omega)
                have htk : zTok f len p0 = (p, p + 1, 128 + f p) := by
                  have e : ∀ b, zLet (f p) = b → (if zLet (f p) = true then 128 + f p else 1001) = if b = true then 128 + f p else 1001 := fun b h => by rw [h]
                  unfold zTok
                  rw [he, if_neg (by omega), if_neg h77, e _ hx]
                  rfl
                refine g_iconst C (nI 1) dX4_next_119 (by decide) ?_
                refine g_goto C 124 dX4_next_120 (by decide) ?_
                refine g_istore2 C dX4_next_124 ?_
                refine g_iload2 C dX4_next_125 ?_
                refine g_if_eqN C 137 (by omega) dX4_next_126 (by decide) (fun h126 => absurd h126 (by decide)) (fun h126 => ?_)
                refine g_sipush C (nI 128) dX4_next_129 (by decide) ?_
                refine g_iload1 C dX4_next_132 ?_
                refine g_iaddN C dX4_next_133 ?_
                refine g_goto C 139 dX4_next_134 (by decide) ?_
                exact g_reti M dX4_next_139 (⟨by rw [htk]; first | rfl | exact (zTkI_lt (show 128 + f p < 1000 by omega)).symm, by rw [htk]⟩)
              · -- X4_next 98f
                refine g_iload1 C dX4_next_101 ?_
                refine g_bipush C (nI 100) dX4_next_102 (by decide) ?_
                refine g_icmp_eqN C 119 (by have := hT.2.2.2 _ h56; omega) (by decide) dX4_next_104 (by decide) (fun h104 => ?_) (fun h104 => ?_)
                · -- X4_next 104t
                  have hx : zLet (f p) = true := decide_eq_true (by omega)
                  have htk : zTok f len p0 = (p, p + 1, 128 + f p) := by
                    have e : ∀ b, zLet (f p) = b → (if zLet (f p) = true then 128 + f p else 1001) = if b = true then 128 + f p else 1001 := fun b h => by rw [h]
                    unfold zTok
                    rw [he, if_neg (by omega), if_neg h77, e _ hx]
                    rfl
                  refine g_iconst C (nI 1) dX4_next_119 (by decide) ?_
                  refine g_goto C 124 dX4_next_120 (by decide) ?_
                  refine g_istore2 C dX4_next_124 ?_
                  refine g_iload2 C dX4_next_125 ?_
                  refine g_if_eqN C 137 (by omega) dX4_next_126 (by decide) (fun h126 => absurd h126 (by decide)) (fun h126 => ?_)
                  refine g_sipush C (nI 128) dX4_next_129 (by decide) ?_
                  refine g_iload1 C dX4_next_132 ?_
                  refine g_iaddN C dX4_next_133 ?_
                  refine g_goto C 139 dX4_next_134 (by decide) ?_
                  exact g_reti M dX4_next_139 (⟨by rw [htk]; first | rfl | exact (zTkI_lt (show 128 + f p < 1000 by omega)).symm, by rw [htk]⟩)
                · -- X4_next 104f
                  refine g_iload1 C dX4_next_107 ?_
                  refine g_bipush C (nI 110) dX4_next_108 (by decide) ?_
                  refine g_icmp_eqN C 119 (by have := hT.2.2.2 _ h56; omega) (by decide) dX4_next_110 (by decide) (fun h110 => ?_) (fun h110 => ?_)
                  · -- X4_next 110t
                    have hx : zLet (f p) = true := decide_eq_true (by omega)
                    have htk : zTok f len p0 = (p, p + 1, 128 + f p) := by
                      have e : ∀ b, zLet (f p) = b → (if zLet (f p) = true then 128 + f p else 1001) = if b = true then 128 + f p else 1001 := fun b h => by rw [h]
                      unfold zTok
                      rw [he, if_neg (by omega), if_neg h77, e _ hx]
                      rfl
                    refine g_iconst C (nI 1) dX4_next_119 (by decide) ?_
                    refine g_goto C 124 dX4_next_120 (by decide) ?_
                    refine g_istore2 C dX4_next_124 ?_
                    refine g_iload2 C dX4_next_125 ?_
                    refine g_if_eqN C 137 (by omega) dX4_next_126 (by decide) (fun h126 => absurd h126 (by decide)) (fun h126 => ?_)
                    refine g_sipush C (nI 128) dX4_next_129 (by decide) ?_
                    refine g_iload1 C dX4_next_132 ?_
                    refine g_iaddN C dX4_next_133 ?_
                    refine g_goto C 139 dX4_next_134 (by decide) ?_
                    exact g_reti M dX4_next_139 (⟨by rw [htk]; first | rfl | exact (zTkI_lt (show 128 + f p < 1000 by omega)).symm, by rw [htk]⟩)
                  · -- X4_next 110f
                    refine g_iload1 C dX4_next_113 ?_
                    refine g_bipush C (nI 59) dX4_next_114 (by decide) ?_
                    refine g_icmp_neN C 123 (by have := hT.2.2.2 _ h56; omega) (by decide) dX4_next_116 (by decide) (fun h116 => ?_) (fun h116 => ?_)
                    · -- X4_next 116t
                      have hx : zLet (f p) = false := decide_eq_false (by omega)
                      have htk : zTok f len p0 = (p, p + 1, 1001) := by
                        have e : ∀ b, zLet (f p) = b → (if zLet (f p) = true then 128 + f p else 1001) = if b = true then 128 + f p else 1001 := fun b h => by rw [h]
                        unfold zTok
                        rw [he, if_neg (by omega), if_neg h77, e _ hx]
                        rfl
                      refine g_iconst C (nI 0) dX4_next_123 (by decide) ?_
                      refine g_istore2 C dX4_next_124 ?_
                      refine g_iload2 C dX4_next_125 ?_
                      refine g_if_eqN C 137 (by omega) dX4_next_126 (by decide) (fun h126 => ?_) (fun h126 => absurd h126 (by decide))
                      refine g_bipush C (-2) dX4_next_137 (by decide) ?_
                      exact g_reti M dX4_next_139 (⟨by rw [htk]; first | rfl | exact (zTkI_lt (show 128 + f p < 1000 by omega)).symm, by rw [htk]⟩)
                    · -- X4_next 116f
                      have hx : zLet (f p) = true := decide_eq_true (by omega)
                      have htk : zTok f len p0 = (p, p + 1, 128 + f p) := by
                        have e : ∀ b, zLet (f p) = b → (if zLet (f p) = true then 128 + f p else 1001) = if b = true then 128 + f p else 1001 := fun b h => by rw [h]
                        unfold zTok
                        rw [he, if_neg (by omega), if_neg h77, e _ hx]
                        rfl
                      refine g_iconst C (nI 1) dX4_next_119 (by decide) ?_
                      refine g_goto C 124 dX4_next_120 (by decide) ?_
                      refine g_istore2 C dX4_next_124 ?_
                      refine g_iload2 C dX4_next_125 ?_
                      refine g_if_eqN C 137 (by omega) dX4_next_126 (by decide) (fun h126 => absurd h126 (by decide)) (fun h126 => ?_)
                      refine g_sipush C (nI 128) dX4_next_129 (by decide) ?_
                      refine g_iload1 C dX4_next_132 ?_
                      refine g_iaddN C dX4_next_133 ?_
                      refine g_goto C 139 dX4_next_134 (by decide) ?_
                      exact g_reti M dX4_next_139 (⟨by rw [htk]; first | rfl | exact (zTkI_lt (show 128 + f p < 1000 by omega)).symm, by rw [htk]⟩)
            · -- X4_next 77f
              replace h77 := of_decide_eq_true h77
              have htk : zTok f len p0 = (p, zEd f len p, zNv f len p) := by unfold zTok; rw [he, if_neg (by omega), if_pos h77]
              refine g_aload0 C dX4_next_80 ?_
              refine g_callV0i C dX4_next_81 vlX4_84 (s_nextNumber hT (by omega)) hKd (by first | decide | omega) rfl (Nat.le_of_ble_eq_true rfl) (show 1 < 68 by decide) rfl ?_
              rintro _ _ ⟨rfl, rfl⟩
              exact g_reti M dX4_next_84 (⟨by rw [htk], by rw [htk]⟩)
          · -- X4_next 56f
            have htk : zTok f len p0 = (p, p, 1000) := by unfold zTok; rw [he, if_pos (by omega)]
            refine g_iconst C (-1) dX4_next_59 (by decide) ?_
            exact g_reti M dX4_next_60 (⟨by rw [htk]; rfl, by rw [htk]⟩)
        · -- X4_next 24f
          
          refine g_aload0 C dX4_next_27 ?_
          refine g_dup C dX4_next_28 rfl ?_
          refine g_getIE C (zPT_2 c _ _) dX4_next_29 flX4_28 (show 1 < 68 by decide) rfl rfl ?_
          refine g_iconst C (nI 1) dX4_next_32 (by decide) ?_
          refine g_iaddN C dX4_next_33 ?_
          refine g_putI C dX4_next_34 fpX4_28 (show 1 < 68 by decide) rfl rfl rfl rfl ?_
          refine g_con (zPT_p c _ _ _) rfl ?_
          refine g_goto C 0 dX4_next_37 (by decide) ?_
          exact ih (p + 1) (by omega) (by rw [zSt_step h8 h24]; exact he) (by omega)
  exact H0 (len + 1) p0 hp0 rfl (by omega)
