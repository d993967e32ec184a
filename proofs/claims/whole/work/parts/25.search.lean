/-! the search for all orders -/
set_option maxRecDepth 100000 in
set_option maxHeartbeats 4000000 in
theorem s_placeOf {Γ : zG} {w0 : zW} {o s : Nat} (ho : o < 2 ^ 31) (hs : s < 7) : Sp Γ 0 mX2_placeOf [.int (nI o), .int (nI s)] 0 0 (w0) (z_pi (fun v w => w = w0 ∧ v = nI ((o >>> (3 * s)) &&& 7))) := by
  refine Sp.of (own := RX2) 0 false rfl (by decide +kernel) rfl rfl (fun h => by cases h) (fun K hKd M => ?_)
  have C := M.1
  show GG Γ K 0 0 (w0) 0 [some (.int (nI o)), some (.int (nI s))] []
  refine g_iload0 C dX2_placeOf_0 ?_
  refine g_iconst C (nI 3) dX2_placeOf_1 (by decide) ?_
  refine g_iload1 C dX2_placeOf_2 ?_
  refine g_imulN C dX2_placeOf_3 ?_
  refine g_iushrN C dX2_placeOf_4 (by omega) (by omega) ?_
  refine g_bipush C (nI 7) dX2_placeOf_5 (by decide) ?_
  refine g_iandN C dX2_placeOf_7 ?_
  exact g_reti M dX2_placeOf_8 (⟨rfl, rfl⟩)
set_option maxRecDepth 100000 in
set_option maxHeartbeats 4000000 in
theorem s_firstOf {Γ : zG} {w0 : zW} {o : Nat} (ho : o < 2 ^ 31) : Sp Γ 0 mX2_firstOf [.int (nI o)] 0 0 (w0) (z_pi (fun v w => w = w0 ∧ v = nI (o >>> 21))) := by
  refine Sp.of (own := RX2) 0 false rfl (by decide +kernel) rfl rfl (fun h => by cases h) (fun K hKd M => ?_)
  have C := M.1
  show GG Γ K 0 0 (w0) 0 [some (.int (nI o))] []
  refine g_iload0 C dX2_firstOf_0 ?_
  refine g_bipush C (nI 21) dX2_firstOf_1 (by decide) ?_
  refine g_iushrN C dX2_firstOf_3 (by omega) (by omega) ?_
  exact g_reti M dX2_firstOf_4 (⟨rfl, rfl⟩)
set_option maxRecDepth 100000 in
set_option maxHeartbeats 4000000 in
theorem s_add {Γ : zG} {c : Nat → Nat → Int32} {t : Nat → Int64} {l : List Nat} {v : Nat} (h : OrC c l) (hl : l.length < 5040) : Sp Γ 1 mX2_add [.ref 52, .int (nI v)] 0 0 (wF c t) (z_pv (fun w => w = wF (z_up (z_up c 53 l.length (nI v)) 52 3 (nI (l.length + 1))) t)) := by
  refine Sp.of (own := RX2) 0 false rfl (by decide +kernel) rfl rfl (fun h => by cases h) (fun K hKd M => ?_)
  have C := M.1
  show GG Γ K 0 0 (wF c t) 0 [some (.ref 52), some (.int (nI v))] []
  refine g_aload0 C dX2_add_0 ?_
  refine g_getIE C h.1 dX2_add_1 flX2_21 (show 52 < 68 by decide) rfl rfl ?_
  refine g_sipush C (nI 5040) dX2_add_4 (by decide) ?_
  refine g_icmp_geN C 32 (by omega) (by omega) dX2_add_7 (by decide) (fun h7 => absurd h7 (by omega)) (fun h7 => ?_)
  refine g_aload0 C dX2_add_10 ?_
  refine g_getRT C dX2_add_11 flX2_11 (show 52 < 68 by decide) rfl rfl (by decide) ?_
  refine g_aload0 C dX2_add_14 ?_
  refine g_getIE C h.1 dX2_add_15 flX2_21 (show 52 < 68 by decide) rfl rfl ?_
  refine g_iload1 C dX2_add_18 ?_
  refine g_callS3v C dX2_add_19 slX2_42 (s_put (show 53 < 68 by decide) rfl hl (by decide)) hKd (by first | decide | omega) rfl (Nat.le_of_ble_eq_true rfl) ?_
  rintro _ rfl
  refine g_aload0 C dX2_add_22 ?_
  refine g_dup C dX2_add_23 rfl ?_
  refine g_getIE C ((up_k (by decide) _).trans h.1) dX2_add_24 flX2_21 (show 52 < 68 by decide) rfl rfl ?_
  refine g_iconst C (nI 1) dX2_add_27 (by decide) ?_
  refine g_iaddN C dX2_add_28 ?_
  refine g_putI C dX2_add_29 fpX2_21 (show 52 < 68 by decide) rfl rfl rfl rfl ?_
  exact g_retv M dX2_add_32 (rfl)
set_option maxRecDepth 100000 in
set_option maxHeartbeats 4000000 in
theorem s_extend {Γ : zG} {t : Nat → Int64} {A : zCr} (ok : OkA A) {ik : Nat → Nat} {T H : Nat} (hT : T < 128) (hTn : ∀ s, s < 7 → T.testBit s = true → s < cN A) (hH : H ≤ 99) (hik : ∀ s, s < 7 → T.testBit s = true → ik s ≤ 4) : ∀ (f : Nat) (c : Nat → Nat → Int32) (l : List Nat) (d m h o : Nat), d + f = 7 → SeC A ik T H c → OrC c l → m < 128 → h ≤ 100 → (l ++ (zOx A ik T H f d m h).map (zEn d o)).length ≤ 5040 → Sp Γ (3 + f) mX2_extend [.ref 52, .ref 3, .int (nI d), .int (nI m), .int (nI h), .int (nI o)] 0 0 (wF c t) (z_pv (fun w => ∃ c', w = wF c' t ∧ OrC c' (l ++ (zOx A ik T H f d m h).map (zEn d o)) ∧ OrK c c')) := by
  intro f
  induction f with
  | zero =>
    intro c l d m h o hd hS hO hm hh hlen
    refine Sp.of (own := RX2) 4 false rfl (by decide +kernel) rfl rfl (fun h => by cases h) (fun K hKd M => ?_)
    have C := M.1
    show GG Γ K 0 0 (wF c t) 0 [some (.ref 52), some (.ref 3), some (.int (nI d)), some (.int (nI m)), some (.int (nI h)), some (.int (nI o)), none, none, none, none] []
    refine g_iload3 C dX2_extend_0 ?_
    refine g_aload0 C dX2_extend_1 ?_
    refine g_getIE C hS.2.1 dX2_extend_2 flX2_25 (show 52 < 68 by decide) rfl rfl ?_
    refine g_icmp_neN C 15 (by omega) (by omega) dX2_extend_5 (by decide) (fun h5 => ?_) (fun h5 => ?_)
    · -- X2_extend 5t
      have hx : (zOx A ik T H 0 d m h).map (zEn d o) = [] := by show (if m = T then _ else _ : List (List Nat)).map _ = _; rw [if_neg h5]; rfl
      refine g_iload2 C dX2_extend_15 ?_
      refine g_bipush C (nI 7) dX2_extend_16 (by decide) ?_
      refine g_icmp_ltN C 22 (by omega) (by omega) dX2_extend_18 (by decide) (fun h18 => absurd h18 (by omega)) (fun h18 => ?_)
      exact g_retv M dX2_extend_21 (⟨_, rfl, by rw [hx, List.append_nil]; exact hO, OrK.rf c⟩)
    · -- X2_extend 5f
      have hx : (zOx A ik T H 0 d m h).map (zEn d o) = [o] := by show (if m = T then _ else _ : List (List Nat)).map _ = _; rw [if_pos h5]; rfl
      refine g_aload0 C dX2_extend_8 ?_
      refine g_iload5 C dX2_extend_9 ?_
      refine g_callV1v C dX2_extend_11 vlX2_51 (s_add hO (by rw [hx, List.length_append] at hlen; simp at hlen; omega)) hKd (by first | decide | omega) rfl (Nat.le_of_ble_eq_true rfl) (show 52 < 68 by decide) rfl ?_
      rintro _ rfl
      exact g_retv M dX2_extend_14 (⟨_, rfl, by rw [hx]; exact hO.push, OrK.push c _ _ _⟩)
  | succ f ihf =>
    intro c l d m h o hd hS hO hm hh hlen
    refine Sp.of (own := RX2) 4 false rfl (by decide +kernel) rfl rfl (fun h => by cases h) (fun K hKd M => ?_)
    have C := M.1
    show GG Γ K 0 0 (wF c t) 0 [some (.ref 52), some (.ref 3), some (.int (nI d)), some (.int (nI m)), some (.int (nI h)), some (.int (nI o)), none, none, none, none] []
    have H32 : ∀ (n : Nat) (c' : Nat → Nat → Int32) (s : Nat) (x y : Option Value), m ≠ T → s ≤ 7 → OrC c' (l ++ (zOs A ik T H f d m h s).map (zEn d o)) → OrK c c' → 7 - s < n → GG Γ K 0 0 (wF c' t) 32 [some (.ref 52), some (.ref 3), some (.int (nI d)), some (.int (nI m)), some (.int (nI h)), some (.int (nI o)), some (.int (nI (zInk A d))), some (.int (nI s)), x, y] [] := by
      intro n
      induction n with
      | zero => intro c' s x y hne hs hO' hK' hn; exact absurd hn (by omega)
      | succ n ih =>
        intro c' s x y hne hs hO' hK' hn
        have hS' := hS.k hK'
        have hx := zOx_s A ik T H f d m h hne
        refine g_iload7 C dX2_extend_32 ?_
        refine g_bipush C (nI 7) dX2_extend_34 (by decide) ?_
        refine g_icmp_geN C 159 (by omega) (by omega) dX2_extend_36 (by decide) (fun h36 => ?_) (fun h36 => ?_)
        · -- X2_extend 36t
          obtain rfl : s = 7 := by omega
          exact g_retv M dX2_extend_159 (⟨c', rfl, by rw [hx]; exact hO', hK'⟩)
        · -- X2_extend 36f
          refine g_aload0 C dX2_extend_39 ?_
          refine g_getIE C hS'.2.1 dX2_extend_40 flX2_25 (show 52 < 68 by decide) rfl rfl ?_
          refine g_iload3 C dX2_extend_43 ?_
          refine g_iconst C (nI 4294967295) dX2_extend_44 (by decide) ?_
          refine g_ixorN C dX2_extend_45 ?_
          refine g_iandN C dX2_extend_46 ?_
          refine g_iload7 C dX2_extend_47 ?_
          refine g_callS2i C dX2_extend_49 slX2_61 (s_has (zand_l (by omega)) (by omega)) hKd (by first | decide | omega) rfl (Nat.le_of_ble_eq_true rfl) ?_
          rintro _ _ ⟨rfl, rfl⟩
          refine g_if_eqB C 153 dX2_extend_52 (by decide) (fun h52 => ?_) (fun h52 => ?_)
          · -- X2_extend 52t
            --
            refine g_iinc7N C dX2_extend_153 ?_
            refine g_goto C 32 dX2_extend_156 (by decide) ?_
            exact ih c' (s + 1) _ _ hne (by omega) (by rw [zOs_s, if_neg (by unfold zOk; rw [h52]; simp), List.append_nil]; exact hO') hK' (by omega)
          · -- X2_extend 52f
            have hb := h52
            rw [zan_bit T m (by omega)] at hb
            have hTs : T.testBit s = true := by revert hb; cases T.testBit s <;> simp
            have hsn := hTn s h36 hTs
            refine g_aload0 C dX2_extend_55 ?_
            refine g_getRT C dX2_extend_56 flX2_18 (show 52 < 68 by decide) rfl rfl (by decide) ?_
            refine g_iload7 C dX2_extend_59 ?_
            refine g_callS2i C dX2_extend_61 slX2_37 (s_at (show 55 < 68 by decide) rfl h36 (by decide) (hS'.2.2.2 s h36 hTs)) hKd (by first | decide | omega) rfl (Nat.le_of_ble_eq_true rfl) ?_
            rintro _ _ ⟨rfl, rfl⟩
            refine g_iload6 C dX2_extend_64 ?_
            refine g_icmp_ne C 153 dX2_extend_66 (by decide) (fun h66 => ?_) (fun h66 => ?_)
            · -- X2_extend 66t
              --
              refine g_iinc7N C dX2_extend_153 ?_
              refine g_goto C 32 dX2_extend_156 (by decide) ?_
              exact ih c' (s + 1) _ _ hne (by omega) (by rw [zOs_s, if_neg (by unfold zOk; rw [decide_eq_false (fun e => h66 (by rw [e]))]; simp), List.append_nil]; exact hO') hK' (by omega)
            · -- X2_extend 66f
              have hi := (nI_eq (by have := hik s h36 hTs; omega) (by have := ok.2.2.2.2.1; unfold zInk; omega)).mp h66
              refine g_aload1 C dX2_extend_69 ?_
              refine g_iload7 C dX2_extend_70 ?_
              refine g_iload3 C dX2_extend_72 ?_
              refine g_callV2i C dX2_extend_73 vlX2_65 (s_dares ok hS'.1 hsn hm) hKd (by first | decide | omega) rfl (Nat.le_of_ble_eq_true rfl) (show 3 < 68 by decide) rfl ?_
              rintro _ _ ⟨rfl, rfl⟩
              refine g_if_eqB C 153 dX2_extend_76 (by decide) (fun h76 => ?_) (fun h76 => ?_)
              · -- X2_extend 76t
                --
                refine g_iinc7N C dX2_extend_153 ?_
                refine g_goto C 32 dX2_extend_156 (by decide) ?_
                exact ih c' (s + 1) _ _ hne (by omega) (by rw [zOs_s, if_neg (by unfold zOk; rw [h76]; simp), List.append_nil]; exact hO') hK' (by omega)
              · -- X2_extend 76f
                
                refine g_aload1 C dX2_extend_79 ?_
                refine g_iload7 C dX2_extend_80 ?_
                refine g_iload4 C dX2_extend_82 ?_
                refine g_callV2i C dX2_extend_84 vlX2_68 (s_isOnDeck ok hS'.1 hsn (by omega)) hKd (by first | decide | omega) rfl (Nat.le_of_ble_eq_true rfl) (show 3 < 68 by decide) rfl ?_
                rintro _ _ ⟨rfl, rfl⟩
                refine g_if_eqB C 97 dX2_extend_87 (by decide) (fun h87 => ?_) (fun h87 => ?_)
                · -- X2_extend 87t
                  have hg : zSg A h s = h := by unfold zSg; rw [if_neg (by simpa using h87)]
                  refine g_iload4 C dX2_extend_97 ?_
                  refine g_istore8 C dX2_extend_99 ?_
                  refine g_iload2 C dX2_extend_101 ?_
                  refine g_if_neN C 113 (by omega) dX2_extend_102 (by decide) (fun h102 => ?_) (fun h102 => ?_)
                  · -- X2_extend 102t
                    have he : ∀ q, zEn d o (s :: q) = zEn (d + 1) (o ||| (d <<< (3 * s))) q := fun q => by rw [zEn, if_neg (by omega)]
                    refine g_iload5 C dX2_extend_113 ?_
                    refine g_iload2 C dX2_extend_115 ?_
                    refine g_iconst C (nI 3) dX2_extend_116 (by decide) ?_
                    refine g_iload7 C dX2_extend_117 ?_
                    refine g_imulN C dX2_extend_119 ?_
                    refine g_ishlN C dX2_extend_120 (by omega) ?_
                    refine g_iorN C dX2_extend_121 ?_
                    refine g_istore9 C dX2_extend_122 ?_
                    refine g_iload8 C dX2_extend_124 ?_
                    refine g_aload0 C dX2_extend_126 ?_
                    refine g_getIE C hS'.2.2.1 dX2_extend_127 flX2_33 (show 52 < 68 by decide) rfl rfl ?_
                    refine g_icmp_geN C 153 (by omega) (by omega) dX2_extend_130 (by decide) (fun h130 => ?_) (fun h130 => ?_)
                    · -- X2_extend 130t
                      --
                      refine g_iinc7N C dX2_extend_153 ?_
                      refine g_goto C 32 dX2_extend_156 (by decide) ?_
                      exact ih c' (s + 1) _ _ hne (by omega) (by rw [zOs_s, if_neg (by unfold zOk; rw [decide_eq_false (show ¬ zSg A h s < H by omega)]; simp), List.append_nil]; exact hO') hK' (by omega)
                    · -- X2_extend 130f
                      have hok : zOk A ik T H d m h s = true := by unfold zOk; rw [h52, decide_eq_true hi, h76, decide_eq_true (by omega)]; rfl
                      refine g_aload0 C dX2_extend_133 ?_
                      refine g_aload1 C dX2_extend_134 ?_
                      refine g_iload2 C dX2_extend_135 ?_
                      refine g_iconst C (nI 1) dX2_extend_136 (by decide) ?_
                      refine g_iaddN C dX2_extend_137 ?_
                      refine g_iload3 C dX2_extend_138 ?_
                      refine g_iconst C (nI 1) dX2_extend_139 (by decide) ?_
                      refine g_iload7 C dX2_extend_140 ?_
                      refine g_ishlN C dX2_extend_142 (by omega) ?_
                      refine g_iorN C dX2_extend_143 ?_
                      refine g_iload8 C dX2_extend_144 ?_
                      refine g_iconst C (nI 1) dX2_extend_146 (by decide) ?_
                      refine g_iaddN C dX2_extend_147 ?_
                      refine g_iload9 C dX2_extend_148 ?_
                      refine g_callS6v C dX2_extend_150 slX2_47 (ihf c' (l ++ (zOs A ik T H f d m h s).map (zEn d o)) (d + 1) (m ||| (1 <<< s)) _ _ (by omega) hS' hO' (zor_lt hm h36) (by omega) (by have e := hlen; rw [hx] at e; have e2 := zOs_mono A ik T H f d m h (s + 1) (6 - s); rw [show s + 1 + (6 - s) = 7 by omega, zOs_s, if_pos hok] at e2; simp only [List.length_append, List.length_map] at e e2 ⊢; rw [hg] at e2; omega)) hKd (by first | decide | omega) rfl (Nat.le_of_ble_eq_true rfl) ?_
                      rintro _ ⟨c2, rfl, hO2, hK2⟩
                      refine g_iinc7N C dX2_extend_153 ?_
                      refine g_goto C 32 dX2_extend_156 (by decide) ?_
                      exact ih c2 (s + 1) _ _ hne (by omega) (by rw [zOs_s, if_pos hok, List.map_append, ← List.append_assoc, hg, List.map_map]; rw [show zEn d o ∘ (fun q => s :: q) = zEn (d + 1) _ from funext fun q => he q]; exact hO2) (hK'.tr hK2) (by omega)
                  · -- X2_extend 102f
                    have he : ∀ q, zEn d o (s :: q) = zEn (d + 1) (s <<< 21) q := fun q => by rw [zEn, if_pos h102]
                    refine g_iload7 C dX2_extend_105 ?_
                    refine g_bipush C (nI 21) dX2_extend_107 (by decide) ?_
                    refine g_ishlN C dX2_extend_109 (by decide) ?_
                    refine g_goto C 122 dX2_extend_110 (by decide) ?_
                    refine g_istore9 C dX2_extend_122 ?_
                    refine g_iload8 C dX2_extend_124 ?_
                    refine g_aload0 C dX2_extend_126 ?_
                    refine g_getIE C hS'.2.2.1 dX2_extend_127 flX2_33 (show 52 < 68 by decide) rfl rfl ?_
                    refine g_icmp_geN C 153 (by omega) (by omega) dX2_extend_130 (by decide) (fun h130 => ?_) (fun h130 => ?_)
                    · -- X2_extend 130t
                      --
                      refine g_iinc7N C dX2_extend_153 ?_
                      refine g_goto C 32 dX2_extend_156 (by decide) ?_
                      exact ih c' (s + 1) _ _ hne (by omega) (by rw [zOs_s, if_neg (by unfold zOk; rw [decide_eq_false (show ¬ zSg A h s < H by omega)]; simp), List.append_nil]; exact hO') hK' (by omega)
                    · -- X2_extend 130f
                      have hok : zOk A ik T H d m h s = true := by unfold zOk; rw [h52, decide_eq_true hi, h76, decide_eq_true (by omega)]; rfl
                      refine g_aload0 C dX2_extend_133 ?_
                      refine g_aload1 C dX2_extend_134 ?_
                      refine g_iload2 C dX2_extend_135 ?_
                      refine g_iconst C (nI 1) dX2_extend_136 (by decide) ?_
                      refine g_iaddN C dX2_extend_137 ?_
                      refine g_iload3 C dX2_extend_138 ?_
                      refine g_iconst C (nI 1) dX2_extend_139 (by decide) ?_
                      refine g_iload7 C dX2_extend_140 ?_
                      refine g_ishlN C dX2_extend_142 (by omega) ?_
                      refine g_iorN C dX2_extend_143 ?_
                      refine g_iload8 C dX2_extend_144 ?_
                      refine g_iconst C (nI 1) dX2_extend_146 (by decide) ?_
                      refine g_iaddN C dX2_extend_147 ?_
                      refine g_iload9 C dX2_extend_148 ?_
                      refine g_callS6v C dX2_extend_150 slX2_47 (ihf c' (l ++ (zOs A ik T H f d m h s).map (zEn d o)) (d + 1) (m ||| (1 <<< s)) _ _ (by omega) hS' hO' (zor_lt hm h36) (by omega) (by have e := hlen; rw [hx] at e; have e2 := zOs_mono A ik T H f d m h (s + 1) (6 - s); rw [show s + 1 + (6 - s) = 7 by omega, zOs_s, if_pos hok] at e2; simp only [List.length_append, List.length_map] at e e2 ⊢; rw [hg] at e2; omega)) hKd (by first | decide | omega) rfl (Nat.le_of_ble_eq_true rfl) ?_
                      rintro _ ⟨c2, rfl, hO2, hK2⟩
                      refine g_iinc7N C dX2_extend_153 ?_
                      refine g_goto C 32 dX2_extend_156 (by decide) ?_
                      exact ih c2 (s + 1) _ _ hne (by omega) (by rw [zOs_s, if_pos hok, List.map_append, ← List.append_assoc, hg, List.map_map]; rw [show zEn d o ∘ (fun q => s :: q) = zEn (d + 1) _ from funext fun q => he q]; exact hO2) (hK'.tr hK2) (by omega)
                · -- X2_extend 87f
                  have hg : zSg A h s = h + 1 := by unfold zSg; rw [if_pos (by simpa using h87)]
                  refine g_iload4 C dX2_extend_90 ?_
                  refine g_iconst C (nI 1) dX2_extend_92 (by decide) ?_
                  refine g_iaddN C dX2_extend_93 ?_
                  refine g_goto C 99 dX2_extend_94 (by decide) ?_
                  refine g_istore8 C dX2_extend_99 ?_
                  refine g_iload2 C dX2_extend_101 ?_
                  refine g_if_neN C 113 (by omega) dX2_extend_102 (by decide) (fun h102 => ?_) (fun h102 => ?_)
                  · -- X2_extend 102t
                    have he : ∀ q, zEn d o (s :: q) = zEn (d + 1) (o ||| (d <<< (3 * s))) q := fun q => by rw [zEn, if_neg (by omega)]
                    refine g_iload5 C dX2_extend_113 ?_
                    refine g_iload2 C dX2_extend_115 ?_
                    refine g_iconst C (nI 3) dX2_extend_116 (by decide) ?_
                    refine g_iload7 C dX2_extend_117 ?_
                    refine g_imulN C dX2_extend_119 ?_
                    refine g_ishlN C dX2_extend_120 (by omega) ?_
                    refine g_iorN C dX2_extend_121 ?_
                    refine g_istore9 C dX2_extend_122 ?_
                    refine g_iload8 C dX2_extend_124 ?_
                    refine g_aload0 C dX2_extend_126 ?_
                    refine g_getIE C hS'.2.2.1 dX2_extend_127 flX2_33 (show 52 < 68 by decide) rfl rfl ?_
                    refine g_icmp_geN C 153 (by omega) (by omega) dX2_extend_130 (by decide) (fun h130 => ?_) (fun h130 => ?_)
                    · -- X2_extend 130t
                      --
                      refine g_iinc7N C dX2_extend_153 ?_
                      refine g_goto C 32 dX2_extend_156 (by decide) ?_
                      exact ih c' (s + 1) _ _ hne (by omega) (by rw [zOs_s, if_neg (by unfold zOk; rw [decide_eq_false (show ¬ zSg A h s < H by omega)]; simp), List.append_nil]; exact hO') hK' (by omega)
                    · -- X2_extend 130f
                      have hok : zOk A ik T H d m h s = true := by unfold zOk; rw [h52, decide_eq_true hi, h76, decide_eq_true (by omega)]; rfl
                      refine g_aload0 C dX2_extend_133 ?_
                      refine g_aload1 C dX2_extend_134 ?_
                      refine g_iload2 C dX2_extend_135 ?_
                      refine g_iconst C (nI 1) dX2_extend_136 (by decide) ?_
                      refine g_iaddN C dX2_extend_137 ?_
                      refine g_iload3 C dX2_extend_138 ?_
                      refine g_iconst C (nI 1) dX2_extend_139 (by decide) ?_
                      refine g_iload7 C dX2_extend_140 ?_
                      refine g_ishlN C dX2_extend_142 (by omega) ?_
                      refine g_iorN C dX2_extend_143 ?_
                      refine g_iload8 C dX2_extend_144 ?_
                      refine g_iconst C (nI 1) dX2_extend_146 (by decide) ?_
                      refine g_iaddN C dX2_extend_147 ?_
                      refine g_iload9 C dX2_extend_148 ?_
                      refine g_callS6v C dX2_extend_150 slX2_47 (ihf c' (l ++ (zOs A ik T H f d m h s).map (zEn d o)) (d + 1) (m ||| (1 <<< s)) _ _ (by omega) hS' hO' (zor_lt hm h36) (by omega) (by have e := hlen; rw [hx] at e; have e2 := zOs_mono A ik T H f d m h (s + 1) (6 - s); rw [show s + 1 + (6 - s) = 7 by omega, zOs_s, if_pos hok] at e2; simp only [List.length_append, List.length_map] at e e2 ⊢; rw [hg] at e2; omega)) hKd (by first | decide | omega) rfl (Nat.le_of_ble_eq_true rfl) ?_
                      rintro _ ⟨c2, rfl, hO2, hK2⟩
                      refine g_iinc7N C dX2_extend_153 ?_
                      refine g_goto C 32 dX2_extend_156 (by decide) ?_
                      exact ih c2 (s + 1) _ _ hne (by omega) (by rw [zOs_s, if_pos hok, List.map_append, ← List.append_assoc, hg, List.map_map]; rw [show zEn d o ∘ (fun q => s :: q) = zEn (d + 1) _ from funext fun q => he q]; exact hO2) (hK'.tr hK2) (by omega)
                  · -- X2_extend 102f
                    have he : ∀ q, zEn d o (s :: q) = zEn (d + 1) (s <<< 21) q := fun q => by rw [zEn, if_pos h102]
                    refine g_iload7 C dX2_extend_105 ?_
                    refine g_bipush C (nI 21) dX2_extend_107 (by decide) ?_
                    refine g_ishlN C dX2_extend_109 (by decide) ?_
                    refine g_goto C 122 dX2_extend_110 (by decide) ?_
                    refine g_istore9 C dX2_extend_122 ?_
                    refine g_iload8 C dX2_extend_124 ?_
                    refine g_aload0 C dX2_extend_126 ?_
                    refine g_getIE C hS'.2.2.1 dX2_extend_127 flX2_33 (show 52 < 68 by decide) rfl rfl ?_
                    refine g_icmp_geN C 153 (by omega) (by omega) dX2_extend_130 (by decide) (fun h130 => ?_) (fun h130 => ?_)
                    · -- X2_extend 130t
                      --
                      refine g_iinc7N C dX2_extend_153 ?_
                      refine g_goto C 32 dX2_extend_156 (by decide) ?_
                      exact ih c' (s + 1) _ _ hne (by omega) (by rw [zOs_s, if_neg (by unfold zOk; rw [decide_eq_false (show ¬ zSg A h s < H by omega)]; simp), List.append_nil]; exact hO') hK' (by omega)
                    · -- X2_extend 130f
                      have hok : zOk A ik T H d m h s = true := by unfold zOk; rw [h52, decide_eq_true hi, h76, decide_eq_true (by omega)]; rfl
                      refine g_aload0 C dX2_extend_133 ?_
                      refine g_aload1 C dX2_extend_134 ?_
                      refine g_iload2 C dX2_extend_135 ?_
                      refine g_iconst C (nI 1) dX2_extend_136 (by decide) ?_
                      refine g_iaddN C dX2_extend_137 ?_
                      refine g_iload3 C dX2_extend_138 ?_
                      refine g_iconst C (nI 1) dX2_extend_139 (by decide) ?_
                      refine g_iload7 C dX2_extend_140 ?_
                      refine g_ishlN C dX2_extend_142 (by omega) ?_
                      refine g_iorN C dX2_extend_143 ?_
                      refine g_iload8 C dX2_extend_144 ?_
                      refine g_iconst C (nI 1) dX2_extend_146 (by decide) ?_
                      refine g_iaddN C dX2_extend_147 ?_
                      refine g_iload9 C dX2_extend_148 ?_
                      refine g_callS6v C dX2_extend_150 slX2_47 (ihf c' (l ++ (zOs A ik T H f d m h s).map (zEn d o)) (d + 1) (m ||| (1 <<< s)) _ _ (by omega) hS' hO' (zor_lt hm h36) (by omega) (by have e := hlen; rw [hx] at e; have e2 := zOs_mono A ik T H f d m h (s + 1) (6 - s); rw [show s + 1 + (6 - s) = 7 by omega, zOs_s, if_pos hok] at e2; simp only [List.length_append, List.length_map] at e e2 ⊢; rw [hg] at e2; omega)) hKd (by first | decide | omega) rfl (Nat.le_of_ble_eq_true rfl) ?_
                      rintro _ ⟨c2, rfl, hO2, hK2⟩
                      refine g_iinc7N C dX2_extend_153 ?_
                      refine g_goto C 32 dX2_extend_156 (by decide) ?_
                      exact ih c2 (s + 1) _ _ hne (by omega) (by rw [zOs_s, if_pos hok, List.map_append, ← List.append_assoc, hg, List.map_map]; rw [show zEn d o ∘ (fun q => s :: q) = zEn (d + 1) _ from funext fun q => he q]; exact hO2) (hK'.tr hK2) (by omega)
    refine g_iload3 C dX2_extend_0 ?_
    refine g_aload0 C dX2_extend_1 ?_
    refine g_getIE C hS.2.1 dX2_extend_2 flX2_25 (show 52 < 68 by decide) rfl rfl ?_
    refine g_icmp_neN C 15 (by omega) (by omega) dX2_extend_5 (by decide) (fun h5 => ?_) (fun h5 => ?_)
    · -- X2_extend 5t
      have hx := zOx_s A ik T H f d m h h5
      refine g_iload2 C dX2_extend_15 ?_
      refine g_bipush C (nI 7) dX2_extend_16 (by decide) ?_
      refine g_icmp_ltN C 22 (by omega) (by omega) dX2_extend_18 (by decide) (fun h18 => ?_) (fun h18 => absurd h18 (by omega))
      refine g_aload1 C dX2_extend_22 ?_
      refine g_iload2 C dX2_extend_23 ?_
      refine g_callV1i C dX2_extend_24 vlX2_55 (s_inkBehind ok hS.1 (by omega)) hKd (by first | decide | omega) rfl (Nat.le_of_ble_eq_true rfl) (show 3 < 68 by decide) rfl ?_
      rintro _ _ ⟨rfl, rfl⟩
      refine g_istore6 C dX2_extend_27 ?_
      refine g_iconst C (nI 0) dX2_extend_29 (by decide) ?_
      refine g_istore7 C dX2_extend_30 ?_
      exact H32 8 c 0 _ _ h5 (by omega) (by rw [zOs_0, List.map_nil, List.append_nil]; exact hO) (OrK.rf c) (by omega)
    · -- X2_extend 5f
      have hx : (zOx A ik T H (f + 1) d m h).map (zEn d o) = [o] := by show (if m = T then _ else _ : List (List Nat)).map _ = _; rw [if_pos h5]; rfl
      refine g_aload0 C dX2_extend_8 ?_
      refine g_iload5 C dX2_extend_9 ?_
      refine g_callV1v C dX2_extend_11 vlX2_51 (s_add hO (by rw [hx, List.length_append] at hlen; simp at hlen; omega)) hKd (by first | decide | omega) rfl (Nat.le_of_ble_eq_true rfl) (show 52 < 68 by decide) rfl ?_
      rintro _ rfl
      exact g_retv M dX2_extend_14 (⟨_, rfl, by rw [hx]; exact hO.push, OrK.push c _ _ _⟩)
