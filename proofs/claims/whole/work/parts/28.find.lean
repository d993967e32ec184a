/-! all orders found; what is read off them -/
set_option maxRecDepth 100000 in
set_option maxHeartbeats 4000000 in
theorem s_find {Γ : zG} {c : Nat → Nat → Int32} {t : Nat → Int64} {A : zCr} (ok : OkA A) (hA : CrC 3 c A) {Y : zMm} (hY : MoC 11 c Y) (okm : OkM (cN A) (cS A) Y) {x : Int32} : Sp Γ 11 mX2_find [.ref 52, .ref 3, .ref 11, .int x] 0 0 (wF c t) (z_pv (fun w => ∃ c', w = wF c' t ∧ OrC c' ((zOrd A Y (zThX (mW Y) x 8)).map zCod) ∧ c' 52 4 = nI (zThX (mW Y) x 8) ∧ ∀ a, a ≠ 52 → a ≠ 53 → a ≠ 55 → c' a = c a)) := by
  refine Sp.of (own := RX2) 2 false rfl (by decide +kernel) rfl rfl (fun h => by cases h) (fun K hKd M => ?_)
  have C := M.1
  show GG Γ K 0 0 (wF c t) 0 [some (.ref 52), some (.ref 3), some (.ref 11), some (.int x), none, none] []
  have hw := OkM.lt7 ok okm
  have inj := okm.2.2.2.1
  have H21 : ∀ (n : Nat) (c' : Nat → Nat → Int32) (k : Nat) (y : Option Value), k ≤ 8 → c' 52 3 = nI 0 → c' 52 4 = nI (zThX (mW Y) x k) → c' 52 5 = nI (mH Y) → (∀ s, s < 7 → (zThX (mW Y) x k).testBit s = true → c' 55 s = nI (zInkS Y s)) → (∀ a, a ≠ 52 → a ≠ 55 → c' a = c a) → 8 - k < n → GG Γ K 0 0 (wF c' t) 21 [some (.ref 52), some (.ref 3), some (.ref 11), some (.int x), some (.int (nI k)), y] [] := by
    intro n
    induction n with
    | zero => intro c' k y hk e3 e4 e5 e6 fr hn; exact absurd hn (by omega)
    | succ n ih =>
      intro c' k y hk e3 e4 e5 e6 fr hn
      refine g_iload4 C dX2_find_21 ?_
      refine g_bipush C (nI 8) dX2_find_23 (by decide) ?_
      refine g_icmp_geN C 89 (by omega) (by omega) dX2_find_25 (by decide) (fun h25 => ?_) (fun h25 => ?_)
      · -- X2_find 25t
        obtain rfl : k = 8 := by omega
        refine g_aload0 C dX2_find_89 ?_
        refine g_aload1 C dX2_find_90 ?_
        refine g_iconst C (nI 0) dX2_find_91 (by decide) ?_
        refine g_iconst C (nI 0) dX2_find_92 (by decide) ?_
        refine g_iconst C (nI 0) dX2_find_93 (by decide) ?_
        refine g_ldc C _ dX2_find_94 kkX2_46 ?_
        refine g_top (show (14680064 : Int32) = nI 14680064 by decide) ?_
        refine g_callS6v C dX2_find_96 slX2_47 (s_extend (t := t) ok (zThX_lt hw 8 (Nat.le_refl 8)) (fun s hs hb => by obtain ⟨j, h1, h2, -⟩ := zThX_bit 8 hb; exact (okm.2.2.1 j s h1 h2).1) okm.1 (fun s _ _ => zInkS_le okm.2.2.2.2.1 s) 7 c' [] 0 0 0 zNob rfl ⟨hA.eq (fr 3 (by decide) (by decide)) (fr 4 (by decide) (by decide)) (fr 5 (by decide) (by decide)) (fr 6 (by decide) (by decide)), e4, e5, e6⟩ ⟨e3, fun i v h => by cases h⟩ (by decide) (by decide) (by rw [List.nil_append, List.length_map]; exact zOrd_len A Y (zThX_lt hw 8 (Nat.le_refl 8)))) hKd (by first | decide | omega) rfl (Nat.le_of_ble_eq_true rfl) ?_
        rintro _ ⟨c2, rfl, hO, hK⟩
        exact g_retv M dX2_find_99 (⟨c2, rfl, hO, (hK.2 4 (by decide)).trans e4, fun a h1 h2 h3 => (hK.1 a h1 h2).trans (fr a h1 h3)⟩)
      · -- X2_find 25f
        refine g_aload2 C dX2_find_28 ?_
        refine g_getRT C dX2_find_29 flX2_34 (show 11 < 68 by decide) rfl rfl (by decide) ?_
        refine g_iload4 C dX2_find_32 ?_
        refine g_callS2i C dX2_find_34 slX2_37 (s_at (show 12 < 68 by decide) rfl h25 (by decide) ((congrFun (fr 12 (by decide) (by decide)) k).trans (hY.2.2.1 k h25))) hKd (by first | decide | omega) rfl (Nat.le_of_ble_eq_true rfl) ?_
        rintro _ _ ⟨rfl, rfl⟩
        refine g_istore5 C dX2_find_37 ?_
        refine g_iload5 C dX2_find_39 ?_
        refine g_bipush C (-9) dX2_find_41 (by decide) ?_
        refine g_icmp_eq C 83 dX2_find_43 (by decide) (fun h43 => ?_) (fun h43 => ?_)
        · -- X2_find 43t
          have hq := zE_n h43 (fun s h => by have := hw k s h25 h; omega)
          refine g_iinc4N C dX2_find_83 ?_
          refine g_goto C 21 dX2_find_86 (by decide) ?_
          exact ih c' (k + 1) _ (by omega) e3 (by rw [show zThX (mW Y) x (k + 1) = zThX (mW Y) x k by rw [zThX, hq]]; exact e4) e5 (by rw [show zThX (mW Y) x (k + 1) = zThX (mW Y) x k by rw [zThX, hq]]; exact e6) fr (by omega)
        · -- X2_find 43f
          obtain ⟨s, hq⟩ := zE_s h43
          rw [hq]
          have hs7 := hw k s h25 hq
          refine g_iload4 C dX2_find_46 ?_
          refine g_iload3 C dX2_find_48 ?_
          refine g_icmp_eq C 83 dX2_find_49 (by decide) (fun h49 => ?_) (fun h49 => ?_)
          · -- X2_find 49t
            --
            refine g_iinc4N C dX2_find_83 ?_
            refine g_goto C 21 dX2_find_86 (by decide) ?_
            exact ih c' (k + 1) _ (by omega) e3 (by rw [show zThX (mW Y) x (k + 1) = zThX (mW Y) x k by rw [zThX, hq]; exact if_pos h49]; exact e4) e5 (by rw [show zThX (mW Y) x (k + 1) = zThX (mW Y) x k by rw [zThX, hq]; exact if_pos h49]; exact e6) fr (by omega)
          · -- X2_find 49f
            --
            refine g_aload0 C dX2_find_52 ?_
            refine g_dup C dX2_find_53 rfl ?_
            refine g_getIE C e4 dX2_find_54 flX2_25 (show 52 < 68 by decide) rfl rfl ?_
            refine g_iconst C (nI 1) dX2_find_57 (by decide) ?_
            refine g_iload5 C dX2_find_58 ?_
            refine g_ishlN C dX2_find_60 (by omega) ?_
            refine g_iorN C dX2_find_61 ?_
            refine g_putI C dX2_find_62 fpX2_25 (show 52 < 68 by decide) rfl rfl rfl rfl ?_
            refine g_aload0 C dX2_find_65 ?_
            refine g_getRT C dX2_find_66 flX2_18 (show 52 < 68 by decide) rfl rfl (by decide) ?_
            refine g_iload5 C dX2_find_69 ?_
            refine g_aload2 C dX2_find_71 ?_
            refine g_getRT C dX2_find_72 flX2_41 (show 11 < 68 by decide) rfl rfl (by decide) ?_
            refine g_iload4 C dX2_find_75 ?_
            refine g_callS2i C dX2_find_77 slX2_37 (s_at (show 13 < 68 by decide) rfl h25 (by decide) ((congrFun ((up_K (by decide)).trans (fr 13 (by decide) (by decide))) k).trans (hY.2.2.2 k h25))) hKd (by first | decide | omega) rfl (Nat.le_of_ble_eq_true rfl) ?_
            rintro _ _ ⟨rfl, rfl⟩
            refine g_callS3v C dX2_find_80 slX2_42 (s_put (show 55 < 68 by decide) rfl hs7 (by decide)) hKd (by first | decide | omega) rfl (Nat.le_of_ble_eq_true rfl) ?_
            rintro _ rfl
            refine g_iinc4N C dX2_find_83 ?_
            refine g_goto C 21 dX2_find_86 (by decide) ?_
            have hT1 : zThX (mW Y) x (k + 1) = zThX (mW Y) x k ||| (1 <<< s) := by rw [zThX, hq]; exact if_neg h49
            exact ih _ (k + 1) _ (by omega) (by rw [up_k (by decide), up_j _ (by decide)]; exact e3) (by rw [up_k (by decide), up_s, hT1]) (by rw [up_k (by decide), up_j _ (by decide)]; exact e5) (fun q hq7 hb => by
              by_cases e : q = s
              · subst e
                rw [up_s, zInkS_of inj h25 hq]
              · rw [up_j _ e, up_K (by decide)]
                refine e6 q hq7 ?_
                rw [hT1, zor_bit, decide_eq_false e, Bool.or_false] at hb
                exact hb) (fun a h1 h2 => by rw [up_K h2, up_K h1, fr a h1 h2]) (by omega)
  refine g_aload0 C dX2_find_0 ?_
  refine g_iconst C (nI 0) dX2_find_1 (by decide) ?_
  refine g_putI C dX2_find_2 fpX2_21 (show 52 < 68 by decide) rfl rfl rfl rfl ?_
  refine g_aload0 C dX2_find_5 ?_
  refine g_iconst C (nI 0) dX2_find_6 (by decide) ?_
  refine g_putI C dX2_find_7 fpX2_25 (show 52 < 68 by decide) rfl rfl rfl rfl ?_
  refine g_aload0 C dX2_find_10 ?_
  refine g_aload2 C dX2_find_11 ?_
  refine g_getIE C ((up_k (by decide) 2).trans ((up_k (by decide) 2).trans hY.1)) dX2_find_12 flX2_28 (show 11 < 68 by decide) rfl rfl ?_
  refine g_putI C dX2_find_15 fpX2_33 (show 52 < 68 by decide) rfl rfl rfl rfl ?_
  refine g_iconst C (nI 0) dX2_find_18 (by decide) ?_
  refine g_istore4 C dX2_find_19 ?_
  exact H21 9 (z_up (z_up (z_up c 52 3 (nI 0)) 52 4 (nI 0)) 52 5 (nI (mH Y))) 0 _ (by omega) (by rw [up_j _ (by decide), up_j _ (by decide), up_s]) (by rw [up_j _ (by decide), up_s]; rfl) (by rw [up_s]) (fun s _ h => by simp [zThX] at h) (fun a h1 h2 => by rw [up_K h1, up_K h1, up_K h1]) (by omega)
