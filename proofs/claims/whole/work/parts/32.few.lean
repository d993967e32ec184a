/-! the fewest to ask -/
def zQs (O : List (List Nat)) (T a : Nat) : Bool := zSub T a && zKn O a
theorem zQs_top {c : Nat → Nat → Int32} {O : List (List Nat)} {T : Nat} (hQ : zQ c O T) : zQs O T T = true := by
  unfold zQs
  rw [zSub_self T hQ.2.2.1, Bool.true_and]
  refine zKn_iff.mpr fun i hi j hj h => ?_
  by_cases e : T = 0
  · have key : ∀ k, k < O.length → zAt O k = [] := fun k hk => by
      refine List.eq_nil_iff_forall_not_mem.mpr fun s hs => ?_
      have := ((hQ.val hk).2.1 s).mp hs
      rw [e, Nat.zero_testBit] at this
      cases this
    rw [key i hi, key j hj]
  · have mem : ∀ k, k < O.length → ∀ l : List Nat, zAt O k = l → l ≠ [] := fun k hk l hl h0 => by
      have h1 := (hQ.val hk).2.1
      rw [hl, h0] at h1
      refine e (Nat.eq_of_testBit_eq fun q => ?_)
      rw [Nat.zero_testBit]
      cases hq : T.testBit q with
      | false => rfl
      | true => exact ((List.not_mem_nil ((h1 q).mpr hq))).elim
    have hin : zHd (zAt O i) ∈ zAt O i := by
      cases hl : zAt O i with
      | nil => exact absurd rfl (mem i hi _ hl)
      | cons s l => exact List.mem_cons_self
    have hb := ((hQ.val hi).2.1 _).mp hin
    exact (zHd_pl hin (((hQ.val hj).2.1 _).mpr hb) rfl (h _ ((hQ.val hi).1.1 _ hin) hb)).symm
set_option maxRecDepth 100000 in
set_option maxHeartbeats 4000000 in
theorem s_few {Γ : zG} {c : Nat → Nat → Int32} {t : Nat → Int64} {O : List (List Nat)} {T : Nat} (hQ : zQ c O T)  : Sp Γ 3 mX2_fewestToAsk [.ref 52] 0 0 (wF c t) (z_pi (fun v w => ((O.length = 0 ∧ v = -9) ∨ (0 < O.length ∧ ∃ a, v = nI a ∧ zBest (zQs O T) T a)) ∧ ∃ c', w = wF c' t ∧ ∀ x, x ≠ 54 → c' x = c x)) := by
  refine Sp.of (own := RX2) 2 false rfl (by decide +kernel) rfl rfl (fun h => by cases h) (fun K hKd M => ?_)
  have C := M.1
  show GG Γ K 0 0 (wF c t) 0 [some (.ref 52), none, none] []
  have hT := hQ.2.2.1
  have hT7 := zp8_7 hT
  have H29a : ∀ z, z ≤ 7 → 0 < O.length → (∀ c' : Nat → Nat → Int32, zMk (fun x => zp8 x < z ∨ (zp8 x = z ∧ x < (T + 1))) c' → (∀ x, x ≤ T → zQs O T x = true → ¬ (zp8 x < z ∨ (zp8 x = z ∧ x < (T + 1)))) → (∀ x, x ≠ 54 → c' x = c x) → GG Γ K 0 0 (wF c' t) 72 [some (.ref 52), some (.int (nI z)), some (.int (nI (T + 1)))] []) → ∀ c' : Nat → Nat → Int32, zMk (fun x => zp8 x < z ∨ (zp8 x = z ∧ x < 0)) c' → (∀ x, x ≤ T → zQs O T x = true → ¬ (zp8 x < z ∨ (zp8 x = z ∧ x < 0))) → (∀ x, x ≠ 54 → c' x = c x) → GG Γ K 0 0 (wF c' t) 29 [some (.ref 52), some (.int (nI z)), some (.int (nI 0))] [] := by
    intro z hz h0 hexit
    have H29 : ∀ (n : Nat) (c' : Nat → Nat → Int32) (b : Nat), b ≤ T + 1 → zMk (fun x => zp8 x < z ∨ (zp8 x = z ∧ x < b)) c' → (∀ x, x ≤ T → zQs O T x = true → ¬ (zp8 x < z ∨ (zp8 x = z ∧ x < b))) → (∀ x, x ≠ 54 → c' x = c x) → T + 1 - b < n → GG Γ K 0 0 (wF c' t) 29 [some (.ref 52), some (.int (nI z)), some (.int (nI b))] [] := by
      intro n
      induction n with
      | zero => intro c' b hb hM hN fr hn2; exact absurd hn2 (by omega)
      | succ n ih =>
        intro c' b hb hM hN fr hn2
        have hQ' := hQ.eq (fr 52 (by decide)) (fr 53 (by decide))
        refine g_iload2 C dX2_fewestToAsk_29 ?_
        refine g_aload0 C dX2_fewestToAsk_30 ?_
        refine g_getIE C hQ'.2.1 dX2_fewestToAsk_31 flX2_25 (show 52 < 68 by decide) rfl rfl ?_
        refine g_icmp_gtN C 72 (by omega) (by omega) dX2_fewestToAsk_34 (by decide) (fun h34 => ?_) (fun h34 => ?_)
        · -- X2_fewestToAsk 34t
          obtain rfl : b = T + 1 := by omega
          exact hexit c' hM hN fr
        · -- X2_fewestToAsk 34f
          have hbT : b < 128 := by omega
          refine g_iload2 C dX2_fewestToAsk_37 ?_
          refine g_aload0 C dX2_fewestToAsk_38 ?_
          refine g_getIE C hQ'.2.1 dX2_fewestToAsk_39 flX2_25 (show 52 < 68 by decide) rfl rfl ?_
          refine g_iconst C (nI 4294967295) dX2_fewestToAsk_42 (by decide) ?_
          refine g_ixorN C dX2_fewestToAsk_43 ?_
          refine g_iandN C dX2_fewestToAsk_44 ?_
          refine g_if_neN C 66 (zand_l (by omega)) dX2_fewestToAsk_45 (by decide) (fun h45 => ?_) (fun h45 => ?_)
          · -- X2_fewestToAsk 45t
            --
            refine g_iinc2N C dX2_fewestToAsk_66 ?_
            refine g_goto C 29 dX2_fewestToAsk_69 (by decide) ?_
            exact ih c' (b + 1) (by omega) (zMk_mono hM (fun x h => by omega)) (fun x hx hq => by have h9 := hN x hx hq; intro h; by_cases e : x = b; (subst e; unfold zQs at hq; rw [show zSub T x = false from decide_eq_false (by omega)] at hq; cases hq); exact h9 (by omega)) fr (by omega)
          · -- X2_fewestToAsk 45f
            have hsub : zSub T b = true := decide_eq_true h45
            refine g_iload2 C dX2_fewestToAsk_48 ?_
            refine g_callS1i C dX2_fewestToAsk_49 slX2_90 (s_bc (by omega)) hKd (by first | decide | omega) rfl (Nat.le_of_ble_eq_true rfl) ?_
            rintro _ _ ⟨rfl, rfl⟩
            refine g_iload1 C dX2_fewestToAsk_52 ?_
            refine g_icmp_neN C 66 (by have := zp8_8 b; omega) (by omega) dX2_fewestToAsk_53 (by decide) (fun h53 => ?_) (fun h53 => ?_)
            · -- X2_fewestToAsk 53t
              --
              refine g_iinc2N C dX2_fewestToAsk_66 ?_
              refine g_goto C 29 dX2_fewestToAsk_69 (by decide) ?_
              exact ih c' (b + 1) (by omega) (zMk_mono hM (fun x h => by omega)) (fun x hx hq => by have h9 := hN x hx hq; intro h; by_cases e : x = b; (subst e; omega); exact h9 (by omega)) fr (by omega)
            · -- X2_fewestToAsk 53f
              
              refine g_aload0 C dX2_fewestToAsk_56 ?_
              refine g_iload2 C dX2_fewestToAsk_57 ?_
              refine g_callV1i C dX2_fewestToAsk_58 vlX2_95 (s_tell hQ' hbT (zSub_bit hsub hbT) hM (by omega)) hKd (by first | decide | omega) rfl (Nat.le_of_ble_eq_true rfl) (show 52 < 68 by decide) rfl ?_
              rintro _ _ ⟨rfl, c2, rfl, hM2, fr2⟩
              refine g_if_eqB C 66 dX2_fewestToAsk_61 (by decide) (fun h61 => ?_) (fun h61 => ?_)
              · -- X2_fewestToAsk 61t
                --
                refine g_iinc2N C dX2_fewestToAsk_66 ?_
                refine g_goto C 29 dX2_fewestToAsk_69 (by decide) ?_
                exact ih c2 (b + 1) (by omega) (zMk_mono hM2 (fun x h => by rcases h with h | rfl; omega; have := h53; omega)) (fun x hx hq => by have h9 := hN x hx hq; intro h; by_cases e : x = b; (subst e; unfold zQs at hq; rw [h61] at hq; simp at hq); exact h9 (by omega)) (fun x hx => (fr2 x hx).trans (fr x hx)) (by omega)
              · -- X2_fewestToAsk 61f
                
                refine g_iload2 C dX2_fewestToAsk_64 ?_
                exact g_reti M dX2_fewestToAsk_65 (⟨Or.inr ⟨h0, b, rfl, by unfold zQs; rw [hsub, h61]; rfl, by omega, fun x hx hq => by have := hN x hx hq; have e := h53; omega⟩, c2, rfl, fun x hx => (fr2 x hx).trans (fr x hx)⟩)
    exact fun c' hM hN fr => H29 (T + 2) c' 0 (by omega) hM hN fr (by omega)
  have H21 : ∀ (n : Nat) (c' : Nat → Nat → Int32) (z : Nat) (x : Option Value), 0 < O.length → z ≤ 8 → zMk (fun x => zp8 x < z ∨ (zp8 x = z ∧ x < 0)) c' → (∀ x, x ≤ T → zQs O T x = true → ¬ (zp8 x < z ∨ (zp8 x = z ∧ x < 0))) → (∀ x, x ≠ 54 → c' x = c x) → 8 - z < n → GG Γ K 0 0 (wF c' t) 21 [some (.ref 52), some (.int (nI z)), x] [] := by
    intro n
    induction n with
    | zero => intro c' z x h0 hz hM hN fr hn2; exact absurd hn2 (by omega)
    | succ n ih =>
      intro c' z x h0 hz hM hN fr hn2
      refine g_iload1 C dX2_fewestToAsk_21 ?_
      refine g_bipush C (nI 7) dX2_fewestToAsk_22 (by decide) ?_
      refine g_icmp_gtN C 78 (by omega) (by omega) dX2_fewestToAsk_24 (by decide) (fun h24 => ?_) (fun h24 => ?_)
      · -- X2_fewestToAsk 24t
        exact absurd (hN T (Nat.le_refl T) (zQs_top hQ)) (by omega)
      · -- X2_fewestToAsk 24f
        
        refine g_iconst C (nI 0) dX2_fewestToAsk_27 (by decide) ?_
        refine g_istore2 C dX2_fewestToAsk_28 ?_
        refine H29a z (by omega) h0 (fun c2 hM2 hN2 fr2 => ?_) c' hM hN fr
        refine g_iinc1N C dX2_fewestToAsk_72 ?_
        refine g_goto C 21 dX2_fewestToAsk_75 (by decide) ?_
        exact ih c2 (z + 1) _ h0 (by omega) (zMk_mono hM2 (fun x h => by omega)) (fun x hx hq => by have h9 := hN2 x hx hq; omega) fr2 (by omega)
  refine g_aload0 C dX2_fewestToAsk_0 ?_
  refine g_getIE C hQ.len dX2_fewestToAsk_1 flX2_21 (show 52 < 68 by decide) rfl rfl ?_
  refine g_if_neN C 10 (by have := hQ.2.2.2.1; omega) dX2_fewestToAsk_4 (by decide) (fun h0 => ?_) (fun h0 => ?_)
  · -- X2_fewestToAsk 4t
    
    refine g_aload0 C dX2_fewestToAsk_10 ?_
    refine g_getRT C dX2_fewestToAsk_11 flX2_15 (show 52 < 68 by decide) rfl rfl (by decide) ?_
    refine g_bipush C (-9) dX2_fewestToAsk_14 (by decide) ?_
    refine g_callS2v C dX2_fewestToAsk_16 slX2_84 (s_fill (show 54 < 68 by decide) rfl (by decide)) hKd (by first | decide | omega) rfl (Nat.le_of_ble_eq_true rfl) ?_
    rintro _ rfl
    refine g_iconst C (nI 0) dX2_fewestToAsk_19 (by decide) ?_
    refine g_istore1 C dX2_fewestToAsk_20 ?_
    exact H21 9 _ 0 _ h0 (by omega) (fun r hr => Or.inl (z_fill_i hr)) (fun x hx hq => by omega) (fun x hx => z_fill_k hx) (by omega)
  · -- X2_fewestToAsk 4f
    
    refine g_bipush C (-9) dX2_fewestToAsk_7 (by decide) ?_
    exact g_reti M dX2_fewestToAsk_9 (⟨Or.inl ⟨h0, rfl⟩, c, rfl, fun _ _ => rfl⟩)
