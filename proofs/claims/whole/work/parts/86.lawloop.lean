/-! the law: its loop -/
theorem lw_sub : ∀ n, n ≤ 2048 → (nI n - nI 4).toInt = (n : Int) - 4 := by decide +kernel
theorem lw_more {n i : Nat} (hn : n ≤ 2048) (hi : i ≤ 2048) (h : ¬ nI n - nI 4 < nI i) : i + 4 ≤ n := by
  rw [Int32.lt_iff_toInt_lt, lw_sub n hn, nI_toInt (by omega)] at h
  omega
theorem lw_31 (x : Int32) : ∃ j, j < 32 ∧ x &&& nI 31 = nI j := by
  refine ⟨(x &&& nI 31).toBitVec.toNat, ?_, ?_⟩
  · have h : (x &&& nI 31).toBitVec.toNat = x.toBitVec.toNat &&& 31 := by
      rw [Int32.toBitVec_and, BitVec.toNat_and, zb_tn]
      rfl
    rw [h]
    exact Nat.lt_of_le_of_lt Nat.and_le_right (by decide)
  · apply Int32.toBitVec_inj.mp
    rw [zb_tn, BitVec.ofNat_toNat, BitVec.setWidth_eq]
set_option maxRecDepth 100000 in
set_option maxHeartbeats 4000000 in
theorem law_switch {Γ : zG} {K : zK} (C : z_C Γ K cL_law RL 4) (hKd : z_d K = 100) {n : Nat} {xs : Nat → Int32} (hX : z_X Γ K n xs) (hn : n ≤ 2048) {i : Nat} (hi : i + 4 ≤ n) (back : lwB Γ K i) {c : Nat → Nat → Int32} {t : Nat → Int64} {S : zAb} (hS : OkS S) (hC : RepC c t S) (hM : RepM c t S) {j : Nat} (hj : j < 32) : GG Γ K 0 0 (wF c t) 32 (lwL i) [.int (nI j)] := by
  match j, hj with
  | 0, _ => exact g_tswIn C 0 156 dL_law_32 (by decide) rfl (by decide) (law_type C hKd hX hn hi back hS hC hM)
  | 1, _ => exact g_tswIn C 1 179 dL_law_32 (by decide) rfl (by decide) (law_clear C hKd hX hn hi back hS hC hM)
  | 2, _ => exact g_tswIn C 2 192 dL_law_32 (by decide) rfl (by decide) (law_crew C hKd hX hn hi back hS hC hM)
  | 3, _ => exact g_tswIn C 3 205 dL_law_32 (by decide) rfl (by decide) (law_sailor C hKd hX hn hi back hS hC hM)
  | 4, _ => exact g_tswIn C 4 238 dL_law_32 (by decide) rfl (by decide) (law_seat C hKd hX hn hi back hS hC hM)
  | 5, _ => exact g_tswIn C 5 271 dL_law_32 (by decide) rfl (by decide) (law_now C hKd hX hn hi back hS hC hM)
  | 6, _ => exact g_tswIn C 6 294 dL_law_32 (by decide) rfl (by decide) (law_signs C hKd hX hn hi back hS hC hM)
  | 7, _ => exact g_tswIn C 7 327 dL_law_32 (by decide) rfl (by decide) (law_hour C hKd hX hn hi back hS hC hM)
  | 8, _ => exact g_tswIn C 8 340 dL_law_32 (by decide) rfl (by decide) (law_scrape C hKd hX hn hi back hS hC hM)
  | 9, _ => exact g_tswIn C 9 363 dL_law_32 (by decide) rfl (by decide) (law_undo C hKd hX hn hi back hS hC hM)
  | 10, _ => exact g_tswIn C 10 376 dL_law_32 (by decide) rfl (by decide) (law_will C hKd hX hn hi back hS hC hM)
  | 11, _ => exact g_tswIn C 11 389 dL_law_32 (by decide) rfl (by decide) (law_begin C hKd hX hn hi back hS hC hM)
  | 12, _ => exact g_tswIn C 12 402 dL_law_32 (by decide) rfl (by decide) (law_orders C hKd hX hn hi back hS hC hM)
  | 13, _ => exact g_tswIn C 13 415 dL_law_32 (by decide) rfl (by decide) (law_first C hKd hX hn hi back hS hC hM)
  | 14, _ => exact g_tswIn C 14 428 dL_law_32 (by decide) rfl (by decide) (law_sure C hKd hX hn hi back hS hC hM)
  | 15, _ => exact g_tswIn C 15 451 dL_law_32 (by decide) rfl (by decide) (law_chance C hKd hX hn hi back hS hC hM)
  | 16, _ => exact g_tswIn C 16 484 dL_law_32 (by decide) rfl (by decide) (law_ask C hKd hX hn hi back hS hC hM)
  | 17, _ => exact g_tswIn C 17 497 dL_law_32 (by decide) rfl (by decide) (law_hang C hKd hX hn hi back hS hC hM)
  | 18, _ => exact g_tswIn C 18 510 dL_law_32 (by decide) rfl (by decide) (law_shift C hKd hX hn hi back hS hC hM)
  | 19, _ => exact g_tswIn C 19 533 dL_law_32 (by decide) rfl (by decide) (law_odds C hKd hX hn hi back hS hC hM)
  | 20, _ => exact g_tswIn C 20 576 dL_law_32 (by decide) rfl (by decide) (law_bold C hKd hX hn hi back hS hC hM)
  | 21, _ => exact g_tswIn C 21 599 dL_law_32 (by decide) rfl (by decide) (law_clique C hKd hX hn hi back hS hC hM)
  | 22, _ => exact g_tswIn C 22 622 dL_law_32 (by decide) rfl (by decide) (law_rate C hKd hX hn hi back hS hC hM)
  | 23, _ => exact g_tswIn C 23 655 dL_law_32 (by decide) rfl (by decide) (law_keep C hKd hX hn hi back hS hC hM)
  | 24, _ => exact g_tswIn C 24 678 dL_law_32 (by decide) rfl (by decide) (law_back C hKd hX hn hi back hS hC hM)
  | 25, _ => exact g_tswIn C 25 701 dL_law_32 (by decide) rfl (by decide) (law_count C hKd hX hn hi back hS hC hM)
  | 26, _ => exact g_tswIn C 26 724 dL_law_32 (by decide) rfl (by decide) (law_trace C hKd hX hn hi back hS hC hM)
  | k + 27, hk => exact g_tswOut C 26 738 dL_law_32 (fun q hq e => by have := (nI_eq (by omega) (by omega)).mp e; omega) (by decide) (by decide) (back c t S hS hC hM)
set_option maxRecDepth 100000 in
set_option maxHeartbeats 4000000 in
theorem law_loop {Γ : zG} {K : zK} (C : z_C Γ K cL_law RL 4) (hKd : z_d K = 100) {n : Nat} {xs : Nat → Int32} (hX : z_X Γ K n xs) (hn : n ≤ 2048) (hE : ∀ (w : zW) (L : List (Option Value)), GG Γ K 0 0 w 745 L [.int 1]) : ∀ (m i : Nat) (c : Nat → Nat → Int32) (t : Nat → Int64) (S : zAb), i ≤ n → n - i < m → OkS S → RepC c t S → RepM c t S → GG Γ K 0 0 (wF c t) 18 (lwL i) [] := by
  intro m
  induction m with
  | zero => intro i c t S hi hm; exact absurd hm (by omega)
  | succ m ih =>
    intro i c t S hi hm hS hC hM
    refine g_iload3 C dL_law_18 ?_
    refine g_aload0 C dL_law_19 ?_
    refine g_slen C hX dL_law_20 ?_
    refine g_iconst C (nI 4) dL_law_21 (by decide) ?_
    refine g_isub C dL_law_22 ?_
    refine g_icmp_gt C 744 dL_law_23 (by decide) (fun _ => ?_) (fun h23 => ?_)
    · refine g_iconst C 1 dL_law_744 (by decide) ?_
      exact hE _ _
    · have hi4 := lw_more hn (by omega) h23
      refine g_aload0 C dL_law_26 ?_
      refine g_iload3 C dL_law_27 ?_
      refine g_sld C hX (by omega) hn dL_law_28 ?_
      refine g_bipush C (nI 31) dL_law_29 (by decide) ?_
      refine g_iand C dL_law_31 ?_
      obtain ⟨j, hj, e⟩ := lw_31 (xs i)
      refine g_top e ?_
      refine law_switch C hKd hX hn hi4 (fun c t S hS hC hM => ?_) hS hC hM hj
      refine g_iinc3 C dL_law_738 ?_
      refine g_goto C 18 dL_law_741 (by decide) ?_
      rw [show nI i + Int32.ofInt 4 = nI (i + 4) from nI_add i 4]
      exact ih (i + 4) c t S (by omega) (by omega) hS hC hM
