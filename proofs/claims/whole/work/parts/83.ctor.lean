/-! constructors: worlds that grow -/
section ZSH
variable {Γ : zG} {K : zK} {kc ks : Nat} {pc : Nat} {L : List (Option Value)} {st : List Value} {cc : ByteArray} {own : String} {nL : Nat}
theorem g_shape {σ : Nat → zS} (σ' : Nat → zS) {N : Nat} {c : Nat → Nat → Int32} {t : Nat → Int64} (h : ∀ k, k < N → σ k = σ' k) (kk : GG Γ K kc ks (N, σ', c, t) pc L st) : GG Γ K kc ks (N, σ, c, t) pc L st := by
  obtain ⟨p, e, R, s, m, args, below, meth, c0, Q, d, MC, MS⟩ := K
  intro H locs cells slots ls r1 r2 r3 r4 r5 r6
  refine kk H locs cells slots ls ⟨r1.1, r1.2.1, fun k hk => ?_⟩ r2 r3 r4 r5 r6
  have h2 : z_ce Γ (N, σ', c, t) k = z_ce Γ (N, σ, c, t) k := z_ce_congr (h k hk).symm rfl rfl
  rw [h2]
  exact r1.2.2 k hk
theorem g_room {w : zW} (kc' ks' : Nat) (h1 : kc' ≤ kc) (h2 : ks' ≤ ks) (kk : GG Γ K kc' ks' w pc L st) : GG Γ K kc ks w pc L st := by
  obtain ⟨p, e, R, s, m, args, below, meth, c0, Q, d, MC, MS⟩ := K
  intro H locs cells slots ls r1 r2 r3 r4 r5 r6
  exact kk H locs cells slots ls r1 r2 r3 (by omega) (by omega) r6
theorem g_callI0v {w : zW} (C : z_C Γ K cc own nL) {idx k d d' mc ms : Nat} {y : MethodName} {bs : ByteArray} {mL : Nat} {P : zW → Prop} (hd : decode cc pc = .ok (.invokespecial idx, 3)) (hl : z_IL own idx (y, bs, mL, none) 0) (hS : Sp Γ d' (y, bs, mL, none) [.ref k] mc ms w (z_pv P)) (hKd : z_d K = d) (hdd : d' < d) (hL : L.length = nL) (hW : (st.map fun v => v.category).sum ≤ 8) (hmc : mc ≤ kc) (hms : ms ≤ ks) (hk : k < w.1) (kk : ∀ w', P w' → GG Γ K (kc - mc) (ks - ms) w' (pc + 3) L st) : GG Γ K kc ks w pc L (.ref k :: st) := g_callI0 C hd hl hS hKd hdd hL hW hmc hms hk (fun r w' ⟨e, h⟩ => by subst e; exact kk w' h)
end ZSH
theorem uS_s (σ : Nat → zS) (k : Nat) (x : zS) : z_upS σ k x k = x := if_pos rfl
theorem uS_k {σ : Nat → zS} {k a : Nat} {x : zS} (h : a ≠ k) : z_upS σ k x a = σ a := if_neg h
theorem uS_u (σ : Nat → zS) (k a : Nat) (x y : zS) : z_upS (z_upS σ k x) k y a = z_upS σ k y a := by
  unfold z_upS
  split <;> rfl
theorem zr_s (c : Nat → Nat → Int32) (k : Nat) (f : Nat → Int32) : z_row c k f k = f := if_pos rfl
theorem zr_k {c : Nat → Nat → Int32} {k a : Nat} {f : Nat → Int32} (h : a ≠ k) : z_row c k f a = c a := if_neg h
/-- an object that gets a row: what its place and the row's show -/
theorem uS_p {σ : Nat → zS} {n q k : Nat} {x y B : zS} (hq : q ≠ n) : z_upS (z_upS (z_upS σ n x) q B) n y k = z_upS (z_upS σ q B) n y k := by
  unfold z_upS
  by_cases h : k = n
  · rw [if_pos h, if_pos h]
  · rw [if_neg h, if_neg h, if_neg h]
theorem uS_q {σ : Nat → zS} {n q k : Nat} {y B : zS} (hB : σ q = B) : z_upS (z_upS σ q B) n y k = z_upS σ n y k := by
  unfold z_upS
  by_cases h : k = n
  · rw [if_pos h, if_pos h]
  · rw [if_neg h, if_neg h]
    by_cases h2 : k = q
    · rw [if_pos h2, h2, hB]
    · rw [if_neg h2]
theorem uS_e {σ : Nat → zS} {n k : Nat} {y : zS} (hy : σ n = y) : z_upS σ n y k = σ k := by
  unfold z_upS
  by_cases h : k = n
  · rw [if_pos h, h, hy]
  · rw [if_neg h]
set_option maxRecDepth 100000 in
set_option maxHeartbeats 4000000 in
theorem k_fill {Γ : zG} {σ : Nat → zS} {N : Nat} {c : Nat → Nat → Int32} {t : Nat → Int64} {k n0 : Nat} {x : Int32} {f : Nat → Option Nat} (hk : k < N) (hs : σ k = .inl (0, n0, f)) (hn : n0 < 2 ^ 31) : Sp Γ 0 mJ7_fill_53178 [.ref k, .int x] 0 0 (N, σ, c, t) (z_pv (fun w => w = (N, σ, z_fill c k n0 x, t))) := by
  refine Sp.of (own := RJ7) 2 false rfl (by decide +kernel) rfl rfl (fun h => by cases h) (fun K hKd M => ?_)
  have C := M.1
  show GG Γ K 0 0 (N, σ, c, t) 0 [some (.ref k), some (.int x), none, none] []
  have H5 : ∀ (n : Nat) (i : Nat), i ≤ n0 → n0 - i < n → GG Γ K 0 0 (N, σ, z_fill c k i x, t) 5 [some (.ref k), some (.int x), some (.int (nI i)), some (.int (nI n0))] [] := by
    intro n
    induction n with
    | zero => intro i hi hm; exact absurd hm (by omega)
    | succ n ih =>
      intro i hi hm
      refine g_iload2 C dJ7_fill_53178_5 ?_
      refine g_iload3 C dJ7_fill_53178_6 ?_
      refine g_icmp_geN C 20 (by omega) (by omega) dJ7_fill_53178_7 (by decide) (fun h7 => ?_) (fun h7 => ?_)
      · have : i = n0 := by omega
        subst this
        exact g_retv M dJ7_fill_53178_20 rfl
      · refine g_aload0 C dJ7_fill_53178_10 ?_
        refine g_iload2 C dJ7_fill_53178_11 ?_
        refine g_iload1 C dJ7_fill_53178_12 ?_
        refine g_iastN C (by omega) hn dJ7_fill_53178_13 hk hs ?_
        refine g_con (z_fill_s c k _ x) rfl ?_
        refine g_iinc2N C dJ7_fill_53178_14 ?_
        refine g_goto C 5 dJ7_fill_53178_17 (by decide) ?_
        exact ih (i + 1) (by omega) (by omega)
  refine g_iconst C (nI 0) dJ7_fill_53178_0 (by decide) ?_
  refine g_istore2 C dJ7_fill_53178_1 ?_
  refine g_aload0 C dJ7_fill_53178_2 ?_
  refine g_alen C dJ7_fill_53178_3 hk hs ?_
  refine g_istore3 C dJ7_fill_53178_4 ?_
  refine g_con (z_fill_0 c k x).symm rfl ?_
  exact H5 (n0 + 1) 0 (by omega) (by omega)
set_option maxRecDepth 100000 in
set_option maxHeartbeats 4000000 in
theorem k_text {Γ : zG} {σ : Nat → zS} {n : Nat} {c : Nat → Nat → Int32} {t : Nat → Int64} (hn : n + 2 ≤ 100) (h0 : σ n = .inr (4, [.inr (some (n + 1)), .inl 0, .inl 0, .inl 0, .inl 0, .inl 0])) (h1 : σ (n + 1) = z_ar 0 200) : Sp Γ 1 mX4_init [.ref n] 1 200 (n + 1, z_upS σ n (.inr (4, [.inr none, .inl 0, .inl 0, .inl 0, .inl 0, .inl 0])), c, t) (z_pv fun w => ∃ c' t', w = (n + 2, σ, c', t') ∧ (∀ a, a ≤ n → c' a = c a) ∧ ∀ a, a ≤ n → t' a = t a) := by
  refine Sp.of (own := RX4) 0 true rfl (by decide +kernel) rfl rfl (fun _ => rfl) (fun K hKd M => ?_)
  have C := M.1
  show GG Γ K 1 200 (n + 1, z_upS σ n (.inr (4, [.inr none, .inl 0, .inl 0, .inl 0, .inl 0, .inl 0])), c, t) 0 [some (.ref n)] []
  refine g_aload0 C dX4_init_0 ?_
  refine g_objInit C dX4_init_1 olX4_3 hKd (by decide) rfl (Nat.le_of_ble_eq_true rfl) ?_
  refine g_aload0 C dX4_init_4 ?_
  refine g_sipush C (nI 200) dX4_init_5 (by decide) ?_
  refine z_newA C 0 (Or.inl ⟨rfl, rfl⟩) dX4_init_8 ka_int (by decide) (by omega) (Nat.le_of_ble_eq_true rfl) (Nat.le_of_ble_eq_true rfl) ?_
  refine g_putR C M dX4_init_10 fpX4_9 (by omega) (by omega) ((uS_k (by omega)).trans (uS_s _ _ _)) rfl (fun _ => rfl) (fun _ => rfl) ?_
  refine g_shape (z_upS σ n (.inr (4, [.inr (some (n + 1)), .inl 0, .inl 0, .inl 0, .inl 0, .inl 0]))) (fun k _ => (uS_p (by omega)).trans (uS_q h1)) ?_
  refine g_shape σ (fun k _ => uS_e h0) ?_
  exact g_retv M dX4_init_13 ⟨_, _, rfl, fun a ha => zr_k (by omega), fun a ha => upL_k (by omega)⟩
set_option maxRecDepth 100000 in
set_option maxHeartbeats 4000000 in
theorem k_crew {Γ : zG} {σ : Nat → zS} {n : Nat} {c : Nat → Nat → Int32} {t : Nat → Int64} (hn : n + 4 ≤ 100) (h0 : σ n = .inr (0, [.inr (some (n + 1)), .inr (some (n + 2)), .inr (some (n + 3)), .inl 0, .inl 0, .inl 0])) (h1 : σ (n + 1) = z_ar 0 7) (h2 : σ (n + 2) = z_ar 0 7) (h3 : σ (n + 3) = z_ar 0 7) : Sp Γ 1 mX0_init [.ref n] 3 21 (n + 1, z_upS σ n (.inr (0, [.inr none, .inr none, .inr none, .inl 0, .inl 0, .inl 0])), c, t) (z_pv fun w => ∃ c' t', w = (n + 4, σ, c', t') ∧ (∀ a, a < n → c' a = c a) ∧ (∀ a, a ≤ n → t' a = t a) ∧ c' n 3 = c n 3 ∧ c' n 4 = nI 3 ∧ c' n 5 = nI 8) := by
  refine Sp.of (own := RX0) 0 true rfl (by decide +kernel) rfl rfl (fun _ => rfl) (fun K hKd M => ?_)
  have C := M.1
  show GG Γ K 3 21 (n + 1, z_upS σ n (.inr (0, [.inr none, .inr none, .inr none, .inl 0, .inl 0, .inl 0])), c, t) 0 [some (.ref n)] []
  refine g_aload0 C dX0_init_0 ?_
  refine g_objInit C dX0_init_1 olX0_3 hKd (by decide) rfl (Nat.le_of_ble_eq_true rfl) ?_
  refine g_aload0 C dX0_init_4 ?_
  refine g_bipush C (nI 7) dX0_init_5 (by decide) ?_
  refine z_newA C 0 (Or.inl ⟨rfl, rfl⟩) dX0_init_7 ka_int (by decide) (by omega) (Nat.le_of_ble_eq_true rfl) (Nat.le_of_ble_eq_true rfl) ?_
  refine g_putR C M dX0_init_9 fpX0_9 (by omega) (by omega) ((uS_k (by omega)).trans (uS_s _ _ _)) rfl (fun _ => rfl) (fun _ => rfl) ?_
  refine g_shape (z_upS σ n (.inr (0, [.inr (some (n + 1)), .inr none, .inr none, .inl 0, .inl 0, .inl 0]))) (fun k _ => (uS_p (by omega)).trans (uS_q h1)) ?_
  refine g_aload0 C dX0_init_12 ?_
  refine g_bipush C (nI 7) dX0_init_13 (by decide) ?_
  refine z_newA C 0 (Or.inl ⟨rfl, rfl⟩) dX0_init_15 ka_int (by decide) (by omega) (Nat.le_of_ble_eq_true rfl) (Nat.le_of_ble_eq_true rfl) ?_
  refine g_putR C M dX0_init_17 fpX0_15 (by omega) (by omega) ((uS_k (by omega)).trans (uS_s _ _ _)) rfl (fun _ => rfl) (fun _ => rfl) ?_
  refine g_shape (z_upS σ n (.inr (0, [.inr (some (n + 1)), .inr (some (n + 2)), .inr none, .inl 0, .inl 0, .inl 0]))) (fun k _ => (uS_p (by omega)).trans (uS_q h2)) ?_
  refine g_aload0 C dX0_init_20 ?_
  refine g_bipush C (nI 7) dX0_init_21 (by decide) ?_
  refine z_newA C 0 (Or.inl ⟨rfl, rfl⟩) dX0_init_23 ka_int (by decide) (by omega) (Nat.le_of_ble_eq_true rfl) (Nat.le_of_ble_eq_true rfl) ?_
  refine g_putR C M dX0_init_25 fpX0_18 (by omega) (by omega) ((uS_k (by omega)).trans (uS_s _ _ _)) rfl (fun _ => rfl) (fun _ => rfl) ?_
  refine g_shape (z_upS σ n (.inr (0, [.inr (some (n + 1)), .inr (some (n + 2)), .inr (some (n + 3)), .inl 0, .inl 0, .inl 0]))) (fun k _ => (uS_p (by omega)).trans (uS_q h3)) ?_
  refine g_shape σ (fun k _ => uS_e h0) ?_
  refine g_aload0 C dX0_init_28 ?_
  refine g_iconst C (nI 3) dX0_init_29 (by decide) ?_
  refine g_putI C dX0_init_30 fpX0_21 (by omega) h0 rfl rfl rfl ?_
  refine g_aload0 C dX0_init_33 ?_
  refine g_bipush C (nI 8) dX0_init_34 (by decide) ?_
  refine g_putI C dX0_init_36 fpX0_25 (by omega) h0 rfl rfl rfl ?_
  exact g_retv M dX0_init_39 ⟨_, _, rfl, fun a ha => by rw [up_K (by omega), up_K (by omega), zr_k (by omega), zr_k (by omega), zr_k (by omega)], fun a ha => by rw [upL_k (by omega), upL_k (by omega), upL_k (by omega)], by rw [up_j _ (by decide), up_j _ (by decide), zr_k (by omega), zr_k (by omega), zr_k (by omega)], by rw [up_j _ (by decide), up_s], up_s _ _ _ _⟩
set_option maxRecDepth 100000 in
set_option maxHeartbeats 4000000 in
theorem k_moment {Γ : zG} {σ : Nat → zS} {n : Nat} {c : Nat → Nat → Int32} {t : Nat → Int64} (hn : n + 3 ≤ 100) (h0 : σ n = .inr (1, [.inr (some (n + 1)), .inr (some (n + 2)), .inl 0, .inl 0])) (h1 : σ (n + 1) = z_ar 0 8) (h2 : σ (n + 2) = z_ar 0 8) : Sp Γ 1 mX1_init [.ref n] 2 16 (n + 1, z_upS σ n (.inr (1, [.inr none, .inr none, .inl 0, .inl 0])), c, t) (z_pv fun w => ∃ c' t', w = (n + 3, σ, c', t') ∧ (∀ a, a ≤ n → c' a = c a) ∧ (∀ a, a ≤ n → t' a = t a) ∧ (∀ k, k < 8 → c' (n + 1) k = -9) ∧ ∀ k, c' (n + 2) k = 0) := by
  refine Sp.of (own := RX1) 0 true rfl (by decide +kernel) rfl rfl (fun _ => rfl) (fun K hKd M => ?_)
  have C := M.1
  show GG Γ K 2 16 (n + 1, z_upS σ n (.inr (1, [.inr none, .inr none, .inl 0, .inl 0])), c, t) 0 [some (.ref n)] []
  refine g_aload0 C dX1_init_0 ?_
  refine g_objInit C dX1_init_1 olX1_3 hKd (by decide) rfl (Nat.le_of_ble_eq_true rfl) ?_
  refine g_aload0 C dX1_init_4 ?_
  refine g_bipush C (nI 8) dX1_init_5 (by decide) ?_
  refine z_newA C 0 (Or.inl ⟨rfl, rfl⟩) dX1_init_7 ka_int (by decide) (by omega) (Nat.le_of_ble_eq_true rfl) (Nat.le_of_ble_eq_true rfl) ?_
  refine g_putR C M dX1_init_9 fpX1_9 (by omega) (by omega) ((uS_k (by omega)).trans (uS_s _ _ _)) rfl (fun _ => rfl) (fun _ => rfl) ?_
  refine g_shape (z_upS σ n (.inr (1, [.inr (some (n + 1)), .inr none, .inl 0, .inl 0]))) (fun k _ => (uS_p (by omega)).trans (uS_q h1)) ?_
  refine g_aload0 C dX1_init_12 ?_
  refine g_bipush C (nI 8) dX1_init_13 (by decide) ?_
  refine z_newA C 0 (Or.inl ⟨rfl, rfl⟩) dX1_init_15 ka_int (by decide) (by omega) (Nat.le_of_ble_eq_true rfl) (Nat.le_of_ble_eq_true rfl) ?_
  refine g_putR C M dX1_init_17 fpX1_15 (by omega) (by omega) ((uS_k (by omega)).trans (uS_s _ _ _)) rfl (fun _ => rfl) (fun _ => rfl) ?_
  refine g_shape (z_upS σ n (.inr (1, [.inr (some (n + 1)), .inr (some (n + 2)), .inl 0, .inl 0]))) (fun k _ => (uS_p (by omega)).trans (uS_q h2)) ?_
  refine g_shape σ (fun k _ => uS_e h0) ?_
  refine g_aload0 C dX1_init_20 ?_
  refine g_getRT C dX1_init_21 flX1_9 (by omega) h0 rfl (by omega) ?_
  refine g_bipush C (-9) dX1_init_24 (by decide) ?_
  refine g_callS2v C dX1_init_26 slX1_18 (k_fill (by omega) h1 (by decide)) hKd (by decide) rfl (Nat.le_of_ble_eq_true rfl) ?_
  rintro _ rfl
  exact g_retv M dX1_init_29 ⟨_, _, rfl, fun a ha => by rw [z_fill_k (by omega), zr_k (by omega), zr_k (by omega)], fun a ha => by rw [upL_k (by omega), upL_k (by omega)], fun k hk => z_fill_i hk, fun k => by rw [z_fill_k (by omega), zr_s]⟩
set_option maxRecDepth 100000 in
set_option maxHeartbeats 4000000 in
theorem k_orders {Γ : zG} {σ : Nat → zS} {n : Nat} {c : Nat → Nat → Int32} {t : Nat → Int64} (hn : n + 4 ≤ 100) (h0 : σ n = .inr (2, [.inr (some (n + 1)), .inr (some (n + 2)), .inr (some (n + 3)), .inl 0, .inl 0, .inl 0])) (h1 : σ (n + 1) = z_ar 0 5040) (h2 : σ (n + 2) = z_ar 0 5040) (h3 : σ (n + 3) = z_ar 0 7) : Sp Γ 1 mX2_init [.ref n] 3 10087 (n + 1, z_upS σ n (.inr (2, [.inr none, .inr none, .inr none, .inl 0, .inl 0, .inl 0])), c, t) (z_pv fun w => ∃ c' t', w = (n + 4, σ, c', t') ∧ (∀ a, a < n → c' a = c a) ∧ (∀ a, a ≤ n → t' a = t a)) := by
  refine Sp.of (own := RX2) 0 true rfl (by decide +kernel) rfl rfl (fun _ => rfl) (fun K hKd M => ?_)
  have C := M.1
  show GG Γ K 3 10087 (n + 1, z_upS σ n (.inr (2, [.inr none, .inr none, .inr none, .inl 0, .inl 0, .inl 0])), c, t) 0 [some (.ref n)] []
  refine g_aload0 C dX2_init_0 ?_
  refine g_objInit C dX2_init_1 olX2_5 hKd (by decide) rfl (Nat.le_of_ble_eq_true rfl) ?_
  refine g_aload0 C dX2_init_4 ?_
  refine g_sipush C (nI 5040) dX2_init_5 (by decide) ?_
  refine z_newA C 0 (Or.inl ⟨rfl, rfl⟩) dX2_init_8 ka_int (by decide) (by omega) (Nat.le_of_ble_eq_true rfl) (Nat.le_of_ble_eq_true rfl) ?_
  refine g_putR C M dX2_init_10 fpX2_11 (by omega) (by omega) ((uS_k (by omega)).trans (uS_s _ _ _)) rfl (fun _ => rfl) (fun _ => rfl) ?_
  refine g_shape (z_upS σ n (.inr (2, [.inr (some (n + 1)), .inr none, .inr none, .inl 0, .inl 0, .inl 0]))) (fun k _ => (uS_p (by omega)).trans (uS_q h1)) ?_
  refine g_aload0 C dX2_init_13 ?_
  refine g_sipush C (nI 5040) dX2_init_14 (by decide) ?_
  refine z_newA C 0 (Or.inl ⟨rfl, rfl⟩) dX2_init_17 ka_int (by decide) (by omega) (Nat.le_of_ble_eq_true rfl) (Nat.le_of_ble_eq_true rfl) ?_
  refine g_putR C M dX2_init_19 fpX2_15 (by omega) (by omega) ((uS_k (by omega)).trans (uS_s _ _ _)) rfl (fun _ => rfl) (fun _ => rfl) ?_
  refine g_shape (z_upS σ n (.inr (2, [.inr (some (n + 1)), .inr (some (n + 2)), .inr none, .inl 0, .inl 0, .inl 0]))) (fun k _ => (uS_p (by omega)).trans (uS_q h2)) ?_
  refine g_aload0 C dX2_init_22 ?_
  refine g_bipush C (nI 7) dX2_init_23 (by decide) ?_
  refine z_newA C 0 (Or.inl ⟨rfl, rfl⟩) dX2_init_25 ka_int (by decide) (by omega) (Nat.le_of_ble_eq_true rfl) (Nat.le_of_ble_eq_true rfl) ?_
  refine g_putR C M dX2_init_27 fpX2_18 (by omega) (by omega) ((uS_k (by omega)).trans (uS_s _ _ _)) rfl (fun _ => rfl) (fun _ => rfl) ?_
  refine g_shape (z_upS σ n (.inr (2, [.inr (some (n + 1)), .inr (some (n + 2)), .inr (some (n + 3)), .inl 0, .inl 0, .inl 0]))) (fun k _ => (uS_p (by omega)).trans (uS_q h3)) ?_
  refine g_shape σ (fun k _ => uS_e h0) ?_
  exact g_retv M dX2_init_30 ⟨_, _, rfl, fun a ha => by rw [zr_k (by omega), zr_k (by omega), zr_k (by omega)], fun a ha => by rw [upL_k (by omega), upL_k (by omega), upL_k (by omega)]⟩
