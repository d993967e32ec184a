/-! the reference: its text read -/
set_option maxRecDepth 100000 in
set_option maxHeartbeats 4000000 in
theorem n_number {Γ : zG} {c : Nat → Nat → Int32} {t : Nat → Int64} {len : Nat} {f : Nat → Nat} (hX : TmC c len f) {p : Nat} (hp : p ≤ len) (h10 : c 56 10 = nI p) {pl lo hi : Nat} (hpl : pl < 26) (hlo : lo ≤ 127) (hhi : hi ≤ 127) : Sp Γ 3 mX6_number [.ref 56, .int (nI pl), .int (nI lo), .int (nI hi)] 0 0 (wF c t) (z_pi (fun v w => v = nI (zNu (zTok f len p).2.2 lo hi).toNat ∧ ∃ c', w = wF c' t ∧ FrN pl c c' ∧ c' 56 10 = nI (zTok f len p).2.1 ∧ c' 56 12 = nI (zTok f len p).1 ∧ (zNu (zTok f len p).2.2 lo hi = true → c' 59 pl = nI (zTok f len p).2.2))) := by
  refine Sp.of (own := RX6) 0 false rfl (by decide +kernel) rfl rfl (fun h => by cases h) (fun K hKd M => ?_)
  have C := M.1
  show GG Γ K 0 0 (wF c t) 0 [some (.ref 56), some (.int (nI pl)), some (.int (nI lo)), some (.int (nI hi))] []
  refine g_aload0 C dX6_number_0 ?_
  refine g_callV0v C dX6_number_1 vlX6_80 (n_token hX hp h10) hKd (by first | decide | omega) rfl (Nat.le_of_ble_eq_true rfl) (show 56 < 68 by decide) rfl ?_
  rintro _ ⟨c1, rfl, hF, g10, g12, gTC⟩
  refine g_aload0 C dX6_number_4 ?_
  refine g_getRT C dX6_number_5 flX6_16 (show 56 < 68 by decide) rfl rfl (by decide) ?_
  refine g_iload1 C dX6_number_8 ?_
  refine g_aload0 C dX6_number_9 ?_
  refine g_getIT C dX6_number_10 flX6_77 (show 56 < 68 by decide) rfl rfl ?_
  refine g_iastN C hpl (by decide) dX6_number_13 (show 59 < 68 by decide) rfl ?_
  refine g_aload0 C dX6_number_14 ?_
  refine g_getIT C dX6_number_15 flX6_74 (show 56 < 68 by decide) rfl rfl ?_
  refine g_iconst C (nI 2) dX6_number_18 (by decide) ?_
  refine g_icmp_ne C 38 dX6_number_19 (by decide) (fun h19 => ?_) (fun h19 => ?_)
  · -- X6_number 19t
    have hk := zTC_n2 gTC (fun e => h19 ((up_k (by decide) _).trans e))
    have hnu : zNu (zTok f len p).2.2 lo hi = false := decide_eq_false (by omega)
    refine g_iconst C (nI 0) dX6_number_38 (by decide) ?_
    exact g_ret0 M dX6_number_39 (⟨by first | (rw [hnu]; rfl) | (rw [hb31.1, h31]; rfl), _, rfl, ⟨fun a h1 h2 => (up_K h2).trans (hF.1 a h1), fun b h1 h2 h3 h4 => (up_k (by decide) b).trans (hF.2 b h1 h2 h3 h4), fun b hb => (up_j _ hb).trans (congrFun (hF.1 59 (by decide)) b)⟩, (up_k (by decide) _).trans g10, (up_k (by decide) _).trans g12, fun e => by first | (rw [hnu] at e; cases e) | (rw [hb31.1, h31] at e; cases e)⟩)
  · -- X6_number 19f
    have hk := zTC_2 gTC (((up_k (by decide) _).symm).trans h19)
    have hb31 : zNu (zTok f len p).2.2 lo hi = zIn (z_up c1 59 pl (c1 56 13) 56 13) (nI lo) (nI hi) ∧ (zNu (zTok f len p).2.2 lo hi = true → c1 56 13 = nI (zTok f len p).2.2) := by
      rw [up_k (by decide)]
      rcases hk with ⟨q1, q2⟩ | ⟨q1, m, q2, q3, q4⟩
      · rw [q2, zIn_nn (by omega) (by omega) (by omega)]; exact ⟨rfl, fun _ => rfl⟩
      · rw [q4, zIn_nn q3 (by omega) (by omega)]; exact ⟨(decide_eq_false (by omega)).trans (decide_eq_false (by omega)).symm, fun e => absurd (of_decide_eq_true e) (by omega)⟩
    refine g_aload0 C dX6_number_22 ?_
    refine g_getIT C dX6_number_23 flX6_77 (show 56 < 68 by decide) rfl rfl ?_
    refine g_iload2 C dX6_number_26 ?_
    refine g_iload3 C dX6_number_27 ?_
    refine g_callS3i C dX6_number_28 slX6_52 (n_in) hKd (by first | decide | omega) rfl (Nat.le_of_ble_eq_true rfl) ?_
    rintro _ _ ⟨rfl, rfl⟩
    refine g_if_eqB C 38 dX6_number_31 (by decide) (fun h31 => ?_) (fun h31 => ?_)
    · -- X6_number 31t
      
      refine g_iconst C (nI 0) dX6_number_38 (by decide) ?_
      exact g_ret0 M dX6_number_39 (⟨by first | (rw [hnu]; rfl) | (rw [hb31.1, h31]; rfl), _, rfl, ⟨fun a h1 h2 => (up_K h2).trans (hF.1 a h1), fun b h1 h2 h3 h4 => (up_k (by decide) b).trans (hF.2 b h1 h2 h3 h4), fun b hb => (up_j _ hb).trans (congrFun (hF.1 59 (by decide)) b)⟩, (up_k (by decide) _).trans g10, (up_k (by decide) _).trans g12, fun e => by first | (rw [hnu] at e; cases e) | (rw [hb31.1, h31] at e; cases e)⟩)
    · -- X6_number 31f
      
      refine g_iconst C (nI 1) dX6_number_34 (by decide) ?_
      refine g_goto C 39 dX6_number_35 (by decide) ?_
      exact g_ret1 M dX6_number_39 (⟨by rw [hb31.1, h31]; rfl, _, rfl, ⟨fun a h1 h2 => (up_K h2).trans (hF.1 a h1), fun b h1 h2 h3 h4 => (up_k (by decide) b).trans (hF.2 b h1 h2 h3 h4), fun b hb => (up_j _ hb).trans (congrFun (hF.1 59 (by decide)) b)⟩, (up_k (by decide) _).trans g10, (up_k (by decide) _).trans g12, fun e => (up_s _ _ _ _).trans (hb31.2 e)⟩)
set_option maxRecDepth 100000 in
set_option maxHeartbeats 4000000 in
theorem n_once {Γ : zG} {c : Nat → Nat → Int32} {t : Nat → Int64} {len : Nat} {f : Nat → Nat} (hX : TmC c len f) {p : Nat} (hp : p ≤ len) (h10 : c 56 10 = nI p) {pl o bit hi : Nat} (hpl : pl < 26) (hhi : hi ≤ 127) (ho : o ≤ 3) (hbit : bit < 4) (h4 : c 59 4 = nI o) : Sp Γ 4 mX6_once [.ref 56, .int (nI bit), .int (nI pl), .int (nI hi)] 0 0 (wF c t) (z_pi (fun v w => (o &&& bit ≠ 0 → v = nI 0 ∧ w = wF c t) ∧ (o &&& bit = 0 → v = nI (zNu (zTok f len p).2.2 1 hi).toNat ∧ ∃ c', w = wF c' t ∧ FrN pl (z_up c 59 4 (nI (o ||| bit))) c' ∧ c' 56 10 = nI (zTok f len p).2.1 ∧ c' 56 12 = nI (zTok f len p).1 ∧ (zNu (zTok f len p).2.2 1 hi = true → c' 59 pl = nI (zTok f len p).2.2)))) := by
  refine Sp.of (own := RX6) 0 false rfl (by decide +kernel) rfl rfl (fun h => by cases h) (fun K hKd M => ?_)
  have C := M.1
  show GG Γ K 0 0 (wF c t) 0 [some (.ref 56), some (.int (nI bit)), some (.int (nI pl)), some (.int (nI hi))] []
  refine g_aload0 C dX6_once_0 ?_
  refine g_getRT C dX6_once_1 flX6_16 (show 56 < 68 by decide) rfl rfl (by decide) ?_
  refine g_iconst C (nI 4) dX6_once_4 (by decide) ?_
  refine g_ialdE C h4 (by omega) (by decide) dX6_once_5 (show 59 < 68 by decide) rfl ?_
  refine g_iload1 C dX6_once_6 ?_
  refine g_iandN C dX6_once_7 ?_
  refine g_if_eqN C 13 (zand_r (by omega)) dX6_once_8 (by decide) (fun h8 => ?_) (fun h8 => ?_)
  · -- X6_once 8t
    
    refine g_aload0 C dX6_once_13 ?_
    refine g_getRT C dX6_once_14 flX6_16 (show 56 < 68 by decide) rfl rfl (by decide) ?_
    refine g_iconst C (nI 4) dX6_once_17 (by decide) ?_
    refine g_dup2 C dX6_once_18 rfl rfl ?_
    refine g_ialdE C h4 (by omega) (by decide) dX6_once_19 (show 59 < 68 by decide) rfl ?_
    refine g_iload1 C dX6_once_20 ?_
    refine g_iorN C dX6_once_21 ?_
    refine g_iastN C (by omega) (by decide) dX6_once_22 (show 59 < 68 by decide) rfl ?_
    refine g_aload0 C dX6_once_23 ?_
    refine g_iload2 C dX6_once_24 ?_
    refine g_iconst C (nI 1) dX6_once_25 (by decide) ?_
    refine g_iload3 C dX6_once_26 ?_
    refine g_callV3i C dX6_once_27 vlX6_83 (n_number (hX.frr FrR.u59) hp ((up_k (by decide) _).trans h10) hpl (show 1 ≤ 127 by decide) hhi) hKd (by first | decide | omega) rfl (Nat.le_of_ble_eq_true rfl) (show 56 < 68 by decide) rfl ?_
    rintro _ _ ⟨rfl, hw⟩
    exact g_retb M dX6_once_30 (⟨fun e => absurd h8 e, fun _ => ⟨rfl, hw⟩⟩)
  · -- X6_once 8f
    
    refine g_iconst C (nI 0) dX6_once_11 (by decide) ?_
    exact g_ret0 M dX6_once_12 (⟨fun _ => ⟨rfl, rfl⟩, fun e => absurd e (by omega)⟩)
theorem DrM.enl {r r' : Nat → Int32} {D : zDr} {it x y z : Nat} (h : DrM r D it) (hN : cN D.1 < 7) (hf : ∀ b, b ≠ 5 + cN D.1 → b ≠ 12 + cN D.1 → b ≠ 19 + cN D.1 → b ≠ 0 → r' b = r b) (h0 : r' 0 = nI (cN D.1 + 1)) (hx : r' (5 + cN D.1) = nI x) (hy : r' (12 + cN D.1) = nI y) (hz : r' (19 + cN D.1) = nI z) : DrM r' (zEnl D.1 x y z, D.2) it := by
  obtain ⟨a0, a1, a2, a3, a4, a5, a6, a7⟩ := h
  refine ⟨h0, by rw [hf 1 (by omega) (by omega) (by omega) (by decide)]; exact a1, by rw [hf 2 (by omega) (by omega) (by omega) (by decide)]; exact a2, by rw [hf 3 (by omega) (by omega) (by omega) (by decide)]; exact a3, by rw [hf 4 (by omega) (by omega) (by omega) (by decide)]; exact a4, fun i hi => ?_, fun i hi => ?_, fun i hi => ?_⟩
  · have hi : i < cN D.1 + 1 := hi
    show r' (5 + i) = nI (if i = cN D.1 then x else cW D.1 i)
    by_cases e : i = cN D.1
    · rw [e, if_pos rfl]; exact hx
    · rw [if_neg e, hf _ (by omega) (by omega) (by omega) (by omega)]; exact a5 i (by omega)
  · have hi : i < cN D.1 + 1 := hi
    show r' (12 + i) = nI (if i = cN D.1 then y else cC D.1 i)
    by_cases e : i = cN D.1
    · rw [e, if_pos rfl]; exact hy
    · rw [if_neg e, hf _ (by omega) (by omega) (by omega) (by omega)]; exact a6 i (by omega)
  · have hi : i < cN D.1 + 1 := hi
    show r' (19 + i) = nI (if i = cN D.1 then z else cT D.1 i)
    by_cases e : i = cN D.1
    · rw [e, if_pos rfl]; exact hz
    · rw [if_neg e, hf _ (by omega) (by omega) (by omega) (by omega)]; exact a7 i (by omega)
theorem DrM.dip {c c' : Nat → Nat → Int32} {D : zDr} {it x : Nat} (h : DrM (c 59) D it) (hfl : D.2.1 = false) (hf : ∀ b, b ≠ 1 → c' 59 b = z_up c 59 4 (nI ((D.2.1.toNat + 2 * D.2.2.toNat) ||| 1)) 59 b) (hx : c' 59 1 = nI x) : DrM (c' 59) ((cN D.1, cW D.1, cC D.1, cT D.1, x, cS D.1), true, D.2.2) it := by
  obtain ⟨a0, a1, a2, a3, a4, a5, a6, a7⟩ := h
  have hg : ∀ b, b ≠ 1 → b ≠ 4 → c' 59 b = c 59 b := fun b h1 h4 => (hf b h1).trans (up_j _ h4)
  refine ⟨by rw [hg 0 (by decide) (by decide)]; exact a0, hx, by rw [hg 2 (by decide) (by decide)]; exact a2, by rw [hg 3 (by decide) (by decide)]; exact a3, ?_, fun i hi => by rw [hg _ (by omega) (by omega)]; exact a5 i hi, fun i hi => by rw [hg _ (by omega) (by omega)]; exact a6 i hi, fun i hi => by rw [hg _ (by omega) (by omega)]; exact a7 i hi⟩
  rw [hf 4 (by decide), up_s, hfl]
  cases D.2.2 <;> rfl
theorem DrM.sea {c c' : Nat → Nat → Int32} {D : zDr} {it x : Nat} (h : DrM (c 59) D it) (hfl : D.2.2 = false) (hf : ∀ b, b ≠ 2 → c' 59 b = z_up c 59 4 (nI ((D.2.1.toNat + 2 * D.2.2.toNat) ||| 2)) 59 b) (hx : c' 59 2 = nI x) : DrM (c' 59) ((cN D.1, cW D.1, cC D.1, cT D.1, cD D.1, x), D.2.1, true) it := by
  obtain ⟨a0, a1, a2, a3, a4, a5, a6, a7⟩ := h
  have hg : ∀ b, b ≠ 2 → b ≠ 4 → c' 59 b = c 59 b := fun b h1 h4 => (hf b h1).trans (up_j _ h4)
  refine ⟨by rw [hg 0 (by decide) (by decide)]; exact a0, by rw [hg 1 (by decide) (by decide)]; exact a1, hx, by rw [hg 3 (by decide) (by decide)]; exact a3, ?_, fun i hi => by rw [hg _ (by omega) (by omega)]; exact a5 i hi, fun i hi => by rw [hg _ (by omega) (by omega)]; exact a6 i hi, fun i hi => by rw [hg _ (by omega) (by omega)]; exact a7 i hi⟩
  rw [hf 4 (by decide), up_s, hfl]
  cases D.2.1 <;> rfl
set_option maxRecDepth 100000 in
set_option maxHeartbeats 4000000 in
theorem n_readsItem {Γ : zG} {c : Nat → Nat → Int32} {t : Nat → Int64} {len : Nat} {f : Nat → Nat} (hX : TmC c len f) {p : Nat} (hp : p ≤ len) (h10 : c 56 10 = nI p) {k0 s0 it : Nat} {D : zDr} (h12 : c 56 12 = nI s0) (hC : zTC k0 (c 56 11) (c 56 13)) (hD : DrM (c 59) D it) (hOk : OkD D) : Sp Γ 5 mX6_readsItem [.ref 56] 0 0 (wF c t) (z_pi (fun v w => ∃ c', w = wF c' t ∧ FrR c c' ∧ (∀ e, zIq f len k0 s0 p D = .inl e → v = nI 0 ∧ c' 56 12 = nI e) ∧ ∀ r, zIq f len k0 s0 p D = .inr r → v = nI 1 ∧ c' 56 10 = nI r.1 ∧ r.1 ≤ len ∧ DrM (c' 59) r.2 it)) := by
  refine Sp.of (own := RX6) 2 false rfl (by decide +kernel) rfl rfl (fun h => by cases h) (fun K hKd M => ?_)
  have C := M.1
  show GG Γ K 0 0 (wF c t) 0 [some (.ref 56), none, none] []
  have hl := hX.2.1
  have hp1 := zTok_pos f hp
  have hp2 := zTok_pos f (show (zTok f len p).2.1 ≤ len by omega)
  have hp3 := zTok_pos f (show (zTok f len (zTok f len p).2.1).2.1 ≤ len by omega)
  rcases zTC_1 hC with ⟨x, hx, hk0, hs1, hv1⟩ | ⟨hs1, hk1, hk2, hk3⟩
  · rcases hx with rfl | rfl | rfl
    · -- s
      refine g_aload0 C dX6_readsItem_0 ?_
      refine g_getIE C hs1 dX6_readsItem_1 flX6_74 (show 56 < 68 by decide) rfl rfl ?_
      refine g_iconst C (nI 1) dX6_readsItem_4 (by decide) ?_
      refine g_icmp_neN C 15 (by decide) (by decide) dX6_readsItem_5 (by decide) (fun h5 => absurd h5 (by omega)) (fun h5 => ?_)
      refine g_aload0 C dX6_readsItem_8 ?_
      refine g_getIE C hv1 dX6_readsItem_9 flX6_77 (show 56 < 68 by decide) rfl rfl ?_
      refine g_goto C 16 dX6_readsItem_12 (by decide) ?_
      refine g_istore1 C dX6_readsItem_16 ?_
      refine g_iload1 C dX6_readsItem_17 ?_
      refine g_bipush C (nI 115) dX6_readsItem_18 (by decide) ?_
      refine g_icmp_neN C 90 (by decide) (by decide) dX6_readsItem_20 (by decide) (fun h20 => absurd h20 (by decide)) (fun h20 => ?_)
      refine g_aload0 C dX6_readsItem_23 ?_
      refine g_getRT C dX6_readsItem_24 flX6_16 (show 56 < 68 by decide) rfl rfl (by decide) ?_
      refine g_iconst C (nI 0) dX6_readsItem_27 (by decide) ?_
      refine g_ialdE C hD.1 (by omega) (by decide) dX6_readsItem_28 (show 59 < 68 by decide) rfl ?_
      refine g_istore2 C dX6_readsItem_29 ?_
      refine g_iload2 C dX6_readsItem_30 ?_
      refine g_bipush C (nI 7) dX6_readsItem_31 (by decide) ?_
      refine g_icmp_eqN C 76 (by have := hOk.1; omega) (by decide) dX6_readsItem_33 (by decide) (fun h33 => ?_) (fun h33 => ?_)
      · -- X6_readsItem 33t
        have hIq : zIq f len k0 s0 p D = .inl s0 := by unfold zIq; rw [if_pos hk0, if_pos (by omega)]
        refine g_iconst C (nI 0) dX6_readsItem_76 (by decide) ?_
        exact g_ret0 M dX6_readsItem_77 (by first | exact ⟨c, rfl, FrR.rf c, fun e he => by rw [hIq] at he; cases he; exact ⟨rfl, h12⟩, fun r hr => by rw [hIq] at hr; cases hr⟩ | exact ⟨c1, rfl, hF1.r, fun e he => by rw [hIq] at he; cases he; exact ⟨rfl, a12⟩, fun r hr => by rw [hIq] at hr; cases hr⟩ | exact ⟨c2, rfl, (hF1.r.tr hF2.r), fun e he => by rw [hIq] at he; cases he; exact ⟨rfl, b12⟩, fun r hr => by rw [hIq] at hr; cases hr⟩ | exact ⟨c3, rfl, ((hF1.r.tr hF2.r).tr hF3.r), fun e he => by rw [hIq] at he; cases he; exact ⟨rfl, d12⟩, fun r hr => by rw [hIq] at hr; cases hr⟩)
      · -- X6_readsItem 33f
        have hN7 : cN D.1 < 7 := by have := hOk.1; omega
        refine g_aload0 C dX6_readsItem_36 ?_
        refine g_iconst C (nI 5) dX6_readsItem_37 (by decide) ?_
        refine g_iload2 C dX6_readsItem_38 ?_
        refine g_iaddN C dX6_readsItem_39 ?_
        refine g_iconst C (nI 0) dX6_readsItem_40 (by decide) ?_
        refine g_iconst C (nI 2) dX6_readsItem_41 (by decide) ?_
        refine g_callV3i C dX6_readsItem_42 vlX6_83 (n_number hX (p := p) (by omega) h10 (show 5 + cN D.1 < 26 by omega) (show 0 ≤ 127 by decide) (show 2 ≤ 127 by decide)) hKd (by first | decide | omega) rfl (Nat.le_of_ble_eq_true rfl) (show 56 < 68 by decide) rfl ?_
        rintro _ _ ⟨rfl, c1, rfl, hF1, a10, a12, av⟩
        have hX1 := hX.frr hF1.r
        refine g_if_eqB C 76 dX6_readsItem_45 (by decide) (fun h45 => ?_) (fun h45 => ?_)
        · -- X6_readsItem 45t
          have hIq : zIq f len k0 s0 p D = .inl (zTok f len p).1 := by unfold zIq; rw [if_pos hk0, if_neg (by omega), if_neg (by have := of_decide_eq_false h45; omega)]
          refine g_iconst C (nI 0) dX6_readsItem_76 (by decide) ?_
          exact g_ret0 M dX6_readsItem_77 (by first | exact ⟨c, rfl, FrR.rf c, fun e he => by rw [hIq] at he; cases he; exact ⟨rfl, h12⟩, fun r hr => by rw [hIq] at hr; cases hr⟩ | exact ⟨c1, rfl, hF1.r, fun e he => by rw [hIq] at he; cases he; exact ⟨rfl, a12⟩, fun r hr => by rw [hIq] at hr; cases hr⟩ | exact ⟨c2, rfl, (hF1.r.tr hF2.r), fun e he => by rw [hIq] at he; cases he; exact ⟨rfl, b12⟩, fun r hr => by rw [hIq] at hr; cases hr⟩ | exact ⟨c3, rfl, ((hF1.r.tr hF2.r).tr hF3.r), fun e he => by rw [hIq] at he; cases he; exact ⟨rfl, d12⟩, fun r hr => by rw [hIq] at hr; cases hr⟩)
        · -- X6_readsItem 45f
          
          refine g_aload0 C dX6_readsItem_48 ?_
          refine g_bipush C (nI 12) dX6_readsItem_49 (by decide) ?_
          refine g_iload2 C dX6_readsItem_51 ?_
          refine g_iaddN C dX6_readsItem_52 ?_
          refine g_iconst C (nI 0) dX6_readsItem_53 (by decide) ?_
          refine g_bipush C (nI 7) dX6_readsItem_54 (by decide) ?_
          refine g_callV3i C dX6_readsItem_56 vlX6_83 (n_number hX1 (p := (zTok f len p).2.1) (by omega) a10 (show 12 + cN D.1 < 26 by omega) (show 0 ≤ 127 by decide) (show 7 ≤ 127 by decide)) hKd (by first | decide | omega) rfl (Nat.le_of_ble_eq_true rfl) (show 56 < 68 by decide) rfl ?_
          rintro _ _ ⟨rfl, c2, rfl, hF2, b10, b12, bv⟩
          have hX2 := hX1.frr hF2.r
          refine g_if_eqB C 76 dX6_readsItem_59 (by decide) (fun h59 => ?_) (fun h59 => ?_)
          · -- X6_readsItem 59t
            have hIq : zIq f len k0 s0 p D = .inl (zTok f len (zTok f len p).2.1).1 := by unfold zIq; rw [if_pos hk0, if_neg (by omega), if_pos (of_decide_eq_true h45).2, if_neg (by have := of_decide_eq_false h59; omega)]
            refine g_iconst C (nI 0) dX6_readsItem_76 (by decide) ?_
            exact g_ret0 M dX6_readsItem_77 (by first | exact ⟨c, rfl, FrR.rf c, fun e he => by rw [hIq] at he; cases he; exact ⟨rfl, h12⟩, fun r hr => by rw [hIq] at hr; cases hr⟩ | exact ⟨c1, rfl, hF1.r, fun e he => by rw [hIq] at he; cases he; exact ⟨rfl, a12⟩, fun r hr => by rw [hIq] at hr; cases hr⟩ | exact ⟨c2, rfl, (hF1.r.tr hF2.r), fun e he => by rw [hIq] at he; cases he; exact ⟨rfl, b12⟩, fun r hr => by rw [hIq] at hr; cases hr⟩ | exact ⟨c3, rfl, ((hF1.r.tr hF2.r).tr hF3.r), fun e he => by rw [hIq] at he; cases he; exact ⟨rfl, d12⟩, fun r hr => by rw [hIq] at hr; cases hr⟩)
          · -- X6_readsItem 59f
            
            refine g_aload0 C dX6_readsItem_62 ?_
            refine g_bipush C (nI 19) dX6_readsItem_63 (by decide) ?_
            refine g_iload2 C dX6_readsItem_65 ?_
            refine g_iaddN C dX6_readsItem_66 ?_
            refine g_iconst C (nI 0) dX6_readsItem_67 (by decide) ?_
            refine g_bipush C (nI 127) dX6_readsItem_68 (by decide) ?_
            refine g_callV3i C dX6_readsItem_70 vlX6_83 (n_number hX2 (p := (zTok f len (zTok f len p).2.1).2.1) (by omega) b10 (show 19 + cN D.1 < 26 by omega) (show 0 ≤ 127 by decide) (show 127 ≤ 127 by decide)) hKd (by first | decide | omega) rfl (Nat.le_of_ble_eq_true rfl) (show 56 < 68 by decide) rfl ?_
            rintro _ _ ⟨rfl, c3, rfl, hF3, d10, d12, dv⟩
            refine g_if_neB C 78 dX6_readsItem_73 (by decide) (fun h73 => ?_) (fun h73 => ?_)
            · -- X6_readsItem 73t
              have hIq : zIq f len k0 s0 p D = .inr ((zTok f len (zTok f len (zTok f len p).2.1).2.1).2.1, (zEnl D.1 (zTok f len p).2.2 (zTok f len (zTok f len p).2.1).2.2 (zTok f len (zTok f len (zTok f len p).2.1).2.1).2.2, D.2)) := by unfold zIq; rw [if_pos hk0, if_neg (by omega), if_pos (of_decide_eq_true h45).2, if_pos (of_decide_eq_true h59).2, if_pos (of_decide_eq_true h73).2]
              have hfr : ∀ b, b ≠ 5 + cN D.1 → b ≠ 12 + cN D.1 → b ≠ 19 + cN D.1 → c3 59 b = c 59 b := fun b q1 q2 q3 => (hF3.2.2 b q3).trans ((hF2.2.2 b q2).trans (hF1.2.2 b q1))
              refine g_aload0 C dX6_readsItem_78 ?_
              refine g_getRT C dX6_readsItem_79 flX6_16 (show 56 < 68 by decide) rfl rfl (by decide) ?_
              refine g_iconst C (nI 0) dX6_readsItem_82 (by decide) ?_
              refine g_dup2 C dX6_readsItem_83 rfl rfl ?_
              refine g_ialdE C ((hfr 0 (by omega) (by omega) (by omega)).trans hD.1) (by omega) (by decide) dX6_readsItem_84 (show 59 < 68 by decide) rfl ?_
              refine g_iconst C (nI 1) dX6_readsItem_85 (by decide) ?_
              refine g_iaddN C dX6_readsItem_86 ?_
              refine g_iastN C (by omega) (by decide) dX6_readsItem_87 (show 59 < 68 by decide) rfl ?_
              refine g_iconst C (nI 1) dX6_readsItem_88 (by decide) ?_
              exact g_ret1 M dX6_readsItem_89 (⟨_, rfl, ((hF1.r.tr hF2.r).tr hF3.r).tr FrR.u59, fun e he => (by rw [hIq] at he; cases he), fun r hr => by rw [hIq] at hr; cases hr; exact ⟨rfl, (up_k (by decide) _).trans d10, by omega, hD.enl hN7 (fun b q1 q2 q3 q0 => (up_j _ q0).trans (hfr b q1 q2 q3)) (up_s _ _ _ _) ((up_j _ (by omega)).trans ((hF3.2.2 _ (by omega)).trans ((hF2.2.2 _ (by omega)).trans (av h45)))) ((up_j _ (by omega)).trans ((hF3.2.2 _ (by omega)).trans (bv h59))) ((up_j _ (by omega)).trans (dv h73))⟩⟩)
            · -- X6_readsItem 73f
              have hIq : zIq f len k0 s0 p D = .inl (zTok f len (zTok f len (zTok f len p).2.1).2.1).1 := by unfold zIq; rw [if_pos hk0, if_neg (by omega), if_pos (of_decide_eq_true h45).2, if_pos (of_decide_eq_true h59).2, if_neg (by have := of_decide_eq_false h73; omega)]
              refine g_iconst C (nI 0) dX6_readsItem_76 (by decide) ?_
              exact g_ret0 M dX6_readsItem_77 (by first | exact ⟨c, rfl, FrR.rf c, fun e he => by rw [hIq] at he; cases he; exact ⟨rfl, h12⟩, fun r hr => by rw [hIq] at hr; cases hr⟩ | exact ⟨c1, rfl, hF1.r, fun e he => by rw [hIq] at he; cases he; exact ⟨rfl, a12⟩, fun r hr => by rw [hIq] at hr; cases hr⟩ | exact ⟨c2, rfl, (hF1.r.tr hF2.r), fun e he => by rw [hIq] at he; cases he; exact ⟨rfl, b12⟩, fun r hr => by rw [hIq] at hr; cases hr⟩ | exact ⟨c3, rfl, ((hF1.r.tr hF2.r).tr hF3.r), fun e he => by rw [hIq] at he; cases he; exact ⟨rfl, d12⟩, fun r hr => by rw [hIq] at hr; cases hr⟩)
    · -- 100
      refine g_aload0 C dX6_readsItem_0 ?_
      refine g_getIE C hs1 dX6_readsItem_1 flX6_74 (show 56 < 68 by decide) rfl rfl ?_
      refine g_iconst C (nI 1) dX6_readsItem_4 (by decide) ?_
      refine g_icmp_neN C 15 (by decide) (by decide) dX6_readsItem_5 (by decide) (fun h5 => absurd h5 (by omega)) (fun h5 => ?_)
      refine g_aload0 C dX6_readsItem_8 ?_
      refine g_getIE C hv1 dX6_readsItem_9 flX6_77 (show 56 < 68 by decide) rfl rfl ?_
      refine g_goto C 16 dX6_readsItem_12 (by decide) ?_
      refine g_istore1 C dX6_readsItem_16 ?_
      refine g_iload1 C dX6_readsItem_17 ?_
      refine g_bipush C (nI 115) dX6_readsItem_18 (by decide) ?_
      refine g_icmp_neN C 90 (by decide) (by decide) dX6_readsItem_20 (by decide) (fun h20 => ?_) (fun h20 => absurd h20 (by decide))
      refine g_iload1 C dX6_readsItem_90 ?_
      refine g_bipush C (nI 100) dX6_readsItem_91 (by decide) ?_
      refine g_icmp_neN C 106 (by decide) (by decide) dX6_readsItem_93 (by decide) (fun h93 => absurd h93 (by decide)) (fun h93 => ?_)
      refine g_aload0 C dX6_readsItem_96 ?_
      refine g_iconst C (nI 1) dX6_readsItem_97 (by decide) ?_
      refine g_iconst C (nI 1) dX6_readsItem_98 (by decide) ?_
      refine g_iconst C (nI 4) dX6_readsItem_99 (by decide) ?_
      refine g_callV3i C dX6_readsItem_100 vlX6_86 (n_once hX hp h10 (show 1 < 26 by decide) (show 4 ≤ 127 by decide) (o := D.2.1.toNat + 2 * D.2.2.toNat) (by cases D.2.1 <;> cases D.2.2 <;> decide) (show 1 < 4 by decide) hD.2.2.2.2.1) hKd (by first | decide | omega) rfl (Nat.le_of_ble_eq_true rfl) (show 56 < 68 by decide) rfl ?_
      rintro v w' ⟨hA, hB⟩
      have hsp : (D.2.1 = true ∧ v = nI 0 ∧ w' = wF c t) ∨ (D.2.1 = false ∧ v = nI (zNu (zTok f len p).2.2 1 4).toNat ∧ ∃ c', w' = wF c' t ∧ FrN 1 (z_up c 59 4 (nI ((D.2.1.toNat + 2 * D.2.2.toNat) ||| 1))) c' ∧ c' 56 10 = nI (zTok f len p).2.1 ∧ c' 56 12 = nI (zTok f len p).1 ∧ (zNu (zTok f len p).2.2 1 4 = true → c' 59 1 = nI (zTok f len p).2.2)) := by
        rcases Bool.eq_false_or_eq_true D.2.1 with hfl | hfl
        · exact Or.inl ⟨hfl, hA (by rw [hfl]; cases D.2.2 <;> decide)⟩
        · exact Or.inr ⟨hfl, hB (by rw [hfl]; cases D.2.2 <;> decide)⟩
      rcases hsp with ⟨hfl, rfl, rfl⟩ | ⟨hfl, rfl, c1, rfl, hF1, a10, a12, av⟩
      · have hIq : zIq f len k0 s0 p D = .inl s0 := by unfold zIq; rw [if_neg (show ¬ k0 = 243 by omega), if_pos (show k0 = 228 by omega), if_pos hfl]
        refine g_goto C 128 dX6_readsItem_103 (by decide) ?_
        exact g_ret0 M dX6_readsItem_128 (⟨c, rfl, FrR.rf c, fun e he => by rw [hIq] at he; cases he; exact ⟨rfl, h12⟩, fun r hr => by rw [hIq] at hr; cases hr⟩)
      · cases hnu : zNu (zTok f len p).2.2 1 4 with
        | false =>
          have hIq : zIq f len k0 s0 p D = .inl (zTok f len p).1 := by unfold zIq; rw [if_neg (show ¬ k0 = 243 by omega), if_pos (show k0 = 228 by omega), if_neg (by rw [hfl]; decide), if_neg (of_decide_eq_false hnu)]
          refine g_goto C 128 dX6_readsItem_103 (by decide) ?_
          exact g_ret0 M dX6_readsItem_128 (⟨c1, rfl, (FrR.u59.tr hF1.r), fun e he => by rw [hIq] at he; cases he; exact ⟨rfl, a12⟩, fun r hr => by rw [hIq] at hr; cases hr⟩)
        | true =>
          have hIq : zIq f len k0 s0 p D = .inr ((zTok f len p).2.1, ((cN D.1, cW D.1, cC D.1, cT D.1, (zTok f len p).2.2, cS D.1), true, D.2.2)) := by unfold zIq; rw [if_neg (show ¬ k0 = 243 by omega), if_pos (show k0 = 228 by omega), if_neg (by rw [hfl]; decide), if_pos (of_decide_eq_true hnu)]
          refine g_goto C 128 dX6_readsItem_103 (by decide) ?_
          exact g_ret1 M dX6_readsItem_128 (⟨c1, rfl, FrR.u59.tr hF1.r, fun e he => (by rw [hIq] at he; cases he), fun r hr => by rw [hIq] at hr; cases hr; exact ⟨rfl, a10, by omega, hD.dip hfl hF1.2.2 (av hnu)⟩⟩)
      --
    · -- 110
      refine g_aload0 C dX6_readsItem_0 ?_
      refine g_getIE C hs1 dX6_readsItem_1 flX6_74 (show 56 < 68 by decide) rfl rfl ?_
      refine g_iconst C (nI 1) dX6_readsItem_4 (by decide) ?_
      refine g_icmp_neN C 15 (by decide) (by decide) dX6_readsItem_5 (by decide) (fun h5 => absurd h5 (by omega)) (fun h5 => ?_)
      refine g_aload0 C dX6_readsItem_8 ?_
      refine g_getIE C hv1 dX6_readsItem_9 flX6_77 (show 56 < 68 by decide) rfl rfl ?_
      refine g_goto C 16 dX6_readsItem_12 (by decide) ?_
      refine g_istore1 C dX6_readsItem_16 ?_
      refine g_iload1 C dX6_readsItem_17 ?_
      refine g_bipush C (nI 115) dX6_readsItem_18 (by decide) ?_
      refine g_icmp_neN C 90 (by decide) (by decide) dX6_readsItem_20 (by decide) (fun h20 => ?_) (fun h20 => absurd h20 (by decide))
      refine g_iload1 C dX6_readsItem_90 ?_
      refine g_bipush C (nI 100) dX6_readsItem_91 (by decide) ?_
      refine g_icmp_neN C 106 (by decide) (by decide) dX6_readsItem_93 (by decide) (fun h93 => ?_) (fun h93 => absurd h93 (by decide))
      refine g_iload1 C dX6_readsItem_106 ?_
      refine g_bipush C (nI 110) dX6_readsItem_107 (by decide) ?_
      refine g_icmp_neN C 127 (by decide) (by decide) dX6_readsItem_109 (by decide) (fun h109 => absurd h109 (by decide)) (fun h109 => ?_)
      refine g_aload0 C dX6_readsItem_112 ?_
      refine g_iconst C (nI 2) dX6_readsItem_113 (by decide) ?_
      refine g_iconst C (nI 2) dX6_readsItem_114 (by decide) ?_
      refine g_bipush C (nI 8) dX6_readsItem_115 (by decide) ?_
      refine g_callV3i C dX6_readsItem_117 vlX6_86 (n_once hX hp h10 (show 2 < 26 by decide) (show 8 ≤ 127 by decide) (o := D.2.1.toNat + 2 * D.2.2.toNat) (by cases D.2.1 <;> cases D.2.2 <;> decide) (show 2 < 4 by decide) hD.2.2.2.2.1) hKd (by first | decide | omega) rfl (Nat.le_of_ble_eq_true rfl) (show 56 < 68 by decide) rfl ?_
      rintro v w' ⟨hA, hB⟩
      have hsp : (D.2.2 = true ∧ v = nI 0 ∧ w' = wF c t) ∨ (D.2.2 = false ∧ v = nI (zNu (zTok f len p).2.2 1 8).toNat ∧ ∃ c', w' = wF c' t ∧ FrN 2 (z_up c 59 4 (nI ((D.2.1.toNat + 2 * D.2.2.toNat) ||| 2))) c' ∧ c' 56 10 = nI (zTok f len p).2.1 ∧ c' 56 12 = nI (zTok f len p).1 ∧ (zNu (zTok f len p).2.2 1 8 = true → c' 59 2 = nI (zTok f len p).2.2)) := by
        rcases Bool.eq_false_or_eq_true D.2.2 with hfl | hfl
        · exact Or.inl ⟨hfl, hA (by rw [hfl]; cases D.2.1 <;> decide)⟩
        · exact Or.inr ⟨hfl, hB (by rw [hfl]; cases D.2.1 <;> decide)⟩
      rcases hsp with ⟨hfl, rfl, rfl⟩ | ⟨hfl, rfl, c1, rfl, hF1, a10, a12, av⟩
      · have hIq : zIq f len k0 s0 p D = .inl s0 := by unfold zIq; rw [if_neg (show ¬ k0 = 243 by omega), if_neg (show ¬ k0 = 228 by omega), if_pos (show k0 = 238 by omega), if_pos hfl]
        refine g_if_eqN C 127 (by decide) dX6_readsItem_120 (by decide) (fun h120 => ?_) (fun h120 => absurd h120 (by decide))
        refine g_iconst C (nI 0) dX6_readsItem_127 (by decide) ?_
        exact g_ret0 M dX6_readsItem_128 (⟨c, rfl, FrR.rf c, fun e he => by rw [hIq] at he; cases he; exact ⟨rfl, h12⟩, fun r hr => by rw [hIq] at hr; cases hr⟩)
      · cases hnu : zNu (zTok f len p).2.2 1 8 with
        | false =>
          have hIq : zIq f len k0 s0 p D = .inl (zTok f len p).1 := by unfold zIq; rw [if_neg (show ¬ k0 = 243 by omega), if_neg (show ¬ k0 = 228 by omega), if_pos (show k0 = 238 by omega), if_neg (by rw [hfl]; decide), if_neg (of_decide_eq_false hnu)]
          refine g_if_eqN C 127 (by decide) dX6_readsItem_120 (by decide) (fun h120 => ?_) (fun h120 => absurd h120 (by decide))
          refine g_iconst C (nI 0) dX6_readsItem_127 (by decide) ?_
          exact g_ret0 M dX6_readsItem_128 (⟨c1, rfl, (FrR.u59.tr hF1.r), fun e he => by rw [hIq] at he; cases he; exact ⟨rfl, a12⟩, fun r hr => by rw [hIq] at hr; cases hr⟩)
        | true =>
          have hIq : zIq f len k0 s0 p D = .inr ((zTok f len p).2.1, ((cN D.1, cW D.1, cC D.1, cT D.1, cD D.1, (zTok f len p).2.2), D.2.1, true)) := by unfold zIq; rw [if_neg (show ¬ k0 = 243 by omega), if_neg (show ¬ k0 = 228 by omega), if_pos (show k0 = 238 by omega), if_neg (by rw [hfl]; decide), if_pos (of_decide_eq_true hnu)]
          refine g_if_eqN C 127 (by decide) dX6_readsItem_120 (by decide) (fun h120 => absurd h120 (by decide)) (fun h120 => ?_)
          refine g_iconst C (nI 1) dX6_readsItem_123 (by decide) ?_
          refine g_goto C 128 dX6_readsItem_124 (by decide) ?_
          exact g_ret1 M dX6_readsItem_128 (⟨c1, rfl, FrR.u59.tr hF1.r, fun e he => (by rw [hIq] at he; cases he), fun r hr => by rw [hIq] at hr; cases hr; exact ⟨rfl, a10, by omega, hD.sea hfl hF1.2.2 (av hnu)⟩⟩)
      --
  · have hIq : zIq f len k0 s0 p D = .inl s0 := by unfold zIq; rw [if_neg hk1, if_neg hk2, if_neg hk3]
    refine g_aload0 C dX6_readsItem_0 ?_
    refine g_getIT C dX6_readsItem_1 flX6_74 (show 56 < 68 by decide) rfl rfl ?_
    refine g_iconst C (nI 1) dX6_readsItem_4 (by decide) ?_
    refine g_icmp_ne C 15 dX6_readsItem_5 (by decide) (fun h5 => ?_) (fun h5 => absurd h5 (by exact fun e => hs1 e))
    refine g_iconst C (nI 0) dX6_readsItem_15 (by decide) ?_
    refine g_istore1 C dX6_readsItem_16 ?_
    refine g_iload1 C dX6_readsItem_17 ?_
    refine g_bipush C (nI 115) dX6_readsItem_18 (by decide) ?_
    refine g_icmp_neN C 90 (by decide) (by decide) dX6_readsItem_20 (by decide) (fun h20 => ?_) (fun h20 => absurd h20 (by decide))
    refine g_iload1 C dX6_readsItem_90 ?_
    refine g_bipush C (nI 100) dX6_readsItem_91 (by decide) ?_
    refine g_icmp_neN C 106 (by decide) (by decide) dX6_readsItem_93 (by decide) (fun h93 => ?_) (fun h93 => absurd h93 (by decide))
    refine g_iload1 C dX6_readsItem_106 ?_
    refine g_bipush C (nI 110) dX6_readsItem_107 (by decide) ?_
    refine g_icmp_neN C 127 (by decide) (by decide) dX6_readsItem_109 (by decide) (fun h109 => ?_) (fun h109 => absurd h109 (by decide))
    refine g_iconst C (nI 0) dX6_readsItem_127 (by decide) ?_
    exact g_ret0 M dX6_readsItem_128 (⟨c, rfl, FrR.rf c, fun e he => by rw [hIq] at he; cases he; exact ⟨rfl, h12⟩, fun r hr => by rw [hIq] at hr; cases hr⟩)
