/-! calls, returns, what is made -/
/-- an instance method of a class of ours, by an entry of the caller's pool -/
def z_mOK (μ : zM) (n : Nat) : Prop := (μ.1.cls ≠ "java/lang/invoke/MethodHandle" ∧ μ.1.cls ≠ "java/lang/invoke/VarHandle" ∧ (parseMethodDescriptor μ.1.desc).map (fun d => d.parameters.length) = some n) ∧ μ.2.2.1 ≤ 20
def z_lk (own : String) (idx : Nat) (y : MethodName) : Prop := Cond.methodLink own idx y ∈ tb ∨ ∃ host, (own, idx, y, host) ∈ nestL
def z_VL (own : String) (idx ci : Nat) (μ : zM) (n : Nat) : Prop := (∃ q : vw_C, vwCl[ci]? = some q ∧ μ.1.cls = q.1) ∧ Cond.methodLink own idx μ.1 ∈ tb ∧ Cond.instanceMethod μ.1 ∈ tb ∧ Cond.selects μ.1.cls μ.1 μ.1 ∈ tb ∧ Cond.initialized μ.1.cls ∈ tb ∧ Cond.code μ.1 μ.2.1 μ.2.2.1 μ.2.2.2 ∈ tb ∧ z_mOK μ n
def z_SL (own : String) (idx : Nat) (μ : zM) (n : Nat) : Prop := z_lk own idx μ.1 ∧ Cond.static μ.1 ∈ tb ∧ Cond.initialized μ.1.cls ∈ tb ∧ Cond.code μ.1 μ.2.1 μ.2.2.1 μ.2.2.2 ∈ tb ∧ z_mOK μ n
def z_IL (own : String) (idx : Nat) (μ : zM) (n : Nat) : Prop := z_lk own idx μ.1 ∧ Cond.instanceMethod μ.1 ∈ tb ∧ μ.1.name = "<init>" ∧ μ.2.2.2 = none ∧ Cond.initialized μ.1.cls ∈ tb ∧ Cond.code μ.1 μ.2.1 μ.2.2.1 μ.2.2.2 ∈ tb ∧ z_mOK μ n
section ZC
variable {Γ : zG} {K : zK} {kc ks : Nat} {w : zW} {pc : Nat} {L Lr : List (Option Value)} {st : List Value} {cc : ByteArray} {own : String} {nL : Nat}
theorem z_after {p : Program} {e : Env} {R : Room} {s : State} {m : MethodId} {args : Array Value} {below : List Frame} {meth : Method} {c : Code} {Q : State → Prop} {d MC MS : Nat} {H : Heap} {locs : List Loc} {cells slots : Nat} {ls : Array Slot} {st0 : List Value} {P : Option Value → zW → Prop} {mc ms : Nat} {a : Array Value}
    (hr : va_Run p Γ.1 e R s m args below meth c H locs cells slots mc ms (F0 m pc ls st0) (st.map (z_tr Γ)) (z_Qc Γ P a) (fun q => z_h Γ ≤ q))
    (r2 : ∀ q, q < z_h Γ → H[q]? = s.heap[q]?) (r3 : ∀ x ∈ locs, z_h Γ ≤ x.base) (r4 : cells + kc ≤ MC) (r5 : slots + ks ≤ MS) (r6 : z_L Γ ls L) (hmc : mc ≤ kc) (hms : ms ≤ ks)
    (kk : ∀ r w', P r w' → GG Γ (p, e, R, s, m, args, below, meth, c, Q, d, MC, MS) (kc - mc) (ks - ms) w' (pc + 3) L (r.toList ++ st)) : W p Γ.1 e R s m args below meth c H locs cells slots Q (F0 m pc ls st0) := by
  intro T hT X
  obtain ⟨v, s0, t, T', Lx, h0, X', hL, e1, e2, ⟨⟨r, w', hv, hP, hR⟩, hk⟩, stp⟩ := hr T hT X
  have hv' : v = r.map (z_tr Γ) := Outcome.returned.inj hv
  subst hv'
  obtain ⟨t2, a1, b1⟩ := kk r w' hP T'.heap (locs ++ Lx) (cells + mc) (slots + ms) ls (by rw [e1]; exact hR) (fun q hq => by rw [e1, hk q hq, h0]; exact r2 q hq) (fun x hx => by
    rcases List.mem_append.mp hx with h | h
    · exact r3 x h
    · exact hL x h) (by omega) (by omega) r6 T' rfl X'
  refine ⟨t2, stp t2 ?_, b1⟩
  cases r <;> exact a1
theorem z_room {R : Room} {d d' x : Nat} (h1 : d ≤ R.frames) (h2 : 40 * d ≤ R.locals) (h3 : d' < d) (h4 : x ≤ 20) : d' + 1 ≤ R.frames ∧ 8 + (x + 11) + 40 * d' ≤ R.locals := by omega
theorem z_hW {m : MethodId} {pc : Nat} {ls : Array Slot} {st0 : List Value} (h : (st.map fun v => v.category).sum ≤ 8) : 2 * (F0 m pc ls st0).monitorRoom + ((st.map (z_tr Γ)).map fun v => v.category).sum ≤ 8 := by
  refine lv_room ?_
  rw [List.map_map, show ((fun v : Value => v.category) ∘ z_tr Γ) = fun v => v.category from funext fun v => z_tr_cat Γ v]
  exact h
theorem z_callV (C : z_C Γ K cc own nL) {idx ci n k d d' mc ms : Nat} {μ : zM} {As : List Value} {fs : List zF} {P : Option Value → zW → Prop} (hd : decode cc pc = .ok (.invokevirtual idx, 3)) (hl : z_VL own idx ci μ n) (hS : Sp Γ d' μ (.ref k :: As) mc ms w P) (hKd : z_d K = d) (hdd : d' < d) (hmc : mc ≤ kc) (hms : ms ≤ ks) (hk : k < w.1) (hs : w.2.1 k = .inr (ci, fs)) (hn : As.length = n) (hL : L.length = nL) (hW : (st.map fun v => v.category).sum ≤ 8)
    (kk : ∀ r w', P r w' → GG Γ K (kc - mc) (ks - ms) w' (pc + 3) L (r.toList ++ st)) : GG Γ K kc ks w pc L (As.reverse ++ .ref k :: st) := by
  obtain ⟨p, e, R, s, m, args, below, meth, c, Q, d0, MC, MS⟩ := K
  obtain ⟨⟨hx, hb, hml, hown, hts⟩, hKK, hdF, hdL, hMC, hMS⟩ := C
  obtain rfl : d0 = d := hKd
  obtain ⟨⟨q, hc, hq⟩, l1, l2, l3, l4, l5, l6, l7⟩ := hl
  intro H locs cells slots ls r1 r2 r3 r4 r5 r6
  have hP := z_P1 r1 hk (E := .inr (ci, fs.mapIdx fun j fd => z_fv Γ (w.2.2.1 k) (w.2.2.2 k) j fd)) (by unfold z_ce; rw [hs])
  have hst : (As.reverse ++ Value.ref k :: st).map (z_tr Γ) = (As.map (z_tr Γ)).reverse ++ .ref (z_h Γ + k) :: st.map (z_tr Γ) := by
    rw [List.map_append, List.map_reverse, List.map_cons, show z_tr Γ (.ref k) = .ref (z_h Γ + k) from by show Value.ref _ = _; rw [z_ad_lt (z_ltK r1 hk)]]
  rw [hst]
  have hlen : ls.size = nL := by rw [← hL]; exact r6.1.1
  have hAs : ((Value.ref (z_h Γ + k) :: As.map (z_tr Γ)) : List Value) = (Value.ref k :: As).map (z_tr Γ) := by
    rw [List.map_cons, show z_tr Γ (.ref k) = .ref (z_h Γ + k) from by show Value.ref _ = _; rw [z_ad_lt (z_ltK r1 hk)]]
  obtain ⟨cellB, c1, c2, c3⟩ := va_recv hKK.1 hP hc (he := rfl) (q0 := 0)
  refine z_after (va_runV (As := As.map (z_tr Γ)) (C := q.1) ⟨hx, hb, hml, hown, hts⟩ hS ⟨callB_of n hts (z_goodIn l5) rfl rfl rfl (hts _ l4) (hts _ l1) l6 (z_room hdF hdL hdd l7), hts _ l2, by rw [← hq]; exact hts _ l3⟩ ⟨z_blind, ⟨cellB, c1, c2, c3⟩, fun U hU hW2 => ⟨by rw [hAs], by rw [hU]; exact r1, hKK.warm hW2⟩⟩ rfl (by rw [List.length_map]; exact hn) hlen rfl (z_hW hW) hd ⟨by omega, by omega⟩) r2 r3 r4 r5 r6 hmc hms kk
theorem z_callS (C : z_C Γ K cc own nL) {idx n d d' mc ms : Nat} {μ : zM} {As : List Value} {P : Option Value → zW → Prop} (hd : decode cc pc = .ok (.invokestatic idx, 3)) (hl : z_SL own idx μ n) (hS : Sp Γ d' μ As mc ms w P) (hKd : z_d K = d) (hdd : d' < d) (hmc : mc ≤ kc) (hms : ms ≤ ks) (hn : As.length = n) (hL : L.length = nL) (hW : (st.map fun v => v.category).sum ≤ 8)
    (kk : ∀ r w', P r w' → GG Γ K (kc - mc) (ks - ms) w' (pc + 3) L (r.toList ++ st)) : GG Γ K kc ks w pc L (As.reverse ++ st) := by
  obtain ⟨p, e, R, s, m, args, below, meth, c, Q, d0, MC, MS⟩ := K
  obtain ⟨⟨hx, hb, hml, hown, hts⟩, hKK, hdF, hdL, hMC, hMS⟩ := C
  obtain rfl : d0 = d := hKd
  obtain ⟨l1, l2, l4, l5, l6, l7⟩ := hl
  intro H locs cells slots ls r1 r2 r3 r4 r5 r6
  have hst : (As.reverse ++ st).map (z_tr Γ) = (As.map (z_tr Γ)).reverse ++ st.map (z_tr Γ) := by rw [List.map_append, List.map_reverse]
  rw [hst]
  have hlen : ls.size = nL := by rw [← hL]; exact r6.1.1
  rcases l1 with l1 | ⟨host, l1⟩
  · exact z_after (va_runS (As := As.map (z_tr Γ)) ⟨hx, hb, hml, hown, hts⟩ hS ⟨callB_of n hts (z_goodIn l5) rfl rfl rfl (hts _ l4) (hts _ l1) l6 (z_room hdF hdL hdd l7), hts _ l2⟩ ⟨z_blind, fun U hU hW2 => ⟨rfl, by rw [hU]; exact r1, hKK.warm hW2⟩⟩ rfl (by rw [List.length_map]; exact hn) hlen rfl (z_hW hW) hd ⟨by omega, by omega⟩) r2 r3 r4 r5 r6 hmc hms kk
  · exact z_after (va_runSN (As := As.map (z_tr Γ)) (host := host) ⟨hx, hb, hml, hown, hts⟩ hS ⟨va_cnB n hts (z_goodIn l5) rfl rfl rfl (hKK.2.2 _ l1) (hts _ l4) l6 (z_room hdF hdL hdd l7), hts _ l2, trivial⟩ ⟨z_blind, fun U hU hW2 => ⟨rfl, by rw [hU]; exact r1, hKK.warm hW2⟩⟩ rfl (by rw [List.length_map]; exact hn) hlen rfl (z_hW hW) hd ⟨by omega, by omega⟩) r2 r3 r4 r5 r6 hmc hms kk
theorem z_callI (C : z_C Γ K cc own nL) {idx n k d d' mc ms : Nat} {y : MethodName} {bs : ByteArray} {mL : Nat} {As : List Value} {P : Option Value → zW → Prop} (hd : decode cc pc = .ok (.invokespecial idx, 3)) (hl : z_IL own idx (y, bs, mL, none) n) (hS : Sp Γ d' (y, bs, mL, none) (.ref k :: As) mc ms w P) (hKd : z_d K = d) (hdd : d' < d) (hmc : mc ≤ kc) (hms : ms ≤ ks) (hk : k < w.1) (hn : As.length = n) (hL : L.length = nL) (hW : (st.map fun v => v.category).sum ≤ 8)
    (kk : ∀ r w', P r w' → GG Γ K (kc - mc) (ks - ms) w' (pc + 3) L (r.toList ++ st)) : GG Γ K kc ks w pc L (As.reverse ++ .ref k :: st) := by
  obtain ⟨p, e, R, s, m, args, below, meth, c, Q, d0, MC, MS⟩ := K
  obtain ⟨⟨hx, hb, hml, hown, hts⟩, hKK, hdF, hdL, hMC, hMS⟩ := C
  obtain rfl : d0 = d := hKd
  obtain ⟨l1, l2, l3, -, l4, l5, l6, l7⟩ := hl
  intro H locs cells slots ls r1 r2 r3 r4 r5 r6
  have hst : (As.reverse ++ Value.ref k :: st).map (z_tr Γ) = (As.map (z_tr Γ)).reverse ++ .ref (z_h Γ + k) :: st.map (z_tr Γ) := by
    rw [List.map_append, List.map_reverse, List.map_cons, show z_tr Γ (.ref k) = .ref (z_h Γ + k) from by show Value.ref _ = _; rw [z_ad_lt (z_ltK r1 hk)]]
  rw [hst]
  have hlen : ls.size = nL := by rw [← hL]; exact r6.1.1
  have hAs : ((Value.ref (z_h Γ + k) :: As.map (z_tr Γ)) : List Value) = (Value.ref k :: As).map (z_tr Γ) := by
    rw [List.map_cons, show z_tr Γ (.ref k) = .ref (z_h Γ + k) from by show Value.ref _ = _; rw [z_ad_lt (z_ltK r1 hk)]]
  rcases l1 with l1 | ⟨host, l1⟩
  · exact z_after (va_runI (As := As.map (z_tr Γ)) ⟨hx, hb, hml, hown, hts⟩ hS ⟨callB_of n hts (z_goodIn l5) rfl rfl rfl (hts _ l4) (hts _ l1) l6 (z_room hdF hdL hdd l7), l3, hts _ l2⟩ ⟨z_blind, fun U hU hW2 => ⟨by rw [hAs], by rw [hU]; exact r1, hKK.warm hW2⟩⟩ rfl (by rw [List.length_map]; exact hn) hlen rfl (z_hW hW) hd ⟨by omega, by omega⟩) r2 r3 r4 r5 r6 hmc hms kk
  · exact z_after (va_runIN (As := As.map (z_tr Γ)) (host := host) ⟨hx, hb, hml, hown, hts⟩ hS ⟨va_cnB n hts (z_goodIn l5) rfl rfl rfl (hKK.2.2 _ l1) (hts _ l4) l6 (z_room hdF hdL hdd l7), l3, hts _ l2⟩ ⟨z_blind, fun U hU hW2 => ⟨by rw [hAs], by rw [hU]; exact r1, hKK.warm hW2⟩⟩ rfl (by rw [List.length_map]; exact hn) hlen rfl (z_hW hW) hd ⟨by omega, by omega⟩) r2 r3 r4 r5 r6 hmc hms kk
theorem g_callV0 (C : z_C Γ K cc own nL)  {idx ci k d d' : Nat} {μ : zM} {fs : List zF} {P : Option Value → zW → Prop} (hd : decode cc pc = .ok (.invokevirtual idx, 3)) (hl : z_VL own idx ci μ 0) (hS : Sp Γ d' μ [.ref k] 0 0 w P) (hKd : z_d K = d) (hdd : d' < d) (hL : L.length = nL) (hW : (st.map fun v => v.category).sum ≤ 8) (hk : k < w.1) (hs : w.2.1 k = .inr (ci, fs)) (kk : ∀ r w', P r w' → GG Γ K kc ks w' (pc + 3) L (r.toList ++ st)) : GG Γ K kc ks w pc L (.ref k :: st) := z_callV C (As := []) hd hl hS hKd hdd (Nat.zero_le _) (Nat.zero_le _) hk hs rfl hL hW kk
theorem g_callV1 (C : z_C Γ K cc own nL) {a0 : Value} {idx ci k d d' : Nat} {μ : zM} {fs : List zF} {P : Option Value → zW → Prop} (hd : decode cc pc = .ok (.invokevirtual idx, 3)) (hl : z_VL own idx ci μ 1) (hS : Sp Γ d' μ [.ref k, a0] 0 0 w P) (hKd : z_d K = d) (hdd : d' < d) (hL : L.length = nL) (hW : (st.map fun v => v.category).sum ≤ 8) (hk : k < w.1) (hs : w.2.1 k = .inr (ci, fs)) (kk : ∀ r w', P r w' → GG Γ K kc ks w' (pc + 3) L (r.toList ++ st)) : GG Γ K kc ks w pc L (a0 :: .ref k :: st) := z_callV C (As := [a0]) hd hl hS hKd hdd (Nat.zero_le _) (Nat.zero_le _) hk hs rfl hL hW kk
theorem g_callS1 (C : z_C Γ K cc own nL) {a0 : Value} {idx d d' : Nat} {μ : zM} {P : Option Value → zW → Prop} (hd : decode cc pc = .ok (.invokestatic idx, 3)) (hl : z_SL own idx μ 1) (hS : Sp Γ d' μ [a0] 0 0 w P) (hKd : z_d K = d) (hdd : d' < d) (hL : L.length = nL) (hW : (st.map fun v => v.category).sum ≤ 8) (kk : ∀ r w', P r w' → GG Γ K kc ks w' (pc + 3) L (r.toList ++ st)) : GG Γ K kc ks w pc L (a0 :: st) := z_callS C (As := [a0]) hd hl hS hKd hdd (Nat.zero_le _) (Nat.zero_le _) rfl hL hW kk
theorem g_callV2 (C : z_C Γ K cc own nL) {a0 a1 : Value} {idx ci k d d' : Nat} {μ : zM} {fs : List zF} {P : Option Value → zW → Prop} (hd : decode cc pc = .ok (.invokevirtual idx, 3)) (hl : z_VL own idx ci μ 2) (hS : Sp Γ d' μ [.ref k, a0, a1] 0 0 w P) (hKd : z_d K = d) (hdd : d' < d) (hL : L.length = nL) (hW : (st.map fun v => v.category).sum ≤ 8) (hk : k < w.1) (hs : w.2.1 k = .inr (ci, fs)) (kk : ∀ r w', P r w' → GG Γ K kc ks w' (pc + 3) L (r.toList ++ st)) : GG Γ K kc ks w pc L (a1 :: a0 :: .ref k :: st) := z_callV C (As := [a0, a1]) hd hl hS hKd hdd (Nat.zero_le _) (Nat.zero_le _) hk hs rfl hL hW kk
theorem g_callS2 (C : z_C Γ K cc own nL) {a0 a1 : Value} {idx d d' : Nat} {μ : zM} {P : Option Value → zW → Prop} (hd : decode cc pc = .ok (.invokestatic idx, 3)) (hl : z_SL own idx μ 2) (hS : Sp Γ d' μ [a0, a1] 0 0 w P) (hKd : z_d K = d) (hdd : d' < d) (hL : L.length = nL) (hW : (st.map fun v => v.category).sum ≤ 8) (kk : ∀ r w', P r w' → GG Γ K kc ks w' (pc + 3) L (r.toList ++ st)) : GG Γ K kc ks w pc L (a1 :: a0 :: st) := z_callS C (As := [a0, a1]) hd hl hS hKd hdd (Nat.zero_le _) (Nat.zero_le _) rfl hL hW kk
theorem g_callV3 (C : z_C Γ K cc own nL) {a0 a1 a2 : Value} {idx ci k d d' : Nat} {μ : zM} {fs : List zF} {P : Option Value → zW → Prop} (hd : decode cc pc = .ok (.invokevirtual idx, 3)) (hl : z_VL own idx ci μ 3) (hS : Sp Γ d' μ [.ref k, a0, a1, a2] 0 0 w P) (hKd : z_d K = d) (hdd : d' < d) (hL : L.length = nL) (hW : (st.map fun v => v.category).sum ≤ 8) (hk : k < w.1) (hs : w.2.1 k = .inr (ci, fs)) (kk : ∀ r w', P r w' → GG Γ K kc ks w' (pc + 3) L (r.toList ++ st)) : GG Γ K kc ks w pc L (a2 :: a1 :: a0 :: .ref k :: st) := z_callV C (As := [a0, a1, a2]) hd hl hS hKd hdd (Nat.zero_le _) (Nat.zero_le _) hk hs rfl hL hW kk
theorem g_callS3 (C : z_C Γ K cc own nL) {a0 a1 a2 : Value} {idx d d' : Nat} {μ : zM} {P : Option Value → zW → Prop} (hd : decode cc pc = .ok (.invokestatic idx, 3)) (hl : z_SL own idx μ 3) (hS : Sp Γ d' μ [a0, a1, a2] 0 0 w P) (hKd : z_d K = d) (hdd : d' < d) (hL : L.length = nL) (hW : (st.map fun v => v.category).sum ≤ 8) (kk : ∀ r w', P r w' → GG Γ K kc ks w' (pc + 3) L (r.toList ++ st)) : GG Γ K kc ks w pc L (a2 :: a1 :: a0 :: st) := z_callS C (As := [a0, a1, a2]) hd hl hS hKd hdd (Nat.zero_le _) (Nat.zero_le _) rfl hL hW kk
theorem g_callV4 (C : z_C Γ K cc own nL) {a0 a1 a2 a3 : Value} {idx ci k d d' : Nat} {μ : zM} {fs : List zF} {P : Option Value → zW → Prop} (hd : decode cc pc = .ok (.invokevirtual idx, 3)) (hl : z_VL own idx ci μ 4) (hS : Sp Γ d' μ [.ref k, a0, a1, a2, a3] 0 0 w P) (hKd : z_d K = d) (hdd : d' < d) (hL : L.length = nL) (hW : (st.map fun v => v.category).sum ≤ 8) (hk : k < w.1) (hs : w.2.1 k = .inr (ci, fs)) (kk : ∀ r w', P r w' → GG Γ K kc ks w' (pc + 3) L (r.toList ++ st)) : GG Γ K kc ks w pc L (a3 :: a2 :: a1 :: a0 :: .ref k :: st) := z_callV C (As := [a0, a1, a2, a3]) hd hl hS hKd hdd (Nat.zero_le _) (Nat.zero_le _) hk hs rfl hL hW kk
theorem g_callS4 (C : z_C Γ K cc own nL) {a0 a1 a2 a3 : Value} {idx d d' : Nat} {μ : zM} {P : Option Value → zW → Prop} (hd : decode cc pc = .ok (.invokestatic idx, 3)) (hl : z_SL own idx μ 4) (hS : Sp Γ d' μ [a0, a1, a2, a3] 0 0 w P) (hKd : z_d K = d) (hdd : d' < d) (hL : L.length = nL) (hW : (st.map fun v => v.category).sum ≤ 8) (kk : ∀ r w', P r w' → GG Γ K kc ks w' (pc + 3) L (r.toList ++ st)) : GG Γ K kc ks w pc L (a3 :: a2 :: a1 :: a0 :: st) := z_callS C (As := [a0, a1, a2, a3]) hd hl hS hKd hdd (Nat.zero_le _) (Nat.zero_le _) rfl hL hW kk
theorem g_callS5 (C : z_C Γ K cc own nL) {a0 a1 a2 a3 a4 : Value} {idx d d' : Nat} {μ : zM} {P : Option Value → zW → Prop} (hd : decode cc pc = .ok (.invokestatic idx, 3)) (hl : z_SL own idx μ 5) (hS : Sp Γ d' μ [a0, a1, a2, a3, a4] 0 0 w P) (hKd : z_d K = d) (hdd : d' < d) (hL : L.length = nL) (hW : (st.map fun v => v.category).sum ≤ 8) (kk : ∀ r w', P r w' → GG Γ K kc ks w' (pc + 3) L (r.toList ++ st)) : GG Γ K kc ks w pc L (a4 :: a3 :: a2 :: a1 :: a0 :: st) := z_callS C (As := [a0, a1, a2, a3, a4]) hd hl hS hKd hdd (Nat.zero_le _) (Nat.zero_le _) rfl hL hW kk
theorem g_callS6 (C : z_C Γ K cc own nL) {a0 a1 a2 a3 a4 a5 : Value} {idx d d' : Nat} {μ : zM} {P : Option Value → zW → Prop} (hd : decode cc pc = .ok (.invokestatic idx, 3)) (hl : z_SL own idx μ 6) (hS : Sp Γ d' μ [a0, a1, a2, a3, a4, a5] 0 0 w P) (hKd : z_d K = d) (hdd : d' < d) (hL : L.length = nL) (hW : (st.map fun v => v.category).sum ≤ 8) (kk : ∀ r w', P r w' → GG Γ K kc ks w' (pc + 3) L (r.toList ++ st)) : GG Γ K kc ks w pc L (a5 :: a4 :: a3 :: a2 :: a1 :: a0 :: st) := z_callS C (As := [a0, a1, a2, a3, a4, a5]) hd hl hS hKd hdd (Nat.zero_le _) (Nat.zero_le _) rfl hL hW kk
theorem g_callI0 (C : z_C Γ K cc own nL) {idx k d d' mc ms : Nat} {y : MethodName} {bs : ByteArray} {mL : Nat} {P : Option Value → zW → Prop} (hd : decode cc pc = .ok (.invokespecial idx, 3)) (hl : z_IL own idx (y, bs, mL, none) 0) (hS : Sp Γ d' (y, bs, mL, none) [.ref k] mc ms w P) (hKd : z_d K = d) (hdd : d' < d) (hL : L.length = nL) (hW : (st.map fun v => v.category).sum ≤ 8) (hmc : mc ≤ kc) (hms : ms ≤ ks) (hk : k < w.1) (kk : ∀ r w', P r w' → GG Γ K (kc - mc) (ks - ms) w' (pc + 3) L (r.toList ++ st)) : GG Γ K kc ks w pc L (.ref k :: st) := z_callI C (As := []) hd hl hS hKd hdd hmc hms hk rfl hL hW kk
/-- returns -/
theorem z_ret {isI : Bool} {ret : Option FieldType} {P : Option Value → zW → Prop} {r : Option Value} {p : Program} {e : Env} {R : Room} {s : State} {m : MethodId} {args : Array Value} {below : List Frame} {meth : Method} {c : Code} {Q : State → Prop} {d MC MS : Nat} (M : z_M Γ (p, e, R, s, m, args, below, meth, c, Q, d, MC, MS) cc own nL ret isI P) {H : Heap} {locs : List Loc} {cells slots : Nat} {g : JFrame} (r1 : z_Rep Γ w H) (r2 : ∀ q, q < z_h Γ → H[q]? = s.heap[q]?) (r4 : cells + kc ≤ MC) (r5 : slots + ks ≤ MS) (hP : P r w)
    (k : meth.locks = false → p.tables.exec = Jvm.exec → c.code = cc → meth.sig.returnType = ret → (∀ t : State, t.heap = H → s.WarmedH t.vm → z_Qc Γ P args s (.returned (r.map (z_tr Γ))) t) → W p Γ.1 e R s m args below meth c H locs MC MS (MQ below (z_Qc Γ P) args s MC MS (fun q => z_h Γ ≤ q)) g) : W p Γ.1 e R s m args below meth c H locs cells slots Q g := by
  obtain ⟨⟨⟨hx, hb, hml, hown, hts⟩, hKK, hdF, hdL, hMC, hMS⟩, hr, hlk, -, hQ⟩ := M
  rw [hQ]
  exact W.widen (k := MC) (n := MS) (by omega) (by omega) (k hlk hx hb hr (fun t ht _ => ⟨⟨r, w, rfl, hP, by rw [ht]; exact r1⟩, fun q hq => by rw [ht]; exact r2 q hq⟩))
theorem g_ireturn {isI : Bool} {P : Option Value → zW → Prop} (M : z_M Γ K cc own nL (some .int) isI P) {v : Int32} (hd : decode cc pc = .ok (.ireturn, 1)) (hP : P (some (.int v)) w) : GG Γ K kc ks w pc L [.int v] := by
  obtain ⟨p, e, R, s, m, args, below, meth, c, Q, d, MC, MS⟩ := K
  intro H locs cells slots ls r1 r2 r3 r4 r5 r6
  exact z_ret M r1 r2 r4 r5 hP (fun hlk hx hb hr hq => W.iret hx hb hr hq r3 hd hlk)
theorem g_zreturn {isI : Bool} {P : Option Value → zW → Prop} (M : z_M Γ K cc own nL (some .boolean) isI P) {v : Int32} (hv : narrow .boolean (.int v) = .int v) (hd : decode cc pc = .ok (.ireturn, 1)) (hP : P (some (.int v)) w) : GG Γ K kc ks w pc L [.int v] := by
  obtain ⟨p, e, R, s, m, args, below, meth, c, Q, d, MC, MS⟩ := K
  intro H locs cells slots ls r1 r2 r3 r4 r5 r6
  exact z_ret M r1 r2 r4 r5 hP (fun hlk hx hb hr hq => W.zret hx hb hr hv hq r3 hd hlk)
theorem g_lreturn {isI : Bool} {P : Option Value → zW → Prop} (M : z_M Γ K cc own nL (some .long) isI P) {v : Int64} (hd : decode cc pc = .ok (.lreturn, 1)) (hP : P (some (.long v)) w) : GG Γ K kc ks w pc L [.long v] := by
  obtain ⟨p, e, R, s, m, args, below, meth, c, Q, d, MC, MS⟩ := K
  intro H locs cells slots ls r1 r2 r3 r4 r5 r6
  exact z_ret M r1 r2 r4 r5 hP (fun hlk hx hb hr hq => W.lret hx hb hr hq r3 hd hlk)
theorem g_return {isI : Bool} {P : Option Value → zW → Prop} (M : z_M Γ K cc own nL none isI P) (hd : decode cc pc = .ok (.return_, 1)) (hP : P none w) : GG Γ K kc ks w pc L [] := by
  obtain ⟨p, e, R, s, m, args, below, meth, c, Q, d, MC, MS⟩ := K
  intro H locs cells slots ls r1 r2 r3 r4 r5 r6
  exact z_ret M r1 r2 r4 r5 hP (fun hlk hx hb hr hq => W.vret hx hb hr hq r3 hd hlk)
theorem g_areturn {isI : Bool} {P : Option Value → zW → Prop} {N : String} (M : z_M Γ K cc own nL (some (.object N)) isI P) {q : Nat} (hd : decode cc pc = .ok (.areturn, 1)) (hP : P (some (.ref q)) w) : GG Γ K kc ks w pc L [.ref q] := by
  obtain ⟨p, e, R, s, m, args, below, meth, c, Q, d, MC, MS⟩ := K
  intro H locs cells slots ls r1 r2 r3 r4 r5 r6
  exact z_ret M r1 r2 r4 r5 hP (fun hlk hx hb hr hq => W.aret hx hb hr (Or.inl ⟨_, rfl⟩) (Or.inr ⟨_, rfl⟩) hq r3 hd hlk)
/-- Math.min -/
theorem g_mmin (C : z_C Γ K cc own nL) {idx d : Nat} {x y : Int32} (hd : decode cc pc = .ok (.invokestatic idx, 3)) (hl : Cond.methodLink own idx Lib.Math.min.name ∈ tb ∧ Cond.static Lib.Math.min.name ∈ tb ∧ Cond.initialized "java/lang/Math" ∈ tb ∧ Cond.code Lib.Math.min.name Lib.Math.min.code 2 (some .int) ∈ tb) (hKd : z_d K = d) (hdd : 1 ≤ d) (hL : L.length = nL) (hW : (st.map fun v => v.category).sum ≤ 8) (k : GG Γ K kc ks w (pc + 3) L (.int (if y < x then y else x) :: st)) : GG Γ K kc ks w pc L (.int y :: .int x :: st) := by
  obtain ⟨p, e, R, s, m, args, below, meth, c, Q, d0, MC, MS⟩ := K
  obtain ⟨⟨hx, hb, hml, hown, hts⟩, hKK, hdF, hdL, hMC, hMS⟩ := C
  obtain rfl : d0 = d := hKd
  intro H locs cells slots ls r1 r2 r3 r4 r5 r6
  have hlen : ls.size = nL := by rw [← hL]; exact r6.1.1
  have hcat : ((st.map (z_tr Γ)).map fun v => v.category).sum ≤ 8 := by
    have := z_hW (Γ := Γ) (m := m) (pc := 0) (ls := ls) (st0 := []) hW
    simpa [JFrame.monitorRoom] using this
  exact va_mmin hx hb (hml.trans hlen.symm) hown (hts _ hl.1) (hts _ hl.2.1) (hts _ hl.2.2.1) (hts _ hl.2.2.2) (by omega) (by omega) (by omega) (by omega) hd (k H locs cells slots ls r1 r2 r3 r4 r5 r6)
/-- Math.max -/
theorem g_mmax (C : z_C Γ K cc own nL) {idx d : Nat} {x y : Int32} (hd : decode cc pc = .ok (.invokestatic idx, 3)) (hl : Cond.methodLink own idx Lib.Math.max.name ∈ tb ∧ Cond.static Lib.Math.max.name ∈ tb ∧ Cond.initialized "java/lang/Math" ∈ tb ∧ Cond.code Lib.Math.max.name Lib.Math.max.code 2 (some .int) ∈ tb) (hKd : z_d K = d) (hdd : 1 ≤ d) (hL : L.length = nL) (hW : (st.map fun v => v.category).sum ≤ 8) (k : GG Γ K kc ks w (pc + 3) L (.int (if x < y then y else x) :: st)) : GG Γ K kc ks w pc L (.int y :: .int x :: st) := by
  obtain ⟨p, e, R, s, m, args, below, meth, c, Q, d0, MC, MS⟩ := K
  obtain ⟨⟨hx, hb, hml, hown, hts⟩, hKK, hdF, hdL, hMC, hMS⟩ := C
  obtain rfl : d0 = d := hKd
  intro H locs cells slots ls r1 r2 r3 r4 r5 r6
  have hlen : ls.size = nL := by rw [← hL]; exact r6.1.1
  have hcat : ((st.map (z_tr Γ)).map fun v => v.category).sum ≤ 8 := by
    have := z_hW (Γ := Γ) (m := m) (pc := 0) (ls := ls) (st0 := []) hW
    simpa [JFrame.monitorRoom] using this
  exact va_mmax hx hb (hml.trans hlen.symm) hown (hts _ hl.1) (hts _ hl.2.1) (hts _ hl.2.2.1) (hts _ hl.2.2.2) (by omega) (by omega) (by omega) (by omega) hd (k H locs cells slots ls r1 r2 r3 r4 r5 r6)
end ZC
