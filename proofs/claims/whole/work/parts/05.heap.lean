/-! heap rows -/
def z_up (c : Nat → Nat → Int32) (k j : Nat) (v : Int32) : Nat → Nat → Int32 := fun a b => if a = k then (if b = j then v else c a b) else c a b
def z_upS (σ : Nat → zS) (k : Nat) (x : zS) : Nat → zS := fun a => if a = k then x else σ a
def z_upL (t : Nat → Int64) (k : Nat) (v : Int64) : Nat → Int64 := fun a => if a = k then v else t a
def z_row (c : Nat → Nat → Int32) (k : Nat) (f : Nat → Int32) : Nat → Nat → Int32 := fun a => if a = k then f else c a
set_option maxRecDepth 100000 in
theorem z_cl0 : ∀ w ∈ wsX00, w ∈ tb := by decide +kernel
set_option maxRecDepth 100000 in
theorem z_cl1 : ∀ w ∈ wsX10, w ∈ tb := by decide +kernel
set_option maxRecDepth 100000 in
theorem z_cl2 : ∀ w ∈ wsX20, w ∈ tb := by decide +kernel
set_option maxRecDepth 100000 in
theorem z_cl3 : ∀ w ∈ wsX30, w ∈ tb := by decide +kernel
set_option maxRecDepth 100000 in
theorem z_cl4 : ∀ w ∈ wsX40, w ∈ tb := by decide +kernel
set_option maxRecDepth 100000 in
theorem z_cl5 : ∀ w ∈ wsX50, w ∈ tb := by decide +kernel
set_option maxRecDepth 100000 in
theorem z_cl6 : ∀ w ∈ wsX60, w ∈ tb := by decide +kernel
theorem z_cls {ci : Nat} {q : vw_C} (h : vwCl[ci]? = some q) : (∀ w ∈ u_ws q.1 q.2.1 q.2.2, w ∈ tb) ∧ (∃ ty : Nat → FieldType, ∀ k, k < q.2.2 → parseFieldDescriptor (q.2.1 k).2.2.1 = some (ty k)) ∧ (∀ a, a < q.2.2 → ∀ b, b < q.2.2 → a ≠ b → (q.2.1 a).2.1 ≠ (q.2.1 b).2.1) := by
  match ci, h with
  | 0, h => cases h; exact ⟨z_cl0, ⟨tyX0, tyX0_ok⟩, nmX0⟩
  | 1, h => cases h; exact ⟨z_cl1, ⟨tyX1, tyX1_ok⟩, nmX1⟩
  | 2, h => cases h; exact ⟨z_cl2, ⟨tyX2, tyX2_ok⟩, nmX2⟩
  | 3, h => cases h; exact ⟨z_cl3, ⟨tyX3, tyX3_ok⟩, nmX3⟩
  | 4, h => cases h; exact ⟨z_cl4, ⟨tyX4, tyX4_ok⟩, nmX4⟩
  | 5, h => cases h; exact ⟨z_cl5, ⟨tyX5, tyX5_ok⟩, nmX5⟩
  | 6, h => cases h; exact ⟨z_cl6, ⟨tyX6, tyX6_ok⟩, nmX6⟩
  | k + 7, h => simp [vwCl] at h
/-- a field's entry in a class's pool: kind of object, slot -/
def z_FL (own : String) (idx ci j : Nat) : Prop := ∃ q : vw_C, vwCl[ci]? = some q ∧ j < q.2.2 ∧ Cond.fieldLink own idx (q.2.1 j).1 (q.2.1 j).2.1 (q.2.1 j).2.2.1 ∈ tb
/-- one that is written -/
def z_FP (own : String) (idx ci j : Nat) (ty : FieldType) (fin : Bool) : Prop := ∃ q : vw_C, vwCl[ci]? = some q ∧ j < q.2.2 ∧ Cond.fieldLink own idx (q.2.1 j).1 (q.2.1 j).2.1 (q.2.1 j).2.2.1 ∈ tb ∧ parseFieldDescriptor (q.2.1 j).2.2.1 = some ty ∧ (q.2.1 j).2.2.2 = fin ∧ (fin = true → (q.2.1 j).1 = own)
section ZH
variable {Γ : zG} {K : zK} {kc ks : Nat} {w : zW} {pc : Nat} {L Lr : List (Option Value)} {st : List Value} {cc : ByteArray} {own : String} {nL : Nat}
theorem z_P1 {H : Heap} {k : Nat} (r1 : z_Rep Γ w H) (hk : k < w.1) {E : va_E} (hE : z_ce Γ w k = E) : va_P (z_D Γ) vwCl [(z_h Γ + k, E)] H := by
  intro q x hx
  have hq : q < 1 := (List.getElem?_eq_some_iff.mp hx).1
  rw [show q = 0 by omega] at hx
  cases hx
  rw [← hE]
  exact r1.2.2 k hk
theorem z_ltK {H : Heap} {k : Nat} (r1 : z_Rep Γ w H) (hk : k < w.1) : k < 1000 := by have := r1.2.1; omega
theorem z_get (C : z_C Γ K cc own nL) {idx ci j k : Nat} {fs : List zF} {fd : zF} (v : Value) (hd : decode cc pc = .ok (.getfield idx, 3)) (hf : z_FL own idx ci j) (hk : k < w.1) (hs : w.2.1 k = .inr (ci, fs)) (hj : fs[j]? = some fd) (hv : z_fv Γ (w.2.2.1 k) (w.2.2.2 k) j fd = z_tr Γ v) (kk : GG Γ K kc ks w (pc + 3) L (v :: st)) : GG Γ K kc ks w pc L (.ref k :: st) := by
  obtain ⟨p, e, R, s, m, args, below, meth, c, Q, d, MC, MS⟩ := K
  obtain ⟨⟨hx, hb, hml, hown, hts⟩, hKK, hdF, hdL, hMC, hMS⟩ := C
  intro H locs cells slots ls r1 r2 r3 r4 r5 r6
  obtain ⟨q, hc, hjN, hl⟩ := hf
  have hP := z_P1 r1 hk (E := .inr (ci, fs.mapIdx fun j fd => z_fv Γ (w.2.2.1 k) (w.2.2.2 k) j fd)) (by unfold z_ce; rw [hs])
  show W p Γ.1 e R s m args below meth c H locs cells slots Q (F0 m pc ls (.ref (z_ad Γ k) :: st.map (z_tr Γ)))
  rw [z_ad_lt (z_ltK r1 hk)]
  refine va_get (D := z_D Γ) (cl := vwCl) (tys := z_tys Γ) hx hb hts (z_cls hc).1 hown hKK.1 hP 0 rfl hc j hjN (hts _ hl) (fun _ h => h) (v := z_tr Γ v) ?_ hd (kk H locs cells slots ls r1 r2 r3 r4 r5 r6)
  rw [List.getElem?_mapIdx, hj, ← hv]
  rfl
theorem g_getI (C : z_C Γ K cc own nL) {idx ci j k : Nat} {fs : List zF} (hd : decode cc pc = .ok (.getfield idx, 3)) (hf : z_FL own idx ci j) (hk : k < w.1) (hs : w.2.1 k = .inr (ci, fs)) (hj : fs[j]? = some (.inl 0)) (kk : GG Γ K kc ks w (pc + 3) L (.int (w.2.2.1 k j) :: st)) : GG Γ K kc ks w pc L (.ref k :: st) := z_get C _ hd hf hk hs hj rfl kk
theorem g_getL (C : z_C Γ K cc own nL) {idx ci j k : Nat} {fs : List zF} (hd : decode cc pc = .ok (.getfield idx, 3)) (hf : z_FL own idx ci j) (hk : k < w.1) (hs : w.2.1 k = .inr (ci, fs)) (hj : fs[j]? = some (.inl 1)) (kk : GG Γ K kc ks w (pc + 3) L (.long (w.2.2.2 k) :: st)) : GG Γ K kc ks w pc L (.ref k :: st) := z_get C _ hd hf hk hs hj rfl kk
theorem g_getR (C : z_C Γ K cc own nL) {idx ci j k p : Nat} {fs : List zF} (hd : decode cc pc = .ok (.getfield idx, 3)) (hf : z_FL own idx ci j) (hk : k < w.1) (hs : w.2.1 k = .inr (ci, fs)) (hj : fs[j]? = some (.inr (some p))) (hp : p < 1000) (kk : GG Γ K kc ks w (pc + 3) L (.ref p :: st)) : GG Γ K kc ks w pc L (.ref k :: st) := z_get C (.ref p) hd hf hk hs hj (by show Value.ref _ = Value.ref _; rw [z_ad_lt hp]) kk
/-- the world behind a store into one place -/
theorem z_Rep.put {w' : zW} {H H1 : Heap} {k : Nat} (r1 : z_Rep Γ w H) (hk : k < w.1) (h1 : w'.1 = w.1) (h2 : ∀ q, q < w.1 → q ≠ k → z_ce Γ w' q = z_ce Γ w q) (h3 : va_at (z_D Γ) vwCl (z_h Γ + k, z_ce Γ w' k) H1) (e2 : H1.size = H.size) (e3 : ∀ q, q ≠ z_h Γ + k → H1[q]? = H[q]?) : z_Rep Γ w' H1 := by
  refine ⟨by rw [e2, h1]; exact r1.1, by rw [h1]; exact r1.2.1, fun q hq => ?_⟩
  rw [h1] at hq
  by_cases hqk : q = k
  · subst hqk; exact h3
  · rw [h2 q hq hqk]
    exact (r1.2.2 q hq).kept (e3 _ (by show z_h Γ + q ≠ z_h Γ + k; omega))
theorem z_put (C : z_C Γ K cc own nL) {idx ci j k : Nat} {fs : List zF} {ty : FieldType} {v : Value} {w' : zW} (hd : decode cc pc = .ok (.putfield idx, 3)) (hf : z_FP own idx ci j ty false) (hk : k < w.1) (hs : w.2.1 k = .inr (ci, fs)) (hj : j < fs.length) (hn : narrow ty (z_tr Γ v) = z_tr Γ v) (hfit : fits ty (z_tr Γ v) = true)
    (h1 : w'.1 = w.1) (h2 : ∀ q, q < w.1 → q ≠ k → z_ce Γ w' q = z_ce Γ w q) (h3 : z_ce Γ w' k = .inr (ci, (fs.mapIdx fun j fd => z_fv Γ (w.2.2.1 k) (w.2.2.2 k) j fd).set j (z_tr Γ v)))
    (kk : GG Γ K kc ks w' (pc + 3) L st) : GG Γ K kc ks w pc L (v :: .ref k :: st) := by
  obtain ⟨p, e, R, s, m, args, below, meth, c, Q, d, MC, MS⟩ := K
  obtain ⟨⟨hx, hb, hml, hown, hts⟩, hKK, hdF, hdL, hMC, hMS⟩ := C
  intro H locs cells slots ls r1 r2 r3 r4 r5 r6
  obtain ⟨q, hc, hjN, hl, hpt, hfin, -⟩ := hf
  obtain ⟨hin, ⟨ty0, hty⟩, hnm⟩ := z_cls hc
  have hP := z_P1 r1 hk (E := .inr (ci, fs.mapIdx fun j fd => z_fv Γ (w.2.2.1 k) (w.2.2.2 k) j fd)) (by unfold z_ce; rw [hs])
  show W p Γ.1 e R s m args below meth c H locs cells slots Q (F0 m pc ls (z_tr Γ v :: .ref (z_ad Γ k) :: st.map (z_tr Γ)))
  rw [z_ad_lt (z_ltK r1 hk)]
  have hap := va_apart (own := own) hts hin ty0 hty hnm hKK.1 hc
  obtain ⟨r, g1, cell, q1, q2, q3, q4⟩ := hP 0 _ rfl
  have hr : r = q := Option.some.inj (g1.symm.trans hc)
  subst hr
  obtain ⟨hS, hfc, kC, hkC, hkind⟩ := hKK.1.1 ci _ hc
  obtain ⟨cf, kf, fi, f, hi, hsl⟩ := hS j hjN
  have hlay := hts _ (hin _ (u_in_lay hjN))
  unfold u_lay at hlay
  rw [if_neg (by rw [hfin]; decide)] at hlay
  have hst := (u_facts hfc hkC (u_lays hts hin hjN) hi).1
  have h6 := u_store hfc hkC hkind hlay hi hpt hn hfit
  refine W.putK hx hb (f := f) ⟨hown, hts _ hl, ⟨_, _, _, hi⟩, hst⟩ (by rw [q2]; exact h6) q1 q3 (by rw [hsl]; exact k2_hasslot (q4 j hjN)) rfl rfl hd fun H' e1 e2 e3 => ?_
  rw [hsl] at e1 ⊢
  refine kk H' _ cells slots ls ?_ (fun a ha => ?_) ?_ r4 r5 r6
  · refine r1.put hk h1 h2 ?_ e2 e3
    rw [h3]
    exact ⟨_, hc, t_OB.to (V := updV (vp_V (fs.mapIdx fun j fd => z_fv Γ (w.2.2.1 k) (w.2.2.2 k) j fd)) j (z_tr Γ v)) ⟨_, e1, q2, q3, t_set q4 hap hjN _⟩ (fun i _ => vp_updV_set (by simpa using hj) _ i)⟩
  · exact (e3 a (by show a ≠ z_h Γ + k; omega)).trans (r2 a ha)
  · intro x hx
    rcases List.mem_append.mp hx with h | h
    · exact r3 x h
    · rw [List.mem_singleton.mp h]
      show z_h Γ ≤ z_h Γ + k
      omega
theorem z_putF (C : z_C Γ K cc own nL) {ret : Option FieldType} {P : Option Value → zW → Prop} (M : z_M Γ K cc own nL ret true P) {idx ci j k : Nat} {fs : List zF} {ty : FieldType} {v : Value} {w' : zW} (hd : decode cc pc = .ok (.putfield idx, 3)) (hf : z_FP own idx ci j ty true) (hk : k < w.1) (hs : w.2.1 k = .inr (ci, fs)) (hj : j < fs.length) (hn : narrow ty (z_tr Γ v) = z_tr Γ v) (hfit : fits ty (z_tr Γ v) = true)
    (h1 : w'.1 = w.1) (h2 : ∀ q, q < w.1 → q ≠ k → z_ce Γ w' q = z_ce Γ w q) (h3 : z_ce Γ w' k = .inr (ci, (fs.mapIdx fun j fd => z_fv Γ (w.2.2.1 k) (w.2.2.2 k) j fd).set j (z_tr Γ v)))
    (kk : GG Γ K kc ks w' (pc + 3) L st) : GG Γ K kc ks w pc L (v :: .ref k :: st) := by
  obtain ⟨p, e, R, s, m, args, below, meth, c, Q, d, MC, MS⟩ := K
  obtain ⟨⟨hx, hb, hml, hown, hts⟩, hKK, hdF, hdL, hMC, hMS⟩ := C
  obtain ⟨-, -, -, hI, -⟩ := M
  intro H locs cells slots ls r1 r2 r3 r4 r5 r6
  obtain ⟨q, hc, hjN, hl, hpt, hfin, hdecl⟩ := hf
  obtain ⟨hin, ⟨ty0, hty⟩, hnm⟩ := z_cls hc
  have hP := z_P1 r1 hk (E := .inr (ci, fs.mapIdx fun j fd => z_fv Γ (w.2.2.1 k) (w.2.2.2 k) j fd)) (by unfold z_ce; rw [hs])
  show W p Γ.1 e R s m args below meth c H locs cells slots Q (F0 m pc ls (z_tr Γ v :: .ref (z_ad Γ k) :: st.map (z_tr Γ)))
  rw [z_ad_lt (z_ltK r1 hk)]
  have hap := va_apart (own := own) hts hin ty0 hty hnm hKK.1 hc
  obtain ⟨r, g1, cell, q1, q2, q3, q4⟩ := hP 0 _ rfl
  have hr : r = q := Option.some.inj (g1.symm.trans hc)
  subst hr
  obtain ⟨hS, hfc, kC, hkC, hkind⟩ := hKK.1.1 ci _ hc
  obtain ⟨cf, kf, fi, f, hi, hsl⟩ := hS j hjN
  have hlay := hts _ (hin _ (u_in_lay hjN))
  unfold u_lay at hlay
  rw [if_pos hfin] at hlay
  have hst := (u_facts hfc hkC (u_lays hts hin hjN) hi).1
  have hcf : m.cls = cf := by
    obtain ⟨_, _, c', _, _, _, -, -, hf', -, -, -, hown2, -⟩ := Cond.laysFinal_spec hlay
    have e1 : c' = cf := by have := hi.symm.trans hf'; simp at this; exact this.1.symm
    rw [hdecl rfl] at hown2
    rw [← e1]; exact Option.some.inj (hown.symm.trans hown2)
  have h6 := u_fits hfc hkC hkind (Or.inr hlay) hi hpt hn hfit
  refine W.putFinK hx hb hown (hts _ hl) hi hst hcf (hI rfl) (by rw [q2]; exact h6) q1 q3 (by rw [hsl]; exact k2_hasslot (q4 j hjN)) rfl rfl hd fun H' e1 e2 e3 => ?_
  rw [hsl] at e1 ⊢
  refine kk H' _ cells slots ls ?_ (fun a ha => ?_) ?_ r4 r5 r6
  · refine r1.put hk h1 h2 ?_ e2 e3
    rw [h3]
    exact ⟨_, hc, t_OB.to (V := updV (vp_V (fs.mapIdx fun j fd => z_fv Γ (w.2.2.1 k) (w.2.2.2 k) j fd)) j (z_tr Γ v)) ⟨_, e1, q2, q3, t_set q4 hap hjN _⟩ (fun i _ => vp_updV_set (by simpa using hj) _ i)⟩
  · exact (e3 a (by show a ≠ z_h Γ + k; omega)).trans (r2 a ha)
  · intro x hx
    rcases List.mem_append.mp hx with h | h
    · exact r3 x h
    · rw [List.mem_singleton.mp h]
      show z_h Γ ≤ z_h Γ + k
      omega
theorem z_ce_congr {w w' : zW} {q : Nat} (h1 : w'.2.1 q = w.2.1 q) (h2 : w'.2.2.1 q = w.2.2.1 q) (h3 : w'.2.2.2 q = w.2.2.2 q) : z_ce Γ w' q = z_ce Γ w q := by
  unfold z_ce
  rw [h1, h2, h3]
theorem z_mapIdx_set {α β : Type} (fs : List α) (f g : Nat → α → β) (j : Nat) (fd : α) (v : β) (hj : fs[j]? = some fd) (h : ∀ i x, fs[i]? = some x → i ≠ j → g i x = f i x) (hv : g j fd = v) : fs.mapIdx g = (fs.mapIdx f).set j v := by
  apply List.ext_getElem?
  intro i
  rw [List.getElem?_set, List.getElem?_mapIdx, List.getElem?_mapIdx]
  by_cases hij : j = i
  · subst hij
    have hl := (List.getElem?_eq_some_iff.mp hj).1
    rw [if_pos rfl, if_pos (by simpa using hl), hj]
    show some (g j fd) = _
    rw [hv]
  · rw [if_neg hij]
    cases hx : fs[i]? with
    | none => rfl
    | some x =>
      show some (g i x) = some (f i x)
      rw [h i x hx (fun e => hij e.symm)]
theorem g_putI (C : z_C Γ K cc own nL) {σ : Nat → zS} {n : Nat} {c : Nat → Nat → Int32} {t : Nat → Int64} {idx ci j k : Nat} {fs : List zF} {ty : FieldType} {x : Int32} (hd : decode cc pc = .ok (.putfield idx, 3)) (hf : z_FP own idx ci j ty false) (hk : k < n) (hs : σ k = .inr (ci, fs)) (hj : fs[j]? = some (.inl 0)) (hn : narrow ty (.int x) = .int x) (hfit : fits ty (.int x) = true)
    (kk : GG Γ K kc ks (n, σ, z_up c k j x, t) (pc + 3) L st) : GG Γ K kc ks (n, σ, c, t) pc L (.int x :: .ref k :: st) := by
  refine z_put (w' := (n, σ, z_up c k j x, t)) C hd hf hk hs (List.getElem?_eq_some_iff.mp hj).1 hn hfit rfl (fun q _ hq => z_ce_congr rfl ?_ rfl) ?_ kk
  · funext b; show z_up c k j x q b = c q b; unfold z_up; rw [if_neg hq]
  · unfold z_ce
    rw [show ((n, σ, z_up c k j x, t) : zW).2.1 k = .inr (ci, fs) from hs]
    show (Sum.inr (ci, _) : va_E) = _
    refine congrArg (fun l => Sum.inr (ci, l)) (z_mapIdx_set fs _ _ j (.inl 0) _ hj (fun i fd _ hi => ?_) ?_)
    · cases fd with
      | inl m => cases m with
        | zero => show Value.int (z_up c k j x k i) = Value.int (c k i); unfold z_up; rw [if_pos rfl, if_neg hi]
        | succ m => rfl
      | inr r => rfl
    · show Value.int (z_up c k j x k j) = Value.int x; unfold z_up; rw [if_pos rfl, if_pos rfl]
theorem g_putL (C : z_C Γ K cc own nL) {σ : Nat → zS} {n : Nat} {c : Nat → Nat → Int32} {t : Nat → Int64} {idx ci j k : Nat} {fs : List zF} {x : Int64} (hd : decode cc pc = .ok (.putfield idx, 3)) (hf : z_FP own idx ci j .long false) (hk : k < n) (hs : σ k = .inr (ci, fs)) (hj : fs[j]? = some (.inl 1)) (h1 : ∀ i m, fs[i]? = some (.inl (m + 1)) → i = j)
    (kk : GG Γ K kc ks (n, σ, c, z_upL t k x) (pc + 3) L st) : GG Γ K kc ks (n, σ, c, t) pc L (.long x :: .ref k :: st) := by
  refine z_put (w' := (n, σ, c, z_upL t k x)) C hd hf hk hs (List.getElem?_eq_some_iff.mp hj).1 rfl rfl rfl (fun q _ hq => z_ce_congr rfl rfl ?_) ?_ kk
  · show z_upL t k x q = t q; unfold z_upL; rw [if_neg hq]
  · unfold z_ce
    rw [show ((n, σ, c, z_upL t k x) : zW).2.1 k = .inr (ci, fs) from hs]
    show (Sum.inr (ci, _) : va_E) = _
    refine congrArg (fun l => Sum.inr (ci, l)) (z_mapIdx_set fs _ _ j (.inl 1) _ hj (fun i fd hfd hi => ?_) ?_)
    · cases fd with
      | inl m => cases m with
        | zero => rfl
        | succ m => exact absurd (h1 i m hfd) hi
      | inr r => rfl
    · show Value.long (z_upL t k x k) = Value.long x; unfold z_upL; rw [if_pos rfl]
theorem z_putRef {σ : Nat → zS} {n : Nat} {c : Nat → Nat → Int32} {t : Nat → Int64} {ci j k q : Nat} {fs : List zF} {r0 : Option Nat} (hq : q < 1000) (hs : σ k = .inr (ci, fs)) (hj : fs[j]? = some (.inr r0)) : z_ce Γ ((n, z_upS σ k (.inr (ci, fs.set j (.inr (some q)))), c, t) : zW) k = .inr (ci, (fs.mapIdx fun j fd => z_fv Γ (c k) (t k) j fd).set j (z_tr Γ (.ref q))) := by
  have hl := (List.getElem?_eq_some_iff.mp hj).1
  unfold z_ce
  rw [show ((n, z_upS σ k (.inr (ci, fs.set j (.inr (some q)))), c, t) : zW).2.1 k = .inr (ci, fs.set j (.inr (some q))) by show z_upS _ _ _ k = _; unfold z_upS; rw [if_pos rfl]]
  show (Sum.inr (ci, _) : va_E) = _
  refine congrArg (fun l => Sum.inr (ci, l)) ?_
  apply List.ext_getElem?
  intro i
  rw [List.getElem?_set, List.getElem?_mapIdx, List.getElem?_mapIdx, List.getElem?_set]
  by_cases hij : j = i
  · subst hij
    rw [if_pos rfl, if_pos hl, if_pos rfl, if_pos (by simpa using hl)]
    show some (Value.ref (z_h Γ + q)) = some (Value.ref (z_ad Γ q))
    rw [z_ad_lt hq]
  · rw [if_neg hij, if_neg hij]
/-- a final reference field in a constructor -/
theorem g_putR (C : z_C Γ K cc own nL) {ret : Option FieldType} {P : Option Value → zW → Prop} (M : z_M Γ K cc own nL ret true P) {σ : Nat → zS} {n : Nat} {c : Nat → Nat → Int32} {t : Nat → Int64} {idx ci j k q : Nat} {fs : List zF} {ty : FieldType} {r0 : Option Nat} (hd : decode cc pc = .ok (.putfield idx, 3)) (hf : z_FP own idx ci j ty true) (hk : k < n) (hq : q < 1000) (hs : σ k = .inr (ci, fs)) (hj : fs[j]? = some (.inr r0)) (hn : ∀ a, narrow ty (.ref a) = .ref a) (hfit : ∀ a, fits ty (.ref a) = true)
    (kk : GG Γ K kc ks (n, z_upS σ k (.inr (ci, fs.set j (.inr (some q)))), c, t) (pc + 3) L st) : GG Γ K kc ks (n, σ, c, t) pc L (.ref q :: .ref k :: st) := by
  refine z_putF (w' := (n, z_upS σ k (.inr (ci, fs.set j (.inr (some q)))), c, t)) C M hd hf hk hs (List.getElem?_eq_some_iff.mp hj).1 (hn _) (hfit _) rfl (fun a _ ha => z_ce_congr ?_ rfl rfl) (z_putRef hq hs hj) kk
  show z_upS _ _ _ a = _
  unfold z_upS
  rw [if_neg ha]
theorem z_iald (C : z_C Γ K cc own nL) {k n : Nat} {f : Nat → Option Nat} {i : Int32} (hd : decode cc pc = .ok (.iaload, 1)) (hk : k < w.1) (hs : w.2.1 k = .inl (0, n, f)) (hi : vp_in i n) (kk : GG Γ K kc ks w (pc + 1) L (.int (w.2.2.1 k i.toNatClampNeg) :: st)) : GG Γ K kc ks w pc L (.int i :: .ref k :: st) := by
  obtain ⟨p, e, R, s, m, args, below, meth, c, Q, d, MC, MS⟩ := K
  obtain ⟨⟨hx, hb, hml, hown, hts⟩, hKK, hdF, hdL, hMC, hMS⟩ := C
  intro H locs cells slots ls r1 r2 r3 r4 r5 r6
  have hP := z_P1 r1 hk (E := .inl (z_A Γ 0, n, .inl (w.2.2.1 k))) (by unfold z_ce; rw [hs])
  show W p Γ.1 e R s m args below meth c H locs cells slots Q (F0 m pc ls (.int i :: .ref (z_ad Γ k) :: st.map (z_tr Γ)))
  rw [z_ad_lt (z_ltK r1 hk)]
  exact va_iald hx hb hKK.1 hP 0 0 rfl rfl hi hd (kk H locs cells slots ls r1 r2 r3 r4 r5 r6)
theorem z_bald (C : z_C Γ K cc own nL) {k n : Nat} {f : Nat → Option Nat} {i : Int32} (hd : decode cc pc = .ok (.baload, 1)) (hk : k < w.1) (hs : w.2.1 k = .inl (1, n, f)) (hi : vp_in i n) (kk : GG Γ K kc ks w (pc + 1) L (.int (w.2.2.1 k i.toNatClampNeg) :: st)) : GG Γ K kc ks w pc L (.int i :: .ref k :: st) := by
  obtain ⟨p, e, R, s, m, args, below, meth, c, Q, d, MC, MS⟩ := K
  obtain ⟨⟨hx, hb, hml, hown, hts⟩, hKK, hdF, hdL, hMC, hMS⟩ := C
  intro H locs cells slots ls r1 r2 r3 r4 r5 r6
  have hP := z_P1 r1 hk (E := .inl (z_A Γ 1, n, .inl (w.2.2.1 k))) (by unfold z_ce; rw [hs])
  show W p Γ.1 e R s m args below meth c H locs cells slots Q (F0 m pc ls (.int i :: .ref (z_ad Γ k) :: st.map (z_tr Γ)))
  rw [z_ad_lt (z_ltK r1 hk)]
  exact va_zald hx hb hKK.1 hP 0 1 rfl rfl hi hd (kk H locs cells slots ls r1 r2 r3 r4 r5 r6)
theorem z_aald (C : z_C Γ K cc own nL) {k n q : Nat} {f : Nat → Option Nat} {i : Int32} (hd : decode cc pc = .ok (.aaload, 1)) (hk : k < w.1) (hs : w.2.1 k = .inl (2, n, f)) (hi : vp_in i n) (hf : f i.toNatClampNeg = some q) (hq : q < 1000) (kk : GG Γ K kc ks w (pc + 1) L (.ref q :: st)) : GG Γ K kc ks w pc L (.int i :: .ref k :: st) := by
  obtain ⟨p, e, R, s, m, args, below, meth, c, Q, d, MC, MS⟩ := K
  obtain ⟨⟨hx, hb, hml, hown, hts⟩, hKK, hdF, hdL, hMC, hMS⟩ := C
  intro H locs cells slots ls r1 r2 r3 r4 r5 r6
  have hP := z_P1 r1 hk (E := .inl (z_A Γ 2, n, .inr (.inr (.inr (.inr (fun j => (f j).map (fun k => z_h Γ + k))))))) (by unfold z_ce; rw [hs])
  show W p Γ.1 e R s m args below meth c H locs cells slots Q (F0 m pc ls (.int i :: .ref (z_ad Γ k) :: st.map (z_tr Γ)))
  rw [z_ad_lt (z_ltK r1 hk)]
  refine va_aldq hx hb hKK.1 hP 0 2 rfl rfl hi hd ?_
  have e : va_rf ((f i.toNatClampNeg).map (fun k => z_h Γ + k)) = z_tr Γ (.ref q) := by
    rw [hf]; show Value.ref _ = Value.ref _; rw [z_ad_lt hq]
  rw [e]
  exact kk H locs cells slots ls r1 r2 r3 r4 r5 r6
theorem z_alen (C : z_C Γ K cc own nL) {k n q : Nat} {f : Nat → Option Nat} (hd : decode cc pc = .ok (.arraylength, 1)) (hk : k < w.1) (hs : w.2.1 k = .inl (q, n, f)) (kk : GG Γ K kc ks w (pc + 1) L (.int (nI n) :: st)) : GG Γ K kc ks w pc L (.ref k :: st) := by
  obtain ⟨p, e, R, s, m, args, below, meth, c, Q, d, MC, MS⟩ := K
  obtain ⟨⟨hx, hb, hml, hown, hts⟩, hKK, hdF, hdL, hMC, hMS⟩ := C
  intro H locs cells slots ls r1 r2 r3 r4 r5 r6
  show W p Γ.1 e R s m args below meth c H locs cells slots Q (F0 m pc ls (.ref (z_ad Γ k) :: st.map (z_tr Γ)))
  rw [z_ad_lt (z_ltK r1 hk)]
  match q, hs with
  | 0, hs => exact va_alen hx hb hKK.1 (z_P1 r1 hk (E := .inl (z_A Γ 0, n, .inl (w.2.2.1 k))) (by unfold z_ce; rw [hs])) 0 0 rfl rfl rfl hd (kk H locs cells slots ls r1 r2 r3 r4 r5 r6)
  | 1, hs => exact va_alen hx hb hKK.1 (z_P1 r1 hk (E := .inl (z_A Γ 1, n, .inl (w.2.2.1 k))) (by unfold z_ce; rw [hs])) 0 1 rfl rfl rfl hd (kk H locs cells slots ls r1 r2 r3 r4 r5 r6)
  | q + 2, hs => exact va_alen hx hb hKK.1 (z_P1 r1 hk (E := .inl (z_A Γ 2, n, .inr (.inr (.inr (.inr (fun j => (f j).map (fun k => z_h Γ + k))))))) (by unfold z_ce; rw [hs])) 0 2 rfl rfl rfl hd (kk H locs cells slots ls r1 r2 r3 r4 r5 r6)
theorem z_iast (C : z_C Γ K cc own nL) {σ : Nat → zS} {N : Nat} {c : Nat → Nat → Int32} {t : Nat → Int64} {k n : Nat} {f : Nat → Option Nat} {i x : Int32} (hd : decode cc pc = .ok (.iastore, 1)) (hk : k < N) (hs : σ k = .inl (0, n, f)) (hi : vp_in i n) (kk : GG Γ K kc ks (N, σ, z_up c k i.toNatClampNeg x, t) (pc + 1) L st) : GG Γ K kc ks (N, σ, c, t) pc L (.int x :: .int i :: .ref k :: st) := by
  obtain ⟨p, e, R, s, m, args, below, meth, c0, Q, d, MC, MS⟩ := K
  obtain ⟨⟨hx, hb, hml, hown, hts⟩, hKK, hdF, hdL, hMC, hMS⟩ := C
  intro H locs cells slots ls r1 r2 r3 r4 r5 r6
  have hP := z_P1 r1 hk (E := .inl (z_A Γ 0, n, .inl (c k))) (by unfold z_ce; rw [show ((N, σ, c, t) : zW).2.1 k = _ from hs])
  show W p Γ.1 e R s m args below meth c0 H locs cells slots Q (F0 m pc ls (.int x :: .int i :: .ref (z_ad Γ k) :: st.map (z_tr Γ)))
  rw [z_ad_lt (z_ltK r1 hk)]
  refine W.iast hx hb (hP 0 _ rfl) ((hKK.1.2 0 _ rfl).1 n (fun j => .int (c k j))) (fun q => by cases q) (by show ¬ (i < 0 ∨ (arrV _ _ _).slots.size ≤ _); rw [arrV_size]; exact hi) rfl rfl hd fun H1 e1 e2 e3 => ?_
  refine kk H1 _ cells slots ls ?_ (fun a ha => ?_) ?_ r4 r5 r6
  · refine r1.put hk rfl (fun q _ hq => z_ce_congr rfl ?_ rfl) ?_ e2 e3
    · funext b; show z_up c k i.toNatClampNeg x q b = c q b; unfold z_up; rw [if_neg hq]
    · unfold z_ce
      rw [show ((N, σ, z_up c k i.toNatClampNeg x, t) : zW).2.1 k = _ from hs]
      show H1[z_h Γ + k]? = some (vp_cell _ _)
      rw [e1, vp_cell_i, vp_cell_i, arrV_store]
      congr 2
      funext q
      show updV _ _ _ q = Value.int (z_up c k i.toNatClampNeg x k q)
      unfold updV z_up
      rw [if_pos rfl]
      split <;> rfl
  · exact (e3 a (by show a ≠ z_h Γ + k; omega)).trans (r2 a ha)
  · intro y hy
    rcases List.mem_append.mp hy with h | h
    · exact r3 y h
    · rw [List.mem_singleton.mp h]
      show z_h Γ ≤ z_h Γ + k
      omega
theorem z_bast (C : z_C Γ K cc own nL) {σ : Nat → zS} {N : Nat} {c : Nat → Nat → Int32} {t : Nat → Int64} {k n : Nat} {f : Nat → Option Nat} {i x : Int32} (hd : decode cc pc = .ok (.bastore, 1)) (hk : k < N) (hs : σ k = .inl (1, n, f)) (hi : vp_in i n) (hn : narrow .boolean (.int x) = .int x) (kk : GG Γ K kc ks (N, σ, z_up c k i.toNatClampNeg x, t) (pc + 1) L st) : GG Γ K kc ks (N, σ, c, t) pc L (.int x :: .int i :: .ref k :: st) := by
  obtain ⟨p, e, R, s, m, args, below, meth, c0, Q, d, MC, MS⟩ := K
  obtain ⟨⟨hx, hb, hml, hown, hts⟩, hKK, hdF, hdL, hMC, hMS⟩ := C
  intro H locs cells slots ls r1 r2 r3 r4 r5 r6
  have hP := z_P1 r1 hk (E := .inl (z_A Γ 1, n, .inl (c k))) (by unfold z_ce; rw [show ((N, σ, c, t) : zW).2.1 k = _ from hs])
  show W p Γ.1 e R s m args below meth c0 H locs cells slots Q (F0 m pc ls (.int x :: .int i :: .ref (z_ad Γ k) :: st.map (z_tr Γ)))
  rw [z_ad_lt (z_ltK r1 hk)]
  refine W.zast hx hb (hP 0 _ rfl) ((hKK.1.2 1 _ rfl).1 n (fun j => .int (c k j))) (fun q => by cases q) (by show ¬ (i < 0 ∨ (arrV _ _ _).slots.size ≤ _); rw [arrV_size]; exact hi) rfl rfl hd fun H1 e1 e2 e3 => ?_
  refine kk H1 _ cells slots ls ?_ (fun a ha => ?_) ?_ r4 r5 r6
  · refine r1.put hk rfl (fun q _ hq => z_ce_congr rfl ?_ rfl) ?_ e2 e3
    · funext b; show z_up c k i.toNatClampNeg x q b = c q b; unfold z_up; rw [if_neg hq]
    · unfold z_ce
      rw [show ((N, σ, z_up c k i.toNatClampNeg x, t) : zW).2.1 k = _ from hs]
      show H1[z_h Γ + k]? = some (vp_cell _ _)
      rw [e1, hn, vp_cell_i, vp_cell_i, arrV_store]
      congr 2
      funext q
      show updV _ _ _ q = Value.int (z_up c k i.toNatClampNeg x k q)
      unfold updV z_up
      rw [if_pos rfl]
      split <;> rfl
  · exact (e3 a (by show a ≠ z_h Γ + k; omega)).trans (r2 a ha)
  · intro y hy
    rcases List.mem_append.mp hy with h | h
    · exact r3 y h
    · rw [List.mem_singleton.mp h]
      show z_h Γ ≤ z_h Γ + k
      omega
end ZH
