/-! what is made: objects, arrays; Object.<init>; a store of a reference into an array -/
def z_def : zF → Value
  | .inl 0 => .int 0
  | .inl (_ + 1) => .long 0
  | .inr _ => .null
def z_nr : zF → Bool
  | .inr (some _) => false
  | _ => true
def z_NL (own : String) (idx ci : Nat) (fs : List zF) (N : Nat) : Prop := ∃ q : vw_C, vwCl[ci]? = some q ∧ q.2.2 = N ∧ fs.length = N ∧ Cond.classLink own idx q.1 ∈ tb ∧ Cond.instantiable q.1 N ∈ tb ∧ Cond.initialized q.1 ∈ tb ∧ fs.all z_nr = true ∧ ∀ j, j < N → (parseFieldDescriptor (q.2.1 j).2.2.1).map defaultValue = fs[j]?.map z_def
def z_OL (own : String) (idx : Nat) : Prop := Cond.methodLink own idx objectInit ∈ tb ∧ Cond.instanceMethod objectInit ∈ tb ∧ Cond.code objectInit ⟨#[0xb1]⟩ 1 none ∈ tb
section ZN
variable {Γ : zG} {K : zK} {kc ks : Nat} {w : zW} {pc : Nat} {L Lr : List (Option Value)} {st : List Value} {cc : ByteArray} {own : String} {nL : Nat}
theorem g_objInit (C : z_C Γ K cc own nL) {idx k d : Nat} (hd : decode cc pc = .ok (.invokespecial idx, 3)) (hl : z_OL own idx) (hKd : z_d K = d) (hdd : 1 ≤ d) (hL : L.length = nL) (hW : (st.map fun v => v.category).sum ≤ 8) (kk : GG Γ K kc ks w (pc + 3) L st) : GG Γ K kc ks w pc L (.ref k :: st) := by
  obtain ⟨p, e, R, s, m, args, below, meth, c, Q, d0, MC, MS⟩ := K
  obtain ⟨⟨hx, hb, hml, hown, hts⟩, hKK, hdF, hdL, hMC, hMS⟩ := C
  obtain rfl : d0 = d := hKd
  intro H locs cells slots ls r1 r2 r3 r4 r5 r6
  have hlen : ls.size = nL := by rw [← hL]; exact r6.1.1
  have hcat := z_hW (Γ := Γ) (m := m) (pc := 0) (ls := ls) (st0 := []) hW
  have hc2 : 2 * (F0 m pc ls (Value.ref (z_ad Γ k) :: st.map (z_tr Γ))).monitorRoom + ((st.map (z_tr Γ)).map fun v => v.category).sum ≤ 8 := hcat
  have hc3 : 2 * (F0 m pc ls (Value.ref (z_ad Γ k) :: st.map (z_tr Γ))).monitorRoom + ((st.map (z_tr Γ)).map fun v => v.category).sum + 12 ≤ R.locals := by omega
  exact W.objInit hx hb hown (hts _ hl.1) (hts _ hl.2.1) (hts _ hl.2.2) rfl (by rw [hml]; exact hlen) rfl hd (by omega) hc3 (kk H locs cells slots ls r1 r2 r3 r4 r5 r6)
/-- the world behind a new place -/
theorem z_Rep.push {w' : zW} {H H1 : Heap} (r1 : z_Rep Γ w H) (hn : w.1 < 100) (h1 : w'.1 = w.1 + 1) (h2 : ∀ q, q < w.1 → z_ce Γ w' q = z_ce Γ w q) (h3 : va_at (z_D Γ) vwCl (z_h Γ + w.1, z_ce Γ w' w.1) H1) (e2 : H1.size = H.size + 1) (e3 : ∀ q, q < H.size → H1[q]? = H[q]?) : z_Rep Γ w' H1 := by
  refine ⟨by rw [e2, h1, r1.1]; omega, by omega, fun q hq => ?_⟩
  by_cases hqk : q = w.1
  · subst hqk; exact h3
  · rw [h2 q (by omega)]
    exact (r1.2.2 q (by omega)).kept (e3 _ (by show z_h Γ + q < _; rw [r1.1]; omega))
theorem g_new (C : z_C Γ K cc own nL) {σ : Nat → zS} {n : Nat} {c : Nat → Nat → Int32} {t : Nat → Int64} {idx ci N : Nat} {fs : List zF} (hd : decode cc pc = .ok (.new idx, 3)) (hl : z_NL own idx ci fs N) (hn : n < 100) (hkc : 1 ≤ kc) (hks : N ≤ ks)
    (kk : GG Γ K (kc - 1) (ks - N) (n + 1, z_upS σ n (.inr (ci, fs)), z_row c n (fun _ => 0), z_upL t n 0) (pc + 3) L (.ref n :: st)) : GG Γ K kc ks (n, σ, c, t) pc L st := by
  obtain ⟨p, e, R, s, m, args, below, meth, c0, Q, d, MC, MS⟩ := K
  obtain ⟨⟨hx, hb, hml, hown, hts⟩, hKK, hdF, hdL, hMC, hMS⟩ := C
  intro H locs cells slots ls r1 r2 r3 r4 r5 r6
  obtain ⟨q, hc, hqN, hfl, l1, l2, l3, hnr, hdf⟩ := hl
  obtain ⟨hin, ⟨ty0, hty⟩, hnm⟩ := z_cls hc
  have hKn := hKK.1.1 ci _ hc
  refine W.newcK hx hb hown (hts _ l1) (hts _ l2) (hts _ l3) rfl hd (by omega) (by omega) hKn.2.1 r1.1 fun H1 kC hkC e1 z1 o1 => ?_
  have hstk : (Value.ref (z_h Γ + n)) :: st.map (z_tr Γ) = (Value.ref n :: st).map (z_tr Γ) := by
    rw [List.map_cons]; show _ = Value.ref _ :: _; rw [z_ad_lt (by omega)]
  have hz : H.size = z_h Γ + n := r1.1
  have e0 : ∀ x, x < H.size → H1[x]? = H[x]? := fun x hx => o1 x (by rw [← hz]; exact hx)
  show W p Γ.1 e R s m args below meth c0 H1 locs (cells + 1) (slots + N) Q (F0 m (pc + 3) ls (Value.ref (z_h Γ + n) :: st.map (z_tr Γ)))
  rw [hstk]
  refine kk H1 locs (cells + 1) (slots + N) ls ?_ (fun x hx => (o1 x (by show x < z_h Γ + n; omega)).trans (r2 x hx)) r3 (by omega) (by omega) r6
  refine r1.push (w := (n, σ, c, t)) hn rfl (fun x hx => z_ce_congr ?_ ?_ ?_) ?_ (by rw [z1, hz]) e0
  · show z_upS _ _ _ x = _; unfold z_upS; rw [if_neg (by have : x < n := hx; omega)]
  · show z_row c n _ x = c x; unfold z_row; rw [if_neg (by have : x < n := hx; omega)]
  · show z_upL t n 0 x = t x; unfold z_upL; rw [if_neg (by have : x < n := hx; omega)]
  · show va_at _ _ (z_h Γ + n, _) H1
    unfold z_ce
    rw [show ((n + 1, z_upS σ n (.inr (ci, fs)), z_row c n (fun _ => 0), z_upL t n 0) : zW).2.1 (n, σ, c, t).1 = .inr (ci, fs) by show z_upS _ _ _ n = _; unfold z_upS; rw [if_pos rfl]]
    refine ⟨_, hc, (u_born ty0 hts hin hKn hkC e1 hty).to fun j hj => ?_⟩
    show defaultValue (ty0 j) = ((fs.mapIdx fun j fd => z_fv Γ (z_row c n (fun _ => 0) n) (z_upL t n 0 n) j fd)).getD j .null
    have h9 := hdf j (by omega)
    rw [hty j hj] at h9
    have hfd : fs[j]? = some (fs[j]'(by omega)) := List.getElem?_eq_getElem (by omega)
    rw [hfd] at h9
    rw [List.getD_eq_getElem?_getD, List.getElem?_mapIdx, hfd]
    have h10 := List.all_eq_true.mp hnr _ (List.mem_of_getElem? hfd)
    have h11 : defaultValue (ty0 j) = z_def (fs[j]'(by omega)) := Option.some.inj h9
    rw [h11]
    generalize fs[j]'(by omega) = fd at h10
    match fd, h10 with
    | .inl 0, _ => show Value.int 0 = Value.int (z_row c n (fun _ => 0) n j); unfold z_row; rw [if_pos rfl]
    | .inl (_ + 1), _ => show Value.long 0 = Value.long (z_upL t n 0 n); unfold z_upL; rw [if_pos rfl]
    | .inr none, _ => rfl
    | .inr (some _), h => exact absurd h Bool.false_ne_true
theorem z_newA (C : z_C Γ K cc own nL) {σ : Nat → zS} {n N : Nat} {c : Nat → Nat → Int32} {t : Nat → Int64} {atype : ArrayType} (q : Nat) (hat : (q = 0 ∧ atype = .int) ∨ (q = 1 ∧ atype = .boolean)) (hd : decode cc pc = .ok (.newarray atype, 2)) (hw : Cond.arrayClass (newarray.typeOf atype) ∈ tb) (hN : N < 100000) (hn : n < 100) (hkc : 1 ≤ kc) (hks : N ≤ ks)
    (kk : GG Γ K (kc - 1) (ks - N) (n + 1, z_upS σ n (.inl (q, N, fun _ => none)), z_row c n (fun _ => 0), z_upL t n 0) (pc + 2) L (.ref n :: st)) : GG Γ K kc ks (n, σ, c, t) pc L (.int (nI N) :: st) := by
  obtain ⟨p, e, R, s, m, args, below, meth, c0, Q, d, MC, MS⟩ := K
  obtain ⟨⟨hx, hb, hml, hown, hts⟩, hKK, hdF, hdL, hMC, hMS⟩ := C
  intro H locs cells slots ls r1 r2 r3 r4 r5 r6
  have hz : H.size = z_h Γ + n := r1.1
  refine va_newaK hx hb (hts _ hw) rfl hd (n := nI N) (N := N) (rest := st.map (z_tr Γ)) rfl (nI_pos (by omega)) (nI_clamp (by omega)) ?_ (by omega) (by omega) hz (fun H1 cA e1 z1 o1 hAr hNm => ?_)
  · have h4 : componentBytes (newarray.typeOf atype) ≤ 4 := by
      rcases hat with ⟨-, rfl⟩ | ⟨-, rfl⟩ <;> decide
    exact Nat.le_trans (Nat.mul_le_mul (Nat.le_of_lt hN) h4) (by decide)
  · have hstk : (Value.ref (z_h Γ + n)) :: st.map (z_tr Γ) = (Value.ref n :: st).map (z_tr Γ) := by
      rw [List.map_cons]; show _ = Value.ref _ :: _; rw [z_ad_lt (by omega)]
    show W p Γ.1 e R s m args below meth c0 H1 locs (cells + 1) (slots + N) Q (F0 m (pc + 2) ls (Value.ref (z_h Γ + n) :: st.map (z_tr Γ)))
    rw [hstk]
    refine kk H1 locs (cells + 1) (slots + N) ls ?_ (fun x hx => (o1 x (by omega)).trans (r2 x hx)) r3 (by omega) (by omega) r6
    refine r1.push (w := (n, σ, c, t)) hn rfl (fun x hx => z_ce_congr ?_ ?_ ?_) ?_ (by rw [z1, hz]) (fun x hx => o1 x (by omega))
    · show z_upS _ _ _ x = _; unfold z_upS; rw [if_neg (by have : x < n := hx; omega)]
    · show z_row c n _ x = c x; unfold z_row; rw [if_neg (by have : x < n := hx; omega)]
    · show z_upL t n 0 x = t x; unfold z_upL; rw [if_neg (by have : x < n := hx; omega)]
    · show va_at _ _ (z_h Γ + n, _) H1
      unfold z_ce
      rw [show ((n + 1, z_upS σ n (.inl (q, N, fun _ => none)), z_row c n (fun _ => 0), z_upL t n 0) : zW).2.1 (n, σ, c, t).1 = .inl (q, N, fun _ => none) by show z_upS _ _ _ n = _; unfold z_upS; rw [if_pos rfl]]
      have hrow : z_row c n (fun _ => 0) n = fun _ => 0 := by unfold z_row; rw [if_pos rfl]
      rcases hat with ⟨rfl, rfl⟩ | ⟨rfl, rfl⟩
      · have hA : z_A Γ 0 = cA := Option.some.inj ((hKK.1.2 0 _ rfl).2.symm.trans hNm)
        show H1[z_h Γ + n]? = some (vp_cell (z_A Γ 0) (N, .inl (z_row c n (fun _ => 0) n)))
        rw [hrow, hA, e1]
        rfl
      · have hA : z_A Γ 1 = cA := Option.some.inj ((hKK.1.2 1 _ rfl).2.symm.trans hNm)
        show H1[z_h Γ + n]? = some (vp_cell (z_A Γ 1) (N, .inl (z_row c n (fun _ => 0) n)))
        rw [hrow, hA, e1]
        rfl
theorem g_anew (C : z_C Γ K cc own nL) {σ : Nat → zS} {n N idx : Nat} {c : Nat → Nat → Int32} {t : Nat → Int64} (hd : decode cc pc = .ok (.anewarray idx, 3)) (hw : Cond.classLink own idx RX1 ∈ tb) (hN : N < 100000) (hn : n < 100) (hkc : 1 ≤ kc) (hks : N ≤ ks)
    (kk : GG Γ K (kc - 1) (ks - N) (n + 1, z_upS σ n (.inl (2, N, fun _ => none)), z_row c n (fun _ => 0), z_upL t n 0) (pc + 3) L (.ref n :: st)) : GG Γ K kc ks (n, σ, c, t) pc L (.int (nI N) :: st) := by
  obtain ⟨p, e, R, s, m, args, below, meth, c0, Q, d, MC, MS⟩ := K
  obtain ⟨⟨hx, hb, hml, hown, hts⟩, hKK, hdF, hdL, hMC, hMS⟩ := C
  intro H locs cells slots ls r1 r2 r3 r4 r5 r6
  have hz : H.size = z_h Γ + n := r1.1
  have hcl : (nI N).toNatClampNeg = N := nI_clamp (by omega)
  refine W.anew hx hb hown (hts _ hw) (va_AO.use hKK.2.1) rfl hd (n := nI N) (rest := st.map (z_tr Γ)) rfl (nI_pos (by omega)) (by rw [hcl]; omega) (by omega) (by rw [hcl]; omega) (fun cA kA comp f1 f2 f3 f4 => ?_)
  rw [hcl, hz]
  have hstk : (Value.ref (z_h Γ + n)) :: st.map (z_tr Γ) = (Value.ref n :: st).map (z_tr Γ) := by
    rw [List.map_cons]; show _ = Value.ref _ :: _; rw [z_ad_lt (by omega)]
  generalize hH1 : H.push ({ cls := cA, slots := Array.replicate N .null, vm := .none } : Cell) = H1
  have z1 : H1.size = H.size + 1 := by rw [← hH1, Array.size_push]
  have e1 : H1[H.size]? = some (arrV cA N (fun _ => .null)) := by rw [← hH1, Array.getElem?_push_size, ← arrV_new]
  have o1 : ∀ q : Nat, q < H.size → H1[q]? = H[q]? := fun q hq => by rw [← hH1, Array.getElem?_push, if_neg (Nat.ne_of_lt hq)]
  show W p Γ.1 e R s m args below meth c0 H1 locs (cells + 1) (slots + N) Q (F0 m (pc + 3) ls (Value.ref (z_h Γ + n) :: st.map (z_tr Γ)))
  rw [hstk]
  refine kk H1 locs (cells + 1) (slots + N) ls ?_ (fun x hx => (o1 x (by omega)).trans (r2 x hx)) r3 (by omega) (by omega) r6
  refine r1.push (w := (n, σ, c, t)) hn rfl (fun x hx => z_ce_congr ?_ ?_ ?_) ?_ z1 o1
  · show z_upS _ _ _ x = _; unfold z_upS; rw [if_neg (by have : x < n := hx; omega)]
  · show z_row c n _ x = c x; unfold z_row; rw [if_neg (by have : x < n := hx; omega)]
  · show z_upL t n 0 x = t x; unfold z_upL; rw [if_neg (by have : x < n := hx; omega)]
  · show va_at _ _ (z_h Γ + n, _) H1
    unfold z_ce
    rw [show ((n + 1, z_upS σ n (.inl (2, N, fun _ => none)), z_row c n (fun _ => 0), z_upL t n 0) : zW).2.1 (n, σ, c, t).1 = .inl (2, N, fun _ => none) by show z_upS _ _ _ n = _; unfold z_upS; rw [if_pos rfl]]
    obtain ⟨_, _, -, -, -, h4⟩ := (hKK.1.2 2 _ rfl).2
    have hA : z_A Γ 2 = cA := Option.some.inj (h4.symm.trans f1)
    show H1[z_h Γ + n]? = some (vp_cell (z_A Γ 2) (N, .inr (.inr (.inr (.inr (fun _ => none))))))
    rw [hA, ← hz, e1]
    rfl
theorem g_aast (C : z_C Γ K cc own nL) {σ : Nat → zS} {N : Nat} {c : Nat → Nat → Int32} {t : Nat → Int64} {k n v j : Nat} {f : Nat → Option Nat} {fs : List zF} (hd : decode cc pc = .ok (.aastore, 1)) (hk : k < N) (hs : σ k = .inl (2, n, f)) (hj : j < n) (hn : n < 2 ^ 31) (hv : v < N) (hsv : σ v = .inr (1, fs)) (kk : GG Γ K kc ks (N, z_upS σ k (.inl (2, n, fun b => if b = j then some v else f b)), c, t) (pc + 1) L st) : GG Γ K kc ks (N, σ, c, t) pc L (.ref v :: .int (nI j) :: .ref k :: st) := by
  obtain ⟨p, e, R, s, m, args, below, meth, c0, Q, d, MC, MS⟩ := K
  obtain ⟨⟨hx, hb, hml, hown, hts⟩, hKK, hdF, hdL, hMC, hMS⟩ := C
  intro H locs cells slots ls r1 r2 r3 r4 r5 r6
  have hP := z_P1 r1 hk (E := .inl (z_A Γ 2, n, .inr (.inr (.inr (.inr (fun j => (f j).map (fun k => z_h Γ + k))))))) (by unfold z_ce; rw [show ((N, σ, c, t) : zW).2.1 k = _ from hs])
  have hV := z_P1 r1 hv (E := .inr (1, fs.mapIdx fun j fd => z_fv Γ (c v) (t v) j fd)) (by unfold z_ce; rw [show ((N, σ, c, t) : zW).2.1 v = _ from hsv])
  show W p Γ.1 e R s m args below meth c0 H locs cells slots Q (F0 m pc ls (.ref (z_ad Γ v) :: .int (nI j) :: .ref (z_ad Γ k) :: st.map (z_tr Γ)))
  rw [z_ad_lt (z_ltK r1 hk), z_ad_lt (z_ltK r1 hv)]
  have hcj : (nI j).toNatClampNeg = j := nI_clamp (by omega)
  obtain ⟨r', hr', cellV, g1, g2, g3, -⟩ := hV 0 _ rfl
  have hcls := (hKK.1.1 1 _ hr').2
  obtain ⟨kA, comp, k1, k2, k3, -⟩ := (hKK.1.2 2 _ rfl).2
  have hr1 : r'.1 = RX1 := by cases hr'; rfl
  rw [hr1] at hcls
  have hcomp : comp = (z_D Γ).1 1 := Option.some.inj (k3.symm.trans hcls.1)
  subst hcomp
  obtain ⟨kC, hkC, -⟩ := hcls.2
  refine W.aast hx hb (hP 0 _ rfl) (fun q h => by cases h) (fun h => by cases h) k1 k2 rfl hkC ⟨nI_pos (by omega), by rw [hcj]; show j < (arrV _ _ _).slots.size; rw [arrV_size]; exact hj⟩ g1 (fun q h => by rw [g3] at h; cases h) (by rw [g2]; exact hkC) (by rw [g2]; exact va_assign hcls) rfl rfl hd fun H1 e1 e2 e3 => ?_
  rw [hcj] at e1 ⊢
  refine kk H1 _ cells slots ls ?_ (fun a ha => ?_) ?_ r4 r5 r6
  · refine r1.put hk rfl (fun q _ hq => z_ce_congr ?_ rfl rfl) ?_ e2 e3
    · show z_upS _ _ _ q = _; unfold z_upS; rw [if_neg hq]
    · unfold z_ce
      rw [show ((N, z_upS σ k (.inl (2, n, fun b => if b = j then some v else f b)), c, t) : zW).2.1 k = .inl (2, n, fun b => if b = j then some v else f b) by show z_upS _ _ _ k = _; unfold z_upS; rw [if_pos rfl]]
      show H1[z_h Γ + k]? = some (vp_cell _ _)
      rw [e1, vp_cell_q, vp_cell_q, arrV_store]
      congr 2
      funext q
      show updV _ _ _ q = va_rf ((if q = j then some v else f q).map _)
      unfold updV
      by_cases hq : q = j
      · rw [if_pos hq, if_pos hq]; rfl
      · rw [if_neg hq, if_neg hq]
  · exact (e3 a (by show a ≠ z_h Γ + k; omega)).trans (r2 a ha)
  · intro y hy
    rcases List.mem_append.mp hy with h | h
    · exact r3 y h
    · rw [List.mem_singleton.mp h]
      show z_h Γ ≤ z_h Γ + k
      omega
end ZN
