/-! A small program logic over the kit's W: worlds of numbered places, locals and stacks as lists -/
abbrev zG : Type := Launch × (Nat → ClassId) × (Nat → Nat → Nat) × (Nat → ClassId) × Nat × Nat
abbrev zF : Type := Nat ⊕ Option Nat
abbrev zS : Type := (Nat × Nat × (Nat → Option Nat)) ⊕ (Nat × List zF)
abbrev zW : Type := Nat × (Nat → zS) × (Nat → Nat → Int32) × (Nat → Int64)
abbrev zM : Type := MethodName × ByteArray × Nat × Option FieldType
abbrev zK : Type := Program × Env × Room × State × MethodId × Array Value × List Frame × Method × Code × (State → Prop) × Nat × Nat × Nat
def z_h (Γ : zG) : Nat := Γ.2.2.2.2.1
def z_D (Γ : zG) : va_G := (Γ.2.1, Γ.2.2.1)
def z_A (Γ : zG) : Nat → ClassId := Γ.2.2.2.1
def z_ad (Γ : zG) (k : Nat) : Nat := if k = 1000 then Γ.2.2.2.2.2 else z_h Γ + k
def z_tr (Γ : zG) : Value → Value
  | .ref k => .ref (z_ad Γ k)
  | v => v
theorem z_tr_cat (Γ : zG) (v : Value) : (z_tr Γ v).category = v.category := by cases v <;> rfl
theorem z_ad_lt {Γ : zG} {k : Nat} (h : k < 1000) : z_ad Γ k = z_h Γ + k := by
  unfold z_ad
  rw [if_neg (by omega)]
def z_fv (Γ : zG) (c : Nat → Int32) (t : Int64) (j : Nat) : zF → Value
  | .inl 0 => .int (c j)
  | .inl (_ + 1) => .long t
  | .inr r => va_rf (r.map (fun k => z_h Γ + k))
def z_ce (Γ : zG) (w : zW) (k : Nat) : va_E := match w.2.1 k with
  | .inl (0, n, _) => .inl (z_A Γ 0, n, .inl (w.2.2.1 k))
  | .inl (1, n, _) => .inl (z_A Γ 1, n, .inl (w.2.2.1 k))
  | .inl (_ + 2, n, f) => .inl (z_A Γ 2, n, .inr (.inr (.inr (.inr (fun j => (f j).map (fun k => z_h Γ + k))))))
  | .inr (ci, fs) => .inr (ci, fs.mapIdx fun j fd => z_fv Γ (w.2.2.1 k) (w.2.2.2 k) j fd)
def z_Rep (Γ : zG) (w : zW) (H : Heap) : Prop := H.size = z_h Γ + w.1 ∧ w.1 ≤ 100 ∧ ∀ k, k < w.1 → va_at (z_D Γ) vwCl (z_h Γ + k, z_ce Γ w k) H
def nestL : List (String × Nat × MethodName × String) := [(RX5, 9, yX4_init, RX5), (RX5, 18, yX0_init, RX5), (RX5, 48, yX2_init, RX5), (RX4, 19, yX5_put, RX5), (RX4, 76, yX5_at, RX5), (RX0, 31, yX5_put, RX5), (RX0, 38, yX5_at, RX5), (RX1, 31, yX5_at, RX5), (RX1, 39, yX5_put, RX5), (RX2, 37, yX5_at, RX5), (RX2, 42, yX5_put, RX5), (RX2, 61, yX5_has, RX5), (RX0, 67, yX5_has, RX5)]
def z_tys (Γ : zG) : List (ClassId × FieldType) := [(z_A Γ 0, .int), (z_A Γ 1, .boolean), (z_A Γ 2, .object RX1)]
def z_KK (Γ : zG) (U : State) : Prop := va_K (z_D Γ) vwCl (z_tys Γ) U ∧ va_AO RX1 U ∧ ∀ q ∈ nestL, va_Nw (.methodLinkNest q.1 q.2.1 q.2.2.1 q.2.2.2) U
theorem z_KK.warm {Γ : zG} {s U : State} (hW : s.WarmedH U.vm) (h : z_KK Γ s) : z_KK Γ U := ⟨h.1.moved hW.alike, h.2.1.moved hW.alike, fun q hq => va_Nw.warmM hW (h.2.2 q hq)⟩
theorem z_KK.vm {Γ : zG} {s U : State} (hv : s.vm = U.vm) (h : z_KK Γ s) : z_KK Γ U := ⟨h.1.moved (by rw [hv]; exact Vm.Alike.refl U.vm), h.2.1.moved (by rw [hv]; exact Vm.Alike.refl U.vm), fun q hq => va_Nw.same rfl hv (h.2.2 q hq)⟩
def tb : List Cond := lw_tbl.filter goodWord
theorem tb_in {w : Cond} (i : Nat) (h : lw_tbl[i]? = some w) (g : goodWord w = true) : w ∈ tb := List.mem_filter.mpr ⟨List.mem_of_getElem? h, g⟩
theorem tb_good {w : Cond} (h : w ∈ tb) : (w.onTables && w.keeps) = true ∨ ∃ ty, w = .arrayClass ty := good_of_word (List.mem_filter.mp h).2
def z_ws (μ : zM) : List Cond := .code μ.1 μ.2.1 μ.2.2.1 μ.2.2.2 :: tb
theorem z_goodIn {μ : zM} (h : Cond.code μ.1 μ.2.1 μ.2.2.1 μ.2.2.2 ∈ tb) : GoodIn tb (z_ws μ) := by
  intro w hw
  rcases List.mem_cons.mp hw with rfl | hw
  · exact ⟨h, tb_good h⟩
  · exact ⟨hw, tb_good hw⟩
/-- locals -/
def z_pr (Γ : zG) (L : List (Option Value)) : List (Nat × Value) := (List.range L.length).filterMap fun j => match L[j]? with
  | some (some v) => some (j, z_tr Γ v)
  | _ => none
theorem z_pr_mem {Γ : zG} {L : List (Option Value)} {j : Nat} {u : Value} : (j, u) ∈ z_pr Γ L ↔ ∃ v, L[j]? = some (some v) ∧ u = z_tr Γ v := by
  unfold z_pr
  rw [List.mem_filterMap]
  constructor
  · rintro ⟨i, hi, h⟩
    split at h
    · next v hv =>
      cases h
      exact ⟨v, hv, rfl⟩
    · cases h
  · rintro ⟨v, hv, rfl⟩
    refine ⟨j, List.mem_range.mpr (List.getElem?_eq_some_iff.mp hv).1, ?_⟩
    rw [hv]
def z_L (Γ : zG) (ls : Array Slot) (L : List (Option Value)) : Prop := lv_has ls L.length (z_pr Γ L) ∧ ∀ (j : Nat) (v : Value), L[j]? = some (some v) → v.category = 1
theorem z_L.at {Γ : zG} {ls : Array Slot} {L : List (Option Value)} (h : z_L Γ ls L) {j : Nat} {v : Value} (hj : L[j]? = some (some v)) : ls[j]? = some (.val (z_tr Γ v)) := h.1.2.2 (j, z_tr Γ v) (z_pr_mem.mpr ⟨v, hj, rfl⟩)
theorem lv_mono {ls : Array Slot} {n : Nat} {l l' : List (Nat × Value)} (h : lv_has ls n l) (hs : ∀ q ∈ l', q ∈ l) : lv_has ls n l' := ⟨h.1, h.2.1, fun q hq => h.2.2 q (hs q hq)⟩
theorem z_L.set {Γ : zG} {ls : Array Slot} {L : List (Option Value)} (h : z_L Γ ls L) {i : Nat} {v : Value} (hc : v.category = 1) {ls' : Array Slot} (h' : lv_has ls' L.length ((i, z_tr Γ v) :: (z_pr Γ L).filter (fun q => !(q.1 == i) && !(q.1 + 1 == i && q.2.category == 2)))) : z_L Γ ls' (L.set i (some v)) := by
  refine ⟨?_, ?_⟩
  · rw [List.length_set]
    refine lv_mono h' ?_
    rintro ⟨j, u⟩ hq
    obtain ⟨x, hx, rfl⟩ := z_pr_mem.mp hq
    rw [List.getElem?_set] at hx
    by_cases hij : i = j
    · subst hij
      rw [if_pos rfl] at hx
      split at hx
      · cases hx
        exact List.mem_cons_self
      · cases hx
    · rw [if_neg hij] at hx
      refine List.mem_cons_of_mem _ (List.mem_filter.mpr ⟨z_pr_mem.mpr ⟨x, hx, rfl⟩, ?_⟩)
      have := h.2 j x hx
      simp [z_tr_cat, this]
      exact fun e => hij e.symm
  · intro j x hx
    rw [List.getElem?_set] at hx
    by_cases hij : i = j
    · subst hij
      rw [if_pos rfl] at hx
      split at hx
      · cases hx
        exact hc
      · cases hx
    · rw [if_neg hij] at hx
      exact h.2 j x hx
theorem lg_sl_1 (vs : List Value) (h : ∀ v ∈ vs, v.category = 1) : lg_sl vs = vs.map Slot.val := by
  induction vs with
  | nil => rfl
  | cons v t ih =>
    have h1 := h v List.mem_cons_self
    have h2 := ih (fun x hx => h x (List.mem_cons_of_mem _ hx))
    unfold lg_sl at h2 ⊢
    rw [List.flatMap_cons, h2, if_neg (by omega)]
    rfl
theorem lv_args_1 (vs : List Value) (h : ∀ v ∈ vs, v.category = 1) : ∀ (i j : Nat) (v : Value), vs[j]? = some v → (i + j, v) ∈ lv_args i vs := by
  induction vs with
  | nil => intro i j v hv; simp at hv
  | cons x t ih =>
    intro i j v hv
    have h1 := h x List.mem_cons_self
    unfold lv_args
    rw [if_neg (by omega)]
    cases j with
    | zero =>
      simp at hv
      subst hv
      exact List.mem_cons_self
    | succ j =>
      refine List.mem_cons_of_mem _ ?_
      have := ih (fun x hx => h x (List.mem_cons_of_mem _ hx)) (i + 1) j v (by simpa using hv)
      rwa [show i + 1 + j = i + (j + 1) by omega] at this
theorem z_entry (Γ : zG) (A : List Value) (n k : Nat) (hn : A.length + k = n) (hA : ∀ v ∈ A, v.category = 1) : z_L Γ ((lg_sl (A.map (z_tr Γ)) ++ List.replicate (n - (lg_sl (A.map (z_tr Γ))).length) Slot.unset).toArray) (A.map some ++ List.replicate k none) := by
  have hA' : ∀ v ∈ A.map (z_tr Γ), v.category = 1 := by
    intro v hv
    obtain ⟨x, hx, rfl⟩ := List.mem_map.mp hv
    rw [z_tr_cat]
    exact hA x hx
  have e := lg_sl_1 _ hA'
  have h := lv_entry (A.map (z_tr Γ)) (n := n) (by rw [e]; simp; omega)
  have hlen : (A.map some ++ List.replicate k (none : Option Value)).length = n := by simp [hn]
  have get : ∀ (j : Nat) (v : Value), (A.map some ++ List.replicate k (none : Option Value))[j]? = some (some v) → A[j]? = some v := by
    intro j v hv
    by_cases hj : j < A.length
    · rw [List.getElem?_append_left (by simpa using hj), List.getElem?_map] at hv
      cases ha : A[j]? with
      | none => rw [ha] at hv; cases hv
      | some x => rw [ha] at hv; cases hv; rfl
    · rw [List.getElem?_append_right (by simp; omega)] at hv
      rw [List.getElem?_replicate] at hv
      split at hv <;> cases hv
  refine ⟨?_, ?_⟩
  · rw [hlen]
    refine lv_mono h ?_
    rintro ⟨j, u⟩ hq
    obtain ⟨v, hv, rfl⟩ := z_pr_mem.mp hq
    have := lv_args_1 _ hA' 0 j (z_tr Γ v) (by rw [List.getElem?_map, get j v hv]; rfl)
    simpa using this
  · intro j v hv
    exact hA v (List.mem_of_getElem? (get j v hv))
def z_d (K : zK) : Nat := K.2.2.2.2.2.2.2.2.2.2.1
/-- THE GOAL of a walk: from here, in any machine state that shows this world, these locals, this stack -/
def GG (Γ : zG) (K : zK) (kc ks : Nat) (w : zW) (pc : Nat) (L : List (Option Value)) (st : List Value) : Prop := match K with
  | (p, e, R, s, m, args, below, meth, c, Q, _, MC, MS) => ∀ (H : Heap) (locs : List Loc) (cells slots : Nat) (ls : Array Slot), z_Rep Γ w H → (∀ q, q < z_h Γ → H[q]? = s.heap[q]?) → (∀ x ∈ locs, z_h Γ ≤ x.base) → cells + kc ≤ MC → slots + ks ≤ MS → z_L Γ ls L → W p Γ.1 e R s m args below meth c H locs cells slots Q (F0 m pc ls (st.map (z_tr Γ)))
def z_C (Γ : zG) (K : zK) (cc : ByteArray) (own : String) (nL : Nat) : Prop := match K with
  | (p, _, R, s, m, args, _, _, c, _, d, MC, MS) => CallFix p m c cc nL s args tb own ∧ z_KK Γ s ∧ d ≤ R.frames ∧ 40 * d ≤ R.locals ∧ MC ≤ R.cells ∧ MS ≤ R.slots
def z_Qc (Γ : zG) (P : Option Value → zW → Prop) : Array Value → State → Outcome → State → Prop := fun _ st o t => (∃ (r : Option Value) (w : zW), o = .returned (r.map (z_tr Γ)) ∧ P r w ∧ z_Rep Γ w t.heap) ∧ ∀ q, q < z_h Γ → t.heap[q]? = st.heap[q]?
def z_Pc (Γ : zG) (A : List Value) (w : zW) : Array Value → State → Prop := fun v U => v = (A.map (z_tr Γ)).toArray ∧ z_Rep Γ w U.heap ∧ z_KK Γ U
def z_M (Γ : zG) (K : zK) (cc : ByteArray) (own : String) (nL : Nat) (ret : Option FieldType) (isI : Bool) (P : Option Value → zW → Prop) : Prop := z_C Γ K cc own nL ∧ match K with
  | (_, _, _, s, _, args, below, meth, _, Q, _, MC, MS) => meth.sig.returnType = ret ∧ meth.locks = false ∧ (isI = true → meth.name = "<init>") ∧ Q = MQ below (z_Qc Γ P) args s MC MS (fun q => z_h Γ ≤ q)
def Sp (Γ : zG) (d : Nat) (μ : zM) (A : List Value) (mc ms : Nat) (w : zW) (P : Option Value → zW → Prop) : Prop := Met Γ.1 μ.1 (z_ws μ) { frames := d, cells := mc, slots := ms, locals := 40 * d } (z_Pc Γ A w) (z_Qc Γ P) mc ms (fun q => z_h Γ ≤ q)
theorem z_blind {Γ : zG} {A : List Value} {w : zW} : FrameBlind (z_Pc Γ A w) := fun _ _ _ _ h => ⟨h.1, h.2.1, h.2.2.vm rfl⟩
/-- a method's contract out of its body's walk -/
theorem Sp.of {Γ : zG} {d : Nat} {own : String} {y : MethodName} {cc : ByteArray} {nL : Nat} {ret : Option FieldType} {A : List Value} {mc ms : Nat} {w : zW} {P : Option Value → zW → Prop} (k : Nat) (isI : Bool) (ho : y.cls = own) (hy : plainName y.cls = true) (hk : A.length + k = nL) (hA : A.all (fun v => v.category == 1) = true) (hI : isI = true → y.name = "<init>")
    (body : ∀ K : zK, z_d K = d → z_M Γ K cc own nL ret isI P → GG Γ K mc ms w 0 (A.map some ++ List.replicate k none) []) : Sp Γ d (y, cc, nL, ret) A mc ms w P := by
  subst ho
  refine Met.ofW (cc := cc) (maxL := nL) (ret := ret) hy rfl ?_
  intro p e s m args below meth c s₁ B hml hv
  obtain ⟨rfl, hR, hK⟩ := hv
  have hts := atoms_spec (ws := z_ws (y, cc, nL, ret)) B.pre
  have hown : s.vm.findClass y.cls = some m.cls := findClass_of_methodNamed B.named
  have hb := body (p, e, (headSpec (z_ws (y, cc, nL, ret)) { frames := d, cells := mc, slots := ms, locals := 40 * d }).room, s, m, (A.map (z_tr Γ)).toArray, below, meth, c, MQ below (z_Qc Γ P) (A.map (z_tr Γ)).toArray s mc ms (fun q => z_h Γ ≤ q), d, mc, ms) rfl
    ⟨⟨⟨B.exec, B.bytes, hml, hown, fun w hw => hts w (List.mem_cons_of_mem _ hw)⟩, hK, Nat.le_refl _, Nat.le_refl _, Nat.le_refl _, Nat.le_refl _⟩, B.returns, B.notSynchronized, fun h => (name_of_methodNamed B.named B.method).1.trans (hI h), rfl⟩
  have hA' : ∀ v ∈ A, v.category = 1 := fun v hv => by simpa using List.all_eq_true.mp hA v hv
  rw [lg_entry_eq]
  exact hb s.heap [] 0 0 _ hR (fun _ _ => rfl) (fun x hx => by cases hx) (by omega) (by omega) (z_entry Γ A nL k hk hA')
