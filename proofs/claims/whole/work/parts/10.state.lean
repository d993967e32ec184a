/-! the places of the run, once all is made: 0 .. 55 the class, 56 .. 67 the reference -/
def z_ar (q n : Nat) : zS := .inl (q, n, fun _ => none)
def z_mo (m : Nat) : zS := .inr (1, [.inr (some (m + 1)), .inr (some (m + 2)), .inl 0, .inl 0])
def z_shapes : List zS := [.inr (5, [.inr (some 1), .inr (some 3), .inr (some 7), .inr (some 11), .inr (some 14), .inr (some 46), .inr (some 49), .inl 0, .inr (some 52), .inl 1]),
  .inr (4, [.inr (some 2), .inl 0, .inl 0, .inl 0, .inl 0, .inl 0]), z_ar 0 200,
  .inr (0, [.inr (some 4), .inr (some 5), .inr (some 6), .inl 0, .inl 0, .inl 0]), z_ar 0 7, z_ar 0 7, z_ar 0 7,
  .inr (0, [.inr (some 8), .inr (some 9), .inr (some 10), .inl 0, .inl 0, .inl 0]), z_ar 0 7, z_ar 0 7, z_ar 0 7,
  z_mo 11, z_ar 0 8, z_ar 0 8,
  .inr (3, [.inr (some 15), .inl 0, .inl 0]), .inl (2, 10, fun j => if j < 10 then some (16 + 3 * j) else none),
  z_mo 16, z_ar 0 8, z_ar 0 8, z_mo 19, z_ar 0 8, z_ar 0 8, z_mo 22, z_ar 0 8, z_ar 0 8, z_mo 25, z_ar 0 8, z_ar 0 8, z_mo 28, z_ar 0 8, z_ar 0 8,
  z_mo 31, z_ar 0 8, z_ar 0 8, z_mo 34, z_ar 0 8, z_ar 0 8, z_mo 37, z_ar 0 8, z_ar 0 8, z_mo 40, z_ar 0 8, z_ar 0 8, z_mo 43, z_ar 0 8, z_ar 0 8,
  z_mo 46, z_ar 0 8, z_ar 0 8, z_mo 49, z_ar 0 8, z_ar 0 8,
  .inr (2, [.inr (some 53), .inr (some 54), .inr (some 55), .inl 0, .inl 0, .inl 0]), z_ar 0 5040, z_ar 0 5040, z_ar 0 7,
  .inr (6, [.inl 1, .inr (some 57), .inl 0, .inr (some 58), .inr (some 59), .inr (some 60), .inr (some 61), .inl 0, .inr (some 62), .inr (some 63), .inl 0, .inl 0, .inl 0, .inl 0, .inr (some 64), .inl 0, .inr (some 65), .inr (some 66), .inr (some 67)]),
  z_ar 0 200, z_ar 0 26, z_ar 0 26, z_ar 0 18, z_ar 0 180, z_ar 0 36, z_ar 1 2, z_ar 0 5040, z_ar 0 8, z_ar 0 8, z_ar 0 32768]
def sF (k : Nat) : zS := z_shapes.getD k (z_ar 0 0)
abbrev wF (c : Nat → Nat → Int32) (t : Nat → Int64) : zW := (68, sF, c, t)
/-- the places of Moments -/
def zMo (m : Nat) : Prop := m < 66 ∧ sF m = z_mo m ∧ sF (m + 1) = z_ar 0 8 ∧ sF (m + 2) = z_ar 0 8
theorem zMo_11 : zMo 11 := ⟨by decide, rfl, rfl, rfl⟩
theorem zMo_46 : zMo 46 := ⟨by decide, rfl, rfl, rfl⟩
theorem zMo_49 : zMo 49 := ⟨by decide, rfl, rfl, rfl⟩
theorem zMo_past : ∀ j, j < 10 → zMo (16 + 3 * j) := by
  intro j hj
  match j, hj with
  | 0, _ => exact ⟨by decide, rfl, rfl, rfl⟩
  | 1, _ => exact ⟨by decide, rfl, rfl, rfl⟩
  | 2, _ => exact ⟨by decide, rfl, rfl, rfl⟩
  | 3, _ => exact ⟨by decide, rfl, rfl, rfl⟩
  | 4, _ => exact ⟨by decide, rfl, rfl, rfl⟩
  | 5, _ => exact ⟨by decide, rfl, rfl, rfl⟩
  | 6, _ => exact ⟨by decide, rfl, rfl, rfl⟩
  | 7, _ => exact ⟨by decide, rfl, rfl, rfl⟩
  | 8, _ => exact ⟨by decide, rfl, rfl, rfl⟩
  | 9, _ => exact ⟨by decide, rfl, rfl, rfl⟩
  | n + 10, h => omega
section ZT
variable {Γ : zG} {K : zK} {kc ks : Nat} {pc : Nat} {L Lr : List (Option Value)} {st : List Value} {cc : ByteArray} {own : String} {nL : Nat} {N : Nat} {σ : Nat → zS} {c : Nat → Nat → Int32} {t : Nat → Int64}
theorem g_getIT (C : z_C Γ K cc own nL) {idx ci j k : Nat} {fs : List zF} (hd : decode cc pc = .ok (.getfield idx, 3)) (hf : z_FL own idx ci j) (hk : k < N) (hs : σ k = .inr (ci, fs)) (hj : fs[j]? = some (.inl 0)) (kk : GG Γ K kc ks (N, σ, c, t) (pc + 3) L (.int (c k j) :: st)) : GG Γ K kc ks (N, σ, c, t) pc L (.ref k :: st) := g_getI (w := (N, σ, c, t)) C hd hf hk hs hj kk
theorem g_getIE (C : z_C Γ K cc own nL) {idx ci j k : Nat} {fs : List zF} {x : Int32} (hx : c k j = x) (hd : decode cc pc = .ok (.getfield idx, 3)) (hf : z_FL own idx ci j) (hk : k < N) (hs : σ k = .inr (ci, fs)) (hj : fs[j]? = some (.inl 0)) (kk : GG Γ K kc ks (N, σ, c, t) (pc + 3) L (.int x :: st)) : GG Γ K kc ks (N, σ, c, t) pc L (.ref k :: st) := by subst hx; exact g_getI (w := (N, σ, c, t)) C hd hf hk hs hj kk
theorem g_getLT (C : z_C Γ K cc own nL) {idx ci j k : Nat} {fs : List zF} (hd : decode cc pc = .ok (.getfield idx, 3)) (hf : z_FL own idx ci j) (hk : k < N) (hs : σ k = .inr (ci, fs)) (hj : fs[j]? = some (.inl 1)) (kk : GG Γ K kc ks (N, σ, c, t) (pc + 3) L (.long (t k) :: st)) : GG Γ K kc ks (N, σ, c, t) pc L (.ref k :: st) := g_getL (w := (N, σ, c, t)) C hd hf hk hs hj kk
theorem g_getRT (C : z_C Γ K cc own nL) {idx ci j k p : Nat} {fs : List zF} (hd : decode cc pc = .ok (.getfield idx, 3)) (hf : z_FL own idx ci j) (hk : k < N) (hs : σ k = .inr (ci, fs)) (hj : fs[j]? = some (.inr (some p))) (hp : p < 1000) (kk : GG Γ K kc ks (N, σ, c, t) (pc + 3) L (.ref p :: st)) : GG Γ K kc ks (N, σ, c, t) pc L (.ref k :: st) := g_getR (w := (N, σ, c, t)) C hd hf hk hs hj hp kk
theorem g_iald (C : z_C Γ K cc own nL) {k n : Nat} {f : Nat → Option Nat} {i : Int32} (hi : vp_in i n) (hd : decode cc pc = .ok (.iaload, 1)) (hk : k < N) (hs : σ k = .inl (0, n, f)) (kk : GG Γ K kc ks (N, σ, c, t) (pc + 1) L (.int (c k i.toNatClampNeg) :: st)) : GG Γ K kc ks (N, σ, c, t) pc L (.int i :: .ref k :: st) := z_iald (w := (N, σ, c, t)) C hd hk hs hi kk
theorem g_ialdE (C : z_C Γ K cc own nL) {j k n : Nat} {f : Nat → Option Nat} {x : Int32} (hx : c k j = x) (hj : j < n) (hn : n < 2 ^ 31) (hd : decode cc pc = .ok (.iaload, 1)) (hk : k < N) (hs : σ k = .inl (0, n, f)) (kk : GG Γ K kc ks (N, σ, c, t) (pc + 1) L (.int x :: st)) : GG Γ K kc ks (N, σ, c, t) pc L (.int (nI j) :: .ref k :: st) := by subst hx; exact z_iald (w := (N, σ, c, t)) C hd hk hs (vp_in_nI hj hn) (by rw [nI_clamp (by omega)]; exact kk)
theorem g_baldE (C : z_C Γ K cc own nL) {j k n : Nat} {f : Nat → Option Nat} {x : Int32} (hx : c k j = x) (hj : j < n) (hn : n < 2 ^ 31) (hd : decode cc pc = .ok (.baload, 1)) (hk : k < N) (hs : σ k = .inl (1, n, f)) (kk : GG Γ K kc ks (N, σ, c, t) (pc + 1) L (.int x :: st)) : GG Γ K kc ks (N, σ, c, t) pc L (.int (nI j) :: .ref k :: st) := by subst hx; exact z_bald (w := (N, σ, c, t)) C hd hk hs (vp_in_nI hj hn) (by rw [nI_clamp (by omega)]; exact kk)
theorem g_aaldE (C : z_C Γ K cc own nL) {j k n q : Nat} {f : Nat → Option Nat} (hf : f j = some q) (hq : q < 1000) (hj : j < n) (hn : n < 2 ^ 31) (hd : decode cc pc = .ok (.aaload, 1)) (hk : k < N) (hs : σ k = .inl (2, n, f)) (kk : GG Γ K kc ks (N, σ, c, t) (pc + 1) L (.ref q :: st)) : GG Γ K kc ks (N, σ, c, t) pc L (.int (nI j) :: .ref k :: st) := z_aald (w := (N, σ, c, t)) C hd hk hs (vp_in_nI hj hn) (by rw [nI_clamp (by omega)]; exact hf) hq kk
theorem g_alen (C : z_C Γ K cc own nL) {k n q : Nat} {f : Nat → Option Nat} (hd : decode cc pc = .ok (.arraylength, 1)) (hk : k < N) (hs : σ k = .inl (q, n, f)) (kk : GG Γ K kc ks (N, σ, c, t) (pc + 1) L (.int (nI n) :: st)) : GG Γ K kc ks (N, σ, c, t) pc L (.ref k :: st) := z_alen (w := (N, σ, c, t)) C hd hk hs kk
theorem g_iastN (C : z_C Γ K cc own nL) {j k n : Nat} {f : Nat → Option Nat} {x : Int32} (hj : j < n) (hn : n < 2 ^ 31) (hd : decode cc pc = .ok (.iastore, 1)) (hk : k < N) (hs : σ k = .inl (0, n, f)) (kk : GG Γ K kc ks (N, σ, z_up c k j x, t) (pc + 1) L st) : GG Γ K kc ks (N, σ, c, t) pc L (.int x :: .int (nI j) :: .ref k :: st) := z_iast C hd hk hs (vp_in_nI hj hn) (by rw [nI_clamp (by omega)]; exact kk)
theorem g_bastN (C : z_C Γ K cc own nL) {j k n : Nat} {f : Nat → Option Nat} {b : Bool} (hj : j < n) (hn : n < 2 ^ 31) (hd : decode cc pc = .ok (.bastore, 1)) (hk : k < N) (hs : σ k = .inl (1, n, f)) (kk : GG Γ K kc ks (N, σ, z_up c k j (nI b.toNat), t) (pc + 1) L st) : GG Γ K kc ks (N, σ, c, t) pc L (.int (nI b.toNat) :: .int (nI j) :: .ref k :: st) := z_bast C hd hk hs (vp_in_nI hj hn) (z_nar b) (by rw [nI_clamp (by omega)]; exact kk)
/-- the content gets another name -/
theorem g_con {c' : Nat → Nat → Int32} {t' : Nat → Int64} (h : c = c') (h2 : t = t') (kk : GG Γ K kc ks (N, σ, c', t') pc L st) : GG Γ K kc ks (N, σ, c, t) pc L st := by subst h h2; exact kk
theorem g_named (kk : ∀ c', c' = c → GG Γ K kc ks (N, σ, c', t) pc L st) : GG Γ K kc ks (N, σ, c, t) pc L st := kk c rfl
end ZT
theorem up_s (c : Nat → Nat → Int32) (k j : Nat) (v : Int32) : z_up c k j v k j = v := by unfold z_up; rw [if_pos rfl, if_pos rfl]
theorem up_k {c : Nat → Nat → Int32} {k j a : Nat} {v : Int32} (h : a ≠ k) (b : Nat) : z_up c k j v a b = c a b := by unfold z_up; rw [if_neg h]
theorem up_j {c : Nat → Nat → Int32} {k j b : Nat} {v : Int32} (a : Nat) (h : b ≠ j) : z_up c k j v a b = c a b := by
  unfold z_up
  rw [if_neg h]
  split <;> rfl
theorem up_K {c : Nat → Nat → Int32} {k j a : Nat} {v : Int32} (h : a ≠ k) : z_up c k j v a = c a := by funext b; exact up_k h b
theorem upL_s (t : Nat → Int64) (k : Nat) (v : Int64) : z_upL t k v k = v := by unfold z_upL; rw [if_pos rfl]
theorem upL_k {t : Nat → Int64} {k a : Nat} {v : Int64} (h : a ≠ k) : z_upL t k v a = t a := by unfold z_upL; rw [if_neg h]
