section ZB
theorem zb_and (a b : Nat) : nI a &&& nI b = nI (a &&& b) := by
  apply Int32.toBitVec_inj.mp
  simp [nI, Int32.toBitVec_ofNat']
theorem zb_or (a b : Nat) : nI a ||| nI b = nI (a ||| b) := by
  apply Int32.toBitVec_inj.mp
  simp [nI, Int32.toBitVec_ofNat']
theorem zb_xor (a b : Nat) : nI a ^^^ nI b = nI (a ^^^ b) := by
  apply Int32.toBitVec_inj.mp
  simp [nI, Int32.toBitVec_ofNat']
theorem zb_sm : ∀ b, b < 32 → ((nI b &&& 31).toBitVec.smod 32).toNat = b := by decide +kernel
theorem zb_su : ∀ b, b < 32 → (((nI b).toUInt32 &&& Int32.toUInt32 31).toBitVec % 32).toNat = b := by decide +kernel
theorem zb_tn (a : Nat) : (nI a).toBitVec = BitVec.ofNat 32 a := by simp [nI, Int32.toBitVec_ofNat']
theorem zb_shl (a : Nat) {b : Nat} (h : b < 32) : nI a <<< (nI b &&& 31) = nI (a <<< b) := by
  apply Int32.toBitVec_inj.mp
  apply BitVec.eq_of_toNat_eq
  rw [pk_shl _ _ b (zb_sm b h), zb_tn, zb_tn, BitVec.toNat_ofNat, BitVec.toNat_ofNat, Nat.shiftLeft_eq, Nat.mod_mul_mod]
theorem zb_shr {a b : Nat} (ha : a < 2 ^ 31) (h : b < 32) : nI a >>> (nI b &&& 31) = nI (a >>> b) := by
  rw [pk_shrN ha _ b (zb_sm b h), Nat.shiftRight_eq_div_pow]
theorem zb_ushr {a b : Nat} (ha : a < 2 ^ 31) (h : b < 32) : ((nI a).toUInt32 >>> ((nI b).toUInt32 &&& Int32.toUInt32 31)).toInt32 = nI (a >>> b) := by
  rw [pk_ushrN (by omega) _ b (zb_su b h), Nat.shiftRight_eq_div_pow]
theorem zb_inc1 (a : Nat) : nI a + Int32.ofInt 1 = nI (a + 1) := nI_1 a
theorem zb_0 {a : Nat} (ha : a < 2 ^ 31) : nI a = 0 ↔ a = 0 := by rw [← nI_0]; exact nI_eq ha (by decide)
theorem zb_if_eq_t {a : Nat} (ha : a < 2 ^ 31) (h : nI a = 0) : a = 0 := (zb_0 ha).mp h
theorem zb_if_eq_f {a : Nat} (ha : a < 2 ^ 31) (h : ¬ nI a = 0) : 0 < a := Nat.pos_of_ne_zero fun q => h ((zb_0 ha).mpr q)
theorem zb_if_ne_t {a : Nat} (ha : a < 2 ^ 31) (h : ¬ nI a = 0) : 0 < a := zb_if_eq_f ha h
theorem zb_if_ne_f {a : Nat} (ha : a < 2 ^ 31) (h : nI a = 0) : a = 0 := zb_if_eq_t ha h
theorem zb_if_gt_t {a : Nat} (ha : a < 2 ^ 31) (h : 0 < nI a) : 0 < a := Nat.pos_of_ne_zero fun q => absurd h (by rw [q]; decide)
theorem zb_if_gt_f {a : Nat} (ha : a < 2 ^ 31) (h : ¬ 0 < nI a) : a = 0 := Nat.eq_zero_of_not_pos fun q => h (by rw [← nI_0]; exact nI_lt q ha)
theorem zb_if_le_t {a : Nat} (ha : a < 2 ^ 31) (h : nI a ≤ 0) : a = 0 := Nat.eq_zero_of_not_pos fun q => nI_nle q ha h
theorem zb_if_le_f {a : Nat} (ha : a < 2 ^ 31) (h : ¬ nI a ≤ 0) : 0 < a := Nat.pos_of_ne_zero fun q => h (by rw [q]; decide)
theorem zb_if_lt_t {a : Nat} (ha : a < 2 ^ 31) (h : nI a < 0) : False := nI_pos ha h
theorem zb_if_lt_f {a : Nat} (_ : a < 2 ^ 31) (_ : ¬ nI a < 0) : True := trivial
theorem zb_if_ge_t {a : Nat} (_ : a < 2 ^ 31) (_ : 0 ≤ nI a) : True := trivial
theorem zb_if_ge_f {a : Nat} (ha : a < 2 ^ 31) (h : ¬ 0 ≤ nI a) : False := h (nI_pos' ha)
end ZB
section ZL
variable {p : Program} {e : Env} {R : Room} {s : State} {m : MethodId} {args : Array Value} {below : List Frame} {meth : Method} {c : Code} {H : Heap} {locs : List Loc} {cells slots : Nat} {Q : State → Prop} {Γ : zG} {pc : Nat} {ls : Array Slot} {rest : List Value} {cc : ByteArray}
theorem z_iinc (hx : p.tables.exec = Jvm.exec) (hb : c.code = cc) {L : List (Option Value)} {j : Nat} {n : Int} {x : Int32} (hd : decode cc pc = .ok (.iinc j n, 3)) (h : z_L Γ ls L) (hj : L[j]? = some (some (.int x)))
    (kk : ∀ ls' : Array Slot, z_L Γ ls' (L.set j (some (.int (x + Int32.ofInt n)))) → W p Γ.1 e R s m args below meth c H locs cells slots Q (F0 m (pc + 3) ls' rest)) : W p Γ.1 e R s m args below meth c H locs cells slots Q (F0 m pc ls rest) := by
  have hm : (j, z_tr Γ (.int x)) ∈ z_pr Γ L := z_pr_mem.mpr ⟨_, hj, rfl⟩
  obtain ⟨q, hq⟩ := List.getElem?_of_mem hm
  exact lv_iinc hx hb hd h.1 hq rfl (List.getElem?_eq_some_iff.mp hj).1 rfl (fun ls' h' => kk ls' (z_L.set (v := .int (x + Int32.ofInt n)) h rfl h'))
end ZL
section ZR
variable {Γ : zG} {K : zK} {kc ks : Nat} {w : zW} {pc : Nat} {L Lr : List (Option Value)} {st : List Value} {cc : ByteArray} {own : String} {nL : Nat}
theorem g_iconst (C : z_C Γ K cc own nL) {n : Int} (v : Int32) (hd : decode cc pc = .ok (.iconst n, 1)) (hv : Int32.ofInt n = v) (k : GG Γ K kc ks w (pc + 1) L (.int v :: st)) : GG Γ K kc ks w pc L (st) := by
  obtain ⟨p, e, R, s, m, args, below, meth, c, Q, d, MC, MS⟩ := K
  obtain ⟨⟨hx, hb, hml, hown, hts⟩, hKK, hdF, hdL, hMC, hMS⟩ := C
  intro H locs cells slots ls r1 r2 r3 r4 r5 r6
  exact lv_iconst hx hb hd hv (k H locs cells slots ls r1 r2 r3 r4 r5 r6)
theorem g_bipush (C : z_C Γ K cc own nL) {n : Int} (v : Int32) (hd : decode cc pc = .ok (.bipush n, 2)) (hv : (Int8.ofInt n).toInt32 = v) (k : GG Γ K kc ks w (pc + 2) L (.int v :: st)) : GG Γ K kc ks w pc L (st) := by
  obtain ⟨p, e, R, s, m, args, below, meth, c, Q, d, MC, MS⟩ := K
  obtain ⟨⟨hx, hb, hml, hown, hts⟩, hKK, hdF, hdL, hMC, hMS⟩ := C
  intro H locs cells slots ls r1 r2 r3 r4 r5 r6
  exact lv_bipush hx hb hd hv (k H locs cells slots ls r1 r2 r3 r4 r5 r6)
theorem g_sipush (C : z_C Γ K cc own nL) {n : Int} (v : Int32) (hd : decode cc pc = .ok (.sipush n, 3)) (hv : (Int16.ofInt n).toInt32 = v) (k : GG Γ K kc ks w (pc + 3) L (.int v :: st)) : GG Γ K kc ks w pc L (st) := by
  obtain ⟨p, e, R, s, m, args, below, meth, c, Q, d, MC, MS⟩ := K
  obtain ⟨⟨hx, hb, hml, hown, hts⟩, hKK, hdF, hdL, hMC, hMS⟩ := C
  intro H locs cells slots ls r1 r2 r3 r4 r5 r6
  exact lv_sipush hx hb hd hv (k H locs cells slots ls r1 r2 r3 r4 r5 r6)
theorem g_lconst (C : z_C Γ K cc own nL) {n : Fin 2} (v : Int64) (hd : decode cc pc = .ok (.lconst n, 1)) (hv : Int64.ofNat (n : Nat) = v) (k : GG Γ K kc ks w (pc + 1) L (.long v :: st)) : GG Γ K kc ks w pc L (st) := by
  obtain ⟨p, e, R, s, m, args, below, meth, c, Q, d, MC, MS⟩ := K
  obtain ⟨⟨hx, hb, hml, hown, hts⟩, hKK, hdF, hdL, hMC, hMS⟩ := C
  intro H locs cells slots ls r1 r2 r3 r4 r5 r6
  exact lv_lconst hx hb hd hv (k H locs cells slots ls r1 r2 r3 r4 r5 r6)
theorem g_null (C : z_C Γ K cc own nL)  (hd : decode cc pc = .ok (.aconst_null, 1))  (k : GG Γ K kc ks w (pc + 1) L (.null :: st)) : GG Γ K kc ks w pc L (st) := by
  obtain ⟨p, e, R, s, m, args, below, meth, c, Q, d, MC, MS⟩ := K
  obtain ⟨⟨hx, hb, hml, hown, hts⟩, hKK, hdF, hdL, hMC, hMS⟩ := C
  intro H locs cells slots ls r1 r2 r3 r4 r5 r6
  exact lv_null hx hb hd (k H locs cells slots ls r1 r2 r3 r4 r5 r6)
theorem g_ldc (C : z_C Γ K cc own nL) {n : Nat} (v : Int32) (hd : decode cc pc = .ok (.ldc n, 2)) (hc : Cond.constant own n v ∈ tb) (k : GG Γ K kc ks w (pc + 2) L (.int v :: st)) : GG Γ K kc ks w pc L (st) := by
  obtain ⟨p, e, R, s, m, args, below, meth, c, Q, d, MC, MS⟩ := K
  obtain ⟨⟨hx, hb, hml, hown, hts⟩, hKK, hdF, hdL, hMC, hMS⟩ := C
  intro H locs cells slots ls r1 r2 r3 r4 r5 r6
  exact lv_ldc hx hb hown (hts _ hc) hd (k H locs cells slots ls r1 r2 r3 r4 r5 r6)
theorem g_ldcw (C : z_C Γ K cc own nL) {n : Nat} (v : Int32) (hd : decode cc pc = .ok (.ldc_w n, 3)) (hc : Cond.constant own n v ∈ tb) (k : GG Γ K kc ks w (pc + 3) L (.int v :: st)) : GG Γ K kc ks w pc L (st) := by
  obtain ⟨p, e, R, s, m, args, below, meth, c, Q, d, MC, MS⟩ := K
  obtain ⟨⟨hx, hb, hml, hown, hts⟩, hKK, hdF, hdL, hMC, hMS⟩ := C
  intro H locs cells slots ls r1 r2 r3 r4 r5 r6
  exact lv_ldcw hx hb hown (hts _ hc) hd (k H locs cells slots ls r1 r2 r3 r4 r5 r6)
theorem g_ldc2 (C : z_C Γ K cc own nL) {n : Nat} (v : Int64) (hd : decode cc pc = .ok (.ldc2_w n, 3)) (hc : Cond.constantLong own n v ∈ tb) (k : GG Γ K kc ks w (pc + 3) L (.long v :: st)) : GG Γ K kc ks w pc L (st) := by
  obtain ⟨p, e, R, s, m, args, below, meth, c, Q, d, MC, MS⟩ := K
  obtain ⟨⟨hx, hb, hml, hown, hts⟩, hKK, hdF, hdL, hMC, hMS⟩ := C
  intro H locs cells slots ls r1 r2 r3 r4 r5 r6
  exact lv_ldc2 hx hb hown (hts _ hc) hd (k H locs cells slots ls r1 r2 r3 r4 r5 r6)
theorem g_iadd (C : z_C Γ K cc own nL) {x y : Int32} (hd : decode cc pc = .ok (.iadd, 1))  (k : GG Γ K kc ks w (pc + 1) L (.int (x + y) :: st)) : GG Γ K kc ks w pc L (.int y :: .int x :: st) := by
  obtain ⟨p, e, R, s, m, args, below, meth, c, Q, d, MC, MS⟩ := K
  obtain ⟨⟨hx, hb, hml, hown, hts⟩, hKK, hdF, hdL, hMC, hMS⟩ := C
  intro H locs cells slots ls r1 r2 r3 r4 r5 r6
  exact lv_iadd hx hb hd (k H locs cells slots ls r1 r2 r3 r4 r5 r6)
theorem g_isub (C : z_C Γ K cc own nL) {x y : Int32} (hd : decode cc pc = .ok (.isub, 1))  (k : GG Γ K kc ks w (pc + 1) L (.int (x - y) :: st)) : GG Γ K kc ks w pc L (.int y :: .int x :: st) := by
  obtain ⟨p, e, R, s, m, args, below, meth, c, Q, d, MC, MS⟩ := K
  obtain ⟨⟨hx, hb, hml, hown, hts⟩, hKK, hdF, hdL, hMC, hMS⟩ := C
  intro H locs cells slots ls r1 r2 r3 r4 r5 r6
  exact lv_isub hx hb hd (k H locs cells slots ls r1 r2 r3 r4 r5 r6)
theorem g_imul (C : z_C Γ K cc own nL) {x y : Int32} (hd : decode cc pc = .ok (.imul, 1))  (k : GG Γ K kc ks w (pc + 1) L (.int (x * y) :: st)) : GG Γ K kc ks w pc L (.int y :: .int x :: st) := by
  obtain ⟨p, e, R, s, m, args, below, meth, c, Q, d, MC, MS⟩ := K
  obtain ⟨⟨hx, hb, hml, hown, hts⟩, hKK, hdF, hdL, hMC, hMS⟩ := C
  intro H locs cells slots ls r1 r2 r3 r4 r5 r6
  exact lv_imul hx hb hd (k H locs cells slots ls r1 r2 r3 r4 r5 r6)
theorem g_iand (C : z_C Γ K cc own nL) {x y : Int32} (hd : decode cc pc = .ok (.iand, 1))  (k : GG Γ K kc ks w (pc + 1) L (.int (x &&& y) :: st)) : GG Γ K kc ks w pc L (.int y :: .int x :: st) := by
  obtain ⟨p, e, R, s, m, args, below, meth, c, Q, d, MC, MS⟩ := K
  obtain ⟨⟨hx, hb, hml, hown, hts⟩, hKK, hdF, hdL, hMC, hMS⟩ := C
  intro H locs cells slots ls r1 r2 r3 r4 r5 r6
  exact lv_iand hx hb hd (k H locs cells slots ls r1 r2 r3 r4 r5 r6)
theorem g_ior (C : z_C Γ K cc own nL) {x y : Int32} (hd : decode cc pc = .ok (.ior, 1))  (k : GG Γ K kc ks w (pc + 1) L (.int (x ||| y) :: st)) : GG Γ K kc ks w pc L (.int y :: .int x :: st) := by
  obtain ⟨p, e, R, s, m, args, below, meth, c, Q, d, MC, MS⟩ := K
  obtain ⟨⟨hx, hb, hml, hown, hts⟩, hKK, hdF, hdL, hMC, hMS⟩ := C
  intro H locs cells slots ls r1 r2 r3 r4 r5 r6
  exact lv_ior hx hb hd (k H locs cells slots ls r1 r2 r3 r4 r5 r6)
theorem g_ixor (C : z_C Γ K cc own nL) {x y : Int32} (hd : decode cc pc = .ok (.ixor, 1))  (k : GG Γ K kc ks w (pc + 1) L (.int (x ^^^ y) :: st)) : GG Γ K kc ks w pc L (.int y :: .int x :: st) := by
  obtain ⟨p, e, R, s, m, args, below, meth, c, Q, d, MC, MS⟩ := K
  obtain ⟨⟨hx, hb, hml, hown, hts⟩, hKK, hdF, hdL, hMC, hMS⟩ := C
  intro H locs cells slots ls r1 r2 r3 r4 r5 r6
  exact lv_ixor hx hb hd (k H locs cells slots ls r1 r2 r3 r4 r5 r6)
theorem g_ishl (C : z_C Γ K cc own nL) {x y : Int32} (hd : decode cc pc = .ok (.ishl, 1))  (k : GG Γ K kc ks w (pc + 1) L (.int (x <<< (y &&& 31)) :: st)) : GG Γ K kc ks w pc L (.int y :: .int x :: st) := by
  obtain ⟨p, e, R, s, m, args, below, meth, c, Q, d, MC, MS⟩ := K
  obtain ⟨⟨hx, hb, hml, hown, hts⟩, hKK, hdF, hdL, hMC, hMS⟩ := C
  intro H locs cells slots ls r1 r2 r3 r4 r5 r6
  exact lv_ishl hx hb hd (k H locs cells slots ls r1 r2 r3 r4 r5 r6)
theorem g_ishr (C : z_C Γ K cc own nL) {x y : Int32} (hd : decode cc pc = .ok (.ishr, 1))  (k : GG Γ K kc ks w (pc + 1) L (.int (x >>> (y &&& 31)) :: st)) : GG Γ K kc ks w pc L (.int y :: .int x :: st) := by
  obtain ⟨p, e, R, s, m, args, below, meth, c, Q, d, MC, MS⟩ := K
  obtain ⟨⟨hx, hb, hml, hown, hts⟩, hKK, hdF, hdL, hMC, hMS⟩ := C
  intro H locs cells slots ls r1 r2 r3 r4 r5 r6
  exact lv_ishr hx hb hd (k H locs cells slots ls r1 r2 r3 r4 r5 r6)
theorem g_idiv (C : z_C Γ K cc own nL) {x y : Int32} (hd : decode cc pc = .ok (.idiv, 1)) (hne : ¬ y = 0) (k : GG Γ K kc ks w (pc + 1) L (.int (x / y) :: st)) : GG Γ K kc ks w pc L (.int y :: .int x :: st) := by
  obtain ⟨p, e, R, s, m, args, below, meth, c, Q, d, MC, MS⟩ := K
  obtain ⟨⟨hx, hb, hml, hown, hts⟩, hKK, hdF, hdL, hMC, hMS⟩ := C
  intro H locs cells slots ls r1 r2 r3 r4 r5 r6
  exact lv_idiv hx hb hd hne (k H locs cells slots ls r1 r2 r3 r4 r5 r6)
theorem g_irem (C : z_C Γ K cc own nL) {x y : Int32} (hd : decode cc pc = .ok (.irem, 1)) (hne : ¬ y = 0) (k : GG Γ K kc ks w (pc + 1) L (.int (x - x / y * y) :: st)) : GG Γ K kc ks w pc L (.int y :: .int x :: st) := by
  obtain ⟨p, e, R, s, m, args, below, meth, c, Q, d, MC, MS⟩ := K
  obtain ⟨⟨hx, hb, hml, hown, hts⟩, hKK, hdF, hdL, hMC, hMS⟩ := C
  intro H locs cells slots ls r1 r2 r3 r4 r5 r6
  exact lv_irem hx hb hd hne (k H locs cells slots ls r1 r2 r3 r4 r5 r6)
theorem g_iushr (C : z_C Γ K cc own nL) {x y : Int32} (hd : decode cc pc = .ok (.iushr, 1))  (k : GG Γ K kc ks w (pc + 1) L (.int ((x.toUInt32 >>> (y.toUInt32 &&& Int32.toUInt32 31)).toInt32) :: st)) : GG Γ K kc ks w pc L (.int y :: .int x :: st) := by
  obtain ⟨p, e, R, s, m, args, below, meth, c, Q, d, MC, MS⟩ := K
  obtain ⟨⟨hx, hb, hml, hown, hts⟩, hKK, hdF, hdL, hMC, hMS⟩ := C
  intro H locs cells slots ls r1 r2 r3 r4 r5 r6
  exact lv_iushr hx hb hd rfl (k H locs cells slots ls r1 r2 r3 r4 r5 r6)
theorem g_ladd (C : z_C Γ K cc own nL) {x y : Int64} (hd : decode cc pc = .ok (.ladd, 1))  (k : GG Γ K kc ks w (pc + 1) L (.long (x + y) :: st)) : GG Γ K kc ks w pc L (.long y :: .long x :: st) := by
  obtain ⟨p, e, R, s, m, args, below, meth, c, Q, d, MC, MS⟩ := K
  obtain ⟨⟨hx, hb, hml, hown, hts⟩, hKK, hdF, hdL, hMC, hMS⟩ := C
  intro H locs cells slots ls r1 r2 r3 r4 r5 r6
  exact lv_ladd hx hb hd (k H locs cells slots ls r1 r2 r3 r4 r5 r6)
theorem g_lcmp (C : z_C Γ K cc own nL) {x y : Int64} (hd : decode cc pc = .ok (.lcmp, 1))  (k : GG Γ K kc ks w (pc + 1) L (.int (lg_cmp x y) :: st)) : GG Γ K kc ks w pc L (.long y :: .long x :: st) := by
  obtain ⟨p, e, R, s, m, args, below, meth, c, Q, d, MC, MS⟩ := K
  obtain ⟨⟨hx, hb, hml, hown, hts⟩, hKK, hdF, hdL, hMC, hMS⟩ := C
  intro H locs cells slots ls r1 r2 r3 r4 r5 r6
  exact W.lcmp hx hb hd (k H locs cells slots ls r1 r2 r3 r4 r5 r6)
theorem g_dup (C : z_C Γ K cc own nL) {v : Value} (hd : decode cc pc = .ok (.dup, 1)) (hv : v.category = 1) (k : GG Γ K kc ks w (pc + 1) L (v :: v :: st)) : GG Γ K kc ks w pc L (v :: st) := by
  obtain ⟨p, e, R, s, m, args, below, meth, c, Q, d, MC, MS⟩ := K
  obtain ⟨⟨hx, hb, hml, hown, hts⟩, hKK, hdF, hdL, hMC, hMS⟩ := C
  intro H locs cells slots ls r1 r2 r3 r4 r5 r6
  exact lv_dup hx hb hd (by rw [z_tr_cat]; exact hv) (k H locs cells slots ls r1 r2 r3 r4 r5 r6)
theorem g_dup2 (C : z_C Γ K cc own nL) {v u : Value} (hd : decode cc pc = .ok (.dup2, 1)) (hv : v.category = 1) (hu : u.category = 1) (k : GG Γ K kc ks w (pc + 1) L (v :: u :: v :: u :: st)) : GG Γ K kc ks w pc L (v :: u :: st) := by
  obtain ⟨p, e, R, s, m, args, below, meth, c, Q, d, MC, MS⟩ := K
  obtain ⟨⟨hx, hb, hml, hown, hts⟩, hKK, hdF, hdL, hMC, hMS⟩ := C
  intro H locs cells slots ls r1 r2 r3 r4 r5 r6
  exact lv_dup2_11 hx hb hd (by rw [z_tr_cat]; exact hv) (by rw [z_tr_cat]; exact hu) (k H locs cells slots ls r1 r2 r3 r4 r5 r6)
theorem g_pop (C : z_C Γ K cc own nL) {v : Value} (hd : decode cc pc = .ok (.pop, 1)) (hv : v.category = 1) (k : GG Γ K kc ks w (pc + 1) L (st)) : GG Γ K kc ks w pc L (v :: st) := by
  obtain ⟨p, e, R, s, m, args, below, meth, c, Q, d, MC, MS⟩ := K
  obtain ⟨⟨hx, hb, hml, hown, hts⟩, hKK, hdF, hdL, hMC, hMS⟩ := C
  intro H locs cells slots ls r1 r2 r3 r4 r5 r6
  exact lv_pop hx hb hd (by rw [z_tr_cat]; exact hv) (k H locs cells slots ls r1 r2 r3 r4 r5 r6)
theorem g_top {x y : Int32} (h : x = y) (k : GG Γ K kc ks w pc L (.int y :: st)) : GG Γ K kc ks w pc L (.int x :: st) := h ▸ k
theorem g_set {w' : zW} {L' : List (Option Value)} {st' : List Value} (hw : w = w') (hL : L = L') (hs : st = st') (k : GG Γ K kc ks w' pc L' st') : GG Γ K kc ks w pc L st := by subst hw hL hs; exact k
theorem g_iaddN (C : z_C Γ K cc own nL) {a b : Nat} (hd : decode cc pc = .ok (.iadd, 1))  (k : GG Γ K kc ks w (pc + 1) L (.int (nI (a + b)) :: st)) : GG Γ K kc ks w pc L (.int (nI b) :: .int (nI a) :: st) := g_iadd C hd (g_top (nI_add a b) k)
theorem g_isubN (C : z_C Γ K cc own nL) {a b : Nat} (hd : decode cc pc = .ok (.isub, 1)) (h : b ≤ a) (k : GG Γ K kc ks w (pc + 1) L (.int (nI (a - b)) :: st)) : GG Γ K kc ks w pc L (.int (nI b) :: .int (nI a) :: st) := g_isub C hd (g_top (pk_sub h) k)
theorem g_imulN (C : z_C Γ K cc own nL) {a b : Nat} (hd : decode cc pc = .ok (.imul, 1))  (k : GG Γ K kc ks w (pc + 1) L (.int (nI (a * b)) :: st)) : GG Γ K kc ks w pc L (.int (nI b) :: .int (nI a) :: st) := g_imul C hd (g_top (pk_mul a b) k)
theorem g_iandN (C : z_C Γ K cc own nL) {a b : Nat} (hd : decode cc pc = .ok (.iand, 1))  (k : GG Γ K kc ks w (pc + 1) L (.int (nI (a &&& b)) :: st)) : GG Γ K kc ks w pc L (.int (nI b) :: .int (nI a) :: st) := g_iand C hd (g_top (zb_and a b) k)
theorem g_iorN (C : z_C Γ K cc own nL) {a b : Nat} (hd : decode cc pc = .ok (.ior, 1))  (k : GG Γ K kc ks w (pc + 1) L (.int (nI (a ||| b)) :: st)) : GG Γ K kc ks w pc L (.int (nI b) :: .int (nI a) :: st) := g_ior C hd (g_top (zb_or a b) k)
theorem g_ixorN (C : z_C Γ K cc own nL) {a b : Nat} (hd : decode cc pc = .ok (.ixor, 1))  (k : GG Γ K kc ks w (pc + 1) L (.int (nI (a ^^^ b)) :: st)) : GG Γ K kc ks w pc L (.int (nI b) :: .int (nI a) :: st) := g_ixor C hd (g_top (zb_xor a b) k)
theorem g_ishlN (C : z_C Γ K cc own nL) {a b : Nat} (hd : decode cc pc = .ok (.ishl, 1)) (h : b < 32) (k : GG Γ K kc ks w (pc + 1) L (.int (nI (a <<< b)) :: st)) : GG Γ K kc ks w pc L (.int (nI b) :: .int (nI a) :: st) := g_ishl C hd (g_top (zb_shl a h) k)
theorem g_ishrN (C : z_C Γ K cc own nL) {a b : Nat} (hd : decode cc pc = .ok (.ishr, 1)) (h : b < 32) (ha : a < 2 ^ 31) (k : GG Γ K kc ks w (pc + 1) L (.int (nI (a >>> b)) :: st)) : GG Γ K kc ks w pc L (.int (nI b) :: .int (nI a) :: st) := g_ishr C hd (g_top (zb_shr ha h) k)
theorem g_iushrN (C : z_C Γ K cc own nL) {a b : Nat} (hd : decode cc pc = .ok (.iushr, 1)) (h : b < 32) (ha : a < 2 ^ 31) (k : GG Γ K kc ks w (pc + 1) L (.int (nI (a >>> b)) :: st)) : GG Γ K kc ks w pc L (.int (nI b) :: .int (nI a) :: st) := g_iushr C hd (g_top (zb_ushr ha h) k)
theorem g_idivN (C : z_C Γ K cc own nL) {a b : Nat} (hd : decode cc pc = .ok (.idiv, 1)) (ha : a < 2 ^ 31) (h0 : 0 < b) (hb : b < 2 ^ 31) (k : GG Γ K kc ks w (pc + 1) L (.int (nI (a / b)) :: st)) : GG Γ K kc ks w pc L (.int (nI b) :: .int (nI a) :: st) := g_idiv C hd (nI_ne0 h0 hb) (g_top (pk_div ha h0 hb) k)
theorem g_iremN (C : z_C Γ K cc own nL) {a b : Nat} (hd : decode cc pc = .ok (.irem, 1)) (ha : a < 2 ^ 31) (h0 : 0 < b) (hb : b < 2 ^ 31) (k : GG Γ K kc ks w (pc + 1) L (.int (nI (a % b)) :: st)) : GG Γ K kc ks w pc L (.int (nI b) :: .int (nI a) :: st) := g_irem C hd (nI_ne0 h0 hb) (g_top (pk_rem ha h0 hb) k)
theorem g_iload0 (C : z_C Γ K cc own nL)  {x : Int32} (hd : decode cc pc = .ok (.iload_n 0, 1)) (k : GG Γ K kc ks w (pc + 1) (some (.int x) :: Lr) (.int x :: st)) : GG Γ K kc ks w pc (some (.int x) :: Lr) (st) := by
  obtain ⟨p, e, R, s, m, args, below, meth, c, Q, d, MC, MS⟩ := K
  obtain ⟨⟨hx, hb, hml, hown, hts⟩, hKK, hdF, hdL, hMC, hMS⟩ := C
  intro H locs cells slots ls r1 r2 r3 r4 r5 r6
  exact lv_iload_n hx hb hd rfl (z_L.at r6 (j := 0) rfl) (k H locs cells slots ls r1 r2 r3 r4 r5 r6)
theorem g_istore0 (C : z_C Γ K cc own nL)  {b : Option Value} {x : Int32} (hd : decode cc pc = .ok (.istore_n 0, 1)) (k : GG Γ K kc ks w (pc + 1) (some (.int x) :: Lr) (st)) : GG Γ K kc ks w pc (b :: Lr) (.int x :: st) := by
  obtain ⟨p, e, R, s, m, args, below, meth, c, Q, d, MC, MS⟩ := K
  obtain ⟨⟨hx, hb, hml, hown, hts⟩, hKK, hdF, hdL, hMC, hMS⟩ := C
  intro H locs cells slots ls r1 r2 r3 r4 r5 r6
  exact lv_istore_n hx hb hd rfl r6.1 (by simp only [List.length_cons]; omega) rfl (fun ls' h' => k H locs cells slots ls' r1 r2 r3 r4 r5 (z_L.set (v := .int x) (i := 0) r6 rfl h'))
theorem g_aload0 (C : z_C Γ K cc own nL)  {x : Nat} (hd : decode cc pc = .ok (.aload_n 0, 1)) (k : GG Γ K kc ks w (pc + 1) (some (.ref x) :: Lr) (.ref x :: st)) : GG Γ K kc ks w pc (some (.ref x) :: Lr) (st) := by
  obtain ⟨p, e, R, s, m, args, below, meth, c, Q, d, MC, MS⟩ := K
  obtain ⟨⟨hx, hb, hml, hown, hts⟩, hKK, hdF, hdL, hMC, hMS⟩ := C
  intro H locs cells slots ls r1 r2 r3 r4 r5 r6
  exact lv_aload_n hx hb hd rfl (z_L.at r6 (j := 0) rfl) (k H locs cells slots ls r1 r2 r3 r4 r5 r6)
theorem g_astore0 (C : z_C Γ K cc own nL)  {b : Option Value} {x : Nat} (hd : decode cc pc = .ok (.astore_n 0, 1)) (k : GG Γ K kc ks w (pc + 1) (some (.ref x) :: Lr) (st)) : GG Γ K kc ks w pc (b :: Lr) (.ref x :: st) := by
  obtain ⟨p, e, R, s, m, args, below, meth, c, Q, d, MC, MS⟩ := K
  obtain ⟨⟨hx, hb, hml, hown, hts⟩, hKK, hdF, hdL, hMC, hMS⟩ := C
  intro H locs cells slots ls r1 r2 r3 r4 r5 r6
  exact lv_astore_n hx hb hd rfl r6.1 (by simp only [List.length_cons]; omega) rfl (fun ls' h' => k H locs cells slots ls' r1 r2 r3 r4 r5 (z_L.set (v := .ref x) (i := 0) r6 rfl h'))
theorem g_iinc0 (C : z_C Γ K cc own nL)  {x : Int32} {n : Int} (hd : decode cc pc = .ok (.iinc 0 n, 3)) (k : GG Γ K kc ks w (pc + 3) (some (.int (x + Int32.ofInt n)) :: Lr) (st)) : GG Γ K kc ks w pc (some (.int x) :: Lr) (st) := by
  obtain ⟨p, e, R, s, m, args, below, meth, c, Q, d, MC, MS⟩ := K
  obtain ⟨⟨hx, hb, hml, hown, hts⟩, hKK, hdF, hdL, hMC, hMS⟩ := C
  intro H locs cells slots ls r1 r2 r3 r4 r5 r6
  exact z_iinc hx hb hd r6 (j := 0) rfl (fun ls' h' => k H locs cells slots ls' r1 r2 r3 r4 r5 h')
theorem g_iinc0N (C : z_C Γ K cc own nL)  {a : Nat} (hd : decode cc pc = .ok (.iinc 0 1, 3)) (k : GG Γ K kc ks w (pc + 3) (some (.int (nI (a + 1))) :: Lr) (st)) : GG Γ K kc ks w pc (some (.int (nI a)) :: Lr) (st) := g_iinc0 C hd ((zb_inc1 a).symm ▸ k)
theorem g_iload1 (C : z_C Γ K cc own nL) {a0 : Option Value} {x : Int32} (hd : decode cc pc = .ok (.iload_n 1, 1)) (k : GG Γ K kc ks w (pc + 1) (a0 :: some (.int x) :: Lr) (.int x :: st)) : GG Γ K kc ks w pc (a0 :: some (.int x) :: Lr) (st) := by
  obtain ⟨p, e, R, s, m, args, below, meth, c, Q, d, MC, MS⟩ := K
  obtain ⟨⟨hx, hb, hml, hown, hts⟩, hKK, hdF, hdL, hMC, hMS⟩ := C
  intro H locs cells slots ls r1 r2 r3 r4 r5 r6
  exact lv_iload_n hx hb hd rfl (z_L.at r6 (j := 1) rfl) (k H locs cells slots ls r1 r2 r3 r4 r5 r6)
theorem g_istore1 (C : z_C Γ K cc own nL) {a0 : Option Value} {b : Option Value} {x : Int32} (hd : decode cc pc = .ok (.istore_n 1, 1)) (k : GG Γ K kc ks w (pc + 1) (a0 :: some (.int x) :: Lr) (st)) : GG Γ K kc ks w pc (a0 :: b :: Lr) (.int x :: st) := by
  obtain ⟨p, e, R, s, m, args, below, meth, c, Q, d, MC, MS⟩ := K
  obtain ⟨⟨hx, hb, hml, hown, hts⟩, hKK, hdF, hdL, hMC, hMS⟩ := C
  intro H locs cells slots ls r1 r2 r3 r4 r5 r6
  exact lv_istore_n hx hb hd rfl r6.1 (by simp only [List.length_cons]; omega) rfl (fun ls' h' => k H locs cells slots ls' r1 r2 r3 r4 r5 (z_L.set (v := .int x) (i := 1) r6 rfl h'))
theorem g_aload1 (C : z_C Γ K cc own nL) {a0 : Option Value} {x : Nat} (hd : decode cc pc = .ok (.aload_n 1, 1)) (k : GG Γ K kc ks w (pc + 1) (a0 :: some (.ref x) :: Lr) (.ref x :: st)) : GG Γ K kc ks w pc (a0 :: some (.ref x) :: Lr) (st) := by
  obtain ⟨p, e, R, s, m, args, below, meth, c, Q, d, MC, MS⟩ := K
  obtain ⟨⟨hx, hb, hml, hown, hts⟩, hKK, hdF, hdL, hMC, hMS⟩ := C
  intro H locs cells slots ls r1 r2 r3 r4 r5 r6
  exact lv_aload_n hx hb hd rfl (z_L.at r6 (j := 1) rfl) (k H locs cells slots ls r1 r2 r3 r4 r5 r6)
theorem g_astore1 (C : z_C Γ K cc own nL) {a0 : Option Value} {b : Option Value} {x : Nat} (hd : decode cc pc = .ok (.astore_n 1, 1)) (k : GG Γ K kc ks w (pc + 1) (a0 :: some (.ref x) :: Lr) (st)) : GG Γ K kc ks w pc (a0 :: b :: Lr) (.ref x :: st) := by
  obtain ⟨p, e, R, s, m, args, below, meth, c, Q, d, MC, MS⟩ := K
  obtain ⟨⟨hx, hb, hml, hown, hts⟩, hKK, hdF, hdL, hMC, hMS⟩ := C
  intro H locs cells slots ls r1 r2 r3 r4 r5 r6
  exact lv_astore_n hx hb hd rfl r6.1 (by simp only [List.length_cons]; omega) rfl (fun ls' h' => k H locs cells slots ls' r1 r2 r3 r4 r5 (z_L.set (v := .ref x) (i := 1) r6 rfl h'))
theorem g_iinc1 (C : z_C Γ K cc own nL) {a0 : Option Value} {x : Int32} {n : Int} (hd : decode cc pc = .ok (.iinc 1 n, 3)) (k : GG Γ K kc ks w (pc + 3) (a0 :: some (.int (x + Int32.ofInt n)) :: Lr) (st)) : GG Γ K kc ks w pc (a0 :: some (.int x) :: Lr) (st) := by
  obtain ⟨p, e, R, s, m, args, below, meth, c, Q, d, MC, MS⟩ := K
  obtain ⟨⟨hx, hb, hml, hown, hts⟩, hKK, hdF, hdL, hMC, hMS⟩ := C
  intro H locs cells slots ls r1 r2 r3 r4 r5 r6
  exact z_iinc hx hb hd r6 (j := 1) rfl (fun ls' h' => k H locs cells slots ls' r1 r2 r3 r4 r5 h')
theorem g_iinc1N (C : z_C Γ K cc own nL) {a0 : Option Value} {a : Nat} (hd : decode cc pc = .ok (.iinc 1 1, 3)) (k : GG Γ K kc ks w (pc + 3) (a0 :: some (.int (nI (a + 1))) :: Lr) (st)) : GG Γ K kc ks w pc (a0 :: some (.int (nI a)) :: Lr) (st) := g_iinc1 C hd ((zb_inc1 a).symm ▸ k)
theorem g_iload2 (C : z_C Γ K cc own nL) {a0 a1 : Option Value} {x : Int32} (hd : decode cc pc = .ok (.iload_n 2, 1)) (k : GG Γ K kc ks w (pc + 1) (a0 :: a1 :: some (.int x) :: Lr) (.int x :: st)) : GG Γ K kc ks w pc (a0 :: a1 :: some (.int x) :: Lr) (st) := by
  obtain ⟨p, e, R, s, m, args, below, meth, c, Q, d, MC, MS⟩ := K
  obtain ⟨⟨hx, hb, hml, hown, hts⟩, hKK, hdF, hdL, hMC, hMS⟩ := C
  intro H locs cells slots ls r1 r2 r3 r4 r5 r6
  exact lv_iload_n hx hb hd rfl (z_L.at r6 (j := 2) rfl) (k H locs cells slots ls r1 r2 r3 r4 r5 r6)
theorem g_istore2 (C : z_C Γ K cc own nL) {a0 a1 : Option Value} {b : Option Value} {x : Int32} (hd : decode cc pc = .ok (.istore_n 2, 1)) (k : GG Γ K kc ks w (pc + 1) (a0 :: a1 :: some (.int x) :: Lr) (st)) : GG Γ K kc ks w pc (a0 :: a1 :: b :: Lr) (.int x :: st) := by
  obtain ⟨p, e, R, s, m, args, below, meth, c, Q, d, MC, MS⟩ := K
  obtain ⟨⟨hx, hb, hml, hown, hts⟩, hKK, hdF, hdL, hMC, hMS⟩ := C
  intro H locs cells slots ls r1 r2 r3 r4 r5 r6
  exact lv_istore_n hx hb hd rfl r6.1 (by simp only [List.length_cons]; omega) rfl (fun ls' h' => k H locs cells slots ls' r1 r2 r3 r4 r5 (z_L.set (v := .int x) (i := 2) r6 rfl h'))
theorem g_aload2 (C : z_C Γ K cc own nL) {a0 a1 : Option Value} {x : Nat} (hd : decode cc pc = .ok (.aload_n 2, 1)) (k : GG Γ K kc ks w (pc + 1) (a0 :: a1 :: some (.ref x) :: Lr) (.ref x :: st)) : GG Γ K kc ks w pc (a0 :: a1 :: some (.ref x) :: Lr) (st) := by
  obtain ⟨p, e, R, s, m, args, below, meth, c, Q, d, MC, MS⟩ := K
  obtain ⟨⟨hx, hb, hml, hown, hts⟩, hKK, hdF, hdL, hMC, hMS⟩ := C
  intro H locs cells slots ls r1 r2 r3 r4 r5 r6
  exact lv_aload_n hx hb hd rfl (z_L.at r6 (j := 2) rfl) (k H locs cells slots ls r1 r2 r3 r4 r5 r6)
theorem g_astore2 (C : z_C Γ K cc own nL) {a0 a1 : Option Value} {b : Option Value} {x : Nat} (hd : decode cc pc = .ok (.astore_n 2, 1)) (k : GG Γ K kc ks w (pc + 1) (a0 :: a1 :: some (.ref x) :: Lr) (st)) : GG Γ K kc ks w pc (a0 :: a1 :: b :: Lr) (.ref x :: st) := by
  obtain ⟨p, e, R, s, m, args, below, meth, c, Q, d, MC, MS⟩ := K
  obtain ⟨⟨hx, hb, hml, hown, hts⟩, hKK, hdF, hdL, hMC, hMS⟩ := C
  intro H locs cells slots ls r1 r2 r3 r4 r5 r6
  exact lv_astore_n hx hb hd rfl r6.1 (by simp only [List.length_cons]; omega) rfl (fun ls' h' => k H locs cells slots ls' r1 r2 r3 r4 r5 (z_L.set (v := .ref x) (i := 2) r6 rfl h'))
theorem g_iinc2 (C : z_C Γ K cc own nL) {a0 a1 : Option Value} {x : Int32} {n : Int} (hd : decode cc pc = .ok (.iinc 2 n, 3)) (k : GG Γ K kc ks w (pc + 3) (a0 :: a1 :: some (.int (x + Int32.ofInt n)) :: Lr) (st)) : GG Γ K kc ks w pc (a0 :: a1 :: some (.int x) :: Lr) (st) := by
  obtain ⟨p, e, R, s, m, args, below, meth, c, Q, d, MC, MS⟩ := K
  obtain ⟨⟨hx, hb, hml, hown, hts⟩, hKK, hdF, hdL, hMC, hMS⟩ := C
  intro H locs cells slots ls r1 r2 r3 r4 r5 r6
  exact z_iinc hx hb hd r6 (j := 2) rfl (fun ls' h' => k H locs cells slots ls' r1 r2 r3 r4 r5 h')
theorem g_iinc2N (C : z_C Γ K cc own nL) {a0 a1 : Option Value} {a : Nat} (hd : decode cc pc = .ok (.iinc 2 1, 3)) (k : GG Γ K kc ks w (pc + 3) (a0 :: a1 :: some (.int (nI (a + 1))) :: Lr) (st)) : GG Γ K kc ks w pc (a0 :: a1 :: some (.int (nI a)) :: Lr) (st) := g_iinc2 C hd ((zb_inc1 a).symm ▸ k)
theorem g_iload3 (C : z_C Γ K cc own nL) {a0 a1 a2 : Option Value} {x : Int32} (hd : decode cc pc = .ok (.iload_n 3, 1)) (k : GG Γ K kc ks w (pc + 1) (a0 :: a1 :: a2 :: some (.int x) :: Lr) (.int x :: st)) : GG Γ K kc ks w pc (a0 :: a1 :: a2 :: some (.int x) :: Lr) (st) := by
  obtain ⟨p, e, R, s, m, args, below, meth, c, Q, d, MC, MS⟩ := K
  obtain ⟨⟨hx, hb, hml, hown, hts⟩, hKK, hdF, hdL, hMC, hMS⟩ := C
  intro H locs cells slots ls r1 r2 r3 r4 r5 r6
  exact lv_iload_n hx hb hd rfl (z_L.at r6 (j := 3) rfl) (k H locs cells slots ls r1 r2 r3 r4 r5 r6)
theorem g_istore3 (C : z_C Γ K cc own nL) {a0 a1 a2 : Option Value} {b : Option Value} {x : Int32} (hd : decode cc pc = .ok (.istore_n 3, 1)) (k : GG Γ K kc ks w (pc + 1) (a0 :: a1 :: a2 :: some (.int x) :: Lr) (st)) : GG Γ K kc ks w pc (a0 :: a1 :: a2 :: b :: Lr) (.int x :: st) := by
  obtain ⟨p, e, R, s, m, args, below, meth, c, Q, d, MC, MS⟩ := K
  obtain ⟨⟨hx, hb, hml, hown, hts⟩, hKK, hdF, hdL, hMC, hMS⟩ := C
  intro H locs cells slots ls r1 r2 r3 r4 r5 r6
  exact lv_istore_n hx hb hd rfl r6.1 (by simp only [List.length_cons]; omega) rfl (fun ls' h' => k H locs cells slots ls' r1 r2 r3 r4 r5 (z_L.set (v := .int x) (i := 3) r6 rfl h'))
theorem g_aload3 (C : z_C Γ K cc own nL) {a0 a1 a2 : Option Value} {x : Nat} (hd : decode cc pc = .ok (.aload_n 3, 1)) (k : GG Γ K kc ks w (pc + 1) (a0 :: a1 :: a2 :: some (.ref x) :: Lr) (.ref x :: st)) : GG Γ K kc ks w pc (a0 :: a1 :: a2 :: some (.ref x) :: Lr) (st) := by
  obtain ⟨p, e, R, s, m, args, below, meth, c, Q, d, MC, MS⟩ := K
  obtain ⟨⟨hx, hb, hml, hown, hts⟩, hKK, hdF, hdL, hMC, hMS⟩ := C
  intro H locs cells slots ls r1 r2 r3 r4 r5 r6
  exact lv_aload_n hx hb hd rfl (z_L.at r6 (j := 3) rfl) (k H locs cells slots ls r1 r2 r3 r4 r5 r6)
theorem g_astore3 (C : z_C Γ K cc own nL) {a0 a1 a2 : Option Value} {b : Option Value} {x : Nat} (hd : decode cc pc = .ok (.astore_n 3, 1)) (k : GG Γ K kc ks w (pc + 1) (a0 :: a1 :: a2 :: some (.ref x) :: Lr) (st)) : GG Γ K kc ks w pc (a0 :: a1 :: a2 :: b :: Lr) (.ref x :: st) := by
  obtain ⟨p, e, R, s, m, args, below, meth, c, Q, d, MC, MS⟩ := K
  obtain ⟨⟨hx, hb, hml, hown, hts⟩, hKK, hdF, hdL, hMC, hMS⟩ := C
  intro H locs cells slots ls r1 r2 r3 r4 r5 r6
  exact lv_astore_n hx hb hd rfl r6.1 (by simp only [List.length_cons]; omega) rfl (fun ls' h' => k H locs cells slots ls' r1 r2 r3 r4 r5 (z_L.set (v := .ref x) (i := 3) r6 rfl h'))
theorem g_iinc3 (C : z_C Γ K cc own nL) {a0 a1 a2 : Option Value} {x : Int32} {n : Int} (hd : decode cc pc = .ok (.iinc 3 n, 3)) (k : GG Γ K kc ks w (pc + 3) (a0 :: a1 :: a2 :: some (.int (x + Int32.ofInt n)) :: Lr) (st)) : GG Γ K kc ks w pc (a0 :: a1 :: a2 :: some (.int x) :: Lr) (st) := by
  obtain ⟨p, e, R, s, m, args, below, meth, c, Q, d, MC, MS⟩ := K
  obtain ⟨⟨hx, hb, hml, hown, hts⟩, hKK, hdF, hdL, hMC, hMS⟩ := C
  intro H locs cells slots ls r1 r2 r3 r4 r5 r6
  exact z_iinc hx hb hd r6 (j := 3) rfl (fun ls' h' => k H locs cells slots ls' r1 r2 r3 r4 r5 h')
theorem g_iinc3N (C : z_C Γ K cc own nL) {a0 a1 a2 : Option Value} {a : Nat} (hd : decode cc pc = .ok (.iinc 3 1, 3)) (k : GG Γ K kc ks w (pc + 3) (a0 :: a1 :: a2 :: some (.int (nI (a + 1))) :: Lr) (st)) : GG Γ K kc ks w pc (a0 :: a1 :: a2 :: some (.int (nI a)) :: Lr) (st) := g_iinc3 C hd ((zb_inc1 a).symm ▸ k)
theorem g_iload4 (C : z_C Γ K cc own nL) {a0 a1 a2 a3 : Option Value} {x : Int32} (hd : decode cc pc = .ok (.iload 4, 2)) (k : GG Γ K kc ks w (pc + 2) (a0 :: a1 :: a2 :: a3 :: some (.int x) :: Lr) (.int x :: st)) : GG Γ K kc ks w pc (a0 :: a1 :: a2 :: a3 :: some (.int x) :: Lr) (st) := by
  obtain ⟨p, e, R, s, m, args, below, meth, c, Q, d, MC, MS⟩ := K
  obtain ⟨⟨hx, hb, hml, hown, hts⟩, hKK, hdF, hdL, hMC, hMS⟩ := C
  intro H locs cells slots ls r1 r2 r3 r4 r5 r6
  exact lv_iload hx hb hd (z_L.at r6 (j := 4) rfl) (k H locs cells slots ls r1 r2 r3 r4 r5 r6)
theorem g_istore4 (C : z_C Γ K cc own nL) {a0 a1 a2 a3 : Option Value} {b : Option Value} {x : Int32} (hd : decode cc pc = .ok (.istore 4, 2)) (k : GG Γ K kc ks w (pc + 2) (a0 :: a1 :: a2 :: a3 :: some (.int x) :: Lr) (st)) : GG Γ K kc ks w pc (a0 :: a1 :: a2 :: a3 :: b :: Lr) (.int x :: st) := by
  obtain ⟨p, e, R, s, m, args, below, meth, c, Q, d, MC, MS⟩ := K
  obtain ⟨⟨hx, hb, hml, hown, hts⟩, hKK, hdF, hdL, hMC, hMS⟩ := C
  intro H locs cells slots ls r1 r2 r3 r4 r5 r6
  exact lv_istore hx hb hd r6.1 (by simp only [List.length_cons]; omega) rfl (fun ls' h' => k H locs cells slots ls' r1 r2 r3 r4 r5 (z_L.set (v := .int x) (i := 4) r6 rfl h'))
theorem g_aload4 (C : z_C Γ K cc own nL) {a0 a1 a2 a3 : Option Value} {x : Nat} (hd : decode cc pc = .ok (.aload 4, 2)) (k : GG Γ K kc ks w (pc + 2) (a0 :: a1 :: a2 :: a3 :: some (.ref x) :: Lr) (.ref x :: st)) : GG Γ K kc ks w pc (a0 :: a1 :: a2 :: a3 :: some (.ref x) :: Lr) (st) := by
  obtain ⟨p, e, R, s, m, args, below, meth, c, Q, d, MC, MS⟩ := K
  obtain ⟨⟨hx, hb, hml, hown, hts⟩, hKK, hdF, hdL, hMC, hMS⟩ := C
  intro H locs cells slots ls r1 r2 r3 r4 r5 r6
  exact lv_aload hx hb hd (z_L.at r6 (j := 4) rfl) (k H locs cells slots ls r1 r2 r3 r4 r5 r6)
theorem g_astore4 (C : z_C Γ K cc own nL) {a0 a1 a2 a3 : Option Value} {b : Option Value} {x : Nat} (hd : decode cc pc = .ok (.astore 4, 2)) (k : GG Γ K kc ks w (pc + 2) (a0 :: a1 :: a2 :: a3 :: some (.ref x) :: Lr) (st)) : GG Γ K kc ks w pc (a0 :: a1 :: a2 :: a3 :: b :: Lr) (.ref x :: st) := by
  obtain ⟨p, e, R, s, m, args, below, meth, c, Q, d, MC, MS⟩ := K
  obtain ⟨⟨hx, hb, hml, hown, hts⟩, hKK, hdF, hdL, hMC, hMS⟩ := C
  intro H locs cells slots ls r1 r2 r3 r4 r5 r6
  exact lv_astore hx hb hd r6.1 (by simp only [List.length_cons]; omega) rfl (fun ls' h' => k H locs cells slots ls' r1 r2 r3 r4 r5 (z_L.set (v := .ref x) (i := 4) r6 rfl h'))
theorem g_iinc4 (C : z_C Γ K cc own nL) {a0 a1 a2 a3 : Option Value} {x : Int32} {n : Int} (hd : decode cc pc = .ok (.iinc 4 n, 3)) (k : GG Γ K kc ks w (pc + 3) (a0 :: a1 :: a2 :: a3 :: some (.int (x + Int32.ofInt n)) :: Lr) (st)) : GG Γ K kc ks w pc (a0 :: a1 :: a2 :: a3 :: some (.int x) :: Lr) (st) := by
  obtain ⟨p, e, R, s, m, args, below, meth, c, Q, d, MC, MS⟩ := K
  obtain ⟨⟨hx, hb, hml, hown, hts⟩, hKK, hdF, hdL, hMC, hMS⟩ := C
  intro H locs cells slots ls r1 r2 r3 r4 r5 r6
  exact z_iinc hx hb hd r6 (j := 4) rfl (fun ls' h' => k H locs cells slots ls' r1 r2 r3 r4 r5 h')
theorem g_iinc4N (C : z_C Γ K cc own nL) {a0 a1 a2 a3 : Option Value} {a : Nat} (hd : decode cc pc = .ok (.iinc 4 1, 3)) (k : GG Γ K kc ks w (pc + 3) (a0 :: a1 :: a2 :: a3 :: some (.int (nI (a + 1))) :: Lr) (st)) : GG Γ K kc ks w pc (a0 :: a1 :: a2 :: a3 :: some (.int (nI a)) :: Lr) (st) := g_iinc4 C hd ((zb_inc1 a).symm ▸ k)
theorem g_iload5 (C : z_C Γ K cc own nL) {a0 a1 a2 a3 a4 : Option Value} {x : Int32} (hd : decode cc pc = .ok (.iload 5, 2)) (k : GG Γ K kc ks w (pc + 2) (a0 :: a1 :: a2 :: a3 :: a4 :: some (.int x) :: Lr) (.int x :: st)) : GG Γ K kc ks w pc (a0 :: a1 :: a2 :: a3 :: a4 :: some (.int x) :: Lr) (st) := by
  obtain ⟨p, e, R, s, m, args, below, meth, c, Q, d, MC, MS⟩ := K
  obtain ⟨⟨hx, hb, hml, hown, hts⟩, hKK, hdF, hdL, hMC, hMS⟩ := C
  intro H locs cells slots ls r1 r2 r3 r4 r5 r6
  exact lv_iload hx hb hd (z_L.at r6 (j := 5) rfl) (k H locs cells slots ls r1 r2 r3 r4 r5 r6)
theorem g_istore5 (C : z_C Γ K cc own nL) {a0 a1 a2 a3 a4 : Option Value} {b : Option Value} {x : Int32} (hd : decode cc pc = .ok (.istore 5, 2)) (k : GG Γ K kc ks w (pc + 2) (a0 :: a1 :: a2 :: a3 :: a4 :: some (.int x) :: Lr) (st)) : GG Γ K kc ks w pc (a0 :: a1 :: a2 :: a3 :: a4 :: b :: Lr) (.int x :: st) := by
  obtain ⟨p, e, R, s, m, args, below, meth, c, Q, d, MC, MS⟩ := K
  obtain ⟨⟨hx, hb, hml, hown, hts⟩, hKK, hdF, hdL, hMC, hMS⟩ := C
  intro H locs cells slots ls r1 r2 r3 r4 r5 r6
  exact lv_istore hx hb hd r6.1 (by simp only [List.length_cons]; omega) rfl (fun ls' h' => k H locs cells slots ls' r1 r2 r3 r4 r5 (z_L.set (v := .int x) (i := 5) r6 rfl h'))
theorem g_aload5 (C : z_C Γ K cc own nL) {a0 a1 a2 a3 a4 : Option Value} {x : Nat} (hd : decode cc pc = .ok (.aload 5, 2)) (k : GG Γ K kc ks w (pc + 2) (a0 :: a1 :: a2 :: a3 :: a4 :: some (.ref x) :: Lr) (.ref x :: st)) : GG Γ K kc ks w pc (a0 :: a1 :: a2 :: a3 :: a4 :: some (.ref x) :: Lr) (st) := by
  obtain ⟨p, e, R, s, m, args, below, meth, c, Q, d, MC, MS⟩ := K
  obtain ⟨⟨hx, hb, hml, hown, hts⟩, hKK, hdF, hdL, hMC, hMS⟩ := C
  intro H locs cells slots ls r1 r2 r3 r4 r5 r6
  exact lv_aload hx hb hd (z_L.at r6 (j := 5) rfl) (k H locs cells slots ls r1 r2 r3 r4 r5 r6)
theorem g_astore5 (C : z_C Γ K cc own nL) {a0 a1 a2 a3 a4 : Option Value} {b : Option Value} {x : Nat} (hd : decode cc pc = .ok (.astore 5, 2)) (k : GG Γ K kc ks w (pc + 2) (a0 :: a1 :: a2 :: a3 :: a4 :: some (.ref x) :: Lr) (st)) : GG Γ K kc ks w pc (a0 :: a1 :: a2 :: a3 :: a4 :: b :: Lr) (.ref x :: st) := by
  obtain ⟨p, e, R, s, m, args, below, meth, c, Q, d, MC, MS⟩ := K
  obtain ⟨⟨hx, hb, hml, hown, hts⟩, hKK, hdF, hdL, hMC, hMS⟩ := C
  intro H locs cells slots ls r1 r2 r3 r4 r5 r6
  exact lv_astore hx hb hd r6.1 (by simp only [List.length_cons]; omega) rfl (fun ls' h' => k H locs cells slots ls' r1 r2 r3 r4 r5 (z_L.set (v := .ref x) (i := 5) r6 rfl h'))
theorem g_iinc5 (C : z_C Γ K cc own nL) {a0 a1 a2 a3 a4 : Option Value} {x : Int32} {n : Int} (hd : decode cc pc = .ok (.iinc 5 n, 3)) (k : GG Γ K kc ks w (pc + 3) (a0 :: a1 :: a2 :: a3 :: a4 :: some (.int (x + Int32.ofInt n)) :: Lr) (st)) : GG Γ K kc ks w pc (a0 :: a1 :: a2 :: a3 :: a4 :: some (.int x) :: Lr) (st) := by
  obtain ⟨p, e, R, s, m, args, below, meth, c, Q, d, MC, MS⟩ := K
  obtain ⟨⟨hx, hb, hml, hown, hts⟩, hKK, hdF, hdL, hMC, hMS⟩ := C
  intro H locs cells slots ls r1 r2 r3 r4 r5 r6
  exact z_iinc hx hb hd r6 (j := 5) rfl (fun ls' h' => k H locs cells slots ls' r1 r2 r3 r4 r5 h')
theorem g_iinc5N (C : z_C Γ K cc own nL) {a0 a1 a2 a3 a4 : Option Value} {a : Nat} (hd : decode cc pc = .ok (.iinc 5 1, 3)) (k : GG Γ K kc ks w (pc + 3) (a0 :: a1 :: a2 :: a3 :: a4 :: some (.int (nI (a + 1))) :: Lr) (st)) : GG Γ K kc ks w pc (a0 :: a1 :: a2 :: a3 :: a4 :: some (.int (nI a)) :: Lr) (st) := g_iinc5 C hd ((zb_inc1 a).symm ▸ k)
theorem g_iload6 (C : z_C Γ K cc own nL) {a0 a1 a2 a3 a4 a5 : Option Value} {x : Int32} (hd : decode cc pc = .ok (.iload 6, 2)) (k : GG Γ K kc ks w (pc + 2) (a0 :: a1 :: a2 :: a3 :: a4 :: a5 :: some (.int x) :: Lr) (.int x :: st)) : GG Γ K kc ks w pc (a0 :: a1 :: a2 :: a3 :: a4 :: a5 :: some (.int x) :: Lr) (st) := by
  obtain ⟨p, e, R, s, m, args, below, meth, c, Q, d, MC, MS⟩ := K
  obtain ⟨⟨hx, hb, hml, hown, hts⟩, hKK, hdF, hdL, hMC, hMS⟩ := C
  intro H locs cells slots ls r1 r2 r3 r4 r5 r6
  exact lv_iload hx hb hd (z_L.at r6 (j := 6) rfl) (k H locs cells slots ls r1 r2 r3 r4 r5 r6)
theorem g_istore6 (C : z_C Γ K cc own nL) {a0 a1 a2 a3 a4 a5 : Option Value} {b : Option Value} {x : Int32} (hd : decode cc pc = .ok (.istore 6, 2)) (k : GG Γ K kc ks w (pc + 2) (a0 :: a1 :: a2 :: a3 :: a4 :: a5 :: some (.int x) :: Lr) (st)) : GG Γ K kc ks w pc (a0 :: a1 :: a2 :: a3 :: a4 :: a5 :: b :: Lr) (.int x :: st) := by
  obtain ⟨p, e, R, s, m, args, below, meth, c, Q, d, MC, MS⟩ := K
  obtain ⟨⟨hx, hb, hml, hown, hts⟩, hKK, hdF, hdL, hMC, hMS⟩ := C
  intro H locs cells slots ls r1 r2 r3 r4 r5 r6
  exact lv_istore hx hb hd r6.1 (by simp only [List.length_cons]; omega) rfl (fun ls' h' => k H locs cells slots ls' r1 r2 r3 r4 r5 (z_L.set (v := .int x) (i := 6) r6 rfl h'))
theorem g_aload6 (C : z_C Γ K cc own nL) {a0 a1 a2 a3 a4 a5 : Option Value} {x : Nat} (hd : decode cc pc = .ok (.aload 6, 2)) (k : GG Γ K kc ks w (pc + 2) (a0 :: a1 :: a2 :: a3 :: a4 :: a5 :: some (.ref x) :: Lr) (.ref x :: st)) : GG Γ K kc ks w pc (a0 :: a1 :: a2 :: a3 :: a4 :: a5 :: some (.ref x) :: Lr) (st) := by
  obtain ⟨p, e, R, s, m, args, below, meth, c, Q, d, MC, MS⟩ := K
  obtain ⟨⟨hx, hb, hml, hown, hts⟩, hKK, hdF, hdL, hMC, hMS⟩ := C
  intro H locs cells slots ls r1 r2 r3 r4 r5 r6
  exact lv_aload hx hb hd (z_L.at r6 (j := 6) rfl) (k H locs cells slots ls r1 r2 r3 r4 r5 r6)
theorem g_astore6 (C : z_C Γ K cc own nL) {a0 a1 a2 a3 a4 a5 : Option Value} {b : Option Value} {x : Nat} (hd : decode cc pc = .ok (.astore 6, 2)) (k : GG Γ K kc ks w (pc + 2) (a0 :: a1 :: a2 :: a3 :: a4 :: a5 :: some (.ref x) :: Lr) (st)) : GG Γ K kc ks w pc (a0 :: a1 :: a2 :: a3 :: a4 :: a5 :: b :: Lr) (.ref x :: st) := by
  obtain ⟨p, e, R, s, m, args, below, meth, c, Q, d, MC, MS⟩ := K
  obtain ⟨⟨hx, hb, hml, hown, hts⟩, hKK, hdF, hdL, hMC, hMS⟩ := C
  intro H locs cells slots ls r1 r2 r3 r4 r5 r6
  exact lv_astore hx hb hd r6.1 (by simp only [List.length_cons]; omega) rfl (fun ls' h' => k H locs cells slots ls' r1 r2 r3 r4 r5 (z_L.set (v := .ref x) (i := 6) r6 rfl h'))
theorem g_iinc6 (C : z_C Γ K cc own nL) {a0 a1 a2 a3 a4 a5 : Option Value} {x : Int32} {n : Int} (hd : decode cc pc = .ok (.iinc 6 n, 3)) (k : GG Γ K kc ks w (pc + 3) (a0 :: a1 :: a2 :: a3 :: a4 :: a5 :: some (.int (x + Int32.ofInt n)) :: Lr) (st)) : GG Γ K kc ks w pc (a0 :: a1 :: a2 :: a3 :: a4 :: a5 :: some (.int x) :: Lr) (st) := by
  obtain ⟨p, e, R, s, m, args, below, meth, c, Q, d, MC, MS⟩ := K
  obtain ⟨⟨hx, hb, hml, hown, hts⟩, hKK, hdF, hdL, hMC, hMS⟩ := C
  intro H locs cells slots ls r1 r2 r3 r4 r5 r6
  exact z_iinc hx hb hd r6 (j := 6) rfl (fun ls' h' => k H locs cells slots ls' r1 r2 r3 r4 r5 h')
theorem g_iinc6N (C : z_C Γ K cc own nL) {a0 a1 a2 a3 a4 a5 : Option Value} {a : Nat} (hd : decode cc pc = .ok (.iinc 6 1, 3)) (k : GG Γ K kc ks w (pc + 3) (a0 :: a1 :: a2 :: a3 :: a4 :: a5 :: some (.int (nI (a + 1))) :: Lr) (st)) : GG Γ K kc ks w pc (a0 :: a1 :: a2 :: a3 :: a4 :: a5 :: some (.int (nI a)) :: Lr) (st) := g_iinc6 C hd ((zb_inc1 a).symm ▸ k)
theorem g_iload7 (C : z_C Γ K cc own nL) {a0 a1 a2 a3 a4 a5 a6 : Option Value} {x : Int32} (hd : decode cc pc = .ok (.iload 7, 2)) (k : GG Γ K kc ks w (pc + 2) (a0 :: a1 :: a2 :: a3 :: a4 :: a5 :: a6 :: some (.int x) :: Lr) (.int x :: st)) : GG Γ K kc ks w pc (a0 :: a1 :: a2 :: a3 :: a4 :: a5 :: a6 :: some (.int x) :: Lr) (st) := by
  obtain ⟨p, e, R, s, m, args, below, meth, c, Q, d, MC, MS⟩ := K
  obtain ⟨⟨hx, hb, hml, hown, hts⟩, hKK, hdF, hdL, hMC, hMS⟩ := C
  intro H locs cells slots ls r1 r2 r3 r4 r5 r6
  exact lv_iload hx hb hd (z_L.at r6 (j := 7) rfl) (k H locs cells slots ls r1 r2 r3 r4 r5 r6)
theorem g_istore7 (C : z_C Γ K cc own nL) {a0 a1 a2 a3 a4 a5 a6 : Option Value} {b : Option Value} {x : Int32} (hd : decode cc pc = .ok (.istore 7, 2)) (k : GG Γ K kc ks w (pc + 2) (a0 :: a1 :: a2 :: a3 :: a4 :: a5 :: a6 :: some (.int x) :: Lr) (st)) : GG Γ K kc ks w pc (a0 :: a1 :: a2 :: a3 :: a4 :: a5 :: a6 :: b :: Lr) (.int x :: st) := by
  obtain ⟨p, e, R, s, m, args, below, meth, c, Q, d, MC, MS⟩ := K
  obtain ⟨⟨hx, hb, hml, hown, hts⟩, hKK, hdF, hdL, hMC, hMS⟩ := C
  intro H locs cells slots ls r1 r2 r3 r4 r5 r6
  exact lv_istore hx hb hd r6.1 (by simp only [List.length_cons]; omega) rfl (fun ls' h' => k H locs cells slots ls' r1 r2 r3 r4 r5 (z_L.set (v := .int x) (i := 7) r6 rfl h'))
theorem g_aload7 (C : z_C Γ K cc own nL) {a0 a1 a2 a3 a4 a5 a6 : Option Value} {x : Nat} (hd : decode cc pc = .ok (.aload 7, 2)) (k : GG Γ K kc ks w (pc + 2) (a0 :: a1 :: a2 :: a3 :: a4 :: a5 :: a6 :: some (.ref x) :: Lr) (.ref x :: st)) : GG Γ K kc ks w pc (a0 :: a1 :: a2 :: a3 :: a4 :: a5 :: a6 :: some (.ref x) :: Lr) (st) := by
  obtain ⟨p, e, R, s, m, args, below, meth, c, Q, d, MC, MS⟩ := K
  obtain ⟨⟨hx, hb, hml, hown, hts⟩, hKK, hdF, hdL, hMC, hMS⟩ := C
  intro H locs cells slots ls r1 r2 r3 r4 r5 r6
  exact lv_aload hx hb hd (z_L.at r6 (j := 7) rfl) (k H locs cells slots ls r1 r2 r3 r4 r5 r6)
theorem g_astore7 (C : z_C Γ K cc own nL) {a0 a1 a2 a3 a4 a5 a6 : Option Value} {b : Option Value} {x : Nat} (hd : decode cc pc = .ok (.astore 7, 2)) (k : GG Γ K kc ks w (pc + 2) (a0 :: a1 :: a2 :: a3 :: a4 :: a5 :: a6 :: some (.ref x) :: Lr) (st)) : GG Γ K kc ks w pc (a0 :: a1 :: a2 :: a3 :: a4 :: a5 :: a6 :: b :: Lr) (.ref x :: st) := by
  obtain ⟨p, e, R, s, m, args, below, meth, c, Q, d, MC, MS⟩ := K
  obtain ⟨⟨hx, hb, hml, hown, hts⟩, hKK, hdF, hdL, hMC, hMS⟩ := C
  intro H locs cells slots ls r1 r2 r3 r4 r5 r6
  exact lv_astore hx hb hd r6.1 (by simp only [List.length_cons]; omega) rfl (fun ls' h' => k H locs cells slots ls' r1 r2 r3 r4 r5 (z_L.set (v := .ref x) (i := 7) r6 rfl h'))
theorem g_iinc7 (C : z_C Γ K cc own nL) {a0 a1 a2 a3 a4 a5 a6 : Option Value} {x : Int32} {n : Int} (hd : decode cc pc = .ok (.iinc 7 n, 3)) (k : GG Γ K kc ks w (pc + 3) (a0 :: a1 :: a2 :: a3 :: a4 :: a5 :: a6 :: some (.int (x + Int32.ofInt n)) :: Lr) (st)) : GG Γ K kc ks w pc (a0 :: a1 :: a2 :: a3 :: a4 :: a5 :: a6 :: some (.int x) :: Lr) (st) := by
  obtain ⟨p, e, R, s, m, args, below, meth, c, Q, d, MC, MS⟩ := K
  obtain ⟨⟨hx, hb, hml, hown, hts⟩, hKK, hdF, hdL, hMC, hMS⟩ := C
  intro H locs cells slots ls r1 r2 r3 r4 r5 r6
  exact z_iinc hx hb hd r6 (j := 7) rfl (fun ls' h' => k H locs cells slots ls' r1 r2 r3 r4 r5 h')
theorem g_iinc7N (C : z_C Γ K cc own nL) {a0 a1 a2 a3 a4 a5 a6 : Option Value} {a : Nat} (hd : decode cc pc = .ok (.iinc 7 1, 3)) (k : GG Γ K kc ks w (pc + 3) (a0 :: a1 :: a2 :: a3 :: a4 :: a5 :: a6 :: some (.int (nI (a + 1))) :: Lr) (st)) : GG Γ K kc ks w pc (a0 :: a1 :: a2 :: a3 :: a4 :: a5 :: a6 :: some (.int (nI a)) :: Lr) (st) := g_iinc7 C hd ((zb_inc1 a).symm ▸ k)
theorem g_iload8 (C : z_C Γ K cc own nL) {a0 a1 a2 a3 a4 a5 a6 a7 : Option Value} {x : Int32} (hd : decode cc pc = .ok (.iload 8, 2)) (k : GG Γ K kc ks w (pc + 2) (a0 :: a1 :: a2 :: a3 :: a4 :: a5 :: a6 :: a7 :: some (.int x) :: Lr) (.int x :: st)) : GG Γ K kc ks w pc (a0 :: a1 :: a2 :: a3 :: a4 :: a5 :: a6 :: a7 :: some (.int x) :: Lr) (st) := by
  obtain ⟨p, e, R, s, m, args, below, meth, c, Q, d, MC, MS⟩ := K
  obtain ⟨⟨hx, hb, hml, hown, hts⟩, hKK, hdF, hdL, hMC, hMS⟩ := C
  intro H locs cells slots ls r1 r2 r3 r4 r5 r6
  exact lv_iload hx hb hd (z_L.at r6 (j := 8) rfl) (k H locs cells slots ls r1 r2 r3 r4 r5 r6)
theorem g_istore8 (C : z_C Γ K cc own nL) {a0 a1 a2 a3 a4 a5 a6 a7 : Option Value} {b : Option Value} {x : Int32} (hd : decode cc pc = .ok (.istore 8, 2)) (k : GG Γ K kc ks w (pc + 2) (a0 :: a1 :: a2 :: a3 :: a4 :: a5 :: a6 :: a7 :: some (.int x) :: Lr) (st)) : GG Γ K kc ks w pc (a0 :: a1 :: a2 :: a3 :: a4 :: a5 :: a6 :: a7 :: b :: Lr) (.int x :: st) := by
  obtain ⟨p, e, R, s, m, args, below, meth, c, Q, d, MC, MS⟩ := K
  obtain ⟨⟨hx, hb, hml, hown, hts⟩, hKK, hdF, hdL, hMC, hMS⟩ := C
  intro H locs cells slots ls r1 r2 r3 r4 r5 r6
  exact lv_istore hx hb hd r6.1 (by simp only [List.length_cons]; omega) rfl (fun ls' h' => k H locs cells slots ls' r1 r2 r3 r4 r5 (z_L.set (v := .int x) (i := 8) r6 rfl h'))
theorem g_aload8 (C : z_C Γ K cc own nL) {a0 a1 a2 a3 a4 a5 a6 a7 : Option Value} {x : Nat} (hd : decode cc pc = .ok (.aload 8, 2)) (k : GG Γ K kc ks w (pc + 2) (a0 :: a1 :: a2 :: a3 :: a4 :: a5 :: a6 :: a7 :: some (.ref x) :: Lr) (.ref x :: st)) : GG Γ K kc ks w pc (a0 :: a1 :: a2 :: a3 :: a4 :: a5 :: a6 :: a7 :: some (.ref x) :: Lr) (st) := by
  obtain ⟨p, e, R, s, m, args, below, meth, c, Q, d, MC, MS⟩ := K
  obtain ⟨⟨hx, hb, hml, hown, hts⟩, hKK, hdF, hdL, hMC, hMS⟩ := C
  intro H locs cells slots ls r1 r2 r3 r4 r5 r6
  exact lv_aload hx hb hd (z_L.at r6 (j := 8) rfl) (k H locs cells slots ls r1 r2 r3 r4 r5 r6)
theorem g_astore8 (C : z_C Γ K cc own nL) {a0 a1 a2 a3 a4 a5 a6 a7 : Option Value} {b : Option Value} {x : Nat} (hd : decode cc pc = .ok (.astore 8, 2)) (k : GG Γ K kc ks w (pc + 2) (a0 :: a1 :: a2 :: a3 :: a4 :: a5 :: a6 :: a7 :: some (.ref x) :: Lr) (st)) : GG Γ K kc ks w pc (a0 :: a1 :: a2 :: a3 :: a4 :: a5 :: a6 :: a7 :: b :: Lr) (.ref x :: st) := by
  obtain ⟨p, e, R, s, m, args, below, meth, c, Q, d, MC, MS⟩ := K
  obtain ⟨⟨hx, hb, hml, hown, hts⟩, hKK, hdF, hdL, hMC, hMS⟩ := C
  intro H locs cells slots ls r1 r2 r3 r4 r5 r6
  exact lv_astore hx hb hd r6.1 (by simp only [List.length_cons]; omega) rfl (fun ls' h' => k H locs cells slots ls' r1 r2 r3 r4 r5 (z_L.set (v := .ref x) (i := 8) r6 rfl h'))
theorem g_iinc8 (C : z_C Γ K cc own nL) {a0 a1 a2 a3 a4 a5 a6 a7 : Option Value} {x : Int32} {n : Int} (hd : decode cc pc = .ok (.iinc 8 n, 3)) (k : GG Γ K kc ks w (pc + 3) (a0 :: a1 :: a2 :: a3 :: a4 :: a5 :: a6 :: a7 :: some (.int (x + Int32.ofInt n)) :: Lr) (st)) : GG Γ K kc ks w pc (a0 :: a1 :: a2 :: a3 :: a4 :: a5 :: a6 :: a7 :: some (.int x) :: Lr) (st) := by
  obtain ⟨p, e, R, s, m, args, below, meth, c, Q, d, MC, MS⟩ := K
  obtain ⟨⟨hx, hb, hml, hown, hts⟩, hKK, hdF, hdL, hMC, hMS⟩ := C
  intro H locs cells slots ls r1 r2 r3 r4 r5 r6
  exact z_iinc hx hb hd r6 (j := 8) rfl (fun ls' h' => k H locs cells slots ls' r1 r2 r3 r4 r5 h')
theorem g_iinc8N (C : z_C Γ K cc own nL) {a0 a1 a2 a3 a4 a5 a6 a7 : Option Value} {a : Nat} (hd : decode cc pc = .ok (.iinc 8 1, 3)) (k : GG Γ K kc ks w (pc + 3) (a0 :: a1 :: a2 :: a3 :: a4 :: a5 :: a6 :: a7 :: some (.int (nI (a + 1))) :: Lr) (st)) : GG Γ K kc ks w pc (a0 :: a1 :: a2 :: a3 :: a4 :: a5 :: a6 :: a7 :: some (.int (nI a)) :: Lr) (st) := g_iinc8 C hd ((zb_inc1 a).symm ▸ k)
theorem g_iload9 (C : z_C Γ K cc own nL) {a0 a1 a2 a3 a4 a5 a6 a7 a8 : Option Value} {x : Int32} (hd : decode cc pc = .ok (.iload 9, 2)) (k : GG Γ K kc ks w (pc + 2) (a0 :: a1 :: a2 :: a3 :: a4 :: a5 :: a6 :: a7 :: a8 :: some (.int x) :: Lr) (.int x :: st)) : GG Γ K kc ks w pc (a0 :: a1 :: a2 :: a3 :: a4 :: a5 :: a6 :: a7 :: a8 :: some (.int x) :: Lr) (st) := by
  obtain ⟨p, e, R, s, m, args, below, meth, c, Q, d, MC, MS⟩ := K
  obtain ⟨⟨hx, hb, hml, hown, hts⟩, hKK, hdF, hdL, hMC, hMS⟩ := C
  intro H locs cells slots ls r1 r2 r3 r4 r5 r6
  exact lv_iload hx hb hd (z_L.at r6 (j := 9) rfl) (k H locs cells slots ls r1 r2 r3 r4 r5 r6)
theorem g_istore9 (C : z_C Γ K cc own nL) {a0 a1 a2 a3 a4 a5 a6 a7 a8 : Option Value} {b : Option Value} {x : Int32} (hd : decode cc pc = .ok (.istore 9, 2)) (k : GG Γ K kc ks w (pc + 2) (a0 :: a1 :: a2 :: a3 :: a4 :: a5 :: a6 :: a7 :: a8 :: some (.int x) :: Lr) (st)) : GG Γ K kc ks w pc (a0 :: a1 :: a2 :: a3 :: a4 :: a5 :: a6 :: a7 :: a8 :: b :: Lr) (.int x :: st) := by
  obtain ⟨p, e, R, s, m, args, below, meth, c, Q, d, MC, MS⟩ := K
  obtain ⟨⟨hx, hb, hml, hown, hts⟩, hKK, hdF, hdL, hMC, hMS⟩ := C
  intro H locs cells slots ls r1 r2 r3 r4 r5 r6
  exact lv_istore hx hb hd r6.1 (by simp only [List.length_cons]; omega) rfl (fun ls' h' => k H locs cells slots ls' r1 r2 r3 r4 r5 (z_L.set (v := .int x) (i := 9) r6 rfl h'))
theorem g_aload9 (C : z_C Γ K cc own nL) {a0 a1 a2 a3 a4 a5 a6 a7 a8 : Option Value} {x : Nat} (hd : decode cc pc = .ok (.aload 9, 2)) (k : GG Γ K kc ks w (pc + 2) (a0 :: a1 :: a2 :: a3 :: a4 :: a5 :: a6 :: a7 :: a8 :: some (.ref x) :: Lr) (.ref x :: st)) : GG Γ K kc ks w pc (a0 :: a1 :: a2 :: a3 :: a4 :: a5 :: a6 :: a7 :: a8 :: some (.ref x) :: Lr) (st) := by
  obtain ⟨p, e, R, s, m, args, below, meth, c, Q, d, MC, MS⟩ := K
  obtain ⟨⟨hx, hb, hml, hown, hts⟩, hKK, hdF, hdL, hMC, hMS⟩ := C
  intro H locs cells slots ls r1 r2 r3 r4 r5 r6
  exact lv_aload hx hb hd (z_L.at r6 (j := 9) rfl) (k H locs cells slots ls r1 r2 r3 r4 r5 r6)
theorem g_astore9 (C : z_C Γ K cc own nL) {a0 a1 a2 a3 a4 a5 a6 a7 a8 : Option Value} {b : Option Value} {x : Nat} (hd : decode cc pc = .ok (.astore 9, 2)) (k : GG Γ K kc ks w (pc + 2) (a0 :: a1 :: a2 :: a3 :: a4 :: a5 :: a6 :: a7 :: a8 :: some (.ref x) :: Lr) (st)) : GG Γ K kc ks w pc (a0 :: a1 :: a2 :: a3 :: a4 :: a5 :: a6 :: a7 :: a8 :: b :: Lr) (.ref x :: st) := by
  obtain ⟨p, e, R, s, m, args, below, meth, c, Q, d, MC, MS⟩ := K
  obtain ⟨⟨hx, hb, hml, hown, hts⟩, hKK, hdF, hdL, hMC, hMS⟩ := C
  intro H locs cells slots ls r1 r2 r3 r4 r5 r6
  exact lv_astore hx hb hd r6.1 (by simp only [List.length_cons]; omega) rfl (fun ls' h' => k H locs cells slots ls' r1 r2 r3 r4 r5 (z_L.set (v := .ref x) (i := 9) r6 rfl h'))
theorem g_iinc9 (C : z_C Γ K cc own nL) {a0 a1 a2 a3 a4 a5 a6 a7 a8 : Option Value} {x : Int32} {n : Int} (hd : decode cc pc = .ok (.iinc 9 n, 3)) (k : GG Γ K kc ks w (pc + 3) (a0 :: a1 :: a2 :: a3 :: a4 :: a5 :: a6 :: a7 :: a8 :: some (.int (x + Int32.ofInt n)) :: Lr) (st)) : GG Γ K kc ks w pc (a0 :: a1 :: a2 :: a3 :: a4 :: a5 :: a6 :: a7 :: a8 :: some (.int x) :: Lr) (st) := by
  obtain ⟨p, e, R, s, m, args, below, meth, c, Q, d, MC, MS⟩ := K
  obtain ⟨⟨hx, hb, hml, hown, hts⟩, hKK, hdF, hdL, hMC, hMS⟩ := C
  intro H locs cells slots ls r1 r2 r3 r4 r5 r6
  exact z_iinc hx hb hd r6 (j := 9) rfl (fun ls' h' => k H locs cells slots ls' r1 r2 r3 r4 r5 h')
theorem g_iinc9N (C : z_C Γ K cc own nL) {a0 a1 a2 a3 a4 a5 a6 a7 a8 : Option Value} {a : Nat} (hd : decode cc pc = .ok (.iinc 9 1, 3)) (k : GG Γ K kc ks w (pc + 3) (a0 :: a1 :: a2 :: a3 :: a4 :: a5 :: a6 :: a7 :: a8 :: some (.int (nI (a + 1))) :: Lr) (st)) : GG Γ K kc ks w pc (a0 :: a1 :: a2 :: a3 :: a4 :: a5 :: a6 :: a7 :: a8 :: some (.int (nI a)) :: Lr) (st) := g_iinc9 C hd ((zb_inc1 a).symm ▸ k)
theorem g_iload10 (C : z_C Γ K cc own nL) {a0 a1 a2 a3 a4 a5 a6 a7 a8 a9 : Option Value} {x : Int32} (hd : decode cc pc = .ok (.iload 10, 2)) (k : GG Γ K kc ks w (pc + 2) (a0 :: a1 :: a2 :: a3 :: a4 :: a5 :: a6 :: a7 :: a8 :: a9 :: some (.int x) :: Lr) (.int x :: st)) : GG Γ K kc ks w pc (a0 :: a1 :: a2 :: a3 :: a4 :: a5 :: a6 :: a7 :: a8 :: a9 :: some (.int x) :: Lr) (st) := by
  obtain ⟨p, e, R, s, m, args, below, meth, c, Q, d, MC, MS⟩ := K
  obtain ⟨⟨hx, hb, hml, hown, hts⟩, hKK, hdF, hdL, hMC, hMS⟩ := C
  intro H locs cells slots ls r1 r2 r3 r4 r5 r6
  exact lv_iload hx hb hd (z_L.at r6 (j := 10) rfl) (k H locs cells slots ls r1 r2 r3 r4 r5 r6)
theorem g_istore10 (C : z_C Γ K cc own nL) {a0 a1 a2 a3 a4 a5 a6 a7 a8 a9 : Option Value} {b : Option Value} {x : Int32} (hd : decode cc pc = .ok (.istore 10, 2)) (k : GG Γ K kc ks w (pc + 2) (a0 :: a1 :: a2 :: a3 :: a4 :: a5 :: a6 :: a7 :: a8 :: a9 :: some (.int x) :: Lr) (st)) : GG Γ K kc ks w pc (a0 :: a1 :: a2 :: a3 :: a4 :: a5 :: a6 :: a7 :: a8 :: a9 :: b :: Lr) (.int x :: st) := by
  obtain ⟨p, e, R, s, m, args, below, meth, c, Q, d, MC, MS⟩ := K
  obtain ⟨⟨hx, hb, hml, hown, hts⟩, hKK, hdF, hdL, hMC, hMS⟩ := C
  intro H locs cells slots ls r1 r2 r3 r4 r5 r6
  exact lv_istore hx hb hd r6.1 (by simp only [List.length_cons]; omega) rfl (fun ls' h' => k H locs cells slots ls' r1 r2 r3 r4 r5 (z_L.set (v := .int x) (i := 10) r6 rfl h'))
theorem g_aload10 (C : z_C Γ K cc own nL) {a0 a1 a2 a3 a4 a5 a6 a7 a8 a9 : Option Value} {x : Nat} (hd : decode cc pc = .ok (.aload 10, 2)) (k : GG Γ K kc ks w (pc + 2) (a0 :: a1 :: a2 :: a3 :: a4 :: a5 :: a6 :: a7 :: a8 :: a9 :: some (.ref x) :: Lr) (.ref x :: st)) : GG Γ K kc ks w pc (a0 :: a1 :: a2 :: a3 :: a4 :: a5 :: a6 :: a7 :: a8 :: a9 :: some (.ref x) :: Lr) (st) := by
  obtain ⟨p, e, R, s, m, args, below, meth, c, Q, d, MC, MS⟩ := K
  obtain ⟨⟨hx, hb, hml, hown, hts⟩, hKK, hdF, hdL, hMC, hMS⟩ := C
  intro H locs cells slots ls r1 r2 r3 r4 r5 r6
  exact lv_aload hx hb hd (z_L.at r6 (j := 10) rfl) (k H locs cells slots ls r1 r2 r3 r4 r5 r6)
theorem g_astore10 (C : z_C Γ K cc own nL) {a0 a1 a2 a3 a4 a5 a6 a7 a8 a9 : Option Value} {b : Option Value} {x : Nat} (hd : decode cc pc = .ok (.astore 10, 2)) (k : GG Γ K kc ks w (pc + 2) (a0 :: a1 :: a2 :: a3 :: a4 :: a5 :: a6 :: a7 :: a8 :: a9 :: some (.ref x) :: Lr) (st)) : GG Γ K kc ks w pc (a0 :: a1 :: a2 :: a3 :: a4 :: a5 :: a6 :: a7 :: a8 :: a9 :: b :: Lr) (.ref x :: st) := by
  obtain ⟨p, e, R, s, m, args, below, meth, c, Q, d, MC, MS⟩ := K
  obtain ⟨⟨hx, hb, hml, hown, hts⟩, hKK, hdF, hdL, hMC, hMS⟩ := C
  intro H locs cells slots ls r1 r2 r3 r4 r5 r6
  exact lv_astore hx hb hd r6.1 (by simp only [List.length_cons]; omega) rfl (fun ls' h' => k H locs cells slots ls' r1 r2 r3 r4 r5 (z_L.set (v := .ref x) (i := 10) r6 rfl h'))
theorem g_iinc10 (C : z_C Γ K cc own nL) {a0 a1 a2 a3 a4 a5 a6 a7 a8 a9 : Option Value} {x : Int32} {n : Int} (hd : decode cc pc = .ok (.iinc 10 n, 3)) (k : GG Γ K kc ks w (pc + 3) (a0 :: a1 :: a2 :: a3 :: a4 :: a5 :: a6 :: a7 :: a8 :: a9 :: some (.int (x + Int32.ofInt n)) :: Lr) (st)) : GG Γ K kc ks w pc (a0 :: a1 :: a2 :: a3 :: a4 :: a5 :: a6 :: a7 :: a8 :: a9 :: some (.int x) :: Lr) (st) := by
  obtain ⟨p, e, R, s, m, args, below, meth, c, Q, d, MC, MS⟩ := K
  obtain ⟨⟨hx, hb, hml, hown, hts⟩, hKK, hdF, hdL, hMC, hMS⟩ := C
  intro H locs cells slots ls r1 r2 r3 r4 r5 r6
  exact z_iinc hx hb hd r6 (j := 10) rfl (fun ls' h' => k H locs cells slots ls' r1 r2 r3 r4 r5 h')
theorem g_iinc10N (C : z_C Γ K cc own nL) {a0 a1 a2 a3 a4 a5 a6 a7 a8 a9 : Option Value} {a : Nat} (hd : decode cc pc = .ok (.iinc 10 1, 3)) (k : GG Γ K kc ks w (pc + 3) (a0 :: a1 :: a2 :: a3 :: a4 :: a5 :: a6 :: a7 :: a8 :: a9 :: some (.int (nI (a + 1))) :: Lr) (st)) : GG Γ K kc ks w pc (a0 :: a1 :: a2 :: a3 :: a4 :: a5 :: a6 :: a7 :: a8 :: a9 :: some (.int (nI a)) :: Lr) (st) := g_iinc10 C hd ((zb_inc1 a).symm ▸ k)
theorem g_iload11 (C : z_C Γ K cc own nL) {a0 a1 a2 a3 a4 a5 a6 a7 a8 a9 a10 : Option Value} {x : Int32} (hd : decode cc pc = .ok (.iload 11, 2)) (k : GG Γ K kc ks w (pc + 2) (a0 :: a1 :: a2 :: a3 :: a4 :: a5 :: a6 :: a7 :: a8 :: a9 :: a10 :: some (.int x) :: Lr) (.int x :: st)) : GG Γ K kc ks w pc (a0 :: a1 :: a2 :: a3 :: a4 :: a5 :: a6 :: a7 :: a8 :: a9 :: a10 :: some (.int x) :: Lr) (st) := by
  obtain ⟨p, e, R, s, m, args, below, meth, c, Q, d, MC, MS⟩ := K
  obtain ⟨⟨hx, hb, hml, hown, hts⟩, hKK, hdF, hdL, hMC, hMS⟩ := C
  intro H locs cells slots ls r1 r2 r3 r4 r5 r6
  exact lv_iload hx hb hd (z_L.at r6 (j := 11) rfl) (k H locs cells slots ls r1 r2 r3 r4 r5 r6)
theorem g_istore11 (C : z_C Γ K cc own nL) {a0 a1 a2 a3 a4 a5 a6 a7 a8 a9 a10 : Option Value} {b : Option Value} {x : Int32} (hd : decode cc pc = .ok (.istore 11, 2)) (k : GG Γ K kc ks w (pc + 2) (a0 :: a1 :: a2 :: a3 :: a4 :: a5 :: a6 :: a7 :: a8 :: a9 :: a10 :: some (.int x) :: Lr) (st)) : GG Γ K kc ks w pc (a0 :: a1 :: a2 :: a3 :: a4 :: a5 :: a6 :: a7 :: a8 :: a9 :: a10 :: b :: Lr) (.int x :: st) := by
  obtain ⟨p, e, R, s, m, args, below, meth, c, Q, d, MC, MS⟩ := K
  obtain ⟨⟨hx, hb, hml, hown, hts⟩, hKK, hdF, hdL, hMC, hMS⟩ := C
  intro H locs cells slots ls r1 r2 r3 r4 r5 r6
  exact lv_istore hx hb hd r6.1 (by simp only [List.length_cons]; omega) rfl (fun ls' h' => k H locs cells slots ls' r1 r2 r3 r4 r5 (z_L.set (v := .int x) (i := 11) r6 rfl h'))
theorem g_aload11 (C : z_C Γ K cc own nL) {a0 a1 a2 a3 a4 a5 a6 a7 a8 a9 a10 : Option Value} {x : Nat} (hd : decode cc pc = .ok (.aload 11, 2)) (k : GG Γ K kc ks w (pc + 2) (a0 :: a1 :: a2 :: a3 :: a4 :: a5 :: a6 :: a7 :: a8 :: a9 :: a10 :: some (.ref x) :: Lr) (.ref x :: st)) : GG Γ K kc ks w pc (a0 :: a1 :: a2 :: a3 :: a4 :: a5 :: a6 :: a7 :: a8 :: a9 :: a10 :: some (.ref x) :: Lr) (st) := by
  obtain ⟨p, e, R, s, m, args, below, meth, c, Q, d, MC, MS⟩ := K
  obtain ⟨⟨hx, hb, hml, hown, hts⟩, hKK, hdF, hdL, hMC, hMS⟩ := C
  intro H locs cells slots ls r1 r2 r3 r4 r5 r6
  exact lv_aload hx hb hd (z_L.at r6 (j := 11) rfl) (k H locs cells slots ls r1 r2 r3 r4 r5 r6)
theorem g_astore11 (C : z_C Γ K cc own nL) {a0 a1 a2 a3 a4 a5 a6 a7 a8 a9 a10 : Option Value} {b : Option Value} {x : Nat} (hd : decode cc pc = .ok (.astore 11, 2)) (k : GG Γ K kc ks w (pc + 2) (a0 :: a1 :: a2 :: a3 :: a4 :: a5 :: a6 :: a7 :: a8 :: a9 :: a10 :: some (.ref x) :: Lr) (st)) : GG Γ K kc ks w pc (a0 :: a1 :: a2 :: a3 :: a4 :: a5 :: a6 :: a7 :: a8 :: a9 :: a10 :: b :: Lr) (.ref x :: st) := by
  obtain ⟨p, e, R, s, m, args, below, meth, c, Q, d, MC, MS⟩ := K
  obtain ⟨⟨hx, hb, hml, hown, hts⟩, hKK, hdF, hdL, hMC, hMS⟩ := C
  intro H locs cells slots ls r1 r2 r3 r4 r5 r6
  exact lv_astore hx hb hd r6.1 (by simp only [List.length_cons]; omega) rfl (fun ls' h' => k H locs cells slots ls' r1 r2 r3 r4 r5 (z_L.set (v := .ref x) (i := 11) r6 rfl h'))
theorem g_iinc11 (C : z_C Γ K cc own nL) {a0 a1 a2 a3 a4 a5 a6 a7 a8 a9 a10 : Option Value} {x : Int32} {n : Int} (hd : decode cc pc = .ok (.iinc 11 n, 3)) (k : GG Γ K kc ks w (pc + 3) (a0 :: a1 :: a2 :: a3 :: a4 :: a5 :: a6 :: a7 :: a8 :: a9 :: a10 :: some (.int (x + Int32.ofInt n)) :: Lr) (st)) : GG Γ K kc ks w pc (a0 :: a1 :: a2 :: a3 :: a4 :: a5 :: a6 :: a7 :: a8 :: a9 :: a10 :: some (.int x) :: Lr) (st) := by
  obtain ⟨p, e, R, s, m, args, below, meth, c, Q, d, MC, MS⟩ := K
  obtain ⟨⟨hx, hb, hml, hown, hts⟩, hKK, hdF, hdL, hMC, hMS⟩ := C
  intro H locs cells slots ls r1 r2 r3 r4 r5 r6
  exact z_iinc hx hb hd r6 (j := 11) rfl (fun ls' h' => k H locs cells slots ls' r1 r2 r3 r4 r5 h')
theorem g_iinc11N (C : z_C Γ K cc own nL) {a0 a1 a2 a3 a4 a5 a6 a7 a8 a9 a10 : Option Value} {a : Nat} (hd : decode cc pc = .ok (.iinc 11 1, 3)) (k : GG Γ K kc ks w (pc + 3) (a0 :: a1 :: a2 :: a3 :: a4 :: a5 :: a6 :: a7 :: a8 :: a9 :: a10 :: some (.int (nI (a + 1))) :: Lr) (st)) : GG Γ K kc ks w pc (a0 :: a1 :: a2 :: a3 :: a4 :: a5 :: a6 :: a7 :: a8 :: a9 :: a10 :: some (.int (nI a)) :: Lr) (st) := g_iinc11 C hd ((zb_inc1 a).symm ▸ k)
theorem g_goto (C : z_C Γ K cc own nL) {off : Int} (tgt : Nat) (hd : decode cc pc = .ok (.goto off, 3)) (ht : (pc : Int) + off = (tgt : Int)) (k : GG Γ K kc ks w tgt L st) : GG Γ K kc ks w pc L st := by
  obtain ⟨p, e, R, s, m, args, below, meth, c, Q, d, MC, MS⟩ := K
  obtain ⟨⟨hx, hb, hml, hown, hts⟩, hKK, hdF, hdL, hMC, hMS⟩ := C
  intro H locs cells slots ls r1 r2 r3 r4 r5 r6
  exact lv_goto hx hb hd ht (k H locs cells slots ls r1 r2 r3 r4 r5 r6)
theorem g_if_eq (C : z_C Γ K cc own nL) {off : Int} {x : Int32} (tgt : Nat) (hd : decode cc pc = .ok (.ifCond .eq off, 3)) (ht : (pc : Int) + off = (tgt : Int)) (kt : x = 0 → GG Γ K kc ks w tgt L (st)) (kf : ¬ x = 0 → GG Γ K kc ks w (pc + 3) L (st)) : GG Γ K kc ks w pc L (.int x :: st) := by
  obtain ⟨p, e, R, s, m, args, below, meth, c, Q, d, MC, MS⟩ := K
  obtain ⟨⟨hx, hb, hml, hown, hts⟩, hKK, hdF, hdL, hMC, hMS⟩ := C
  intro H locs cells slots ls r1 r2 r3 r4 r5 r6
  exact lv_if_eq hx hb hd ht (fun h => kt h H locs cells slots ls r1 r2 r3 r4 r5 r6) (fun h => kf h H locs cells slots ls r1 r2 r3 r4 r5 r6)
theorem g_if_ne (C : z_C Γ K cc own nL) {off : Int} {x : Int32} (tgt : Nat) (hd : decode cc pc = .ok (.ifCond .ne off, 3)) (ht : (pc : Int) + off = (tgt : Int)) (kt : ¬ x = 0 → GG Γ K kc ks w tgt L (st)) (kf : x = 0 → GG Γ K kc ks w (pc + 3) L (st)) : GG Γ K kc ks w pc L (.int x :: st) := by
  obtain ⟨p, e, R, s, m, args, below, meth, c, Q, d, MC, MS⟩ := K
  obtain ⟨⟨hx, hb, hml, hown, hts⟩, hKK, hdF, hdL, hMC, hMS⟩ := C
  intro H locs cells slots ls r1 r2 r3 r4 r5 r6
  exact lv_if_ne hx hb hd ht (fun h => kt h H locs cells slots ls r1 r2 r3 r4 r5 r6) (fun h => kf h H locs cells slots ls r1 r2 r3 r4 r5 r6)
theorem g_if_lt (C : z_C Γ K cc own nL) {off : Int} {x : Int32} (tgt : Nat) (hd : decode cc pc = .ok (.ifCond .lt off, 3)) (ht : (pc : Int) + off = (tgt : Int)) (kt : x < 0 → GG Γ K kc ks w tgt L (st)) (kf : ¬ x < 0 → GG Γ K kc ks w (pc + 3) L (st)) : GG Γ K kc ks w pc L (.int x :: st) := by
  obtain ⟨p, e, R, s, m, args, below, meth, c, Q, d, MC, MS⟩ := K
  obtain ⟨⟨hx, hb, hml, hown, hts⟩, hKK, hdF, hdL, hMC, hMS⟩ := C
  intro H locs cells slots ls r1 r2 r3 r4 r5 r6
  exact lv_if_lt hx hb hd ht (fun h => kt h H locs cells slots ls r1 r2 r3 r4 r5 r6) (fun h => kf h H locs cells slots ls r1 r2 r3 r4 r5 r6)
theorem g_if_ge (C : z_C Γ K cc own nL) {off : Int} {x : Int32} (tgt : Nat) (hd : decode cc pc = .ok (.ifCond .ge off, 3)) (ht : (pc : Int) + off = (tgt : Int)) (kt : 0 ≤ x → GG Γ K kc ks w tgt L (st)) (kf : ¬ 0 ≤ x → GG Γ K kc ks w (pc + 3) L (st)) : GG Γ K kc ks w pc L (.int x :: st) := by
  obtain ⟨p, e, R, s, m, args, below, meth, c, Q, d, MC, MS⟩ := K
  obtain ⟨⟨hx, hb, hml, hown, hts⟩, hKK, hdF, hdL, hMC, hMS⟩ := C
  intro H locs cells slots ls r1 r2 r3 r4 r5 r6
  exact lv_if_ge hx hb hd ht (fun h => kt h H locs cells slots ls r1 r2 r3 r4 r5 r6) (fun h => kf h H locs cells slots ls r1 r2 r3 r4 r5 r6)
theorem g_if_gt (C : z_C Γ K cc own nL) {off : Int} {x : Int32} (tgt : Nat) (hd : decode cc pc = .ok (.ifCond .gt off, 3)) (ht : (pc : Int) + off = (tgt : Int)) (kt : 0 < x → GG Γ K kc ks w tgt L (st)) (kf : ¬ 0 < x → GG Γ K kc ks w (pc + 3) L (st)) : GG Γ K kc ks w pc L (.int x :: st) := by
  obtain ⟨p, e, R, s, m, args, below, meth, c, Q, d, MC, MS⟩ := K
  obtain ⟨⟨hx, hb, hml, hown, hts⟩, hKK, hdF, hdL, hMC, hMS⟩ := C
  intro H locs cells slots ls r1 r2 r3 r4 r5 r6
  exact lv_if_gt hx hb hd ht (fun h => kt h H locs cells slots ls r1 r2 r3 r4 r5 r6) (fun h => kf h H locs cells slots ls r1 r2 r3 r4 r5 r6)
theorem g_if_le (C : z_C Γ K cc own nL) {off : Int} {x : Int32} (tgt : Nat) (hd : decode cc pc = .ok (.ifCond .le off, 3)) (ht : (pc : Int) + off = (tgt : Int)) (kt : x ≤ 0 → GG Γ K kc ks w tgt L (st)) (kf : ¬ x ≤ 0 → GG Γ K kc ks w (pc + 3) L (st)) : GG Γ K kc ks w pc L (.int x :: st) := by
  obtain ⟨p, e, R, s, m, args, below, meth, c, Q, d, MC, MS⟩ := K
  obtain ⟨⟨hx, hb, hml, hown, hts⟩, hKK, hdF, hdL, hMC, hMS⟩ := C
  intro H locs cells slots ls r1 r2 r3 r4 r5 r6
  exact lv_if_le hx hb hd ht (fun h => kt h H locs cells slots ls r1 r2 r3 r4 r5 r6) (fun h => kf h H locs cells slots ls r1 r2 r3 r4 r5 r6)
theorem g_if_eqN (C : z_C Γ K cc own nL) {off : Int} {a : Nat} (tgt : Nat) (ha : a < 2 ^ 31) (hd : decode cc pc = .ok (.ifCond .eq off, 3)) (ht : (pc : Int) + off = (tgt : Int)) (kt : a = 0 → GG Γ K kc ks w tgt L (st)) (kf : 0 < a → GG Γ K kc ks w (pc + 3) L (st)) : GG Γ K kc ks w pc L (.int (nI a) :: st) := g_if_eq C tgt hd ht (fun h => kt (zb_if_eq_t ha h)) (fun h => kf (zb_if_eq_f ha h))
theorem g_if_neN (C : z_C Γ K cc own nL) {off : Int} {a : Nat} (tgt : Nat) (ha : a < 2 ^ 31) (hd : decode cc pc = .ok (.ifCond .ne off, 3)) (ht : (pc : Int) + off = (tgt : Int)) (kt : 0 < a → GG Γ K kc ks w tgt L (st)) (kf : a = 0 → GG Γ K kc ks w (pc + 3) L (st)) : GG Γ K kc ks w pc L (.int (nI a) :: st) := g_if_ne C tgt hd ht (fun h => kt (zb_if_ne_t ha h)) (fun h => kf (zb_if_ne_f ha h))
theorem g_if_gtN (C : z_C Γ K cc own nL) {off : Int} {a : Nat} (tgt : Nat) (ha : a < 2 ^ 31) (hd : decode cc pc = .ok (.ifCond .gt off, 3)) (ht : (pc : Int) + off = (tgt : Int)) (kt : 0 < a → GG Γ K kc ks w tgt L (st)) (kf : a = 0 → GG Γ K kc ks w (pc + 3) L (st)) : GG Γ K kc ks w pc L (.int (nI a) :: st) := g_if_gt C tgt hd ht (fun h => kt (zb_if_gt_t ha h)) (fun h => kf (zb_if_gt_f ha h))
theorem g_if_leN (C : z_C Γ K cc own nL) {off : Int} {a : Nat} (tgt : Nat) (ha : a < 2 ^ 31) (hd : decode cc pc = .ok (.ifCond .le off, 3)) (ht : (pc : Int) + off = (tgt : Int)) (kt : a = 0 → GG Γ K kc ks w tgt L (st)) (kf : 0 < a → GG Γ K kc ks w (pc + 3) L (st)) : GG Γ K kc ks w pc L (.int (nI a) :: st) := g_if_le C tgt hd ht (fun h => kt (zb_if_le_t ha h)) (fun h => kf (zb_if_le_f ha h))
theorem g_if_ltN (C : z_C Γ K cc own nL) {off : Int} {a : Nat} (tgt : Nat) (ha : a < 2 ^ 31) (hd : decode cc pc = .ok (.ifCond .lt off, 3)) (ht : (pc : Int) + off = (tgt : Int)) (kt : False → GG Γ K kc ks w tgt L (st)) (kf : True → GG Γ K kc ks w (pc + 3) L (st)) : GG Γ K kc ks w pc L (.int (nI a) :: st) := g_if_lt C tgt hd ht (fun h => kt (zb_if_lt_t ha h)) (fun h => kf (zb_if_lt_f ha h))
theorem g_if_geN (C : z_C Γ K cc own nL) {off : Int} {a : Nat} (tgt : Nat) (ha : a < 2 ^ 31) (hd : decode cc pc = .ok (.ifCond .ge off, 3)) (ht : (pc : Int) + off = (tgt : Int)) (kt : True → GG Γ K kc ks w tgt L (st)) (kf : False → GG Γ K kc ks w (pc + 3) L (st)) : GG Γ K kc ks w pc L (.int (nI a) :: st) := g_if_ge C tgt hd ht (fun h => kt (zb_if_ge_t ha h)) (fun h => kf (zb_if_ge_f ha h))
theorem g_icmp_eq (C : z_C Γ K cc own nL) {off : Int} {x y : Int32} (tgt : Nat) (hd : decode cc pc = .ok (.if_icmp .eq off, 3)) (ht : (pc : Int) + off = (tgt : Int)) (kt : x = y → GG Γ K kc ks w tgt L (st)) (kf : ¬ x = y → GG Γ K kc ks w (pc + 3) L (st)) : GG Γ K kc ks w pc L (.int y :: .int x :: st) := by
  obtain ⟨p, e, R, s, m, args, below, meth, c, Q, d, MC, MS⟩ := K
  obtain ⟨⟨hx, hb, hml, hown, hts⟩, hKK, hdF, hdL, hMC, hMS⟩ := C
  intro H locs cells slots ls r1 r2 r3 r4 r5 r6
  exact lv_icmp_eq hx hb hd ht (fun h => kt h H locs cells slots ls r1 r2 r3 r4 r5 r6) (fun h => kf h H locs cells slots ls r1 r2 r3 r4 r5 r6)
theorem g_icmp_ne (C : z_C Γ K cc own nL) {off : Int} {x y : Int32} (tgt : Nat) (hd : decode cc pc = .ok (.if_icmp .ne off, 3)) (ht : (pc : Int) + off = (tgt : Int)) (kt : ¬ x = y → GG Γ K kc ks w tgt L (st)) (kf : x = y → GG Γ K kc ks w (pc + 3) L (st)) : GG Γ K kc ks w pc L (.int y :: .int x :: st) := by
  obtain ⟨p, e, R, s, m, args, below, meth, c, Q, d, MC, MS⟩ := K
  obtain ⟨⟨hx, hb, hml, hown, hts⟩, hKK, hdF, hdL, hMC, hMS⟩ := C
  intro H locs cells slots ls r1 r2 r3 r4 r5 r6
  exact lv_icmp_ne hx hb hd ht (fun h => kt h H locs cells slots ls r1 r2 r3 r4 r5 r6) (fun h => kf h H locs cells slots ls r1 r2 r3 r4 r5 r6)
theorem g_icmp_lt (C : z_C Γ K cc own nL) {off : Int} {x y : Int32} (tgt : Nat) (hd : decode cc pc = .ok (.if_icmp .lt off, 3)) (ht : (pc : Int) + off = (tgt : Int)) (kt : x < y → GG Γ K kc ks w tgt L (st)) (kf : ¬ x < y → GG Γ K kc ks w (pc + 3) L (st)) : GG Γ K kc ks w pc L (.int y :: .int x :: st) := by
  obtain ⟨p, e, R, s, m, args, below, meth, c, Q, d, MC, MS⟩ := K
  obtain ⟨⟨hx, hb, hml, hown, hts⟩, hKK, hdF, hdL, hMC, hMS⟩ := C
  intro H locs cells slots ls r1 r2 r3 r4 r5 r6
  exact lv_icmp_lt hx hb hd ht (fun h => kt h H locs cells slots ls r1 r2 r3 r4 r5 r6) (fun h => kf h H locs cells slots ls r1 r2 r3 r4 r5 r6)
theorem g_icmp_ge (C : z_C Γ K cc own nL) {off : Int} {x y : Int32} (tgt : Nat) (hd : decode cc pc = .ok (.if_icmp .ge off, 3)) (ht : (pc : Int) + off = (tgt : Int)) (kt : y ≤ x → GG Γ K kc ks w tgt L (st)) (kf : ¬ y ≤ x → GG Γ K kc ks w (pc + 3) L (st)) : GG Γ K kc ks w pc L (.int y :: .int x :: st) := by
  obtain ⟨p, e, R, s, m, args, below, meth, c, Q, d, MC, MS⟩ := K
  obtain ⟨⟨hx, hb, hml, hown, hts⟩, hKK, hdF, hdL, hMC, hMS⟩ := C
  intro H locs cells slots ls r1 r2 r3 r4 r5 r6
  exact lv_icmp_ge hx hb hd ht (fun h => kt h H locs cells slots ls r1 r2 r3 r4 r5 r6) (fun h => kf h H locs cells slots ls r1 r2 r3 r4 r5 r6)
theorem g_icmp_gt (C : z_C Γ K cc own nL) {off : Int} {x y : Int32} (tgt : Nat) (hd : decode cc pc = .ok (.if_icmp .gt off, 3)) (ht : (pc : Int) + off = (tgt : Int)) (kt : y < x → GG Γ K kc ks w tgt L (st)) (kf : ¬ y < x → GG Γ K kc ks w (pc + 3) L (st)) : GG Γ K kc ks w pc L (.int y :: .int x :: st) := by
  obtain ⟨p, e, R, s, m, args, below, meth, c, Q, d, MC, MS⟩ := K
  obtain ⟨⟨hx, hb, hml, hown, hts⟩, hKK, hdF, hdL, hMC, hMS⟩ := C
  intro H locs cells slots ls r1 r2 r3 r4 r5 r6
  exact lv_icmp_gt hx hb hd ht (fun h => kt h H locs cells slots ls r1 r2 r3 r4 r5 r6) (fun h => kf h H locs cells slots ls r1 r2 r3 r4 r5 r6)
theorem g_icmp_le (C : z_C Γ K cc own nL) {off : Int} {x y : Int32} (tgt : Nat) (hd : decode cc pc = .ok (.if_icmp .le off, 3)) (ht : (pc : Int) + off = (tgt : Int)) (kt : x ≤ y → GG Γ K kc ks w tgt L (st)) (kf : ¬ x ≤ y → GG Γ K kc ks w (pc + 3) L (st)) : GG Γ K kc ks w pc L (.int y :: .int x :: st) := by
  obtain ⟨p, e, R, s, m, args, below, meth, c, Q, d, MC, MS⟩ := K
  obtain ⟨⟨hx, hb, hml, hown, hts⟩, hKK, hdF, hdL, hMC, hMS⟩ := C
  intro H locs cells slots ls r1 r2 r3 r4 r5 r6
  exact lv_icmp_le hx hb hd ht (fun h => kt h H locs cells slots ls r1 r2 r3 r4 r5 r6) (fun h => kf h H locs cells slots ls r1 r2 r3 r4 r5 r6)
theorem g_icmp_eqN (C : z_C Γ K cc own nL) {off : Int} {a b : Nat} (tgt : Nat) (ha : a < 2 ^ 31) (hb : b < 2 ^ 31) (hd : decode cc pc = .ok (.if_icmp .eq off, 3)) (ht : (pc : Int) + off = (tgt : Int)) (kt : a = b → GG Γ K kc ks w tgt L (st)) (kf : a ≠ b → GG Γ K kc ks w (pc + 3) L (st)) : GG Γ K kc ks w pc L (.int (nI b) :: .int (nI a) :: st) := g_icmp_eq C tgt hd ht (fun h => kt ((nI_eq ha hb).mp h)) (fun h => kf (fun q => h ((nI_eq ha hb).mpr q)))
theorem g_icmp_neN (C : z_C Γ K cc own nL) {off : Int} {a b : Nat} (tgt : Nat) (ha : a < 2 ^ 31) (hb : b < 2 ^ 31) (hd : decode cc pc = .ok (.if_icmp .ne off, 3)) (ht : (pc : Int) + off = (tgt : Int)) (kt : a ≠ b → GG Γ K kc ks w tgt L (st)) (kf : a = b → GG Γ K kc ks w (pc + 3) L (st)) : GG Γ K kc ks w pc L (.int (nI b) :: .int (nI a) :: st) := g_icmp_ne C tgt hd ht (fun h => kt (fun q => h ((nI_eq ha hb).mpr q))) (fun h => kf ((nI_eq ha hb).mp h))
theorem g_icmp_ltN (C : z_C Γ K cc own nL) {off : Int} {a b : Nat} (tgt : Nat) (ha : a < 2 ^ 31) (hb : b < 2 ^ 31) (hd : decode cc pc = .ok (.if_icmp .lt off, 3)) (ht : (pc : Int) + off = (tgt : Int)) (kt : a < b → GG Γ K kc ks w tgt L (st)) (kf : b ≤ a → GG Γ K kc ks w (pc + 3) L (st)) : GG Γ K kc ks w pc L (.int (nI b) :: .int (nI a) :: st) := g_icmp_lt C tgt hd ht (fun h => kt ((nI_ltI ha hb).mp h)) (fun h => kf (Nat.not_lt.mp fun q => h ((nI_ltI ha hb).mpr q)))
theorem g_icmp_geN (C : z_C Γ K cc own nL) {off : Int} {a b : Nat} (tgt : Nat) (ha : a < 2 ^ 31) (hb : b < 2 ^ 31) (hd : decode cc pc = .ok (.if_icmp .ge off, 3)) (ht : (pc : Int) + off = (tgt : Int)) (kt : b ≤ a → GG Γ K kc ks w tgt L (st)) (kf : a < b → GG Γ K kc ks w (pc + 3) L (st)) : GG Γ K kc ks w pc L (.int (nI b) :: .int (nI a) :: st) := g_icmp_ge C tgt hd ht (fun h => kt ((nI_leI hb ha).mp h)) (fun h => kf (Nat.not_le.mp fun q => h ((nI_leI hb ha).mpr q)))
theorem g_icmp_gtN (C : z_C Γ K cc own nL) {off : Int} {a b : Nat} (tgt : Nat) (ha : a < 2 ^ 31) (hb : b < 2 ^ 31) (hd : decode cc pc = .ok (.if_icmp .gt off, 3)) (ht : (pc : Int) + off = (tgt : Int)) (kt : b < a → GG Γ K kc ks w tgt L (st)) (kf : a ≤ b → GG Γ K kc ks w (pc + 3) L (st)) : GG Γ K kc ks w pc L (.int (nI b) :: .int (nI a) :: st) := g_icmp_gt C tgt hd ht (fun h => kt ((nI_ltI hb ha).mp h)) (fun h => kf (Nat.not_lt.mp fun q => h ((nI_ltI hb ha).mpr q)))
theorem g_icmp_leN (C : z_C Γ K cc own nL) {off : Int} {a b : Nat} (tgt : Nat) (ha : a < 2 ^ 31) (hb : b < 2 ^ 31) (hd : decode cc pc = .ok (.if_icmp .le off, 3)) (ht : (pc : Int) + off = (tgt : Int)) (kt : a ≤ b → GG Γ K kc ks w tgt L (st)) (kf : b < a → GG Γ K kc ks w (pc + 3) L (st)) : GG Γ K kc ks w pc L (.int (nI b) :: .int (nI a) :: st) := g_icmp_le C tgt hd ht (fun h => kt ((nI_leI ha hb).mp h)) (fun h => kf (Nat.not_le.mp fun q => h ((nI_leI ha hb).mpr q)))
theorem g_ifnonnull (C : z_C Γ K cc own nL) {off : Int} {x : Nat} (tgt : Nat) (hd : decode cc pc = .ok (.ifnonnull off, 3)) (ht : (pc : Int) + off = (tgt : Int)) (k : GG Γ K kc ks w tgt L st) : GG Γ K kc ks w pc L (.ref x :: st) := by
  obtain ⟨p, e, R, s, m, args, below, meth, c, Q, d, MC, MS⟩ := K
  obtain ⟨⟨hx, hb, hml, hown, hts⟩, hKK, hdF, hdL, hMC, hMS⟩ := C
  intro H locs cells slots ls r1 r2 r3 r4 r5 r6
  exact lv_ifnonnull hx hb hd ht (k H locs cells slots ls r1 r2 r3 r4 r5 r6)
theorem g_ifnonnullN (C : z_C Γ K cc own nL) {off : Int} (hd : decode cc pc = .ok (.ifnonnull off, 3)) (k : GG Γ K kc ks w (pc + 3) L st) : GG Γ K kc ks w pc L (.null :: st) := by
  obtain ⟨p, e, R, s, m, args, below, meth, c, Q, d, MC, MS⟩ := K
  obtain ⟨⟨hx, hb, hml, hown, hts⟩, hKK, hdF, hdL, hMC, hMS⟩ := C
  intro H locs cells slots ls r1 r2 r3 r4 r5 r6
  exact lv_ifnonnullN hx hb hd (k H locs cells slots ls r1 r2 r3 r4 r5 r6)
theorem g_tswIn (C : z_C Γ K cc own nL) {dflt hi off : Int} {offs : Array Int} {len : Nat} (j tgt : Nat) (hd : decode cc pc = .ok (.tableswitch dflt 0 hi offs, len)) (hj : j < 2 ^ 31 ∧ (j : Int) ≤ hi) (ho : offs[j]? = some off) (ht : (pc : Int) + off = (tgt : Int)) (k : GG Γ K kc ks w tgt L st) : GG Γ K kc ks w pc L (.int (nI j) :: st) := by
  obtain ⟨p, e, R, s, m, args, below, meth, c, Q, d, MC, MS⟩ := K
  obtain ⟨⟨hx, hb, hml, hown, hts⟩, hKK, hdF, hdL, hMC, hMS⟩ := C
  intro H locs cells slots ls r1 r2 r3 r4 r5 r6
  have e : (nI j).toInt = (j : Int) := nI_toInt hj.1
  exact lv_tableIn hx hb hd (by rw [e]; omega) (by rw [e]; have := hj.2; omega) (by rw [e]; simpa using ho) ht (k H locs cells slots ls r1 r2 r3 r4 r5 r6)
theorem g_tswOut (C : z_C Γ K cc own nL) {dflt : Int} {offs : Array Int} {len : Nat} {x : Int32} (hi : Nat) (tgt : Nat) (hd : decode cc pc = .ok (.tableswitch dflt 0 hi offs, len)) (hx' : ∀ j, j ≤ hi → x ≠ nI j) (hh : hi < 1000) (ht : (pc : Int) + dflt = (tgt : Int)) (k : GG Γ K kc ks w tgt L st) : GG Γ K kc ks w pc L (.int x :: st) := by
  obtain ⟨p, e, R, s, m, args, below, meth, c, Q, d, MC, MS⟩ := K
  obtain ⟨⟨hx, hb, hml, hown, hts⟩, hKK, hdF, hdL, hMC, hMS⟩ := C
  intro H locs cells slots ls r1 r2 r3 r4 r5 r6
  refine lv_tableOut hx hb hd ?_ ht (k H locs cells slots ls r1 r2 r3 r4 r5 r6)
  rcases pk_ix x (n := hi + 1) (by omega) with h | h | ⟨j, hj, e⟩
  · have h1 := Int32.lt_iff_toInt_lt.mp h
    rw [Int32.toInt_zero] at h1
    exact Or.inl h1
  · refine Or.inr ?_
    have h1 := Int32.le_iff_toInt_le.mp h
    rw [nI_toInt (by omega)] at h1
    omega
  · exact absurd e (hx' j (by omega))
theorem g_lsw (C : z_C Γ K cc own nL) {dflt : Int} {ps : Array (Int × Int)} {len : Nat} {x : Int32} {off : Int} (tgt : Nat) (hd : decode cc pc = .ok (.lookupswitch dflt ps, len)) (hp : (ps.toList.zip (ps.toList.drop 1)).all (fun (a, next) => a.1 < next.1) = true) (ho : Op.lookupswitch.offset ps.toList dflt x.toInt = off) (ht : (pc : Int) + off = (tgt : Int)) (k : GG Γ K kc ks w tgt L st) : GG Γ K kc ks w pc L (.int x :: st) := by
  obtain ⟨p, e, R, s, m, args, below, meth, c, Q, d, MC, MS⟩ := K
  obtain ⟨⟨hx, hb, hml, hown, hts⟩, hKK, hdF, hdL, hMC, hMS⟩ := C
  intro H locs cells slots ls r1 r2 r3 r4 r5 r6
  exact lv_lookup hx hb hd hp ho ht (k H locs cells slots ls r1 r2 r3 r4 r5 r6)
end ZR
