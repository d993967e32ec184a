/-! leaves: rows, bits, small numbers -/
set_option maxRecDepth 100000 in
set_option maxHeartbeats 4000000 in
theorem s_at {Γ : zG} {c : Nat → Nat → Int32} {t : Nat → Int64} {k n j : Nat} {x : Int32} {f : Nat → Option Nat} (hk : k < 68) (hs : sF k = .inl (0, n, f)) (hj : j < n) (hn : n < 2 ^ 31) (hx : c k j = x) : Sp Γ 0 mX5_at [.ref k, .int (nI j)] 0 0 (wF c t) (z_pi (fun v w => w = wF c t ∧ v = x)) := by
  refine Sp.of (own := RX5) 0 false rfl (by decide +kernel) rfl rfl (fun h => by cases h) (fun K hKd M => ?_)
  have C := M.1
  show GG Γ K 0 0 (wF c t) 0 [some (.ref k), some (.int (nI j))] []
  refine g_iload1 C dX5_at_0 ?_
  refine g_if_ltN C 16 (by omega) dX5_at_1 (by decide) (fun h => h.elim) (fun _ => ?_)
  refine g_iload1 C dX5_at_4 ?_
  refine g_aload0 C dX5_at_5 ?_
  refine g_alen C dX5_at_6 hk hs ?_
  refine g_icmp_geN C 16 (by omega) (by omega) dX5_at_7 (by decide) (fun h7 => absurd h7 (by omega)) (fun h7 => ?_)
  refine g_aload0 C dX5_at_10 ?_
  refine g_iload1 C dX5_at_11 ?_
  refine g_ialdE C hx (by omega) hn dX5_at_12 hk hs ?_
  refine g_goto C 17 dX5_at_13 (by decide) ?_
  exact g_reti M dX5_at_17 (⟨rfl, rfl⟩)
set_option maxRecDepth 100000 in
set_option maxHeartbeats 4000000 in
theorem s_put {Γ : zG} {c : Nat → Nat → Int32} {t : Nat → Int64} {k n j : Nat} {x : Int32} {f : Nat → Option Nat} (hk : k < 68) (hs : sF k = .inl (0, n, f)) (hj : j < n) (hn : n < 2 ^ 31) : Sp Γ 0 mX5_put [.ref k, .int (nI j), .int x] 0 0 (wF c t) (z_pv (fun w => w = wF (z_up c k j x) t)) := by
  refine Sp.of (own := RX5) 0 false rfl (by decide +kernel) rfl rfl (fun h => by cases h) (fun K hKd M => ?_)
  have C := M.1
  show GG Γ K 0 0 (wF c t) 0 [some (.ref k), some (.int (nI j)), some (.int x)] []
  refine g_iload1 C dX5_put_0 ?_
  refine g_if_ltN C 14 (by omega) dX5_put_1 (by decide) (fun h => h.elim) (fun _ => ?_)
  refine g_iload1 C dX5_put_4 ?_
  refine g_aload0 C dX5_put_5 ?_
  refine g_alen C dX5_put_6 hk hs ?_
  refine g_icmp_geN C 14 (by omega) (by omega) dX5_put_7 (by decide) (fun h7 => absurd h7 (by omega)) (fun h7 => ?_)
  refine g_aload0 C dX5_put_10 ?_
  refine g_iload1 C dX5_put_11 ?_
  refine g_iload2 C dX5_put_12 ?_
  refine g_iastN C (by omega) hn dX5_put_13 hk hs ?_
  exact g_retv M dX5_put_14 (rfl)

