/-! the law: its script, its calls, two by two -/
def z_X (Γ : zG) (K : zK) (n : Nat) (xs : Nat → Int32) : Prop := match K with
  | (_, _, _, s, _, _, _, _, _, _, _, _, _) => va_X Γ.2.2.2.2.2 n xs s s.heap ∧ Γ.2.2.2.2.2 < z_h Γ ∧ s.heap.size = z_h Γ
section ZLW
variable {Γ : zG} {K : zK} {kc ks : Nat} {w : zW} {pc : Nat} {L : List (Option Value)} {st : List Value} {cc : ByteArray} {own : String} {nL : Nat} {n : Nat} {xs : Nat → Int32}
theorem g_slen (C : z_C Γ K cc own nL) (hX : z_X Γ K n xs) (hd : decode cc pc = .ok (.arraylength, 1)) (kk : GG Γ K kc ks w (pc + 1) L (.int (nI n) :: st)) : GG Γ K kc ks w pc L (.ref 1000 :: st) := by
  obtain ⟨p, e, R, s, m, args, below, meth, c, Q, d, MC, MS⟩ := K
  obtain ⟨⟨hx, hb, hml, hown, hts⟩, hKK, hdF, hdL, hMC, hMS⟩ := C
  obtain ⟨x1, x2, x3⟩ := hX
  intro H locs cells slots ls r1 r2 r3 r4 r5 r6
  have hS : va_S (fun q => z_h Γ ≤ q) s.heap H locs := ⟨by rw [r1.1, x3]; omega, fun q _ h2 => r2 q (Nat.not_le.mp h2), fun x hx => r3 x hx⟩
  show W p Γ.1 e R s m args below meth c H locs cells slots Q (F0 m pc ls (.ref (z_ad Γ 1000) :: st.map (z_tr Γ)))
  rw [show z_ad Γ 1000 = Γ.2.2.2.2.2 from if_pos rfl]
  exact va_slen hx hb x1 (by rw [x3]; exact x2) (Nat.not_le.mpr x2) hS hd (kk H locs cells slots ls r1 r2 r3 r4 r5 r6)
theorem g_sld (C : z_C Γ K cc own nL) (hX : z_X Γ K n xs) {j : Nat} (hj : j < n) (hn : n ≤ 2048) (hd : decode cc pc = .ok (.iaload, 1)) (kk : GG Γ K kc ks w (pc + 1) L (.int (xs j) :: st)) : GG Γ K kc ks w pc L (.int (nI j) :: .ref 1000 :: st) := by
  obtain ⟨p, e, R, s, m, args, below, meth, c, Q, d, MC, MS⟩ := K
  obtain ⟨⟨hx, hb, hml, hown, hts⟩, hKK, hdF, hdL, hMC, hMS⟩ := C
  obtain ⟨x1, x2, x3⟩ := hX
  intro H locs cells slots ls r1 r2 r3 r4 r5 r6
  have hS : va_S (fun q => z_h Γ ≤ q) s.heap H locs := ⟨by rw [r1.1, x3]; omega, fun q _ h2 => r2 q (Nat.not_le.mp h2), fun x hx => r3 x hx⟩
  show W p Γ.1 e R s m args below meth c H locs cells slots Q (F0 m pc ls (.int (nI j) :: .ref (z_ad Γ 1000) :: st.map (z_tr Γ)))
  rw [show z_ad Γ 1000 = Γ.2.2.2.2.2 from if_pos rfl]
  refine va_sld hx hb x1 (by rw [x3]; exact x2) (Nat.not_le.mpr x2) hS (vp_in_nI hj (by omega)) hd ?_
  rw [nI_clamp (by omega)]
  exact kk H locs cells slots ls r1 r2 r3 r4 r5 r6
end ZLW
theorem RepM.fr {c c' : Nat → Nat → Int32} {t t' : Nat → Int64} {S : zAb} (h : RepM c t S) (f : ∀ a, 56 ≤ a → c' a = c a) (g : ∀ a, a ≠ 0 → t' a = t a) : RepM c' t' S := h.irr (fun a h1 _ _ => f a (by omega)) (by rw [f 56 (by decide)]) (by rw [f 56 (by decide)]) (g 56 (by decide))
theorem RepC.fr {c c' : Nat → Nat → Int32} {t t' : Nat → Int64} {S : zAb} (h : RepC c t S) (f : ∀ a, a < 56 → c' a = c a) (g : ∀ a, a ≠ 56 → t' a = t a) : RepC c' t' S := h.irr (fun a h1 _ _ => f a h1) (g 0 (by decide))
abbrev lwL (i : Nat) : List (Option Value) := [some (.ref 1000), some (.ref 0), some (.ref 56), some (.int (nI i))]
/-- behind a call: both hold one value again -/
def lwB (Γ : zG) (K : zK) (i : Nat) : Prop := ∀ (c : Nat → Nat → Int32) (t : Nat → Int64) (S : zAb), OkS S → RepC c t S → RepM c t S → GG Γ K 0 0 (wF c t) 738 (lwL i) []
set_option maxRecDepth 100000 in
set_option maxHeartbeats 4000000 in
theorem law_type {Γ : zG} {K : zK} (C : z_C Γ K cL_law RL 4) (hKd : z_d K = 100) {n : Nat} {xs : Nat → Int32} (hX : z_X Γ K n xs) (hn : n ≤ 2048) {i : Nat} (hi : i + 4 ≤ n) (back : lwB Γ K i) {c : Nat → Nat → Int32} {t : Nat → Int64} {S : zAb} (hS : OkS S) (hC : RepC c t S) (hM : RepM c t S) : GG Γ K 0 0 (wF c t) 156 (lwL i) [] := by
  refine g_aload1 C dL_law_156 ?_
  refine g_aload0 C dL_law_157 ?_
  refine g_iload3 C dL_law_158 ?_
  refine g_iconst C (nI 1) dL_law_159 (by decide) ?_
  refine g_iaddN C dL_law_160 ?_
  refine g_sld C hX (by omega) hn dL_law_161 ?_
  refine g_callV1i C dL_law_162 vlL_13 (p_type hS hC) hKd (by decide) rfl (Nat.le_of_ble_eq_true rfl) (show 0 < 68 by decide) rfl ?_
  rintro _ _ ⟨rfl, c1, t1, rfl, h1, f1, g1⟩
  refine g_aload2 C dL_law_165 ?_
  refine g_aload0 C dL_law_166 ?_
  refine g_iload3 C dL_law_167 ?_
  refine g_iconst C (nI 1) dL_law_168 (by decide) ?_
  refine g_iaddN C dL_law_169 ?_
  refine g_sld C hX (by omega) hn dL_law_170 ?_
  refine g_callV1i C dL_law_171 vlL_17 (q_type hS (hM.fr f1 g1)) hKd (by decide) rfl (Nat.le_of_ble_eq_true rfl) (show 56 < 68 by decide) rfl ?_
  rintro _ _ ⟨rfl, c2, t2, rfl, h2, f2, g2⟩
  exact g_icmp_eq C 738 dL_law_174 (by decide) (fun _ => back c2 t2 _ (hS.type _) (h1.fr f2 g2) h2) (fun h => absurd rfl h)
set_option maxRecDepth 100000 in
set_option maxHeartbeats 4000000 in
theorem law_clear {Γ : zG} {K : zK} (C : z_C Γ K cL_law RL 4) (hKd : z_d K = 100) {n : Nat} {xs : Nat → Int32} (hX : z_X Γ K n xs) (hn : n ≤ 2048) {i : Nat} (hi : i + 4 ≤ n) (back : lwB Γ K i) {c : Nat → Nat → Int32} {t : Nat → Int64} {S : zAb} (hS : OkS S) (hC : RepC c t S) (hM : RepM c t S) : GG Γ K 0 0 (wF c t) 179 (lwL i) [] := by
  refine g_aload1 C dL_law_179 ?_
  refine g_callV0i C dL_law_180 vlL_18 (p_clear hS hC) hKd (by decide) rfl (Nat.le_of_ble_eq_true rfl) (show 0 < 68 by decide) rfl ?_
  rintro _ _ ⟨rfl, c1, t1, rfl, h1, f1, g1⟩
  refine g_aload2 C dL_law_183 ?_
  refine g_callV0i C dL_law_184 vlL_22 (q_clear hS (hM.fr f1 g1)) hKd (by decide) rfl (Nat.le_of_ble_eq_true rfl) (show 56 < 68 by decide) rfl ?_
  rintro _ _ ⟨rfl, c2, t2, rfl, h2, f2, g2⟩
  exact g_icmp_eq C 738 dL_law_187 (by decide) (fun _ => back c2 t2 _ (hS.clear) (h1.fr f2 g2) h2) (fun h => absurd rfl h)
set_option maxRecDepth 100000 in
set_option maxHeartbeats 4000000 in
theorem law_crew {Γ : zG} {K : zK} (C : z_C Γ K cL_law RL 4) (hKd : z_d K = 100) {n : Nat} {xs : Nat → Int32} (hX : z_X Γ K n xs) (hn : n ≤ 2048) {i : Nat} (hi : i + 4 ≤ n) (back : lwB Γ K i) {c : Nat → Nat → Int32} {t : Nat → Int64} {S : zAb} (hS : OkS S) (hC : RepC c t S) (hM : RepM c t S) : GG Γ K 0 0 (wF c t) 192 (lwL i) [] := by
  refine g_aload1 C dL_law_192 ?_
  refine g_callV0i C dL_law_193 vlL_23 (p_crew hS hC) hKd (by decide) rfl (Nat.le_of_ble_eq_true rfl) (show 0 < 68 by decide) rfl ?_
  rintro _ _ ⟨rfl, c1, t1, rfl, h1, f1, g1⟩
  refine g_aload2 C dL_law_196 ?_
  refine g_callV0i C dL_law_197 vlL_26 (q_crew hS (hM.fr f1 g1)) hKd (by decide) rfl (Nat.le_of_ble_eq_true rfl) (show 56 < 68 by decide) rfl ?_
  rintro _ _ ⟨rfl, c2, t2, rfl, h2, f2, g2⟩
  exact g_icmp_eq C 738 dL_law_200 (by decide) (fun _ => back c2 t2 _ (hS.crew) (h1.fr f2 g2) h2) (fun h => absurd rfl h)
set_option maxRecDepth 100000 in
set_option maxHeartbeats 4000000 in
theorem law_sailor {Γ : zG} {K : zK} (C : z_C Γ K cL_law RL 4) (hKd : z_d K = 100) {n : Nat} {xs : Nat → Int32} (hX : z_X Γ K n xs) (hn : n ≤ 2048) {i : Nat} (hi : i + 4 ≤ n) (back : lwB Γ K i) {c : Nat → Nat → Int32} {t : Nat → Int64} {S : zAb} (hS : OkS S) (hC : RepC c t S) (hM : RepM c t S) : GG Γ K 0 0 (wF c t) 205 (lwL i) [] := by
  refine g_aload1 C dL_law_205 ?_
  refine g_aload0 C dL_law_206 ?_
  refine g_iload3 C dL_law_207 ?_
  refine g_iconst C (nI 1) dL_law_208 (by decide) ?_
  refine g_iaddN C dL_law_209 ?_
  refine g_sld C hX (by omega) hn dL_law_210 ?_
  refine g_aload0 C dL_law_211 ?_
  refine g_iload3 C dL_law_212 ?_
  refine g_iconst C (nI 2) dL_law_213 (by decide) ?_
  refine g_iaddN C dL_law_214 ?_
  refine g_sld C hX (by omega) hn dL_law_215 ?_
  refine g_callV2i C dL_law_216 vlL_27 (p_sailor hS hC) hKd (by decide) rfl (Nat.le_of_ble_eq_true rfl) (show 0 < 68 by decide) rfl ?_
  rintro _ _ ⟨rfl, c1, t1, rfl, h1, f1, g1⟩
  refine g_aload2 C dL_law_219 ?_
  refine g_aload0 C dL_law_220 ?_
  refine g_iload3 C dL_law_221 ?_
  refine g_iconst C (nI 1) dL_law_222 (by decide) ?_
  refine g_iaddN C dL_law_223 ?_
  refine g_sld C hX (by omega) hn dL_law_224 ?_
  refine g_aload0 C dL_law_225 ?_
  refine g_iload3 C dL_law_226 ?_
  refine g_iconst C (nI 2) dL_law_227 (by decide) ?_
  refine g_iaddN C dL_law_228 ?_
  refine g_sld C hX (by omega) hn dL_law_229 ?_
  refine g_callV2i C dL_law_230 vlL_31 (q_sailor hS (hM.fr f1 g1)) hKd (by decide) rfl (Nat.le_of_ble_eq_true rfl) (show 56 < 68 by decide) rfl ?_
  rintro _ _ ⟨rfl, c2, t2, rfl, h2, f2, g2⟩
  exact g_icmp_eq C 738 dL_law_233 (by decide) (fun _ => back c2 t2 _ (hS) (h1.fr f2 g2) h2) (fun h => absurd rfl h)
set_option maxRecDepth 100000 in
set_option maxHeartbeats 4000000 in
theorem law_seat {Γ : zG} {K : zK} (C : z_C Γ K cL_law RL 4) (hKd : z_d K = 100) {n : Nat} {xs : Nat → Int32} (hX : z_X Γ K n xs) (hn : n ≤ 2048) {i : Nat} (hi : i + 4 ≤ n) (back : lwB Γ K i) {c : Nat → Nat → Int32} {t : Nat → Int64} {S : zAb} (hS : OkS S) (hC : RepC c t S) (hM : RepM c t S) : GG Γ K 0 0 (wF c t) 238 (lwL i) [] := by
  refine g_aload1 C dL_law_238 ?_
  refine g_aload0 C dL_law_239 ?_
  refine g_iload3 C dL_law_240 ?_
  refine g_iconst C (nI 1) dL_law_241 (by decide) ?_
  refine g_iaddN C dL_law_242 ?_
  refine g_sld C hX (by omega) hn dL_law_243 ?_
  refine g_aload0 C dL_law_244 ?_
  refine g_iload3 C dL_law_245 ?_
  refine g_iconst C (nI 2) dL_law_246 (by decide) ?_
  refine g_iaddN C dL_law_247 ?_
  refine g_sld C hX (by omega) hn dL_law_248 ?_
  refine g_callV2i C dL_law_249 vlL_32 (p_seat hS hC) hKd (by decide) rfl (Nat.le_of_ble_eq_true rfl) (show 0 < 68 by decide) rfl ?_
  rintro _ _ ⟨rfl, c1, t1, rfl, h1, f1, g1⟩
  refine g_aload2 C dL_law_252 ?_
  refine g_aload0 C dL_law_253 ?_
  refine g_iload3 C dL_law_254 ?_
  refine g_iconst C (nI 1) dL_law_255 (by decide) ?_
  refine g_iaddN C dL_law_256 ?_
  refine g_sld C hX (by omega) hn dL_law_257 ?_
  refine g_aload0 C dL_law_258 ?_
  refine g_iload3 C dL_law_259 ?_
  refine g_iconst C (nI 2) dL_law_260 (by decide) ?_
  refine g_iaddN C dL_law_261 ?_
  refine g_sld C hX (by omega) hn dL_law_262 ?_
  refine g_callV2i C dL_law_263 vlL_35 (q_seat hS (hM.fr f1 g1)) hKd (by decide) rfl (Nat.le_of_ble_eq_true rfl) (show 56 < 68 by decide) rfl ?_
  rintro _ _ ⟨rfl, c2, t2, rfl, h2, f2, g2⟩
  exact g_icmp_eq C 738 dL_law_266 (by decide) (fun _ => back c2 t2 _ (hS) (h1.fr f2 g2) h2) (fun h => absurd rfl h)
set_option maxRecDepth 100000 in
set_option maxHeartbeats 4000000 in
theorem law_now {Γ : zG} {K : zK} (C : z_C Γ K cL_law RL 4) (hKd : z_d K = 100) {n : Nat} {xs : Nat → Int32} (hX : z_X Γ K n xs) (hn : n ≤ 2048) {i : Nat} (hi : i + 4 ≤ n) (back : lwB Γ K i) {c : Nat → Nat → Int32} {t : Nat → Int64} {S : zAb} (hS : OkS S) (hC : RepC c t S) (hM : RepM c t S) : GG Γ K 0 0 (wF c t) 271 (lwL i) [] := by
  refine g_aload1 C dL_law_271 ?_
  refine g_aload0 C dL_law_272 ?_
  refine g_iload3 C dL_law_273 ?_
  refine g_iconst C (nI 1) dL_law_274 (by decide) ?_
  refine g_iaddN C dL_law_275 ?_
  refine g_sld C hX (by omega) hn dL_law_276 ?_
  refine g_callV1i C dL_law_277 vlL_36 (p_now hS hC) hKd (by decide) rfl (Nat.le_of_ble_eq_true rfl) (show 0 < 68 by decide) rfl ?_
  rintro _ _ ⟨rfl, c1, t1, rfl, h1, f1, g1⟩
  refine g_aload2 C dL_law_280 ?_
  refine g_aload0 C dL_law_281 ?_
  refine g_iload3 C dL_law_282 ?_
  refine g_iconst C (nI 1) dL_law_283 (by decide) ?_
  refine g_iaddN C dL_law_284 ?_
  refine g_sld C hX (by omega) hn dL_law_285 ?_
  refine g_callV1i C dL_law_286 vlL_39 (q_now hS (hM.fr f1 g1)) hKd (by decide) rfl (Nat.le_of_ble_eq_true rfl) (show 56 < 68 by decide) rfl ?_
  rintro _ _ ⟨rfl, c2, t2, rfl, h2, f2, g2⟩
  exact g_icmp_eq C 738 dL_law_289 (by decide) (fun _ => back c2 t2 _ (hS) (h1.fr f2 g2) h2) (fun h => absurd rfl h)
set_option maxRecDepth 100000 in
set_option maxHeartbeats 4000000 in
theorem law_signs {Γ : zG} {K : zK} (C : z_C Γ K cL_law RL 4) (hKd : z_d K = 100) {n : Nat} {xs : Nat → Int32} (hX : z_X Γ K n xs) (hn : n ≤ 2048) {i : Nat} (hi : i + 4 ≤ n) (back : lwB Γ K i) {c : Nat → Nat → Int32} {t : Nat → Int64} {S : zAb} (hS : OkS S) (hC : RepC c t S) (hM : RepM c t S) : GG Γ K 0 0 (wF c t) 294 (lwL i) [] := by
  refine g_aload1 C dL_law_294 ?_
  refine g_aload0 C dL_law_295 ?_
  refine g_iload3 C dL_law_296 ?_
  refine g_iconst C (nI 1) dL_law_297 (by decide) ?_
  refine g_iaddN C dL_law_298 ?_
  refine g_sld C hX (by omega) hn dL_law_299 ?_
  refine g_aload0 C dL_law_300 ?_
  refine g_iload3 C dL_law_301 ?_
  refine g_iconst C (nI 2) dL_law_302 (by decide) ?_
  refine g_iaddN C dL_law_303 ?_
  refine g_sld C hX (by omega) hn dL_law_304 ?_
  refine g_callV2i C dL_law_305 vlL_40 (p_signs hS hC) hKd (by decide) rfl (Nat.le_of_ble_eq_true rfl) (show 0 < 68 by decide) rfl ?_
  rintro _ _ ⟨rfl, c1, t1, rfl, h1, f1, g1⟩
  refine g_aload2 C dL_law_308 ?_
  refine g_aload0 C dL_law_309 ?_
  refine g_iload3 C dL_law_310 ?_
  refine g_iconst C (nI 1) dL_law_311 (by decide) ?_
  refine g_iaddN C dL_law_312 ?_
  refine g_sld C hX (by omega) hn dL_law_313 ?_
  refine g_aload0 C dL_law_314 ?_
  refine g_iload3 C dL_law_315 ?_
  refine g_iconst C (nI 2) dL_law_316 (by decide) ?_
  refine g_iaddN C dL_law_317 ?_
  refine g_sld C hX (by omega) hn dL_law_318 ?_
  refine g_callV2i C dL_law_319 vlL_43 (q_signs hS (hM.fr f1 g1)) hKd (by decide) rfl (Nat.le_of_ble_eq_true rfl) (show 56 < 68 by decide) rfl ?_
  rintro _ _ ⟨rfl, c2, t2, rfl, h2, f2, g2⟩
  exact g_icmp_eq C 738 dL_law_322 (by decide) (fun _ => back c2 t2 _ (hS.signs _ _) (h1.fr f2 g2) h2) (fun h => absurd rfl h)
set_option maxRecDepth 100000 in
set_option maxHeartbeats 4000000 in
theorem law_hour {Γ : zG} {K : zK} (C : z_C Γ K cL_law RL 4) (hKd : z_d K = 100) {n : Nat} {xs : Nat → Int32} (hX : z_X Γ K n xs) (hn : n ≤ 2048) {i : Nat} (hi : i + 4 ≤ n) (back : lwB Γ K i) {c : Nat → Nat → Int32} {t : Nat → Int64} {S : zAb} (hS : OkS S) (hC : RepC c t S) (hM : RepM c t S) : GG Γ K 0 0 (wF c t) 327 (lwL i) [] := by
  refine g_aload1 C dL_law_327 ?_
  refine g_callV0i C dL_law_328 vlL_44 (p_hour hS hC) hKd (by decide) rfl (Nat.le_of_ble_eq_true rfl) (show 0 < 68 by decide) rfl ?_
  rintro _ _ ⟨rfl, c1, t1, rfl, h1, f1, g1⟩
  refine g_aload2 C dL_law_331 ?_
  refine g_callV0i C dL_law_332 vlL_47 (q_hour hS (hM.fr f1 g1)) hKd (by decide) rfl (Nat.le_of_ble_eq_true rfl) (show 56 < 68 by decide) rfl ?_
  rintro _ _ ⟨rfl, c2, t2, rfl, h2, f2, g2⟩
  exact g_icmp_eq C 738 dL_law_335 (by decide) (fun _ => back c2 t2 _ (hS.hour) (h1.fr f2 g2) h2) (fun h => absurd rfl h)
set_option maxRecDepth 100000 in
set_option maxHeartbeats 4000000 in
theorem law_scrape {Γ : zG} {K : zK} (C : z_C Γ K cL_law RL 4) (hKd : z_d K = 100) {n : Nat} {xs : Nat → Int32} (hX : z_X Γ K n xs) (hn : n ≤ 2048) {i : Nat} (hi : i + 4 ≤ n) (back : lwB Γ K i) {c : Nat → Nat → Int32} {t : Nat → Int64} {S : zAb} (hS : OkS S) (hC : RepC c t S) (hM : RepM c t S) : GG Γ K 0 0 (wF c t) 340 (lwL i) [] := by
  refine g_aload1 C dL_law_340 ?_
  refine g_aload0 C dL_law_341 ?_
  refine g_iload3 C dL_law_342 ?_
  refine g_iconst C (nI 1) dL_law_343 (by decide) ?_
  refine g_iaddN C dL_law_344 ?_
  refine g_sld C hX (by omega) hn dL_law_345 ?_
  refine g_callV1i C dL_law_346 vlL_48 (p_scrape hS hC) hKd (by decide) rfl (Nat.le_of_ble_eq_true rfl) (show 0 < 68 by decide) rfl ?_
  rintro _ _ ⟨rfl, c1, t1, rfl, h1, f1, g1⟩
  refine g_aload2 C dL_law_349 ?_
  refine g_aload0 C dL_law_350 ?_
  refine g_iload3 C dL_law_351 ?_
  refine g_iconst C (nI 1) dL_law_352 (by decide) ?_
  refine g_iaddN C dL_law_353 ?_
  refine g_sld C hX (by omega) hn dL_law_354 ?_
  refine g_callV1i C dL_law_355 vlL_51 (q_scrape hS (hM.fr f1 g1)) hKd (by decide) rfl (Nat.le_of_ble_eq_true rfl) (show 56 < 68 by decide) rfl ?_
  rintro _ _ ⟨rfl, c2, t2, rfl, h2, f2, g2⟩
  exact g_icmp_eq C 738 dL_law_358 (by decide) (fun _ => back c2 t2 _ (hS.scrape _) (h1.fr f2 g2) h2) (fun h => absurd rfl h)
set_option maxRecDepth 100000 in
set_option maxHeartbeats 4000000 in
theorem law_undo {Γ : zG} {K : zK} (C : z_C Γ K cL_law RL 4) (hKd : z_d K = 100) {n : Nat} {xs : Nat → Int32} (hX : z_X Γ K n xs) (hn : n ≤ 2048) {i : Nat} (hi : i + 4 ≤ n) (back : lwB Γ K i) {c : Nat → Nat → Int32} {t : Nat → Int64} {S : zAb} (hS : OkS S) (hC : RepC c t S) (hM : RepM c t S) : GG Γ K 0 0 (wF c t) 363 (lwL i) [] := by
  refine g_aload1 C dL_law_363 ?_
  refine g_callV0i C dL_law_364 vlL_52 (p_undo hS hC) hKd (by decide) rfl (Nat.le_of_ble_eq_true rfl) (show 0 < 68 by decide) rfl ?_
  rintro _ _ ⟨rfl, c1, t1, rfl, h1, f1, g1⟩
  refine g_aload2 C dL_law_367 ?_
  refine g_callV0i C dL_law_368 vlL_55 (q_undo hS (hM.fr f1 g1)) hKd (by decide) rfl (Nat.le_of_ble_eq_true rfl) (show 56 < 68 by decide) rfl ?_
  rintro _ _ ⟨rfl, c2, t2, rfl, h2, f2, g2⟩
  exact g_icmp_eq C 738 dL_law_371 (by decide) (fun _ => back c2 t2 _ (hS.undo) (h1.fr f2 g2) h2) (fun h => absurd rfl h)
set_option maxRecDepth 100000 in
set_option maxHeartbeats 4000000 in
theorem law_will {Γ : zG} {K : zK} (C : z_C Γ K cL_law RL 4) (hKd : z_d K = 100) {n : Nat} {xs : Nat → Int32} (hX : z_X Γ K n xs) (hn : n ≤ 2048) {i : Nat} (hi : i + 4 ≤ n) (back : lwB Γ K i) {c : Nat → Nat → Int32} {t : Nat → Int64} {S : zAb} (hS : OkS S) (hC : RepC c t S) (hM : RepM c t S) : GG Γ K 0 0 (wF c t) 376 (lwL i) [] := by
  refine g_aload1 C dL_law_376 ?_
  refine g_callV0i C dL_law_377 vlL_56 (p_will hS hC) hKd (by decide) rfl (Nat.le_of_ble_eq_true rfl) (show 0 < 68 by decide) rfl ?_
  rintro _ _ ⟨rfl, c1, t1, rfl, h1, f1, g1⟩
  refine g_aload2 C dL_law_380 ?_
  refine g_callV0i C dL_law_381 vlL_59 (q_will hS (hM.fr f1 g1)) hKd (by decide) rfl (Nat.le_of_ble_eq_true rfl) (show 56 < 68 by decide) rfl ?_
  rintro _ _ ⟨rfl, c2, t2, rfl, h2, f2, g2⟩
  exact g_icmp_eq C 738 dL_law_384 (by decide) (fun _ => back c2 t2 _ (hS) (h1.fr f2 g2) h2) (fun h => absurd rfl h)
set_option maxRecDepth 100000 in
set_option maxHeartbeats 4000000 in
theorem law_begin {Γ : zG} {K : zK} (C : z_C Γ K cL_law RL 4) (hKd : z_d K = 100) {n : Nat} {xs : Nat → Int32} (hX : z_X Γ K n xs) (hn : n ≤ 2048) {i : Nat} (hi : i + 4 ≤ n) (back : lwB Γ K i) {c : Nat → Nat → Int32} {t : Nat → Int64} {S : zAb} (hS : OkS S) (hC : RepC c t S) (hM : RepM c t S) : GG Γ K 0 0 (wF c t) 389 (lwL i) [] := by
  refine g_aload1 C dL_law_389 ?_
  refine g_callV0i C dL_law_390 vlL_60 (p_begin hS hC) hKd (by decide) rfl (Nat.le_of_ble_eq_true rfl) (show 0 < 68 by decide) rfl ?_
  rintro _ _ ⟨rfl, c1, t1, rfl, h1, f1, g1⟩
  refine g_aload2 C dL_law_393 ?_
  refine g_callV0i C dL_law_394 vlL_63 (q_begin hS (hM.fr f1 g1)) hKd (by decide) rfl (Nat.le_of_ble_eq_true rfl) (show 56 < 68 by decide) rfl ?_
  rintro _ _ ⟨rfl, c2, t2, rfl, h2, f2, g2⟩
  exact g_icmp_eq C 738 dL_law_397 (by decide) (fun _ => back c2 t2 _ (hS) (h1.fr f2 g2) h2) (fun h => absurd rfl h)
set_option maxRecDepth 100000 in
set_option maxHeartbeats 4000000 in
theorem law_orders {Γ : zG} {K : zK} (C : z_C Γ K cL_law RL 4) (hKd : z_d K = 100) {n : Nat} {xs : Nat → Int32} (hX : z_X Γ K n xs) (hn : n ≤ 2048) {i : Nat} (hi : i + 4 ≤ n) (back : lwB Γ K i) {c : Nat → Nat → Int32} {t : Nat → Int64} {S : zAb} (hS : OkS S) (hC : RepC c t S) (hM : RepM c t S) : GG Γ K 0 0 (wF c t) 402 (lwL i) [] := by
  refine g_aload1 C dL_law_402 ?_
  refine g_callV0i C dL_law_403 vlL_64 (p_orders hS hC) hKd (by decide) rfl (Nat.le_of_ble_eq_true rfl) (show 0 < 68 by decide) rfl ?_
  rintro _ _ ⟨rfl, c1, t1, rfl, h1, f1, g1⟩
  refine g_aload2 C dL_law_406 ?_
  refine g_callV0i C dL_law_407 vlL_67 (q_orders hS (hM.fr f1 g1)) hKd (by decide) rfl (Nat.le_of_ble_eq_true rfl) (show 56 < 68 by decide) rfl ?_
  rintro _ _ ⟨rfl, c2, t2, rfl, h2, f2, g2⟩
  exact g_icmp_eq C 738 dL_law_410 (by decide) (fun _ => back c2 t2 _ (hS) (h1.fr f2 g2) h2) (fun h => absurd rfl h)
set_option maxRecDepth 100000 in
set_option maxHeartbeats 4000000 in
theorem law_first {Γ : zG} {K : zK} (C : z_C Γ K cL_law RL 4) (hKd : z_d K = 100) {n : Nat} {xs : Nat → Int32} (hX : z_X Γ K n xs) (hn : n ≤ 2048) {i : Nat} (hi : i + 4 ≤ n) (back : lwB Γ K i) {c : Nat → Nat → Int32} {t : Nat → Int64} {S : zAb} (hS : OkS S) (hC : RepC c t S) (hM : RepM c t S) : GG Γ K 0 0 (wF c t) 415 (lwL i) [] := by
  refine g_aload1 C dL_law_415 ?_
  refine g_callV0i C dL_law_416 vlL_68 (p_first hS hC) hKd (by decide) rfl (Nat.le_of_ble_eq_true rfl) (show 0 < 68 by decide) rfl ?_
  rintro _ _ ⟨rfl, c1, t1, rfl, h1, f1, g1⟩
  refine g_aload2 C dL_law_419 ?_
  refine g_callV0i C dL_law_420 vlL_71 (q_first hS (hM.fr f1 g1)) hKd (by decide) rfl (Nat.le_of_ble_eq_true rfl) (show 56 < 68 by decide) rfl ?_
  rintro _ _ ⟨rfl, c2, t2, rfl, h2, f2, g2⟩
  exact g_icmp_eq C 738 dL_law_423 (by decide) (fun _ => back c2 t2 _ (hS) (h1.fr f2 g2) h2) (fun h => absurd rfl h)
set_option maxRecDepth 100000 in
set_option maxHeartbeats 4000000 in
theorem law_sure {Γ : zG} {K : zK} (C : z_C Γ K cL_law RL 4) (hKd : z_d K = 100) {n : Nat} {xs : Nat → Int32} (hX : z_X Γ K n xs) (hn : n ≤ 2048) {i : Nat} (hi : i + 4 ≤ n) (back : lwB Γ K i) {c : Nat → Nat → Int32} {t : Nat → Int64} {S : zAb} (hS : OkS S) (hC : RepC c t S) (hM : RepM c t S) : GG Γ K 0 0 (wF c t) 428 (lwL i) [] := by
  refine g_aload1 C dL_law_428 ?_
  refine g_aload0 C dL_law_429 ?_
  refine g_iload3 C dL_law_430 ?_
  refine g_iconst C (nI 1) dL_law_431 (by decide) ?_
  refine g_iaddN C dL_law_432 ?_
  refine g_sld C hX (by omega) hn dL_law_433 ?_
  refine g_callV1i C dL_law_434 vlL_72 (p_sure hS hC) hKd (by decide) rfl (Nat.le_of_ble_eq_true rfl) (show 0 < 68 by decide) rfl ?_
  rintro _ _ ⟨rfl, c1, t1, rfl, h1, f1, g1⟩
  refine g_aload2 C dL_law_437 ?_
  refine g_aload0 C dL_law_438 ?_
  refine g_iload3 C dL_law_439 ?_
  refine g_iconst C (nI 1) dL_law_440 (by decide) ?_
  refine g_iaddN C dL_law_441 ?_
  refine g_sld C hX (by omega) hn dL_law_442 ?_
  refine g_callV1i C dL_law_443 vlL_75 (q_sure hS (hM.fr f1 g1)) hKd (by decide) rfl (Nat.le_of_ble_eq_true rfl) (show 56 < 68 by decide) rfl ?_
  rintro _ _ ⟨rfl, c2, t2, rfl, h2, f2, g2⟩
  exact g_icmp_eq C 738 dL_law_446 (by decide) (fun _ => back c2 t2 _ (hS) (h1.fr f2 g2) h2) (fun h => absurd rfl h)
set_option maxRecDepth 100000 in
set_option maxHeartbeats 4000000 in
theorem law_chance {Γ : zG} {K : zK} (C : z_C Γ K cL_law RL 4) (hKd : z_d K = 100) {n : Nat} {xs : Nat → Int32} (hX : z_X Γ K n xs) (hn : n ≤ 2048) {i : Nat} (hi : i + 4 ≤ n) (back : lwB Γ K i) {c : Nat → Nat → Int32} {t : Nat → Int64} {S : zAb} (hS : OkS S) (hC : RepC c t S) (hM : RepM c t S) : GG Γ K 0 0 (wF c t) 451 (lwL i) [] := by
  refine g_aload1 C dL_law_451 ?_
  refine g_aload0 C dL_law_452 ?_
  refine g_iload3 C dL_law_453 ?_
  refine g_iconst C (nI 1) dL_law_454 (by decide) ?_
  refine g_iaddN C dL_law_455 ?_
  refine g_sld C hX (by omega) hn dL_law_456 ?_
  refine g_aload0 C dL_law_457 ?_
  refine g_iload3 C dL_law_458 ?_
  refine g_iconst C (nI 2) dL_law_459 (by decide) ?_
  refine g_iaddN C dL_law_460 ?_
  refine g_sld C hX (by omega) hn dL_law_461 ?_
  refine g_callV2i C dL_law_462 vlL_76 (p_chance hS hC) hKd (by decide) rfl (Nat.le_of_ble_eq_true rfl) (show 0 < 68 by decide) rfl ?_
  rintro _ _ ⟨rfl, c1, t1, rfl, h1, f1, g1⟩
  refine g_aload2 C dL_law_465 ?_
  refine g_aload0 C dL_law_466 ?_
  refine g_iload3 C dL_law_467 ?_
  refine g_iconst C (nI 1) dL_law_468 (by decide) ?_
  refine g_iaddN C dL_law_469 ?_
  refine g_sld C hX (by omega) hn dL_law_470 ?_
  refine g_aload0 C dL_law_471 ?_
  refine g_iload3 C dL_law_472 ?_
  refine g_iconst C (nI 2) dL_law_473 (by decide) ?_
  refine g_iaddN C dL_law_474 ?_
  refine g_sld C hX (by omega) hn dL_law_475 ?_
  refine g_callV2i C dL_law_476 vlL_79 (q_chance hS (hM.fr f1 g1)) hKd (by decide) rfl (Nat.le_of_ble_eq_true rfl) (show 56 < 68 by decide) rfl ?_
  rintro _ _ ⟨rfl, c2, t2, rfl, h2, f2, g2⟩
  exact g_icmp_eq C 738 dL_law_479 (by decide) (fun _ => back c2 t2 _ (hS) (h1.fr f2 g2) h2) (fun h => absurd rfl h)
set_option maxRecDepth 100000 in
set_option maxHeartbeats 4000000 in
theorem law_ask {Γ : zG} {K : zK} (C : z_C Γ K cL_law RL 4) (hKd : z_d K = 100) {n : Nat} {xs : Nat → Int32} (hX : z_X Γ K n xs) (hn : n ≤ 2048) {i : Nat} (hi : i + 4 ≤ n) (back : lwB Γ K i) {c : Nat → Nat → Int32} {t : Nat → Int64} {S : zAb} (hS : OkS S) (hC : RepC c t S) (hM : RepM c t S) : GG Γ K 0 0 (wF c t) 484 (lwL i) [] := by
  refine g_aload1 C dL_law_484 ?_
  refine g_callV0i C dL_law_485 vlL_80 (p_ask hS hC) hKd (by decide) rfl (Nat.le_of_ble_eq_true rfl) (show 0 < 68 by decide) rfl ?_
  rintro _ _ ⟨rfl, c1, t1, rfl, h1, f1, g1⟩
  refine g_aload2 C dL_law_488 ?_
  refine g_callV0i C dL_law_489 vlL_83 (q_ask hS (hM.fr f1 g1)) hKd (by decide) rfl (Nat.le_of_ble_eq_true rfl) (show 56 < 68 by decide) rfl ?_
  rintro _ _ ⟨rfl, c2, t2, rfl, h2, f2, g2⟩
  exact g_icmp_eq C 738 dL_law_492 (by decide) (fun _ => back c2 t2 _ (hS) (h1.fr f2 g2) h2) (fun h => absurd rfl h)
set_option maxRecDepth 100000 in
set_option maxHeartbeats 4000000 in
theorem law_hang {Γ : zG} {K : zK} (C : z_C Γ K cL_law RL 4) (hKd : z_d K = 100) {n : Nat} {xs : Nat → Int32} (hX : z_X Γ K n xs) (hn : n ≤ 2048) {i : Nat} (hi : i + 4 ≤ n) (back : lwB Γ K i) {c : Nat → Nat → Int32} {t : Nat → Int64} {S : zAb} (hS : OkS S) (hC : RepC c t S) (hM : RepM c t S) : GG Γ K 0 0 (wF c t) 497 (lwL i) [] := by
  refine g_aload1 C dL_law_497 ?_
  refine g_callV0i C dL_law_498 vlL_84 (p_hang hS hC) hKd (by decide) rfl (Nat.le_of_ble_eq_true rfl) (show 0 < 68 by decide) rfl ?_
  rintro _ _ ⟨rfl, c1, t1, rfl, h1, f1, g1⟩
  refine g_aload2 C dL_law_501 ?_
  refine g_callV0i C dL_law_502 vlL_87 (q_hang hS (hM.fr f1 g1)) hKd (by decide) rfl (Nat.le_of_ble_eq_true rfl) (show 56 < 68 by decide) rfl ?_
  rintro _ _ ⟨rfl, c2, t2, rfl, h2, f2, g2⟩
  exact g_icmp_eq C 738 dL_law_505 (by decide) (fun _ => back c2 t2 _ (hS) (h1.fr f2 g2) h2) (fun h => absurd rfl h)
set_option maxRecDepth 100000 in
set_option maxHeartbeats 4000000 in
theorem law_shift {Γ : zG} {K : zK} (C : z_C Γ K cL_law RL 4) (hKd : z_d K = 100) {n : Nat} {xs : Nat → Int32} (hX : z_X Γ K n xs) (hn : n ≤ 2048) {i : Nat} (hi : i + 4 ≤ n) (back : lwB Γ K i) {c : Nat → Nat → Int32} {t : Nat → Int64} {S : zAb} (hS : OkS S) (hC : RepC c t S) (hM : RepM c t S) : GG Γ K 0 0 (wF c t) 510 (lwL i) [] := by
  refine g_aload1 C dL_law_510 ?_
  refine g_aload0 C dL_law_511 ?_
  refine g_iload3 C dL_law_512 ?_
  refine g_iconst C (nI 1) dL_law_513 (by decide) ?_
  refine g_iaddN C dL_law_514 ?_
  refine g_sld C hX (by omega) hn dL_law_515 ?_
  refine g_callV1i C dL_law_516 vlL_88 (p_shift hS hC) hKd (by decide) rfl (Nat.le_of_ble_eq_true rfl) (show 0 < 68 by decide) rfl ?_
  rintro _ _ ⟨rfl, c1, t1, rfl, h1, f1, g1⟩
  refine g_aload2 C dL_law_519 ?_
  refine g_aload0 C dL_law_520 ?_
  refine g_iload3 C dL_law_521 ?_
  refine g_iconst C (nI 1) dL_law_522 (by decide) ?_
  refine g_iaddN C dL_law_523 ?_
  refine g_sld C hX (by omega) hn dL_law_524 ?_
  refine g_callV1i C dL_law_525 vlL_91 (q_shift hS (hM.fr f1 g1)) hKd (by decide) rfl (Nat.le_of_ble_eq_true rfl) (show 56 < 68 by decide) rfl ?_
  rintro _ _ ⟨rfl, c2, t2, rfl, h2, f2, g2⟩
  exact g_icmp_eq C 738 dL_law_528 (by decide) (fun _ => back c2 t2 _ (hS) (h1.fr f2 g2) h2) (fun h => absurd rfl h)
set_option maxRecDepth 100000 in
set_option maxHeartbeats 4000000 in
theorem law_odds {Γ : zG} {K : zK} (C : z_C Γ K cL_law RL 4) (hKd : z_d K = 100) {n : Nat} {xs : Nat → Int32} (hX : z_X Γ K n xs) (hn : n ≤ 2048) {i : Nat} (hi : i + 4 ≤ n) (back : lwB Γ K i) {c : Nat → Nat → Int32} {t : Nat → Int64} {S : zAb} (hS : OkS S) (hC : RepC c t S) (hM : RepM c t S) : GG Γ K 0 0 (wF c t) 533 (lwL i) [] := by
  refine g_aload1 C dL_law_533 ?_
  refine g_aload0 C dL_law_534 ?_
  refine g_iload3 C dL_law_535 ?_
  refine g_iconst C (nI 1) dL_law_536 (by decide) ?_
  refine g_iaddN C dL_law_537 ?_
  refine g_sld C hX (by omega) hn dL_law_538 ?_
  refine g_aload0 C dL_law_539 ?_
  refine g_iload3 C dL_law_540 ?_
  refine g_iconst C (nI 2) dL_law_541 (by decide) ?_
  refine g_iaddN C dL_law_542 ?_
  refine g_sld C hX (by omega) hn dL_law_543 ?_
  refine g_aload0 C dL_law_544 ?_
  refine g_iload3 C dL_law_545 ?_
  refine g_iconst C (nI 3) dL_law_546 (by decide) ?_
  refine g_iaddN C dL_law_547 ?_
  refine g_sld C hX (by omega) hn dL_law_548 ?_
  refine g_callV3i C dL_law_549 vlL_92 (p_odds hS hC) hKd (by decide) rfl (Nat.le_of_ble_eq_true rfl) (show 0 < 68 by decide) rfl ?_
  rintro _ _ ⟨rfl, c1, t1, rfl, h1, f1, g1⟩
  refine g_aload2 C dL_law_552 ?_
  refine g_aload0 C dL_law_553 ?_
  refine g_iload3 C dL_law_554 ?_
  refine g_iconst C (nI 1) dL_law_555 (by decide) ?_
  refine g_iaddN C dL_law_556 ?_
  refine g_sld C hX (by omega) hn dL_law_557 ?_
  refine g_aload0 C dL_law_558 ?_
  refine g_iload3 C dL_law_559 ?_
  refine g_iconst C (nI 2) dL_law_560 (by decide) ?_
  refine g_iaddN C dL_law_561 ?_
  refine g_sld C hX (by omega) hn dL_law_562 ?_
  refine g_aload0 C dL_law_563 ?_
  refine g_iload3 C dL_law_564 ?_
  refine g_iconst C (nI 3) dL_law_565 (by decide) ?_
  refine g_iaddN C dL_law_566 ?_
  refine g_sld C hX (by omega) hn dL_law_567 ?_
  refine g_callV3i C dL_law_568 vlL_96 (q_odds hS (hM.fr f1 g1)) hKd (by decide) rfl (Nat.le_of_ble_eq_true rfl) (show 56 < 68 by decide) rfl ?_
  rintro _ _ ⟨rfl, c2, t2, rfl, h2, f2, g2⟩
  exact g_icmp_eq C 738 dL_law_571 (by decide) (fun _ => back c2 t2 _ (hS) (h1.fr f2 g2) h2) (fun h => absurd rfl h)
set_option maxRecDepth 100000 in
set_option maxHeartbeats 4000000 in
theorem law_bold {Γ : zG} {K : zK} (C : z_C Γ K cL_law RL 4) (hKd : z_d K = 100) {n : Nat} {xs : Nat → Int32} (hX : z_X Γ K n xs) (hn : n ≤ 2048) {i : Nat} (hi : i + 4 ≤ n) (back : lwB Γ K i) {c : Nat → Nat → Int32} {t : Nat → Int64} {S : zAb} (hS : OkS S) (hC : RepC c t S) (hM : RepM c t S) : GG Γ K 0 0 (wF c t) 576 (lwL i) [] := by
  refine g_aload1 C dL_law_576 ?_
  refine g_aload0 C dL_law_577 ?_
  refine g_iload3 C dL_law_578 ?_
  refine g_iconst C (nI 1) dL_law_579 (by decide) ?_
  refine g_iaddN C dL_law_580 ?_
  refine g_sld C hX (by omega) hn dL_law_581 ?_
  refine g_callV1i C dL_law_582 vlL_97 (p_bold hS hC) hKd (by decide) rfl (Nat.le_of_ble_eq_true rfl) (show 0 < 68 by decide) rfl ?_
  rintro _ _ ⟨rfl, c1, t1, rfl, h1, f1, g1⟩
  refine g_aload2 C dL_law_585 ?_
  refine g_aload0 C dL_law_586 ?_
  refine g_iload3 C dL_law_587 ?_
  refine g_iconst C (nI 1) dL_law_588 (by decide) ?_
  refine g_iaddN C dL_law_589 ?_
  refine g_sld C hX (by omega) hn dL_law_590 ?_
  refine g_callV1i C dL_law_591 vlL_100 (q_bold hS (hM.fr f1 g1)) hKd (by decide) rfl (Nat.le_of_ble_eq_true rfl) (show 56 < 68 by decide) rfl ?_
  rintro _ _ ⟨rfl, c2, t2, rfl, h2, f2, g2⟩
  exact g_icmp_eq C 738 dL_law_594 (by decide) (fun _ => back c2 t2 _ (hS) (h1.fr f2 g2) h2) (fun h => absurd rfl h)
set_option maxRecDepth 100000 in
set_option maxHeartbeats 4000000 in
theorem law_clique {Γ : zG} {K : zK} (C : z_C Γ K cL_law RL 4) (hKd : z_d K = 100) {n : Nat} {xs : Nat → Int32} (hX : z_X Γ K n xs) (hn : n ≤ 2048) {i : Nat} (hi : i + 4 ≤ n) (back : lwB Γ K i) {c : Nat → Nat → Int32} {t : Nat → Int64} {S : zAb} (hS : OkS S) (hC : RepC c t S) (hM : RepM c t S) : GG Γ K 0 0 (wF c t) 599 (lwL i) [] := by
  refine g_aload1 C dL_law_599 ?_
  refine g_aload0 C dL_law_600 ?_
  refine g_iload3 C dL_law_601 ?_
  refine g_iconst C (nI 1) dL_law_602 (by decide) ?_
  refine g_iaddN C dL_law_603 ?_
  refine g_sld C hX (by omega) hn dL_law_604 ?_
  refine g_callV1i C dL_law_605 vlL_101 (p_clique hS hC) hKd (by decide) rfl (Nat.le_of_ble_eq_true rfl) (show 0 < 68 by decide) rfl ?_
  rintro _ _ ⟨rfl, c1, t1, rfl, h1, f1, g1⟩
  refine g_aload2 C dL_law_608 ?_
  refine g_aload0 C dL_law_609 ?_
  refine g_iload3 C dL_law_610 ?_
  refine g_iconst C (nI 1) dL_law_611 (by decide) ?_
  refine g_iaddN C dL_law_612 ?_
  refine g_sld C hX (by omega) hn dL_law_613 ?_
  refine g_callV1i C dL_law_614 vlL_104 (q_clique hS (hM.fr f1 g1)) hKd (by decide) rfl (Nat.le_of_ble_eq_true rfl) (show 56 < 68 by decide) rfl ?_
  rintro _ _ ⟨rfl, c2, t2, rfl, h2, f2, g2⟩
  exact g_icmp_eq C 738 dL_law_617 (by decide) (fun _ => back c2 t2 _ (hS) (h1.fr f2 g2) h2) (fun h => absurd rfl h)
set_option maxRecDepth 100000 in
set_option maxHeartbeats 4000000 in
theorem law_rate {Γ : zG} {K : zK} (C : z_C Γ K cL_law RL 4) (hKd : z_d K = 100) {n : Nat} {xs : Nat → Int32} (hX : z_X Γ K n xs) (hn : n ≤ 2048) {i : Nat} (hi : i + 4 ≤ n) (back : lwB Γ K i) {c : Nat → Nat → Int32} {t : Nat → Int64} {S : zAb} (hS : OkS S) (hC : RepC c t S) (hM : RepM c t S) : GG Γ K 0 0 (wF c t) 622 (lwL i) [] := by
  refine g_aload1 C dL_law_622 ?_
  refine g_aload0 C dL_law_623 ?_
  refine g_iload3 C dL_law_624 ?_
  refine g_iconst C (nI 1) dL_law_625 (by decide) ?_
  refine g_iaddN C dL_law_626 ?_
  refine g_sld C hX (by omega) hn dL_law_627 ?_
  refine g_aload0 C dL_law_628 ?_
  refine g_iload3 C dL_law_629 ?_
  refine g_iconst C (nI 2) dL_law_630 (by decide) ?_
  refine g_iaddN C dL_law_631 ?_
  refine g_sld C hX (by omega) hn dL_law_632 ?_
  refine g_callV2i C dL_law_633 vlL_105 (p_rate hS hC) hKd (by decide) rfl (Nat.le_of_ble_eq_true rfl) (show 0 < 68 by decide) rfl ?_
  rintro _ _ ⟨rfl, c1, t1, rfl, h1, f1, g1⟩
  refine g_aload2 C dL_law_636 ?_
  refine g_aload0 C dL_law_637 ?_
  refine g_iload3 C dL_law_638 ?_
  refine g_iconst C (nI 1) dL_law_639 (by decide) ?_
  refine g_iaddN C dL_law_640 ?_
  refine g_sld C hX (by omega) hn dL_law_641 ?_
  refine g_aload0 C dL_law_642 ?_
  refine g_iload3 C dL_law_643 ?_
  refine g_iconst C (nI 2) dL_law_644 (by decide) ?_
  refine g_iaddN C dL_law_645 ?_
  refine g_sld C hX (by omega) hn dL_law_646 ?_
  refine g_callV2i C dL_law_647 vlL_108 (q_rate hS (hM.fr f1 g1)) hKd (by decide) rfl (Nat.le_of_ble_eq_true rfl) (show 56 < 68 by decide) rfl ?_
  rintro _ _ ⟨rfl, c2, t2, rfl, h2, f2, g2⟩
  exact g_icmp_eq C 738 dL_law_650 (by decide) (fun _ => back c2 t2 _ (hS.rate _ _) (h1.fr f2 g2) h2) (fun h => absurd rfl h)
set_option maxRecDepth 100000 in
set_option maxHeartbeats 4000000 in
theorem law_keep {Γ : zG} {K : zK} (C : z_C Γ K cL_law RL 4) (hKd : z_d K = 100) {n : Nat} {xs : Nat → Int32} (hX : z_X Γ K n xs) (hn : n ≤ 2048) {i : Nat} (hi : i + 4 ≤ n) (back : lwB Γ K i) {c : Nat → Nat → Int32} {t : Nat → Int64} {S : zAb} (hS : OkS S) (hC : RepC c t S) (hM : RepM c t S) : GG Γ K 0 0 (wF c t) 655 (lwL i) [] := by
  refine g_aload1 C dL_law_655 ?_
  refine g_aload0 C dL_law_656 ?_
  refine g_iload3 C dL_law_657 ?_
  refine g_iconst C (nI 1) dL_law_658 (by decide) ?_
  refine g_iaddN C dL_law_659 ?_
  refine g_sld C hX (by omega) hn dL_law_660 ?_
  refine g_callV1i C dL_law_661 vlL_109 (p_keep hS hC) hKd (by decide) rfl (Nat.le_of_ble_eq_true rfl) (show 0 < 68 by decide) rfl ?_
  rintro _ _ ⟨rfl, c1, t1, rfl, h1, f1, g1⟩
  refine g_aload2 C dL_law_664 ?_
  refine g_aload0 C dL_law_665 ?_
  refine g_iload3 C dL_law_666 ?_
  refine g_iconst C (nI 1) dL_law_667 (by decide) ?_
  refine g_iaddN C dL_law_668 ?_
  refine g_sld C hX (by omega) hn dL_law_669 ?_
  refine g_callV1i C dL_law_670 vlL_112 (q_keep hS (hM.fr f1 g1)) hKd (by decide) rfl (Nat.le_of_ble_eq_true rfl) (show 56 < 68 by decide) rfl ?_
  rintro _ _ ⟨rfl, c2, t2, rfl, h2, f2, g2⟩
  exact g_icmp_eq C 738 dL_law_673 (by decide) (fun _ => back c2 t2 _ (hS.keep _) (h1.fr f2 g2) h2) (fun h => absurd rfl h)
set_option maxRecDepth 100000 in
set_option maxHeartbeats 4000000 in
theorem law_back {Γ : zG} {K : zK} (C : z_C Γ K cL_law RL 4) (hKd : z_d K = 100) {n : Nat} {xs : Nat → Int32} (hX : z_X Γ K n xs) (hn : n ≤ 2048) {i : Nat} (hi : i + 4 ≤ n) (back : lwB Γ K i) {c : Nat → Nat → Int32} {t : Nat → Int64} {S : zAb} (hS : OkS S) (hC : RepC c t S) (hM : RepM c t S) : GG Γ K 0 0 (wF c t) 678 (lwL i) [] := by
  refine g_aload1 C dL_law_678 ?_
  refine g_aload0 C dL_law_679 ?_
  refine g_iload3 C dL_law_680 ?_
  refine g_iconst C (nI 1) dL_law_681 (by decide) ?_
  refine g_iaddN C dL_law_682 ?_
  refine g_sld C hX (by omega) hn dL_law_683 ?_
  refine g_callV1i C dL_law_684 vlL_113 (p_back hS hC) hKd (by decide) rfl (Nat.le_of_ble_eq_true rfl) (show 0 < 68 by decide) rfl ?_
  rintro _ _ ⟨rfl, c1, t1, rfl, h1, f1, g1⟩
  refine g_aload2 C dL_law_687 ?_
  refine g_aload0 C dL_law_688 ?_
  refine g_iload3 C dL_law_689 ?_
  refine g_iconst C (nI 1) dL_law_690 (by decide) ?_
  refine g_iaddN C dL_law_691 ?_
  refine g_sld C hX (by omega) hn dL_law_692 ?_
  refine g_callV1i C dL_law_693 vlL_116 (q_back hS (hM.fr f1 g1)) hKd (by decide) rfl (Nat.le_of_ble_eq_true rfl) (show 56 < 68 by decide) rfl ?_
  rintro _ _ ⟨rfl, c2, t2, rfl, h2, f2, g2⟩
  exact g_icmp_eq C 738 dL_law_696 (by decide) (fun _ => back c2 t2 _ (hS.back _) (h1.fr f2 g2) h2) (fun h => absurd rfl h)
set_option maxRecDepth 100000 in
set_option maxHeartbeats 4000000 in
theorem law_count {Γ : zG} {K : zK} (C : z_C Γ K cL_law RL 4) (hKd : z_d K = 100) {n : Nat} {xs : Nat → Int32} (hX : z_X Γ K n xs) (hn : n ≤ 2048) {i : Nat} (hi : i + 4 ≤ n) (back : lwB Γ K i) {c : Nat → Nat → Int32} {t : Nat → Int64} {S : zAb} (hS : OkS S) (hC : RepC c t S) (hM : RepM c t S) : GG Γ K 0 0 (wF c t) 701 (lwL i) [] := by
  refine g_aload1 C dL_law_701 ?_
  refine g_aload0 C dL_law_702 ?_
  refine g_iload3 C dL_law_703 ?_
  refine g_iconst C (nI 1) dL_law_704 (by decide) ?_
  refine g_iaddN C dL_law_705 ?_
  refine g_sld C hX (by omega) hn dL_law_706 ?_
  refine g_callV1i C dL_law_707 vlL_117 (p_count hS hC) hKd (by decide) rfl (Nat.le_of_ble_eq_true rfl) (show 0 < 68 by decide) rfl ?_
  rintro _ _ ⟨rfl, c1, t1, rfl, h1, f1, g1⟩
  refine g_aload2 C dL_law_710 ?_
  refine g_aload0 C dL_law_711 ?_
  refine g_iload3 C dL_law_712 ?_
  refine g_iconst C (nI 1) dL_law_713 (by decide) ?_
  refine g_iaddN C dL_law_714 ?_
  refine g_sld C hX (by omega) hn dL_law_715 ?_
  refine g_callV1i C dL_law_716 vlL_120 (q_count hS (hM.fr f1 g1)) hKd (by decide) rfl (Nat.le_of_ble_eq_true rfl) (show 56 < 68 by decide) rfl ?_
  rintro _ _ ⟨rfl, c2, t2, rfl, h2, f2, g2⟩
  exact g_icmp_eq C 738 dL_law_719 (by decide) (fun _ => back c2 t2 _ (hS) (h1.fr f2 g2) h2) (fun h => absurd rfl h)
theorem lw_cmp (x : Int64) : lg_cmp x x = 0 := by simp [lg_cmp]
set_option maxRecDepth 100000 in
set_option maxHeartbeats 4000000 in
theorem law_trace {Γ : zG} {K : zK} (C : z_C Γ K cL_law RL 4) (hKd : z_d K = 100) {n : Nat} {xs : Nat → Int32} (hX : z_X Γ K n xs) (hn : n ≤ 2048) {i : Nat} (hi : i + 4 ≤ n) (back : lwB Γ K i) {c : Nat → Nat → Int32} {t : Nat → Int64} {S : zAb} (hS : OkS S) (hC : RepC c t S) (hM : RepM c t S) : GG Γ K 0 0 (wF c t) 724 (lwL i) [] := by
  refine g_aload1 C dL_law_724 ?_
  refine g_callV0l C dL_law_725 vlL_121 (p_trace hS hC) hKd (by decide) rfl (Nat.le_of_ble_eq_true rfl) (show 0 < 68 by decide) rfl ?_
  rintro _ _ ⟨rfl, rfl⟩
  refine g_aload2 C dL_law_728 ?_
  refine g_callV0l C dL_law_729 vlL_125 (q_trace hM) hKd (by decide) rfl (Nat.le_of_ble_eq_true rfl) (show 56 < 68 by decide) rfl ?_
  rintro _ _ ⟨rfl, rfl⟩
  refine g_lcmp C dL_law_732 ?_
  exact g_if_eq C 738 dL_law_733 (by decide) (fun _ => back c t S hS hC hM) (fun h => absurd (lw_cmp _) h)
