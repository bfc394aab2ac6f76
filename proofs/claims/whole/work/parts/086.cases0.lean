section LCASES0
variable {p : Program} {l : Launch} {e : Env} {s : State} {m : MethodId} {below : List Frame} {meth : Method} {c : Code} {Q : State → Prop} {A : Nat → Prop} {G : va_G} {k : Nat → ClassId} {bS L : Nat} {xs : Nat → Int32} {a b : Nat → Nat} {oL oD : Nat} {H : Heap} {locs : List Loc} {ls : Array Slot} {c0 s0 i9 : Nat} {σ : Sg} {x : Cx} {y : Mx} {fo : Nat → Int64} {fd : Nat → UInt64}
set_option maxHeartbeats 4000000 in
set_option maxRecDepth 100000 in
theorem law_c0 (S : CallFix p m c code 9 s #[.ref bS] lw_tbl RL) (hst : l.stackTraces = false) (hX : va_X bS L xs s s.heap) (hbl : bS < s.heap.size) (hbA : ¬ A bS) (hK : va_K G vwCl (tyG k) s) (hN : gN s) (hE : xE A s) (hA : ∀ q, s.heap.size ≤ q → A q) (hc0 : c0 + 5 ≤ 601024) (hs0 : s0 + 12040 ≤ 7293034) (hi9 : 4 * i9 + 4 ≤ L) (hL : L ≤ 2048)
    (hok : COK σ x) (hmk : MOK σ y) (hP : va_P G vwCl (lawW k a b oL oD σ x σ y fo fd) H) (hD : va_D A (lawW k a b oL oD σ x σ y fo fd)) (hS : va_S A s.heap H locs) (hl : lv_has ls 9 [(0, .ref bS), (1, .ref (b 0)), (2, .ref (a 0)), (3, .ref oL), (4, .ref oD), (5, .int (nI (4 * i9)))])
    (kk : ∀ (σ1 : Sg) (x1 : Cx) (y1 : Mx) (fo1 : Nat → Int64) (fd1 : Nat → UInt64) (H1 : Heap) (locs1 : List Loc) (ls1 : Array Slot), COK σ1 x1 → MOK σ1 y1 → va_P G vwCl (lawW k a b oL oD σ1 x1 σ1 y1 fo1 fd1) H1 → va_D A (lawW k a b oL oD σ1 x1 σ1 y1 fo1 fd1) → va_S A s.heap H1 locs1 → lv_has ls1 9 [(0, .ref bS), (1, .ref (b 0)), (2, .ref (a 0)), (3, .ref oL), (4, .ref oD), (5, .int (nI (4 * i9)))] → W p l e room_1 s m #[.ref bS] below meth c H1 locs1 (c0 + 5) (s0 + 12040) Q (F0 m 1794 ls1 [])) : W p l e room_1 s m #[.ref bS] below meth c H locs c0 s0 Q (F0 m 204 ls []) := by
  obtain ⟨hx, hb, hml, hown, hts⟩ := id S
  have hl : lv_has ls 9 [(0, .ref bS), (1, .ref (b 0)), (2, .ref (a 0)), (3, .ref oL), (4, .ref oD), (5, .int (nI (4 * i9)))] := hl
  refine lv_aload_n hx hb dL_law_204 rfl (lv_at hl 1 rfl) ?_
  refine lv_aload_n hx hb dL_law_205 rfl (lv_at hl 0 rfl) ?_
  refine lv_iload hx hb dL_law_206 (lv_at hl 5 rfl) ?_
  refine n_iconst 1 (by decide) hx hb dL_law_208 ?_
  refine n_iadd hx hb dL_law_209 ?_
  refine s_ld (i := (4 * i9) + 1) hx hb hX hbl hbA hS (by omega) (by omega) dL_law_210 ?_
  refine lv_aload_n hx hb dL_law_211 rfl (lv_at hl 0 rfl) ?_
  refine lv_iload hx hb dL_law_212 (lv_at hl 5 rfl) ?_
  refine n_iconst 2 (by decide) hx hb dL_law_214 ?_
  refine n_iadd hx hb dL_law_215 ?_
  refine s_ld (i := (4 * i9) + 2) hx hb hX hbl hbA hS (by omega) (by omega) dL_law_216 ?_
  refine lv_aload_n hx hb dL_law_217 rfl (lv_at hl 3 rfl) ?_
  refine bH_i (As := [.ref (b 0), .int (xs ((4 * i9) + 1)), .int (xs ((4 * i9) + 2)), .ref oL]) (wn := fun u : (Cx) × (Nat → Int64) => lawW k a b oL oD (s_add σ (xs ((4 * i9) + 1)) (xs ((4 * i9) + 2))) u.1 σ y u.2 fd) S hP hK hN hE hD hS hA (m_L_addFeature l hst G k _ b σ x oL fo (xs ((4 * i9) + 1)) (xs ((4 * i9) + 2)) hok) gw_94 rfl rfl rfl hdl_94 rfl rfl pL (fun _ => pL.symm) rfl hl.1 rfl rfl ⟨(by show _ ≤ (601024 : Nat); omega), (by show _ ≤ (7293034 : Nat); omega)⟩ dL_law_218 (fun rX u H locs hw hP hD hS => ?_)
  obtain ⟨x1, f1⟩ := u
  dsimp only at hw hP hD
  obtain ⟨rfl, ho1, hok1⟩ := hw
  refine lv_istore (lv' := [(6, .int (nI (e_add σ (xs ((4 * i9) + 1)) (xs ((4 * i9) + 2))))), (0, .ref bS), (1, .ref (b 0)), (2, .ref (a 0)), (3, .ref oL), (4, .ref oD), (5, .int (nI (4 * i9)))]) hx hb dL_law_221 hl (by decide) rfl (fun ls hl => ?_)
  refine lv_aload_n hx hb dL_law_223 rfl (lv_at hl 3 rfl) ?_
  refine lv_aload_n hx hb dL_law_224 rfl (lv_at hl 1 rfl) ?_
  refine lv_iload hx hb dL_law_225 (lv_at hl 6 rfl) ?_
  refine n_iconst 1 (by decide) hx hb dL_law_227 ?_
  refine n_iadd hx hb dL_law_228 ?_
  refine s_ld (i := (4 * i9) + 1) hx hb hX hbl hbA hS (by omega) (by omega) dL_law_229 ?_
  refine lv_aload_n hx hb dL_law_230 rfl (lv_at hl 1 rfl) ?_
  refine lv_iload hx hb dL_law_231 (lv_at hl 6 rfl) ?_
  refine n_iconst 2 (by decide) hx hb dL_law_233 ?_
  refine n_iadd hx hb dL_law_234 ?_
  refine s_ld (i := (4 * i9) + 2) hx hb hX hbl hbA hS (by omega) (by omega) dL_law_235 ?_
  refine bV_i (As := [.int (xs ((4 * i9) + 1)), .int (xs ((4 * i9) + 2))]) (wn := fun u : Mx => lawW k a b oL oD (s_add σ (xs ((4 * i9) + 1)) (xs ((4 * i9) + 2))) x1 (s_add σ (xs ((4 * i9) + 1)) (xs ((4 * i9) + 2))) u f1 fd) S hP hK hN hD hS hA (m_X7_addFeature l G k _ a σ y (xs ((4 * i9) + 1)) (xs ((4 * i9) + 2)) hmk) gw_99 rfl rfl rfl hdl_99 rfl rfl pM (fun _ => pM.symm) 7 0 rfl rfl rfl rfl hl.1 rfl rfl ⟨(by show _ ≤ (601024 : Nat); omega), (by show _ ≤ (7293034 : Nat); omega)⟩ dL_law_236 (fun rX u H locs hw hP hD hS => ?_)
  obtain ⟨y2, rfl⟩ : ∃ z, z = u := ⟨_, rfl⟩
  obtain ⟨v2, hq, hv2, hmk2, ht2⟩ := hw
  subst rX
  refine lv_istore (lv' := [(7, .int v2), (6, .int (nI (e_add σ (xs ((4 * i9) + 1)) (xs ((4 * i9) + 2))))), (0, .ref bS), (1, .ref (b 0)), (2, .ref (a 0)), (3, .ref oL), (4, .ref oD), (5, .int (nI (4 * i9)))]) hx hb dL_law_239 hl (by decide) rfl (fun ls hl => ?_)
  refine lv_aload_n hx hb dL_law_241 rfl (lv_at hl 4 rfl) ?_
  refine cV_i (As := []) S (P_l (P_perm pM hP)) hK hN (m_X7_thrown l G k _ _ _ _ _ _ _ _ _ _ _ _ _ _ _ _ _ _ _ _ _ _ _ _) gw_100 rfl rfl rfl hdl_100 rfl rfl [0] rfl 7 0 rfl rfl rfl rfl hl.1 rfl rfl ⟨(by show _ ≤ (601024 : Nat); omega), (by show _ ≤ (7293034 : Nat); omega)⟩ dL_law_242 (fun rX hr => ?_)
  subst hr
  rw [ht2]
  refine lv_iload hx hb dL_law_245 (lv_at hl 1 rfl) ?_
  refine lv_icmp_eq (tgt := 252) hx hb dL_law_247 (by decide) (fun q247 => ?_) (fun q247 => ?_)
  · skip
    refine lv_iload hx hb dL_law_252 (lv_at hl 1 rfl) ?_
    refine lv_if_ne (tgt := 269) hx hb dL_law_254 (by decide) (fun q254 => ?_) (fun q254 => ?_)
    · skip
      refine lv_goto (tgt := 1794) hx hb dL_law_269 (by decide) ?_
      refine W.widen (k := c0 + 5) (n := s0 + 12040) (by omega) (by omega) ?_
      exact kk _ _ _ _ _ _ _ _ hok1 hmk2 hP hD hS (lv_sub hl [2, 3, 4, 5, 6, 7] rfl)
    · skip
      have he := (nI_0' e_add_lt).mp q254
      refine lv_aload_n hx hb dL_law_257 rfl (lv_at hl 5 rfl) ?_
      refine n_iconst 0 (by decide) hx hb dL_law_258 ?_
      refine l_lald hx hb hK hP 47 rfl (by decide) (by decide) dL_law_259 ?_
      refine lv_iload hx hb dL_law_260 (lv_at hl 0 rfl) ?_
      refine lv_i2l (v := (v2).toInt64) hx hb dL_law_262 rfl ?_
      refine W.lcmp hx hb dL_law_263 ?_
      refine lv_if_eq (tgt := 269) hx hb dL_law_264 (by decide) (fun q264 => ?_) (fun q264 => ?_)
      · skip
        refine lv_goto (tgt := 1794) hx hb dL_law_269 (by decide) ?_
        refine W.widen (k := c0 + 5) (n := s0 + 12040) (by omega) (by omega) ?_
        exact kk _ _ _ _ _ _ _ _ hok1 hmk2 hP hD hS (lv_sub hl [2, 3, 4, 5, 6, 7] rfl)
      · skip
        exact absurd (by rw [ho1 he, hv2 he]; exact lg_same _) q264
  · skip
    exact absurd rfl q247
set_option maxHeartbeats 4000000 in
set_option maxRecDepth 100000 in
theorem law_c1 (S : CallFix p m c code 9 s #[.ref bS] lw_tbl RL) (hst : l.stackTraces = false) (hX : va_X bS L xs s s.heap) (hbl : bS < s.heap.size) (hbA : ¬ A bS) (hK : va_K G vwCl (tyG k) s) (hN : gN s) (hE : xE A s) (hA : ∀ q, s.heap.size ≤ q → A q) (hc0 : c0 + 5 ≤ 601024) (hs0 : s0 + 12040 ≤ 7293034) (hi9 : 4 * i9 + 4 ≤ L) (hL : L ≤ 2048)
    (hok : COK σ x) (hmk : MOK σ y) (hP : va_P G vwCl (lawW k a b oL oD σ x σ y fo fd) H) (hD : va_D A (lawW k a b oL oD σ x σ y fo fd)) (hS : va_S A s.heap H locs) (hl : lv_has ls 9 [(0, .ref bS), (1, .ref (b 0)), (2, .ref (a 0)), (3, .ref oL), (4, .ref oD), (5, .int (nI (4 * i9)))])
    (kk : ∀ (σ1 : Sg) (x1 : Cx) (y1 : Mx) (fo1 : Nat → Int64) (fd1 : Nat → UInt64) (H1 : Heap) (locs1 : List Loc) (ls1 : Array Slot), COK σ1 x1 → MOK σ1 y1 → va_P G vwCl (lawW k a b oL oD σ1 x1 σ1 y1 fo1 fd1) H1 → va_D A (lawW k a b oL oD σ1 x1 σ1 y1 fo1 fd1) → va_S A s.heap H1 locs1 → lv_has ls1 9 [(0, .ref bS), (1, .ref (b 0)), (2, .ref (a 0)), (3, .ref oL), (4, .ref oD), (5, .int (nI (4 * i9)))] → W p l e room_1 s m #[.ref bS] below meth c H1 locs1 (c0 + 5) (s0 + 12040) Q (F0 m 1794 ls1 [])) : W p l e room_1 s m #[.ref bS] below meth c H locs c0 s0 Q (F0 m 272 ls []) := by
  obtain ⟨hx, hb, hml, hown, hts⟩ := id S
  have hl : lv_has ls 9 [(0, .ref bS), (1, .ref (b 0)), (2, .ref (a 0)), (3, .ref oL), (4, .ref oD), (5, .int (nI (4 * i9)))] := hl
  refine lv_aload_n hx hb dL_law_272 rfl (lv_at hl 1 rfl) ?_
  refine lv_aload_n hx hb dL_law_273 rfl (lv_at hl 0 rfl) ?_
  refine lv_iload hx hb dL_law_274 (lv_at hl 5 rfl) ?_
  refine n_iconst 1 (by decide) hx hb dL_law_276 ?_
  refine n_iadd hx hb dL_law_277 ?_
  refine s_ld (i := (4 * i9) + 1) hx hb hX hbl hbA hS (by omega) (by omega) dL_law_278 ?_
  refine lv_aload_n hx hb dL_law_279 rfl (lv_at hl 0 rfl) ?_
  refine lv_iload hx hb dL_law_280 (lv_at hl 5 rfl) ?_
  refine n_iconst 2 (by decide) hx hb dL_law_282 ?_
  refine n_iadd hx hb dL_law_283 ?_
  refine s_ld (i := (4 * i9) + 2) hx hb hX hbl hbA hS (by omega) (by omega) dL_law_284 ?_
  refine lv_aload_n hx hb dL_law_285 rfl (lv_at hl 3 rfl) ?_
  refine bH_i (As := [.ref (b 0), .int (xs ((4 * i9) + 1)), .int (xs ((4 * i9) + 2)), .ref oL]) (wn := fun u : (Cx) × (Nat → Int64) => lawW k a b oL oD (s_rel σ (xs ((4 * i9) + 1)) (xs ((4 * i9) + 2))) u.1 σ y u.2 fd) S hP hK hN hE hD hS hA (m_L_setRelation l hst G k _ b σ x oL fo (xs ((4 * i9) + 1)) (xs ((4 * i9) + 2)) hok) gw_103 rfl rfl rfl hdl_103 rfl rfl pL (fun _ => pL.symm) rfl hl.1 rfl rfl ⟨(by show _ ≤ (601024 : Nat); omega), (by show _ ≤ (7293034 : Nat); omega)⟩ dL_law_286 (fun rX u H locs hw hP hD hS => ?_)
  obtain ⟨x1, f1⟩ := u
  dsimp only at hw hP hD
  obtain ⟨rfl, ho1, hok1⟩ := hw
  refine lv_istore (lv' := [(6, .int (nI (e_rel σ (xs ((4 * i9) + 1)) (xs ((4 * i9) + 2))))), (0, .ref bS), (1, .ref (b 0)), (2, .ref (a 0)), (3, .ref oL), (4, .ref oD), (5, .int (nI (4 * i9)))]) hx hb dL_law_289 hl (by decide) rfl (fun ls hl => ?_)
  refine lv_aload_n hx hb dL_law_291 rfl (lv_at hl 3 rfl) ?_
  refine lv_aload_n hx hb dL_law_292 rfl (lv_at hl 1 rfl) ?_
  refine lv_iload hx hb dL_law_293 (lv_at hl 6 rfl) ?_
  refine n_iconst 1 (by decide) hx hb dL_law_295 ?_
  refine n_iadd hx hb dL_law_296 ?_
  refine s_ld (i := (4 * i9) + 1) hx hb hX hbl hbA hS (by omega) (by omega) dL_law_297 ?_
  refine lv_aload_n hx hb dL_law_298 rfl (lv_at hl 1 rfl) ?_
  refine lv_iload hx hb dL_law_299 (lv_at hl 6 rfl) ?_
  refine n_iconst 2 (by decide) hx hb dL_law_301 ?_
  refine n_iadd hx hb dL_law_302 ?_
  refine s_ld (i := (4 * i9) + 2) hx hb hX hbl hbA hS (by omega) (by omega) dL_law_303 ?_
  refine bV_i (As := [.int (xs ((4 * i9) + 1)), .int (xs ((4 * i9) + 2))]) (wn := fun u : Mx => lawW k a b oL oD (s_rel σ (xs ((4 * i9) + 1)) (xs ((4 * i9) + 2))) x1 (s_rel σ (xs ((4 * i9) + 1)) (xs ((4 * i9) + 2))) u f1 fd) S hP hK hN hD hS hA (m_X7_setRelation l G k _ a σ y (xs ((4 * i9) + 1)) (xs ((4 * i9) + 2)) hmk) gw_105 rfl rfl rfl hdl_105 rfl rfl pM (fun _ => pM.symm) 7 0 rfl rfl rfl rfl hl.1 rfl rfl ⟨(by show _ ≤ (601024 : Nat); omega), (by show _ ≤ (7293034 : Nat); omega)⟩ dL_law_304 (fun rX u H locs hw hP hD hS => ?_)
  obtain ⟨y2, rfl⟩ : ∃ z, z = u := ⟨_, rfl⟩
  obtain ⟨v2, hq, hv2, hmk2, ht2⟩ := hw
  subst rX
  refine lv_istore (lv' := [(7, .int v2), (6, .int (nI (e_rel σ (xs ((4 * i9) + 1)) (xs ((4 * i9) + 2))))), (0, .ref bS), (1, .ref (b 0)), (2, .ref (a 0)), (3, .ref oL), (4, .ref oD), (5, .int (nI (4 * i9)))]) hx hb dL_law_307 hl (by decide) rfl (fun ls hl => ?_)
  refine lv_aload_n hx hb dL_law_309 rfl (lv_at hl 4 rfl) ?_
  refine cV_i (As := []) S (P_l (P_perm pM hP)) hK hN (m_X7_thrown l G k _ _ _ _ _ _ _ _ _ _ _ _ _ _ _ _ _ _ _ _ _ _ _ _) gw_100 rfl rfl rfl hdl_100 rfl rfl [0] rfl 7 0 rfl rfl rfl rfl hl.1 rfl rfl ⟨(by show _ ≤ (601024 : Nat); omega), (by show _ ≤ (7293034 : Nat); omega)⟩ dL_law_310 (fun rX hr => ?_)
  subst hr
  rw [ht2]
  refine lv_iload hx hb dL_law_313 (lv_at hl 1 rfl) ?_
  refine lv_icmp_eq (tgt := 320) hx hb dL_law_315 (by decide) (fun q315 => ?_) (fun q315 => ?_)
  · skip
    refine lv_iload hx hb dL_law_320 (lv_at hl 1 rfl) ?_
    refine lv_if_ne (tgt := 337) hx hb dL_law_322 (by decide) (fun q322 => ?_) (fun q322 => ?_)
    · skip
      refine lv_goto (tgt := 1794) hx hb dL_law_337 (by decide) ?_
      refine W.widen (k := c0 + 5) (n := s0 + 12040) (by omega) (by omega) ?_
      exact kk _ _ _ _ _ _ _ _ hok1 hmk2 hP hD hS (lv_sub hl [2, 3, 4, 5, 6, 7] rfl)
    · skip
      have he := (nI_0' e_rel_lt).mp q322
      refine lv_aload_n hx hb dL_law_325 rfl (lv_at hl 5 rfl) ?_
      refine n_iconst 0 (by decide) hx hb dL_law_326 ?_
      refine l_lald hx hb hK hP 47 rfl (by decide) (by decide) dL_law_327 ?_
      refine lv_iload hx hb dL_law_328 (lv_at hl 0 rfl) ?_
      refine lv_i2l (v := (v2).toInt64) hx hb dL_law_330 rfl ?_
      refine W.lcmp hx hb dL_law_331 ?_
      refine lv_if_eq (tgt := 337) hx hb dL_law_332 (by decide) (fun q332 => ?_) (fun q332 => ?_)
      · skip
        refine lv_goto (tgt := 1794) hx hb dL_law_337 (by decide) ?_
        refine W.widen (k := c0 + 5) (n := s0 + 12040) (by omega) (by omega) ?_
        exact kk _ _ _ _ _ _ _ _ hok1 hmk2 hP hD hS (lv_sub hl [2, 3, 4, 5, 6, 7] rfl)
      · skip
        exact absurd (by rw [ho1 he, hv2 he]; exact lg_same _) q332
  · skip
    exact absurd rfl q315
set_option maxHeartbeats 4000000 in
set_option maxRecDepth 100000 in
theorem law_c2 (S : CallFix p m c code 9 s #[.ref bS] lw_tbl RL) (hst : l.stackTraces = false) (hX : va_X bS L xs s s.heap) (hbl : bS < s.heap.size) (hbA : ¬ A bS) (hK : va_K G vwCl (tyG k) s) (hN : gN s) (hE : xE A s) (hA : ∀ q, s.heap.size ≤ q → A q) (hc0 : c0 + 5 ≤ 601024) (hs0 : s0 + 12040 ≤ 7293034) (hi9 : 4 * i9 + 4 ≤ L) (hL : L ≤ 2048)
    (hok : COK σ x) (hmk : MOK σ y) (hP : va_P G vwCl (lawW k a b oL oD σ x σ y fo fd) H) (hD : va_D A (lawW k a b oL oD σ x σ y fo fd)) (hS : va_S A s.heap H locs) (hl : lv_has ls 9 [(0, .ref bS), (1, .ref (b 0)), (2, .ref (a 0)), (3, .ref oL), (4, .ref oD), (5, .int (nI (4 * i9)))])
    (kk : ∀ (σ1 : Sg) (x1 : Cx) (y1 : Mx) (fo1 : Nat → Int64) (fd1 : Nat → UInt64) (H1 : Heap) (locs1 : List Loc) (ls1 : Array Slot), COK σ1 x1 → MOK σ1 y1 → va_P G vwCl (lawW k a b oL oD σ1 x1 σ1 y1 fo1 fd1) H1 → va_D A (lawW k a b oL oD σ1 x1 σ1 y1 fo1 fd1) → va_S A s.heap H1 locs1 → lv_has ls1 9 [(0, .ref bS), (1, .ref (b 0)), (2, .ref (a 0)), (3, .ref oL), (4, .ref oD), (5, .int (nI (4 * i9)))] → W p l e room_1 s m #[.ref bS] below meth c H1 locs1 (c0 + 5) (s0 + 12040) Q (F0 m 1794 ls1 [])) : W p l e room_1 s m #[.ref bS] below meth c H locs c0 s0 Q (F0 m 340 ls []) := by
  obtain ⟨hx, hb, hml, hown, hts⟩ := id S
  have hl : lv_has ls 9 [(0, .ref bS), (1, .ref (b 0)), (2, .ref (a 0)), (3, .ref oL), (4, .ref oD), (5, .int (nI (4 * i9)))] := hl
  refine lv_aload_n hx hb dL_law_340 rfl (lv_at hl 1 rfl) ?_
  refine lv_aload_n hx hb dL_law_341 rfl (lv_at hl 0 rfl) ?_
  refine lv_iload hx hb dL_law_342 (lv_at hl 5 rfl) ?_
  refine n_iconst 1 (by decide) hx hb dL_law_344 ?_
  refine n_iadd hx hb dL_law_345 ?_
  refine s_ld (i := (4 * i9) + 1) hx hb hX hbl hbA hS (by omega) (by omega) dL_law_346 ?_
  refine lv_aload_n hx hb dL_law_347 rfl (lv_at hl 0 rfl) ?_
  refine lv_iload hx hb dL_law_348 (lv_at hl 5 rfl) ?_
  refine n_iconst 2 (by decide) hx hb dL_law_350 ?_
  refine n_iadd hx hb dL_law_351 ?_
  refine s_ld (i := (4 * i9) + 2) hx hb hX hbl hbA hS (by omega) (by omega) dL_law_352 ?_
  refine lv_aload_n hx hb dL_law_353 rfl (lv_at hl 0 rfl) ?_
  refine lv_iload hx hb dL_law_354 (lv_at hl 5 rfl) ?_
  refine n_iconst 3 (by decide) hx hb dL_law_356 ?_
  refine n_iadd hx hb dL_law_357 ?_
  refine s_ld (i := (4 * i9) + 3) hx hb hX hbl hbA hS (by omega) (by omega) dL_law_358 ?_
  refine lv_aload_n hx hb dL_law_359 rfl (lv_at hl 3 rfl) ?_
  refine bH_i (As := [.ref (b 0), .int (xs ((4 * i9) + 1)), .int (xs ((4 * i9) + 2)), .int (xs ((4 * i9) + 3)), .ref oL]) (wn := fun u : (Cx) × (Nat → Int64) => lawW k a b oL oD (s_wor σ (xs ((4 * i9) + 1)) (xs ((4 * i9) + 2)) (xs ((4 * i9) + 3))) u.1 σ y u.2 fd) S hP hK hN hE hD hS hA (m_L_setWorth l hst G k _ b σ x oL fo (xs ((4 * i9) + 1)) (xs ((4 * i9) + 2)) (xs ((4 * i9) + 3)) hok) gw_106 rfl rfl rfl hdl_106 rfl rfl pL (fun _ => pL.symm) rfl hl.1 rfl rfl ⟨(by show _ ≤ (601024 : Nat); omega), (by show _ ≤ (7293034 : Nat); omega)⟩ dL_law_360 (fun rX u H locs hw hP hD hS => ?_)
  obtain ⟨x1, f1⟩ := u
  dsimp only at hw hP hD
  obtain ⟨rfl, ho1, hok1⟩ := hw
  refine lv_istore (lv' := [(6, .int (nI (e_wor σ (xs ((4 * i9) + 1)) (xs ((4 * i9) + 2)) (xs ((4 * i9) + 3))))), (0, .ref bS), (1, .ref (b 0)), (2, .ref (a 0)), (3, .ref oL), (4, .ref oD), (5, .int (nI (4 * i9)))]) hx hb dL_law_363 hl (by decide) rfl (fun ls hl => ?_)
  refine lv_aload_n hx hb dL_law_365 rfl (lv_at hl 3 rfl) ?_
  refine lv_aload_n hx hb dL_law_366 rfl (lv_at hl 1 rfl) ?_
  refine lv_iload hx hb dL_law_367 (lv_at hl 6 rfl) ?_
  refine n_iconst 1 (by decide) hx hb dL_law_369 ?_
  refine n_iadd hx hb dL_law_370 ?_
  refine s_ld (i := (4 * i9) + 1) hx hb hX hbl hbA hS (by omega) (by omega) dL_law_371 ?_
  refine lv_aload_n hx hb dL_law_372 rfl (lv_at hl 1 rfl) ?_
  refine lv_iload hx hb dL_law_373 (lv_at hl 6 rfl) ?_
  refine n_iconst 2 (by decide) hx hb dL_law_375 ?_
  refine n_iadd hx hb dL_law_376 ?_
  refine s_ld (i := (4 * i9) + 2) hx hb hX hbl hbA hS (by omega) (by omega) dL_law_377 ?_
  refine lv_aload_n hx hb dL_law_378 rfl (lv_at hl 1 rfl) ?_
  refine lv_iload hx hb dL_law_379 (lv_at hl 6 rfl) ?_
  refine n_iconst 3 (by decide) hx hb dL_law_381 ?_
  refine n_iadd hx hb dL_law_382 ?_
  refine s_ld (i := (4 * i9) + 3) hx hb hX hbl hbA hS (by omega) (by omega) dL_law_383 ?_
  refine bV_i (As := [.int (xs ((4 * i9) + 1)), .int (xs ((4 * i9) + 2)), .int (xs ((4 * i9) + 3))]) (wn := fun u : Mx => lawW k a b oL oD (s_wor σ (xs ((4 * i9) + 1)) (xs ((4 * i9) + 2)) (xs ((4 * i9) + 3))) x1 (s_wor σ (xs ((4 * i9) + 1)) (xs ((4 * i9) + 2)) (xs ((4 * i9) + 3))) u f1 fd) S hP hK hN hD hS hA (m_X7_setWorth l G k _ a σ y (xs ((4 * i9) + 1)) (xs ((4 * i9) + 2)) (xs ((4 * i9) + 3)) hmk) gw_109 rfl rfl rfl hdl_109 rfl rfl pM (fun _ => pM.symm) 7 0 rfl rfl rfl rfl hl.1 rfl rfl ⟨(by show _ ≤ (601024 : Nat); omega), (by show _ ≤ (7293034 : Nat); omega)⟩ dL_law_384 (fun rX u H locs hw hP hD hS => ?_)
  obtain ⟨y2, rfl⟩ : ∃ z, z = u := ⟨_, rfl⟩
  obtain ⟨v2, hq, hv2, hmk2, ht2⟩ := hw
  subst rX
  refine lv_istore (lv' := [(7, .int v2), (6, .int (nI (e_wor σ (xs ((4 * i9) + 1)) (xs ((4 * i9) + 2)) (xs ((4 * i9) + 3))))), (0, .ref bS), (1, .ref (b 0)), (2, .ref (a 0)), (3, .ref oL), (4, .ref oD), (5, .int (nI (4 * i9)))]) hx hb dL_law_387 hl (by decide) rfl (fun ls hl => ?_)
  refine lv_aload_n hx hb dL_law_389 rfl (lv_at hl 4 rfl) ?_
  refine cV_i (As := []) S (P_l (P_perm pM hP)) hK hN (m_X7_thrown l G k _ _ _ _ _ _ _ _ _ _ _ _ _ _ _ _ _ _ _ _ _ _ _ _) gw_100 rfl rfl rfl hdl_100 rfl rfl [0] rfl 7 0 rfl rfl rfl rfl hl.1 rfl rfl ⟨(by show _ ≤ (601024 : Nat); omega), (by show _ ≤ (7293034 : Nat); omega)⟩ dL_law_390 (fun rX hr => ?_)
  subst hr
  rw [ht2]
  refine lv_iload hx hb dL_law_393 (lv_at hl 1 rfl) ?_
  refine lv_icmp_eq (tgt := 400) hx hb dL_law_395 (by decide) (fun q395 => ?_) (fun q395 => ?_)
  · skip
    refine lv_iload hx hb dL_law_400 (lv_at hl 1 rfl) ?_
    refine lv_if_ne (tgt := 424) hx hb dL_law_402 (by decide) (fun q402 => ?_) (fun q402 => ?_)
    · skip
      refine lv_goto (tgt := 1794) hx hb dL_law_424 (by decide) ?_
      refine W.widen (k := c0 + 5) (n := s0 + 12040) (by omega) (by omega) ?_
      exact kk _ _ _ _ _ _ _ _ hok1 hmk2 hP hD hS (lv_sub hl [2, 3, 4, 5, 6, 7] rfl)
    · skip
      have he := (nI_0' e_wor_lt).mp q402
      refine lv_aload_n hx hb dL_law_405 rfl (lv_at hl 5 rfl) ?_
      refine n_iconst 0 (by decide) hx hb dL_law_406 ?_
      refine l_lald hx hb hK hP 47 rfl (by decide) (by decide) dL_law_407 ?_
      refine lv_iload hx hb dL_law_408 (lv_at hl 0 rfl) ?_
      refine lv_if_eq (tgt := 417) hx hb dL_law_410 (by decide) (fun q410 => ?_) (fun q410 => ?_)
      · skip
        refine lv_lconst (v := 0) hx hb dL_law_417 (by decide) ?_
        refine W.lcmp hx hb dL_law_418 ?_
        refine lv_if_eq (tgt := 424) hx hb dL_law_419 (by decide) (fun q419 => ?_) (fun q419 => ?_)
        · skip
          refine lv_goto (tgt := 1794) hx hb dL_law_424 (by decide) ?_
          refine W.widen (k := c0 + 5) (n := s0 + 12040) (by omega) (by omega) ?_
          exact kk _ _ _ _ _ _ _ _ hok1 hmk2 hP hD hS (lv_sub hl [2, 3, 4, 5, 6, 7] rfl)
        · skip
          exact absurd (by rw [ho1 he, ← bI_off (hv2 he) q410]; exact lg_same _) q419
      · skip
        refine lv_lconst (v := 1) hx hb dL_law_413 (by decide) ?_
        refine lv_goto (tgt := 418) hx hb dL_law_414 (by decide) ?_
        refine W.lcmp hx hb dL_law_418 ?_
        refine lv_if_eq (tgt := 424) hx hb dL_law_419 (by decide) (fun q419 => ?_) (fun q419 => ?_)
        · skip
          refine lv_goto (tgt := 1794) hx hb dL_law_424 (by decide) ?_
          refine W.widen (k := c0 + 5) (n := s0 + 12040) (by omega) (by omega) ?_
          exact kk _ _ _ _ _ _ _ _ hok1 hmk2 hP hD hS (lv_sub hl [2, 3, 4, 5, 6, 7] rfl)
        · skip
          exact absurd (by rw [ho1 he, ← bI_on (hv2 he) q410]; exact lg_same _) q419
  · skip
    exact absurd rfl q395
set_option maxHeartbeats 4000000 in
set_option maxRecDepth 100000 in
theorem law_c3 (S : CallFix p m c code 9 s #[.ref bS] lw_tbl RL) (hst : l.stackTraces = false) (hX : va_X bS L xs s s.heap) (hbl : bS < s.heap.size) (hbA : ¬ A bS) (hK : va_K G vwCl (tyG k) s) (hN : gN s) (hE : xE A s) (hA : ∀ q, s.heap.size ≤ q → A q) (hc0 : c0 + 5 ≤ 601024) (hs0 : s0 + 12040 ≤ 7293034) (hi9 : 4 * i9 + 4 ≤ L) (hL : L ≤ 2048)
    (hok : COK σ x) (hmk : MOK σ y) (hP : va_P G vwCl (lawW k a b oL oD σ x σ y fo fd) H) (hD : va_D A (lawW k a b oL oD σ x σ y fo fd)) (hS : va_S A s.heap H locs) (hl : lv_has ls 9 [(0, .ref bS), (1, .ref (b 0)), (2, .ref (a 0)), (3, .ref oL), (4, .ref oD), (5, .int (nI (4 * i9)))])
    (kk : ∀ (σ1 : Sg) (x1 : Cx) (y1 : Mx) (fo1 : Nat → Int64) (fd1 : Nat → UInt64) (H1 : Heap) (locs1 : List Loc) (ls1 : Array Slot), COK σ1 x1 → MOK σ1 y1 → va_P G vwCl (lawW k a b oL oD σ1 x1 σ1 y1 fo1 fd1) H1 → va_D A (lawW k a b oL oD σ1 x1 σ1 y1 fo1 fd1) → va_S A s.heap H1 locs1 → lv_has ls1 9 [(0, .ref bS), (1, .ref (b 0)), (2, .ref (a 0)), (3, .ref oL), (4, .ref oD), (5, .int (nI (4 * i9)))] → W p l e room_1 s m #[.ref bS] below meth c H1 locs1 (c0 + 5) (s0 + 12040) Q (F0 m 1794 ls1 [])) : W p l e room_1 s m #[.ref bS] below meth c H locs c0 s0 Q (F0 m 427 ls []) := by
  obtain ⟨hx, hb, hml, hown, hts⟩ := id S
  have hl : lv_has ls 9 [(0, .ref bS), (1, .ref (b 0)), (2, .ref (a 0)), (3, .ref oL), (4, .ref oD), (5, .int (nI (4 * i9)))] := hl
  refine lv_aload_n hx hb dL_law_427 rfl (lv_at hl 1 rfl) ?_
  refine lv_aload_n hx hb dL_law_428 rfl (lv_at hl 0 rfl) ?_
  refine lv_iload hx hb dL_law_429 (lv_at hl 5 rfl) ?_
  refine n_iconst 1 (by decide) hx hb dL_law_431 ?_
  refine n_iadd hx hb dL_law_432 ?_
  refine s_ld (i := (4 * i9) + 1) hx hb hX hbl hbA hS (by omega) (by omega) dL_law_433 ?_
  refine lv_aload_n hx hb dL_law_434 rfl (lv_at hl 0 rfl) ?_
  refine lv_iload hx hb dL_law_435 (lv_at hl 5 rfl) ?_
  refine n_iconst 2 (by decide) hx hb dL_law_437 ?_
  refine n_iadd hx hb dL_law_438 ?_
  refine s_ld (i := (4 * i9) + 2) hx hb hX hbl hbA hS (by omega) (by omega) dL_law_439 ?_
  refine lv_aload_n hx hb dL_law_440 rfl (lv_at hl 0 rfl) ?_
  refine lv_iload hx hb dL_law_441 (lv_at hl 5 rfl) ?_
  refine n_iconst 3 (by decide) hx hb dL_law_443 ?_
  refine n_iadd hx hb dL_law_444 ?_
  refine s_ld (i := (4 * i9) + 3) hx hb hX hbl hbA hS (by omega) (by omega) dL_law_445 ?_
  refine lv_aload_n hx hb dL_law_446 rfl (lv_at hl 3 rfl) ?_
  refine bH_i (As := [.ref (b 0), .int (xs ((4 * i9) + 1)), .int (xs ((4 * i9) + 2)), .int (xs ((4 * i9) + 3)), .ref oL]) (wn := fun u : (Cx) × (Nat → Int64) => lawW k a b oL oD (s_con σ (xs ((4 * i9) + 1)) (xs ((4 * i9) + 2)) (xs ((4 * i9) + 3))) u.1 σ y u.2 fd) S hP hK hN hE hD hS hA (m_L_addConstraint l hst G k _ b σ x oL fo (xs ((4 * i9) + 1)) (xs ((4 * i9) + 2)) (xs ((4 * i9) + 3)) hok) gw_110 rfl rfl rfl hdl_110 rfl rfl pL (fun _ => pL.symm) rfl hl.1 rfl rfl ⟨(by show _ ≤ (601024 : Nat); omega), (by show _ ≤ (7293034 : Nat); omega)⟩ dL_law_447 (fun rX u H locs hw hP hD hS => ?_)
  obtain ⟨x1, f1⟩ := u
  dsimp only at hw hP hD
  obtain ⟨rfl, ho1, hok1⟩ := hw
  refine lv_istore (lv' := [(6, .int (nI (e_con σ (xs ((4 * i9) + 1)) (xs ((4 * i9) + 2)) (xs ((4 * i9) + 3))))), (0, .ref bS), (1, .ref (b 0)), (2, .ref (a 0)), (3, .ref oL), (4, .ref oD), (5, .int (nI (4 * i9)))]) hx hb dL_law_450 hl (by decide) rfl (fun ls hl => ?_)
  refine lv_aload_n hx hb dL_law_452 rfl (lv_at hl 3 rfl) ?_
  refine lv_aload_n hx hb dL_law_453 rfl (lv_at hl 1 rfl) ?_
  refine lv_iload hx hb dL_law_454 (lv_at hl 6 rfl) ?_
  refine n_iconst 1 (by decide) hx hb dL_law_456 ?_
  refine n_iadd hx hb dL_law_457 ?_
  refine s_ld (i := (4 * i9) + 1) hx hb hX hbl hbA hS (by omega) (by omega) dL_law_458 ?_
  refine lv_aload_n hx hb dL_law_459 rfl (lv_at hl 1 rfl) ?_
  refine lv_iload hx hb dL_law_460 (lv_at hl 6 rfl) ?_
  refine n_iconst 2 (by decide) hx hb dL_law_462 ?_
  refine n_iadd hx hb dL_law_463 ?_
  refine s_ld (i := (4 * i9) + 2) hx hb hX hbl hbA hS (by omega) (by omega) dL_law_464 ?_
  refine lv_aload_n hx hb dL_law_465 rfl (lv_at hl 1 rfl) ?_
  refine lv_iload hx hb dL_law_466 (lv_at hl 6 rfl) ?_
  refine n_iconst 3 (by decide) hx hb dL_law_468 ?_
  refine n_iadd hx hb dL_law_469 ?_
  refine s_ld (i := (4 * i9) + 3) hx hb hX hbl hbA hS (by omega) (by omega) dL_law_470 ?_
  refine bV_i (As := [.int (xs ((4 * i9) + 1)), .int (xs ((4 * i9) + 2)), .int (xs ((4 * i9) + 3))]) (wn := fun u : Mx => lawW k a b oL oD (s_con σ (xs ((4 * i9) + 1)) (xs ((4 * i9) + 2)) (xs ((4 * i9) + 3))) x1 (s_con σ (xs ((4 * i9) + 1)) (xs ((4 * i9) + 2)) (xs ((4 * i9) + 3))) u f1 fd) S hP hK hN hD hS hA (m_X7_addConstraint l G k _ a σ y (xs ((4 * i9) + 1)) (xs ((4 * i9) + 2)) (xs ((4 * i9) + 3)) hmk) gw_112 rfl rfl rfl hdl_112 rfl rfl pM (fun _ => pM.symm) 7 0 rfl rfl rfl rfl hl.1 rfl rfl ⟨(by show _ ≤ (601024 : Nat); omega), (by show _ ≤ (7293034 : Nat); omega)⟩ dL_law_471 (fun rX u H locs hw hP hD hS => ?_)
  obtain ⟨y2, rfl⟩ : ∃ z, z = u := ⟨_, rfl⟩
  obtain ⟨v2, hq, hv2, hmk2, ht2⟩ := hw
  subst rX
  refine lv_istore (lv' := [(7, .int v2), (6, .int (nI (e_con σ (xs ((4 * i9) + 1)) (xs ((4 * i9) + 2)) (xs ((4 * i9) + 3))))), (0, .ref bS), (1, .ref (b 0)), (2, .ref (a 0)), (3, .ref oL), (4, .ref oD), (5, .int (nI (4 * i9)))]) hx hb dL_law_474 hl (by decide) rfl (fun ls hl => ?_)
  refine lv_aload_n hx hb dL_law_476 rfl (lv_at hl 4 rfl) ?_
  refine cV_i (As := []) S (P_l (P_perm pM hP)) hK hN (m_X7_thrown l G k _ _ _ _ _ _ _ _ _ _ _ _ _ _ _ _ _ _ _ _ _ _ _ _) gw_100 rfl rfl rfl hdl_100 rfl rfl [0] rfl 7 0 rfl rfl rfl rfl hl.1 rfl rfl ⟨(by show _ ≤ (601024 : Nat); omega), (by show _ ≤ (7293034 : Nat); omega)⟩ dL_law_477 (fun rX hr => ?_)
  subst hr
  rw [ht2]
  refine lv_iload hx hb dL_law_480 (lv_at hl 1 rfl) ?_
  refine lv_icmp_eq (tgt := 487) hx hb dL_law_482 (by decide) (fun q482 => ?_) (fun q482 => ?_)
  · skip
    refine lv_iload hx hb dL_law_487 (lv_at hl 1 rfl) ?_
    refine lv_if_ne (tgt := 504) hx hb dL_law_489 (by decide) (fun q489 => ?_) (fun q489 => ?_)
    · skip
      refine lv_goto (tgt := 1794) hx hb dL_law_504 (by decide) ?_
      refine W.widen (k := c0 + 5) (n := s0 + 12040) (by omega) (by omega) ?_
      exact kk _ _ _ _ _ _ _ _ hok1 hmk2 hP hD hS (lv_sub hl [2, 3, 4, 5, 6, 7] rfl)
    · skip
      have he := (nI_0' e_con_lt).mp q489
      refine lv_aload_n hx hb dL_law_492 rfl (lv_at hl 5 rfl) ?_
      refine n_iconst 0 (by decide) hx hb dL_law_493 ?_
      refine l_lald hx hb hK hP 47 rfl (by decide) (by decide) dL_law_494 ?_
      refine lv_iload hx hb dL_law_495 (lv_at hl 0 rfl) ?_
      refine lv_i2l (v := (v2).toInt64) hx hb dL_law_497 rfl ?_
      refine W.lcmp hx hb dL_law_498 ?_
      refine lv_if_eq (tgt := 504) hx hb dL_law_499 (by decide) (fun q499 => ?_) (fun q499 => ?_)
      · skip
        refine lv_goto (tgt := 1794) hx hb dL_law_504 (by decide) ?_
        refine W.widen (k := c0 + 5) (n := s0 + 12040) (by omega) (by omega) ?_
        exact kk _ _ _ _ _ _ _ _ hok1 hmk2 hP hD hS (lv_sub hl [2, 3, 4, 5, 6, 7] rfl)
      · skip
        exact absurd (by rw [ho1 he, hv2 he]; exact lg_same _) q499
  · skip
    exact absurd rfl q482
set_option maxHeartbeats 4000000 in
set_option maxRecDepth 100000 in
theorem law_c4 (S : CallFix p m c code 9 s #[.ref bS] lw_tbl RL) (hst : l.stackTraces = false) (hX : va_X bS L xs s s.heap) (hbl : bS < s.heap.size) (hbA : ¬ A bS) (hK : va_K G vwCl (tyG k) s) (hN : gN s) (hE : xE A s) (hA : ∀ q, s.heap.size ≤ q → A q) (hc0 : c0 + 5 ≤ 601024) (hs0 : s0 + 12040 ≤ 7293034) (hi9 : 4 * i9 + 4 ≤ L) (hL : L ≤ 2048)
    (hok : COK σ x) (hmk : MOK σ y) (hP : va_P G vwCl (lawW k a b oL oD σ x σ y fo fd) H) (hD : va_D A (lawW k a b oL oD σ x σ y fo fd)) (hS : va_S A s.heap H locs) (hl : lv_has ls 9 [(0, .ref bS), (1, .ref (b 0)), (2, .ref (a 0)), (3, .ref oL), (4, .ref oD), (5, .int (nI (4 * i9)))])
    (kk : ∀ (σ1 : Sg) (x1 : Cx) (y1 : Mx) (fo1 : Nat → Int64) (fd1 : Nat → UInt64) (H1 : Heap) (locs1 : List Loc) (ls1 : Array Slot), COK σ1 x1 → MOK σ1 y1 → va_P G vwCl (lawW k a b oL oD σ1 x1 σ1 y1 fo1 fd1) H1 → va_D A (lawW k a b oL oD σ1 x1 σ1 y1 fo1 fd1) → va_S A s.heap H1 locs1 → lv_has ls1 9 [(0, .ref bS), (1, .ref (b 0)), (2, .ref (a 0)), (3, .ref oL), (4, .ref oD), (5, .int (nI (4 * i9)))] → W p l e room_1 s m #[.ref bS] below meth c H1 locs1 (c0 + 5) (s0 + 12040) Q (F0 m 1794 ls1 [])) : W p l e room_1 s m #[.ref bS] below meth c H locs c0 s0 Q (F0 m 507 ls []) := by
  obtain ⟨hx, hb, hml, hown, hts⟩ := id S
  have hl : lv_has ls 9 [(0, .ref bS), (1, .ref (b 0)), (2, .ref (a 0)), (3, .ref oL), (4, .ref oD), (5, .int (nI (4 * i9)))] := hl
  refine lv_aload_n hx hb dL_law_507 rfl (lv_at hl 1 rfl) ?_
  refine lv_aload_n hx hb dL_law_508 rfl (lv_at hl 0 rfl) ?_
  refine lv_iload hx hb dL_law_509 (lv_at hl 5 rfl) ?_
  refine n_iconst 1 (by decide) hx hb dL_law_511 ?_
  refine n_iadd hx hb dL_law_512 ?_
  refine s_ld (i := (4 * i9) + 1) hx hb hX hbl hbA hS (by omega) (by omega) dL_law_513 ?_
  refine lv_aload_n hx hb dL_law_514 rfl (lv_at hl 0 rfl) ?_
  refine lv_iload hx hb dL_law_515 (lv_at hl 5 rfl) ?_
  refine n_iconst 2 (by decide) hx hb dL_law_517 ?_
  refine n_iadd hx hb dL_law_518 ?_
  refine s_ld (i := (4 * i9) + 2) hx hb hX hbl hbA hS (by omega) (by omega) dL_law_519 ?_
  refine lv_if_eq (tgt := 527) hx hb dL_law_520 (by decide) (fun q520 => ?_) (fun q520 => ?_)
  · skip
    refine n_iconst 0 (by decide) hx hb dL_law_527 ?_
    refine lv_aload_n hx hb dL_law_528 rfl (lv_at hl 3 rfl) ?_
    refine bH_i (As := [.ref (b 0), .int (xs ((4 * i9) + 1)), .int (bI false), .ref oL]) (wn := fun u : (Cx) × (Nat → Int64) => lawW k a b oL oD (s_trn σ (xs ((4 * i9) + 1)) false) u.1 σ y u.2 fd) S hP hK hN hE hD hS hA (m_L_turn l hst G k _ b σ x oL fo (xs ((4 * i9) + 1)) false hok) gw_113 rfl rfl rfl hdl_113 rfl rfl pL (fun _ => pL.symm) rfl hl.1 rfl rfl ⟨(by show _ ≤ (601024 : Nat); omega), (by show _ ≤ (7293034 : Nat); omega)⟩ dL_law_529 (fun rX u H locs hw hP hD hS => ?_)
    obtain ⟨x1, f1⟩ := u
    dsimp only at hw hP hD
    obtain ⟨rfl, ho1, hok1⟩ := hw
    refine lv_istore (lv' := [(6, .int (nI (e_trn σ (xs ((4 * i9) + 1))))), (0, .ref bS), (1, .ref (b 0)), (2, .ref (a 0)), (3, .ref oL), (4, .ref oD), (5, .int (nI (4 * i9)))]) hx hb dL_law_532 hl (by decide) rfl (fun ls hl => ?_)
    refine lv_aload_n hx hb dL_law_534 rfl (lv_at hl 3 rfl) ?_
    refine lv_aload_n hx hb dL_law_535 rfl (lv_at hl 1 rfl) ?_
    refine lv_iload hx hb dL_law_536 (lv_at hl 6 rfl) ?_
    refine n_iconst 1 (by decide) hx hb dL_law_538 ?_
    refine n_iadd hx hb dL_law_539 ?_
    refine s_ld (i := (4 * i9) + 1) hx hb hX hbl hbA hS (by omega) (by omega) dL_law_540 ?_
    refine lv_aload_n hx hb dL_law_541 rfl (lv_at hl 1 rfl) ?_
    refine lv_iload hx hb dL_law_542 (lv_at hl 6 rfl) ?_
    refine n_iconst 2 (by decide) hx hb dL_law_544 ?_
    refine n_iadd hx hb dL_law_545 ?_
    refine s_ld (i := (4 * i9) + 2) hx hb hX hbl hbA hS (by omega) (by omega) dL_law_546 ?_
    refine lv_if_eq (tgt := 554) hx hb dL_law_547 (by decide) (fun q547 => ?_) (fun q547 => ?_)
    · skip
      refine n_iconst 0 (by decide) hx hb dL_law_554 ?_
      refine bV_i (As := [.int (xs ((4 * i9) + 1)), .int (bI false)]) (wn := fun u : Mx => lawW k a b oL oD (s_trn σ (xs ((4 * i9) + 1)) false) x1 (s_trn σ (xs ((4 * i9) + 1)) false) u f1 fd) S hP hK hN hD hS hA (m_X7_turn l G k _ a σ y (xs ((4 * i9) + 1)) false hmk) gw_116 rfl rfl rfl hdl_116 rfl rfl pM (fun _ => pM.symm) 7 0 rfl rfl rfl rfl hl.1 rfl rfl ⟨(by show _ ≤ (601024 : Nat); omega), (by show _ ≤ (7293034 : Nat); omega)⟩ dL_law_555 (fun rX u H locs hw hP hD hS => ?_)
      obtain ⟨y2, rfl⟩ : ∃ z, z = u := ⟨_, rfl⟩
      obtain ⟨v2, hq, hv2, hmk2, ht2⟩ := hw
      subst rX
      refine lv_istore (lv' := [(7, .int v2), (6, .int (nI (e_trn σ (xs ((4 * i9) + 1))))), (0, .ref bS), (1, .ref (b 0)), (2, .ref (a 0)), (3, .ref oL), (4, .ref oD), (5, .int (nI (4 * i9)))]) hx hb dL_law_558 hl (by decide) rfl (fun ls hl => ?_)
      refine lv_aload_n hx hb dL_law_560 rfl (lv_at hl 4 rfl) ?_
      refine cV_i (As := []) S (P_l (P_perm pM hP)) hK hN (m_X7_thrown l G k _ _ _ _ _ _ _ _ _ _ _ _ _ _ _ _ _ _ _ _ _ _ _ _) gw_100 rfl rfl rfl hdl_100 rfl rfl [0] rfl 7 0 rfl rfl rfl rfl hl.1 rfl rfl ⟨(by show _ ≤ (601024 : Nat); omega), (by show _ ≤ (7293034 : Nat); omega)⟩ dL_law_561 (fun rX hr => ?_)
      subst hr
      rw [ht2]
      refine lv_iload hx hb dL_law_564 (lv_at hl 1 rfl) ?_
      refine lv_icmp_eq (tgt := 571) hx hb dL_law_566 (by decide) (fun q566 => ?_) (fun q566 => ?_)
      · skip
        refine lv_iload hx hb dL_law_571 (lv_at hl 1 rfl) ?_
        refine lv_if_ne (tgt := 595) hx hb dL_law_573 (by decide) (fun q573 => ?_) (fun q573 => ?_)
        · skip
          refine lv_goto (tgt := 1794) hx hb dL_law_595 (by decide) ?_
          refine W.widen (k := c0 + 5) (n := s0 + 12040) (by omega) (by omega) ?_
          exact kk _ _ _ _ _ _ _ _ hok1 hmk2 hP hD hS (lv_sub hl [2, 3, 4, 5, 6, 7] rfl)
        · skip
          have he := (nI_0' e_trn_lt).mp q573
          refine lv_aload_n hx hb dL_law_576 rfl (lv_at hl 5 rfl) ?_
          refine n_iconst 0 (by decide) hx hb dL_law_577 ?_
          refine l_lald hx hb hK hP 47 rfl (by decide) (by decide) dL_law_578 ?_
          refine lv_iload hx hb dL_law_579 (lv_at hl 0 rfl) ?_
          refine lv_if_eq (tgt := 588) hx hb dL_law_581 (by decide) (fun q581 => ?_) (fun q581 => ?_)
          · skip
            refine lv_lconst (v := 0) hx hb dL_law_588 (by decide) ?_
            refine W.lcmp hx hb dL_law_589 ?_
            refine lv_if_eq (tgt := 595) hx hb dL_law_590 (by decide) (fun q590 => ?_) (fun q590 => ?_)
            · skip
              refine lv_goto (tgt := 1794) hx hb dL_law_595 (by decide) ?_
              refine W.widen (k := c0 + 5) (n := s0 + 12040) (by omega) (by omega) ?_
              exact kk _ _ _ _ _ _ _ _ hok1 hmk2 hP hD hS (lv_sub hl [2, 3, 4, 5, 6, 7] rfl)
            · skip
              exact absurd (by rw [ho1 he, ← bI_off (hv2 he) q581]; exact lg_same _) q590
          · skip
            refine lv_lconst (v := 1) hx hb dL_law_584 (by decide) ?_
            refine lv_goto (tgt := 589) hx hb dL_law_585 (by decide) ?_
            refine W.lcmp hx hb dL_law_589 ?_
            refine lv_if_eq (tgt := 595) hx hb dL_law_590 (by decide) (fun q590 => ?_) (fun q590 => ?_)
            · skip
              refine lv_goto (tgt := 1794) hx hb dL_law_595 (by decide) ?_
              refine W.widen (k := c0 + 5) (n := s0 + 12040) (by omega) (by omega) ?_
              exact kk _ _ _ _ _ _ _ _ hok1 hmk2 hP hD hS (lv_sub hl [2, 3, 4, 5, 6, 7] rfl)
            · skip
              exact absurd (by rw [ho1 he, ← bI_on (hv2 he) q581]; exact lg_same _) q590
      · skip
        exact absurd rfl q566
    · skip
      exact absurd q520 q547
  · skip
    refine n_iconst 1 (by decide) hx hb dL_law_523 ?_
    refine lv_goto (tgt := 528) hx hb dL_law_524 (by decide) ?_
    refine lv_aload_n hx hb dL_law_528 rfl (lv_at hl 3 rfl) ?_
    refine bH_i (As := [.ref (b 0), .int (xs ((4 * i9) + 1)), .int (bI true), .ref oL]) (wn := fun u : (Cx) × (Nat → Int64) => lawW k a b oL oD (s_trn σ (xs ((4 * i9) + 1)) true) u.1 σ y u.2 fd) S hP hK hN hE hD hS hA (m_L_turn l hst G k _ b σ x oL fo (xs ((4 * i9) + 1)) true hok) gw_113 rfl rfl rfl hdl_113 rfl rfl pL (fun _ => pL.symm) rfl hl.1 rfl rfl ⟨(by show _ ≤ (601024 : Nat); omega), (by show _ ≤ (7293034 : Nat); omega)⟩ dL_law_529 (fun rX u H locs hw hP hD hS => ?_)
    obtain ⟨x3, f3⟩ := u
    dsimp only at hw hP hD
    obtain ⟨rfl, ho3, hok3⟩ := hw
    refine lv_istore (lv' := [(6, .int (nI (e_trn σ (xs ((4 * i9) + 1))))), (0, .ref bS), (1, .ref (b 0)), (2, .ref (a 0)), (3, .ref oL), (4, .ref oD), (5, .int (nI (4 * i9)))]) hx hb dL_law_532 hl (by decide) rfl (fun ls hl => ?_)
    refine lv_aload_n hx hb dL_law_534 rfl (lv_at hl 3 rfl) ?_
    refine lv_aload_n hx hb dL_law_535 rfl (lv_at hl 1 rfl) ?_
    refine lv_iload hx hb dL_law_536 (lv_at hl 6 rfl) ?_
    refine n_iconst 1 (by decide) hx hb dL_law_538 ?_
    refine n_iadd hx hb dL_law_539 ?_
    refine s_ld (i := (4 * i9) + 1) hx hb hX hbl hbA hS (by omega) (by omega) dL_law_540 ?_
    refine lv_aload_n hx hb dL_law_541 rfl (lv_at hl 1 rfl) ?_
    refine lv_iload hx hb dL_law_542 (lv_at hl 6 rfl) ?_
    refine n_iconst 2 (by decide) hx hb dL_law_544 ?_
    refine n_iadd hx hb dL_law_545 ?_
    refine s_ld (i := (4 * i9) + 2) hx hb hX hbl hbA hS (by omega) (by omega) dL_law_546 ?_
    refine lv_if_eq (tgt := 554) hx hb dL_law_547 (by decide) (fun q547 => ?_) (fun q547 => ?_)
    · skip
      exact absurd q547 q520
    · skip
      refine n_iconst 1 (by decide) hx hb dL_law_550 ?_
      refine lv_goto (tgt := 555) hx hb dL_law_551 (by decide) ?_
      refine bV_i (As := [.int (xs ((4 * i9) + 1)), .int (bI true)]) (wn := fun u : Mx => lawW k a b oL oD (s_trn σ (xs ((4 * i9) + 1)) true) x3 (s_trn σ (xs ((4 * i9) + 1)) true) u f3 fd) S hP hK hN hD hS hA (m_X7_turn l G k _ a σ y (xs ((4 * i9) + 1)) true hmk) gw_116 rfl rfl rfl hdl_116 rfl rfl pM (fun _ => pM.symm) 7 0 rfl rfl rfl rfl hl.1 rfl rfl ⟨(by show _ ≤ (601024 : Nat); omega), (by show _ ≤ (7293034 : Nat); omega)⟩ dL_law_555 (fun rX u H locs hw hP hD hS => ?_)
      obtain ⟨y4, rfl⟩ : ∃ z, z = u := ⟨_, rfl⟩
      obtain ⟨v4, hq, hv4, hmk4, ht4⟩ := hw
      subst rX
      refine lv_istore (lv' := [(7, .int v4), (6, .int (nI (e_trn σ (xs ((4 * i9) + 1))))), (0, .ref bS), (1, .ref (b 0)), (2, .ref (a 0)), (3, .ref oL), (4, .ref oD), (5, .int (nI (4 * i9)))]) hx hb dL_law_558 hl (by decide) rfl (fun ls hl => ?_)
      refine lv_aload_n hx hb dL_law_560 rfl (lv_at hl 4 rfl) ?_
      refine cV_i (As := []) S (P_l (P_perm pM hP)) hK hN (m_X7_thrown l G k _ _ _ _ _ _ _ _ _ _ _ _ _ _ _ _ _ _ _ _ _ _ _ _) gw_100 rfl rfl rfl hdl_100 rfl rfl [0] rfl 7 0 rfl rfl rfl rfl hl.1 rfl rfl ⟨(by show _ ≤ (601024 : Nat); omega), (by show _ ≤ (7293034 : Nat); omega)⟩ dL_law_561 (fun rX hr => ?_)
      subst hr
      rw [ht4]
      refine lv_iload hx hb dL_law_564 (lv_at hl 1 rfl) ?_
      refine lv_icmp_eq (tgt := 571) hx hb dL_law_566 (by decide) (fun q566 => ?_) (fun q566 => ?_)
      · skip
        refine lv_iload hx hb dL_law_571 (lv_at hl 1 rfl) ?_
        refine lv_if_ne (tgt := 595) hx hb dL_law_573 (by decide) (fun q573 => ?_) (fun q573 => ?_)
        · skip
          refine lv_goto (tgt := 1794) hx hb dL_law_595 (by decide) ?_
          refine W.widen (k := c0 + 5) (n := s0 + 12040) (by omega) (by omega) ?_
          exact kk _ _ _ _ _ _ _ _ hok3 hmk4 hP hD hS (lv_sub hl [2, 3, 4, 5, 6, 7] rfl)
        · skip
          have he := (nI_0' e_trn_lt).mp q573
          refine lv_aload_n hx hb dL_law_576 rfl (lv_at hl 5 rfl) ?_
          refine n_iconst 0 (by decide) hx hb dL_law_577 ?_
          refine l_lald hx hb hK hP 47 rfl (by decide) (by decide) dL_law_578 ?_
          refine lv_iload hx hb dL_law_579 (lv_at hl 0 rfl) ?_
          refine lv_if_eq (tgt := 588) hx hb dL_law_581 (by decide) (fun q581 => ?_) (fun q581 => ?_)
          · skip
            refine lv_lconst (v := 0) hx hb dL_law_588 (by decide) ?_
            refine W.lcmp hx hb dL_law_589 ?_
            refine lv_if_eq (tgt := 595) hx hb dL_law_590 (by decide) (fun q590 => ?_) (fun q590 => ?_)
            · skip
              refine lv_goto (tgt := 1794) hx hb dL_law_595 (by decide) ?_
              refine W.widen (k := c0 + 5) (n := s0 + 12040) (by omega) (by omega) ?_
              exact kk _ _ _ _ _ _ _ _ hok3 hmk4 hP hD hS (lv_sub hl [2, 3, 4, 5, 6, 7] rfl)
            · skip
              exact absurd (by rw [ho3 he, ← bI_off (hv4 he) q581]; exact lg_same _) q590
          · skip
            refine lv_lconst (v := 1) hx hb dL_law_584 (by decide) ?_
            refine lv_goto (tgt := 589) hx hb dL_law_585 (by decide) ?_
            refine W.lcmp hx hb dL_law_589 ?_
            refine lv_if_eq (tgt := 595) hx hb dL_law_590 (by decide) (fun q590 => ?_) (fun q590 => ?_)
            · skip
              refine lv_goto (tgt := 1794) hx hb dL_law_595 (by decide) ?_
              refine W.widen (k := c0 + 5) (n := s0 + 12040) (by omega) (by omega) ?_
              exact kk _ _ _ _ _ _ _ _ hok3 hmk4 hP hD hS (lv_sub hl [2, 3, 4, 5, 6, 7] rfl)
            · skip
              exact absurd (by rw [ho3 he, ← bI_on (hv4 he) q581]; exact lg_same _) q590
      · skip
        exact absurd rfl q566
set_option maxHeartbeats 4000000 in
set_option maxRecDepth 100000 in
theorem law_c5 (S : CallFix p m c code 9 s #[.ref bS] lw_tbl RL) (hst : l.stackTraces = false) (hX : va_X bS L xs s s.heap) (hbl : bS < s.heap.size) (hbA : ¬ A bS) (hK : va_K G vwCl (tyG k) s) (hN : gN s) (hE : xE A s) (hA : ∀ q, s.heap.size ≤ q → A q) (hc0 : c0 + 5 ≤ 601024) (hs0 : s0 + 12040 ≤ 7293034) (hi9 : 4 * i9 + 4 ≤ L) (hL : L ≤ 2048)
    (hok : COK σ x) (hmk : MOK σ y) (hP : va_P G vwCl (lawW k a b oL oD σ x σ y fo fd) H) (hD : va_D A (lawW k a b oL oD σ x σ y fo fd)) (hS : va_S A s.heap H locs) (hl : lv_has ls 9 [(0, .ref bS), (1, .ref (b 0)), (2, .ref (a 0)), (3, .ref oL), (4, .ref oD), (5, .int (nI (4 * i9)))])
    (kk : ∀ (σ1 : Sg) (x1 : Cx) (y1 : Mx) (fo1 : Nat → Int64) (fd1 : Nat → UInt64) (H1 : Heap) (locs1 : List Loc) (ls1 : Array Slot), COK σ1 x1 → MOK σ1 y1 → va_P G vwCl (lawW k a b oL oD σ1 x1 σ1 y1 fo1 fd1) H1 → va_D A (lawW k a b oL oD σ1 x1 σ1 y1 fo1 fd1) → va_S A s.heap H1 locs1 → lv_has ls1 9 [(0, .ref bS), (1, .ref (b 0)), (2, .ref (a 0)), (3, .ref oL), (4, .ref oD), (5, .int (nI (4 * i9)))] → W p l e room_1 s m #[.ref bS] below meth c H1 locs1 (c0 + 5) (s0 + 12040) Q (F0 m 1794 ls1 [])) : W p l e room_1 s m #[.ref bS] below meth c H locs c0 s0 Q (F0 m 598 ls []) := by
  obtain ⟨hx, hb, hml, hown, hts⟩ := id S
  have hl : lv_has ls 9 [(0, .ref bS), (1, .ref (b 0)), (2, .ref (a 0)), (3, .ref oL), (4, .ref oD), (5, .int (nI (4 * i9)))] := hl
  refine lv_aload_n hx hb dL_law_598 rfl (lv_at hl 1 rfl) ?_
  refine lv_aload_n hx hb dL_law_599 rfl (lv_at hl 3 rfl) ?_
  refine bH_i (As := [.ref (b 0), .ref oL]) (wn := fun u : (Cx) × (Nat → Int64) => lawW k a b oL oD (s_drp σ) u.1 σ y u.2 fd) S hP hK hN hE hD hS hA (m_L_dropConstraint l hst G k _ b σ x oL fo  hok) gw_117 rfl rfl rfl hdl_117 rfl rfl pL (fun _ => pL.symm) rfl hl.1 rfl rfl ⟨(by show _ ≤ (601024 : Nat); omega), (by show _ ≤ (7293034 : Nat); omega)⟩ dL_law_600 (fun rX u H locs hw hP hD hS => ?_)
  obtain ⟨x1, f1⟩ := u
  dsimp only at hw hP hD
  obtain ⟨rfl, ho1, hok1⟩ := hw
  refine lv_istore (lv' := [(6, .int (nI (e_drp σ))), (0, .ref bS), (1, .ref (b 0)), (2, .ref (a 0)), (3, .ref oL), (4, .ref oD), (5, .int (nI (4 * i9)))]) hx hb dL_law_603 hl (by decide) rfl (fun ls hl => ?_)
  refine lv_aload_n hx hb dL_law_605 rfl (lv_at hl 3 rfl) ?_
  refine bV_i (As := []) (wn := fun u : Mx => lawW k a b oL oD (s_drp σ) x1 (s_drp σ) u f1 fd) S hP hK hN hD hS hA (m_X7_dropConstraint l G k _ a σ y  hmk) gw_120 rfl rfl rfl hdl_120 rfl rfl pM (fun _ => pM.symm) 7 0 rfl rfl rfl rfl hl.1 rfl rfl ⟨(by show _ ≤ (601024 : Nat); omega), (by show _ ≤ (7293034 : Nat); omega)⟩ dL_law_606 (fun rX u H locs hw hP hD hS => ?_)
  obtain ⟨y2, rfl⟩ : ∃ z, z = u := ⟨_, rfl⟩
  obtain ⟨v2, hq, hv2, hmk2, ht2⟩ := hw
  subst rX
  refine lv_istore (lv' := [(7, .int v2), (6, .int (nI (e_drp σ))), (0, .ref bS), (1, .ref (b 0)), (2, .ref (a 0)), (3, .ref oL), (4, .ref oD), (5, .int (nI (4 * i9)))]) hx hb dL_law_609 hl (by decide) rfl (fun ls hl => ?_)
  refine lv_aload_n hx hb dL_law_611 rfl (lv_at hl 4 rfl) ?_
  refine cV_i (As := []) S (P_l (P_perm pM hP)) hK hN (m_X7_thrown l G k _ _ _ _ _ _ _ _ _ _ _ _ _ _ _ _ _ _ _ _ _ _ _ _) gw_100 rfl rfl rfl hdl_100 rfl rfl [0] rfl 7 0 rfl rfl rfl rfl hl.1 rfl rfl ⟨(by show _ ≤ (601024 : Nat); omega), (by show _ ≤ (7293034 : Nat); omega)⟩ dL_law_612 (fun rX hr => ?_)
  subst hr
  rw [ht2]
  refine lv_iload hx hb dL_law_615 (lv_at hl 1 rfl) ?_
  refine lv_icmp_eq (tgt := 622) hx hb dL_law_617 (by decide) (fun q617 => ?_) (fun q617 => ?_)
  · skip
    refine lv_iload hx hb dL_law_622 (lv_at hl 1 rfl) ?_
    refine lv_if_ne (tgt := 639) hx hb dL_law_624 (by decide) (fun q624 => ?_) (fun q624 => ?_)
    · skip
      refine lv_goto (tgt := 1794) hx hb dL_law_639 (by decide) ?_
      refine W.widen (k := c0 + 5) (n := s0 + 12040) (by omega) (by omega) ?_
      exact kk _ _ _ _ _ _ _ _ hok1 hmk2 hP hD hS (lv_sub hl [2, 3, 4, 5, 6, 7] rfl)
    · skip
      have he := (nI_0' e_drp_lt).mp q624
      refine lv_aload_n hx hb dL_law_627 rfl (lv_at hl 5 rfl) ?_
      refine n_iconst 0 (by decide) hx hb dL_law_628 ?_
      refine l_lald hx hb hK hP 47 rfl (by decide) (by decide) dL_law_629 ?_
      refine lv_iload hx hb dL_law_630 (lv_at hl 0 rfl) ?_
      refine lv_i2l (v := (v2).toInt64) hx hb dL_law_632 rfl ?_
      refine W.lcmp hx hb dL_law_633 ?_
      refine lv_if_eq (tgt := 639) hx hb dL_law_634 (by decide) (fun q634 => ?_) (fun q634 => ?_)
      · skip
        refine lv_goto (tgt := 1794) hx hb dL_law_639 (by decide) ?_
        refine W.widen (k := c0 + 5) (n := s0 + 12040) (by omega) (by omega) ?_
        exact kk _ _ _ _ _ _ _ _ hok1 hmk2 hP hD hS (lv_sub hl [2, 3, 4, 5, 6, 7] rfl)
      · skip
        exact absurd (by rw [ho1 he, hv2 he]; exact lg_same _) q634
  · skip
    exact absurd rfl q617
set_option maxHeartbeats 4000000 in
set_option maxRecDepth 100000 in
theorem law_c6 (S : CallFix p m c code 9 s #[.ref bS] lw_tbl RL) (hst : l.stackTraces = false) (hX : va_X bS L xs s s.heap) (hbl : bS < s.heap.size) (hbA : ¬ A bS) (hK : va_K G vwCl (tyG k) s) (hN : gN s) (hE : xE A s) (hA : ∀ q, s.heap.size ≤ q → A q) (hc0 : c0 + 5 ≤ 601024) (hs0 : s0 + 12040 ≤ 7293034) (hi9 : 4 * i9 + 4 ≤ L) (hL : L ≤ 2048)
    (hok : COK σ x) (hmk : MOK σ y) (hP : va_P G vwCl (lawW k a b oL oD σ x σ y fo fd) H) (hD : va_D A (lawW k a b oL oD σ x σ y fo fd)) (hS : va_S A s.heap H locs) (hl : lv_has ls 9 [(0, .ref bS), (1, .ref (b 0)), (2, .ref (a 0)), (3, .ref oL), (4, .ref oD), (5, .int (nI (4 * i9)))])
    (kk : ∀ (σ1 : Sg) (x1 : Cx) (y1 : Mx) (fo1 : Nat → Int64) (fd1 : Nat → UInt64) (H1 : Heap) (locs1 : List Loc) (ls1 : Array Slot), COK σ1 x1 → MOK σ1 y1 → va_P G vwCl (lawW k a b oL oD σ1 x1 σ1 y1 fo1 fd1) H1 → va_D A (lawW k a b oL oD σ1 x1 σ1 y1 fo1 fd1) → va_S A s.heap H1 locs1 → lv_has ls1 9 [(0, .ref bS), (1, .ref (b 0)), (2, .ref (a 0)), (3, .ref oL), (4, .ref oD), (5, .int (nI (4 * i9)))] → W p l e room_1 s m #[.ref bS] below meth c H1 locs1 (c0 + 5) (s0 + 12040) Q (F0 m 1794 ls1 [])) : W p l e room_1 s m #[.ref bS] below meth c H locs c0 s0 Q (F0 m 642 ls []) := by
  obtain ⟨hx, hb, hml, hown, hts⟩ := id S
  have hl : lv_has ls 9 [(0, .ref bS), (1, .ref (b 0)), (2, .ref (a 0)), (3, .ref oL), (4, .ref oD), (5, .int (nI (4 * i9)))] := hl
  refine lv_aload_n hx hb dL_law_642 rfl (lv_at hl 1 rfl) ?_
  refine bV_i (As := []) (wn := fun u : Cx => lawW k a b oL oD σ u σ y fo fd) S hP hK hN hD hS hA (m_X6_featureCount l G k _ b σ x hok) gw_121 rfl rfl rfl hdl_121 rfl rfl pC (fun _ => pC.symm) 6 0 rfl rfl rfl rfl hl.1 rfl rfl ⟨(by show _ ≤ (601024 : Nat); omega), (by show _ ≤ (7293034 : Nat); omega)⟩ dL_law_643 (fun rX u H locs hw hP hD hS => ?_)
  obtain ⟨x1, rfl⟩ : ∃ z, z = u := ⟨_, rfl⟩
  obtain ⟨v1, hq, cv1, hok1⟩ := hw
  subst rX
  refine lv_aload_n hx hb dL_law_646 rfl (lv_at hl 2 rfl) ?_
  refine bV_i (As := []) (wn := fun u : Mx => lawW k a b oL oD σ x1 σ u fo fd) S hP hK hN hD hS hA (m_X7_featureCount l G k _ a σ y  hmk) gw_124 rfl rfl rfl hdl_124 rfl rfl pM (fun _ => pM.symm) 7 0 rfl rfl rfl rfl hl.1 rfl rfl ⟨(by show _ ≤ (601024 : Nat); omega), (by show _ ≤ (7293034 : Nat); omega)⟩ dL_law_647 (fun rX u H locs hw hP hD hS => ?_)
  obtain ⟨y2, rfl⟩ : ∃ z, z = u := ⟨_, rfl⟩
  obtain ⟨v2, hq, hv2, hmk2, ht2⟩ := hw
  subst rX
  refine lv_icmp_eq (tgt := 1794) hx hb dL_law_650 (by decide) (fun q650 => ?_) (fun q650 => ?_)
  · skip
    refine W.widen (k := c0 + 5) (n := s0 + 12040) (by omega) (by omega) ?_
    exact kk _ _ _ _ _ _ _ _ hok1 hmk2 hP hD hS (lv_sub hl [0, 1, 2, 3, 4, 5] rfl)
  · skip
    exact absurd (by rw [cv1, hv2 rfl]) q650
set_option maxHeartbeats 4000000 in
set_option maxRecDepth 100000 in
theorem law_c7 (S : CallFix p m c code 9 s #[.ref bS] lw_tbl RL) (hst : l.stackTraces = false) (hX : va_X bS L xs s s.heap) (hbl : bS < s.heap.size) (hbA : ¬ A bS) (hK : va_K G vwCl (tyG k) s) (hN : gN s) (hE : xE A s) (hA : ∀ q, s.heap.size ≤ q → A q) (hc0 : c0 + 5 ≤ 601024) (hs0 : s0 + 12040 ≤ 7293034) (hi9 : 4 * i9 + 4 ≤ L) (hL : L ≤ 2048)
    (hok : COK σ x) (hmk : MOK σ y) (hP : va_P G vwCl (lawW k a b oL oD σ x σ y fo fd) H) (hD : va_D A (lawW k a b oL oD σ x σ y fo fd)) (hS : va_S A s.heap H locs) (hl : lv_has ls 9 [(0, .ref bS), (1, .ref (b 0)), (2, .ref (a 0)), (3, .ref oL), (4, .ref oD), (5, .int (nI (4 * i9)))])
    (kk : ∀ (σ1 : Sg) (x1 : Cx) (y1 : Mx) (fo1 : Nat → Int64) (fd1 : Nat → UInt64) (H1 : Heap) (locs1 : List Loc) (ls1 : Array Slot), COK σ1 x1 → MOK σ1 y1 → va_P G vwCl (lawW k a b oL oD σ1 x1 σ1 y1 fo1 fd1) H1 → va_D A (lawW k a b oL oD σ1 x1 σ1 y1 fo1 fd1) → va_S A s.heap H1 locs1 → lv_has ls1 9 [(0, .ref bS), (1, .ref (b 0)), (2, .ref (a 0)), (3, .ref oL), (4, .ref oD), (5, .int (nI (4 * i9)))] → W p l e room_1 s m #[.ref bS] below meth c H1 locs1 (c0 + 5) (s0 + 12040) Q (F0 m 1794 ls1 [])) : W p l e room_1 s m #[.ref bS] below meth c H locs c0 s0 Q (F0 m 655 ls []) := by
  obtain ⟨hx, hb, hml, hown, hts⟩ := id S
  have hl : lv_has ls 9 [(0, .ref bS), (1, .ref (b 0)), (2, .ref (a 0)), (3, .ref oL), (4, .ref oD), (5, .int (nI (4 * i9)))] := hl
  refine lv_aload_n hx hb dL_law_655 rfl (lv_at hl 1 rfl) ?_
  refine lv_aload_n hx hb dL_law_656 rfl (lv_at hl 0 rfl) ?_
  refine lv_iload hx hb dL_law_657 (lv_at hl 5 rfl) ?_
  refine n_iconst 1 (by decide) hx hb dL_law_659 ?_
  refine n_iadd hx hb dL_law_660 ?_
  refine s_ld (i := (4 * i9) + 1) hx hb hX hbl hbA hS (by omega) (by omega) dL_law_661 ?_
  refine lv_aload_n hx hb dL_law_662 rfl (lv_at hl 0 rfl) ?_
  refine lv_iload hx hb dL_law_663 (lv_at hl 5 rfl) ?_
  refine n_iconst 2 (by decide) hx hb dL_law_665 ?_
  refine n_iadd hx hb dL_law_666 ?_
  refine s_ld (i := (4 * i9) + 2) hx hb hX hbl hbA hS (by omega) (by omega) dL_law_667 ?_
  refine lv_aload_n hx hb dL_law_668 rfl (lv_at hl 3 rfl) ?_
  refine bH_i (As := [.ref (b 0), .int (xs ((4 * i9) + 1)), .int (xs ((4 * i9) + 2)), .ref oL]) (wn := fun u : (Cx) × (Nat → Int64) => lawW k a b oL oD (s_dec σ (xs ((4 * i9) + 1)) (xs ((4 * i9) + 2))) u.1 σ y u.2 fd) S hP hK hN hE hD hS hA (m_L_decide l hst G k _ b σ x oL fo (xs ((4 * i9) + 1)) (xs ((4 * i9) + 2)) hok) gw_125 rfl rfl rfl hdl_125 rfl rfl pL (fun _ => pL.symm) rfl hl.1 rfl rfl ⟨(by show _ ≤ (601024 : Nat); omega), (by show _ ≤ (7293034 : Nat); omega)⟩ dL_law_669 (fun rX u H locs hw hP hD hS => ?_)
  obtain ⟨x1, f1⟩ := u
  dsimp only at hw hP hD
  obtain ⟨rfl, ho1, hok1⟩ := hw
  refine lv_istore (lv' := [(6, .int (nI (e_dec σ (xs ((4 * i9) + 1)) (xs ((4 * i9) + 2))))), (0, .ref bS), (1, .ref (b 0)), (2, .ref (a 0)), (3, .ref oL), (4, .ref oD), (5, .int (nI (4 * i9)))]) hx hb dL_law_672 hl (by decide) rfl (fun ls hl => ?_)
  refine lv_aload_n hx hb dL_law_674 rfl (lv_at hl 3 rfl) ?_
  refine lv_aload_n hx hb dL_law_675 rfl (lv_at hl 1 rfl) ?_
  refine lv_iload hx hb dL_law_676 (lv_at hl 6 rfl) ?_
  refine n_iconst 1 (by decide) hx hb dL_law_678 ?_
  refine n_iadd hx hb dL_law_679 ?_
  refine s_ld (i := (4 * i9) + 1) hx hb hX hbl hbA hS (by omega) (by omega) dL_law_680 ?_
  refine lv_aload_n hx hb dL_law_681 rfl (lv_at hl 1 rfl) ?_
  refine lv_iload hx hb dL_law_682 (lv_at hl 6 rfl) ?_
  refine n_iconst 2 (by decide) hx hb dL_law_684 ?_
  refine n_iadd hx hb dL_law_685 ?_
  refine s_ld (i := (4 * i9) + 2) hx hb hX hbl hbA hS (by omega) (by omega) dL_law_686 ?_
  refine bV_i (As := [.int (xs ((4 * i9) + 1)), .int (xs ((4 * i9) + 2))]) (wn := fun u : Mx => lawW k a b oL oD (s_dec σ (xs ((4 * i9) + 1)) (xs ((4 * i9) + 2))) x1 (s_dec σ (xs ((4 * i9) + 1)) (xs ((4 * i9) + 2))) u f1 fd) S hP hK hN hD hS hA (m_X7_decide l G k _ a σ y (xs ((4 * i9) + 1)) (xs ((4 * i9) + 2)) hmk) gw_127 rfl rfl rfl hdl_127 rfl rfl pM (fun _ => pM.symm) 7 0 rfl rfl rfl rfl hl.1 rfl rfl ⟨(by show _ ≤ (601024 : Nat); omega), (by show _ ≤ (7293034 : Nat); omega)⟩ dL_law_687 (fun rX u H locs hw hP hD hS => ?_)
  obtain ⟨y2, rfl⟩ : ∃ z, z = u := ⟨_, rfl⟩
  obtain ⟨v2, hq, hv2, hmk2, ht2⟩ := hw
  subst rX
  refine lv_istore (lv' := [(7, .int v2), (6, .int (nI (e_dec σ (xs ((4 * i9) + 1)) (xs ((4 * i9) + 2))))), (0, .ref bS), (1, .ref (b 0)), (2, .ref (a 0)), (3, .ref oL), (4, .ref oD), (5, .int (nI (4 * i9)))]) hx hb dL_law_690 hl (by decide) rfl (fun ls hl => ?_)
  refine lv_aload_n hx hb dL_law_692 rfl (lv_at hl 4 rfl) ?_
  refine cV_i (As := []) S (P_l (P_perm pM hP)) hK hN (m_X7_thrown l G k _ _ _ _ _ _ _ _ _ _ _ _ _ _ _ _ _ _ _ _ _ _ _ _) gw_100 rfl rfl rfl hdl_100 rfl rfl [0] rfl 7 0 rfl rfl rfl rfl hl.1 rfl rfl ⟨(by show _ ≤ (601024 : Nat); omega), (by show _ ≤ (7293034 : Nat); omega)⟩ dL_law_693 (fun rX hr => ?_)
  subst hr
  rw [ht2]
  refine lv_iload hx hb dL_law_696 (lv_at hl 1 rfl) ?_
  refine lv_icmp_eq (tgt := 703) hx hb dL_law_698 (by decide) (fun q698 => ?_) (fun q698 => ?_)
  · skip
    refine lv_iload hx hb dL_law_703 (lv_at hl 1 rfl) ?_
    refine lv_if_ne (tgt := 720) hx hb dL_law_705 (by decide) (fun q705 => ?_) (fun q705 => ?_)
    · skip
      refine lv_goto (tgt := 1794) hx hb dL_law_720 (by decide) ?_
      refine W.widen (k := c0 + 5) (n := s0 + 12040) (by omega) (by omega) ?_
      exact kk _ _ _ _ _ _ _ _ hok1 hmk2 hP hD hS (lv_sub hl [2, 3, 4, 5, 6, 7] rfl)
    · skip
      have he := (nI_0' e_dec_lt).mp q705
      refine lv_aload_n hx hb dL_law_708 rfl (lv_at hl 5 rfl) ?_
      refine n_iconst 0 (by decide) hx hb dL_law_709 ?_
      refine l_lald hx hb hK hP 47 rfl (by decide) (by decide) dL_law_710 ?_
      refine lv_iload hx hb dL_law_711 (lv_at hl 0 rfl) ?_
      refine lv_i2l (v := (v2).toInt64) hx hb dL_law_713 rfl ?_
      refine W.lcmp hx hb dL_law_714 ?_
      refine lv_if_eq (tgt := 720) hx hb dL_law_715 (by decide) (fun q715 => ?_) (fun q715 => ?_)
      · skip
        refine lv_goto (tgt := 1794) hx hb dL_law_720 (by decide) ?_
        refine W.widen (k := c0 + 5) (n := s0 + 12040) (by omega) (by omega) ?_
        exact kk _ _ _ _ _ _ _ _ hok1 hmk2 hP hD hS (lv_sub hl [2, 3, 4, 5, 6, 7] rfl)
      · skip
        exact absurd (by rw [ho1 he, hv2 he]; exact lg_same _) q715
  · skip
    exact absurd rfl q698
set_option maxHeartbeats 4000000 in
set_option maxRecDepth 100000 in
theorem law_c8 (S : CallFix p m c code 9 s #[.ref bS] lw_tbl RL) (hst : l.stackTraces = false) (hX : va_X bS L xs s s.heap) (hbl : bS < s.heap.size) (hbA : ¬ A bS) (hK : va_K G vwCl (tyG k) s) (hN : gN s) (hE : xE A s) (hA : ∀ q, s.heap.size ≤ q → A q) (hc0 : c0 + 5 ≤ 601024) (hs0 : s0 + 12040 ≤ 7293034) (hi9 : 4 * i9 + 4 ≤ L) (hL : L ≤ 2048)
    (hok : COK σ x) (hmk : MOK σ y) (hP : va_P G vwCl (lawW k a b oL oD σ x σ y fo fd) H) (hD : va_D A (lawW k a b oL oD σ x σ y fo fd)) (hS : va_S A s.heap H locs) (hl : lv_has ls 9 [(0, .ref bS), (1, .ref (b 0)), (2, .ref (a 0)), (3, .ref oL), (4, .ref oD), (5, .int (nI (4 * i9)))])
    (kk : ∀ (σ1 : Sg) (x1 : Cx) (y1 : Mx) (fo1 : Nat → Int64) (fd1 : Nat → UInt64) (H1 : Heap) (locs1 : List Loc) (ls1 : Array Slot), COK σ1 x1 → MOK σ1 y1 → va_P G vwCl (lawW k a b oL oD σ1 x1 σ1 y1 fo1 fd1) H1 → va_D A (lawW k a b oL oD σ1 x1 σ1 y1 fo1 fd1) → va_S A s.heap H1 locs1 → lv_has ls1 9 [(0, .ref bS), (1, .ref (b 0)), (2, .ref (a 0)), (3, .ref oL), (4, .ref oD), (5, .int (nI (4 * i9)))] → W p l e room_1 s m #[.ref bS] below meth c H1 locs1 (c0 + 5) (s0 + 12040) Q (F0 m 1794 ls1 [])) : W p l e room_1 s m #[.ref bS] below meth c H locs c0 s0 Q (F0 m 723 ls []) := by
  obtain ⟨hx, hb, hml, hown, hts⟩ := id S
  have hl : lv_has ls 9 [(0, .ref bS), (1, .ref (b 0)), (2, .ref (a 0)), (3, .ref oL), (4, .ref oD), (5, .int (nI (4 * i9)))] := hl
  refine lv_aload_n hx hb dL_law_723 rfl (lv_at hl 1 rfl) ?_
  refine bV_i (As := []) (wn := fun u : Cx => lawW k a b oL oD (reoS σ) u σ y fo fd) S hP hK hN hD hS hA (m_X6_reopen l G k _ b σ x hok) gw_128 rfl rfl rfl hdl_128 rfl rfl pC (fun _ => pC.symm) 6 0 rfl rfl rfl rfl hl.1 rfl rfl ⟨(by show _ ≤ (601024 : Nat); omega), (by show _ ≤ (7293034 : Nat); omega)⟩ dL_law_724 (fun rX u H locs hw hP hD hS => ?_)
  obtain ⟨x1, rfl⟩ : ∃ z, z = u := ⟨_, rfl⟩
  obtain ⟨v1, hq, cv1, hok1⟩ := hw
  subst rX
  refine lv_aload_n hx hb dL_law_727 rfl (lv_at hl 2 rfl) ?_
  refine bV_i (As := []) (wn := fun u : Mx => lawW k a b oL oD (reoS σ) x1 (reoS σ) u fo fd) S hP hK hN hD hS hA (m_X7_reopen l G k _ a σ y  hmk) gw_131 rfl rfl rfl hdl_131 rfl rfl pM (fun _ => pM.symm) 7 0 rfl rfl rfl rfl hl.1 rfl rfl ⟨(by show _ ≤ (601024 : Nat); omega), (by show _ ≤ (7293034 : Nat); omega)⟩ dL_law_728 (fun rX u H locs hw hP hD hS => ?_)
  obtain ⟨y2, rfl⟩ : ∃ z, z = u := ⟨_, rfl⟩
  obtain ⟨v2, hq, hv2, hmk2, ht2⟩ := hw
  subst rX
  refine lv_icmp_eq (tgt := 1794) hx hb dL_law_731 (by decide) (fun q731 => ?_) (fun q731 => ?_)
  · skip
    refine W.widen (k := c0 + 5) (n := s0 + 12040) (by omega) (by omega) ?_
    exact kk _ _ _ _ _ _ _ _ hok1 hmk2 hP hD hS (lv_sub hl [0, 1, 2, 3, 4, 5] rfl)
  · skip
    exact absurd (by rw [cv1, hv2 rfl]) q731
set_option maxHeartbeats 4000000 in
set_option maxRecDepth 100000 in
theorem law_c9 (S : CallFix p m c code 9 s #[.ref bS] lw_tbl RL) (hst : l.stackTraces = false) (hX : va_X bS L xs s s.heap) (hbl : bS < s.heap.size) (hbA : ¬ A bS) (hK : va_K G vwCl (tyG k) s) (hN : gN s) (hE : xE A s) (hA : ∀ q, s.heap.size ≤ q → A q) (hc0 : c0 + 5 ≤ 601024) (hs0 : s0 + 12040 ≤ 7293034) (hi9 : 4 * i9 + 4 ≤ L) (hL : L ≤ 2048)
    (hok : COK σ x) (hmk : MOK σ y) (hP : va_P G vwCl (lawW k a b oL oD σ x σ y fo fd) H) (hD : va_D A (lawW k a b oL oD σ x σ y fo fd)) (hS : va_S A s.heap H locs) (hl : lv_has ls 9 [(0, .ref bS), (1, .ref (b 0)), (2, .ref (a 0)), (3, .ref oL), (4, .ref oD), (5, .int (nI (4 * i9)))])
    (kk : ∀ (σ1 : Sg) (x1 : Cx) (y1 : Mx) (fo1 : Nat → Int64) (fd1 : Nat → UInt64) (H1 : Heap) (locs1 : List Loc) (ls1 : Array Slot), COK σ1 x1 → MOK σ1 y1 → va_P G vwCl (lawW k a b oL oD σ1 x1 σ1 y1 fo1 fd1) H1 → va_D A (lawW k a b oL oD σ1 x1 σ1 y1 fo1 fd1) → va_S A s.heap H1 locs1 → lv_has ls1 9 [(0, .ref bS), (1, .ref (b 0)), (2, .ref (a 0)), (3, .ref oL), (4, .ref oD), (5, .int (nI (4 * i9)))] → W p l e room_1 s m #[.ref bS] below meth c H1 locs1 (c0 + 5) (s0 + 12040) Q (F0 m 1794 ls1 [])) : W p l e room_1 s m #[.ref bS] below meth c H locs c0 s0 Q (F0 m 736 ls []) := by
  obtain ⟨hx, hb, hml, hown, hts⟩ := id S
  have hl : lv_has ls 9 [(0, .ref bS), (1, .ref (b 0)), (2, .ref (a 0)), (3, .ref oL), (4, .ref oD), (5, .int (nI (4 * i9)))] := hl
  refine lv_aload_n hx hb dL_law_736 rfl (lv_at hl 1 rfl) ?_
  refine lv_aload_n hx hb dL_law_737 rfl (lv_at hl 0 rfl) ?_
  refine lv_iload hx hb dL_law_738 (lv_at hl 5 rfl) ?_
  refine n_iconst 1 (by decide) hx hb dL_law_740 ?_
  refine n_iadd hx hb dL_law_741 ?_
  refine s_ld (i := (4 * i9) + 1) hx hb hX hbl hbA hS (by omega) (by omega) dL_law_742 ?_
  refine lv_aload_n hx hb dL_law_743 rfl (lv_at hl 3 rfl) ?_
  refine bH_i (As := [.ref (b 0), .int (xs ((4 * i9) + 1)), .ref oL]) (wn := fun u : (Cx) × (Nat → Int64) => lawW k a b oL oD (s_bud σ (xs ((4 * i9) + 1))) u.1 σ y u.2 fd) S hP hK hN hE hD hS hA (m_L_setBudget l hst G k _ b σ x oL fo (xs ((4 * i9) + 1)) hok) gw_132 rfl rfl rfl hdl_132 rfl rfl pL (fun _ => pL.symm) rfl hl.1 rfl rfl ⟨(by show _ ≤ (601024 : Nat); omega), (by show _ ≤ (7293034 : Nat); omega)⟩ dL_law_744 (fun rX u H locs hw hP hD hS => ?_)
  obtain ⟨x1, f1⟩ := u
  dsimp only at hw hP hD
  obtain ⟨rfl, ho1, hok1⟩ := hw
  refine lv_istore (lv' := [(6, .int (nI (e_bud (xs ((4 * i9) + 1))))), (0, .ref bS), (1, .ref (b 0)), (2, .ref (a 0)), (3, .ref oL), (4, .ref oD), (5, .int (nI (4 * i9)))]) hx hb dL_law_747 hl (by decide) rfl (fun ls hl => ?_)
  refine lv_aload_n hx hb dL_law_749 rfl (lv_at hl 3 rfl) ?_
  refine lv_aload_n hx hb dL_law_750 rfl (lv_at hl 1 rfl) ?_
  refine lv_iload hx hb dL_law_751 (lv_at hl 6 rfl) ?_
  refine n_iconst 1 (by decide) hx hb dL_law_753 ?_
  refine n_iadd hx hb dL_law_754 ?_
  refine s_ld (i := (4 * i9) + 1) hx hb hX hbl hbA hS (by omega) (by omega) dL_law_755 ?_
  refine bV_i (As := [.int (xs ((4 * i9) + 1))]) (wn := fun u : Mx => lawW k a b oL oD (s_bud σ (xs ((4 * i9) + 1))) x1 (s_bud σ (xs ((4 * i9) + 1))) u f1 fd) S hP hK hN hD hS hA (m_X7_setBudget l G k _ a σ y (xs ((4 * i9) + 1)) hmk) gw_135 rfl rfl rfl hdl_135 rfl rfl pM (fun _ => pM.symm) 7 0 rfl rfl rfl rfl hl.1 rfl rfl ⟨(by show _ ≤ (601024 : Nat); omega), (by show _ ≤ (7293034 : Nat); omega)⟩ dL_law_756 (fun rX u H locs hw hP hD hS => ?_)
  obtain ⟨y2, rfl⟩ : ∃ z, z = u := ⟨_, rfl⟩
  obtain ⟨v2, hq, hv2, hmk2, ht2⟩ := hw
  subst rX
  refine lv_istore (lv' := [(7, .int v2), (6, .int (nI (e_bud (xs ((4 * i9) + 1))))), (0, .ref bS), (1, .ref (b 0)), (2, .ref (a 0)), (3, .ref oL), (4, .ref oD), (5, .int (nI (4 * i9)))]) hx hb dL_law_759 hl (by decide) rfl (fun ls hl => ?_)
  refine lv_aload_n hx hb dL_law_761 rfl (lv_at hl 4 rfl) ?_
  refine cV_i (As := []) S (P_l (P_perm pM hP)) hK hN (m_X7_thrown l G k _ _ _ _ _ _ _ _ _ _ _ _ _ _ _ _ _ _ _ _ _ _ _ _) gw_100 rfl rfl rfl hdl_100 rfl rfl [0] rfl 7 0 rfl rfl rfl rfl hl.1 rfl rfl ⟨(by show _ ≤ (601024 : Nat); omega), (by show _ ≤ (7293034 : Nat); omega)⟩ dL_law_762 (fun rX hr => ?_)
  subst hr
  rw [ht2]
  refine lv_iload hx hb dL_law_765 (lv_at hl 1 rfl) ?_
  refine lv_icmp_eq (tgt := 772) hx hb dL_law_767 (by decide) (fun q767 => ?_) (fun q767 => ?_)
  · skip
    refine lv_iload hx hb dL_law_772 (lv_at hl 1 rfl) ?_
    refine lv_if_ne (tgt := 789) hx hb dL_law_774 (by decide) (fun q774 => ?_) (fun q774 => ?_)
    · skip
      refine lv_goto (tgt := 1794) hx hb dL_law_789 (by decide) ?_
      refine W.widen (k := c0 + 5) (n := s0 + 12040) (by omega) (by omega) ?_
      exact kk _ _ _ _ _ _ _ _ hok1 hmk2 hP hD hS (lv_sub hl [2, 3, 4, 5, 6, 7] rfl)
    · skip
      have he := (nI_0' e_bud_lt).mp q774
      refine lv_aload_n hx hb dL_law_777 rfl (lv_at hl 5 rfl) ?_
      refine n_iconst 0 (by decide) hx hb dL_law_778 ?_
      refine l_lald hx hb hK hP 47 rfl (by decide) (by decide) dL_law_779 ?_
      refine lv_iload hx hb dL_law_780 (lv_at hl 0 rfl) ?_
      refine lv_i2l (v := (v2).toInt64) hx hb dL_law_782 rfl ?_
      refine W.lcmp hx hb dL_law_783 ?_
      refine lv_if_eq (tgt := 789) hx hb dL_law_784 (by decide) (fun q784 => ?_) (fun q784 => ?_)
      · skip
        refine lv_goto (tgt := 1794) hx hb dL_law_789 (by decide) ?_
        refine W.widen (k := c0 + 5) (n := s0 + 12040) (by omega) (by omega) ?_
        exact kk _ _ _ _ _ _ _ _ hok1 hmk2 hP hD hS (lv_sub hl [2, 3, 4, 5, 6, 7] rfl)
      · skip
        exact absurd (by rw [ho1 he, hv2 he]; exact lg_same _) q784
  · skip
    exact absurd rfl q767
set_option maxHeartbeats 4000000 in
set_option maxRecDepth 100000 in
theorem law_c10 (S : CallFix p m c code 9 s #[.ref bS] lw_tbl RL) (hst : l.stackTraces = false) (hX : va_X bS L xs s s.heap) (hbl : bS < s.heap.size) (hbA : ¬ A bS) (hK : va_K G vwCl (tyG k) s) (hN : gN s) (hE : xE A s) (hA : ∀ q, s.heap.size ≤ q → A q) (hc0 : c0 + 5 ≤ 601024) (hs0 : s0 + 12040 ≤ 7293034) (hi9 : 4 * i9 + 4 ≤ L) (hL : L ≤ 2048)
    (hok : COK σ x) (hmk : MOK σ y) (hP : va_P G vwCl (lawW k a b oL oD σ x σ y fo fd) H) (hD : va_D A (lawW k a b oL oD σ x σ y fo fd)) (hS : va_S A s.heap H locs) (hl : lv_has ls 9 [(0, .ref bS), (1, .ref (b 0)), (2, .ref (a 0)), (3, .ref oL), (4, .ref oD), (5, .int (nI (4 * i9)))])
    (kk : ∀ (σ1 : Sg) (x1 : Cx) (y1 : Mx) (fo1 : Nat → Int64) (fd1 : Nat → UInt64) (H1 : Heap) (locs1 : List Loc) (ls1 : Array Slot), COK σ1 x1 → MOK σ1 y1 → va_P G vwCl (lawW k a b oL oD σ1 x1 σ1 y1 fo1 fd1) H1 → va_D A (lawW k a b oL oD σ1 x1 σ1 y1 fo1 fd1) → va_S A s.heap H1 locs1 → lv_has ls1 9 [(0, .ref bS), (1, .ref (b 0)), (2, .ref (a 0)), (3, .ref oL), (4, .ref oD), (5, .int (nI (4 * i9)))] → W p l e room_1 s m #[.ref bS] below meth c H1 locs1 (c0 + 5) (s0 + 12040) Q (F0 m 1794 ls1 [])) : W p l e room_1 s m #[.ref bS] below meth c H locs c0 s0 Q (F0 m 792 ls []) := by
  obtain ⟨hx, hb, hml, hown, hts⟩ := id S
  have hl : lv_has ls 9 [(0, .ref bS), (1, .ref (b 0)), (2, .ref (a 0)), (3, .ref oL), (4, .ref oD), (5, .int (nI (4 * i9)))] := hl
  refine lv_aload_n hx hb dL_law_792 rfl (lv_at hl 1 rfl) ?_
  refine lv_aload_n hx hb dL_law_793 rfl (lv_at hl 0 rfl) ?_
  refine lv_iload hx hb dL_law_794 (lv_at hl 5 rfl) ?_
  refine n_iconst 1 (by decide) hx hb dL_law_796 ?_
  refine n_iadd hx hb dL_law_797 ?_
  refine s_ld (i := (4 * i9) + 1) hx hb hX hbl hbA hS (by omega) (by omega) dL_law_798 ?_
  refine lv_aload_n hx hb dL_law_799 rfl (lv_at hl 3 rfl) ?_
  refine bH_i (As := [.ref (b 0), .int (xs ((4 * i9) + 1)), .ref oL]) (wn := fun u : (Cx) × (Nat → Int64) => lawW k a b oL oD σ u.1 σ y u.2 fd) S hP hK hN hE hD hS hA (m_L_violations l hst G k _ b σ x oL fo (xs ((4 * i9) + 1)) hok) gw_136 rfl rfl rfl hdl_136 rfl rfl pL (fun _ => pL.symm) rfl hl.1 rfl rfl ⟨(by show _ ≤ (601024 : Nat); omega), (by show _ ≤ (7293034 : Nat); omega)⟩ dL_law_800 (fun rX u H locs hw hP hD hS => ?_)
  obtain ⟨x1, f1⟩ := u
  dsimp only at hw hP hD
  obtain ⟨rfl, ho1, hok1⟩ := hw
  refine lv_istore (lv' := [(6, .int (nI (e_cfg σ (xs ((4 * i9) + 1))))), (0, .ref bS), (1, .ref (b 0)), (2, .ref (a 0)), (3, .ref oL), (4, .ref oD), (5, .int (nI (4 * i9)))]) hx hb dL_law_803 hl (by decide) rfl (fun ls hl => ?_)
  refine lv_aload_n hx hb dL_law_805 rfl (lv_at hl 3 rfl) ?_
  refine lv_aload_n hx hb dL_law_806 rfl (lv_at hl 1 rfl) ?_
  refine lv_iload hx hb dL_law_807 (lv_at hl 6 rfl) ?_
  refine n_iconst 1 (by decide) hx hb dL_law_809 ?_
  refine n_iadd hx hb dL_law_810 ?_
  refine s_ld (i := (4 * i9) + 1) hx hb hX hbl hbA hS (by omega) (by omega) dL_law_811 ?_
  refine bV_i (As := [.int (xs ((4 * i9) + 1))]) (wn := fun u : Mx => lawW k a b oL oD σ x1 σ u f1 fd) S hP hK hN hD hS hA (m_X7_violations l G k _ a σ y (xs ((4 * i9) + 1)) hmk) gw_138 rfl rfl rfl hdl_138 rfl rfl pM (fun _ => pM.symm) 7 0 rfl rfl rfl rfl hl.1 rfl rfl ⟨(by show _ ≤ (601024 : Nat); omega), (by show _ ≤ (7293034 : Nat); omega)⟩ dL_law_812 (fun rX u H locs hw hP hD hS => ?_)
  obtain ⟨y2, rfl⟩ : ∃ z, z = u := ⟨_, rfl⟩
  obtain ⟨v2, hq, hv2, hmk2, ht2⟩ := hw
  subst rX
  refine lv_istore (lv' := [(7, .int v2), (6, .int (nI (e_cfg σ (xs ((4 * i9) + 1))))), (0, .ref bS), (1, .ref (b 0)), (2, .ref (a 0)), (3, .ref oL), (4, .ref oD), (5, .int (nI (4 * i9)))]) hx hb dL_law_815 hl (by decide) rfl (fun ls hl => ?_)
  refine lv_aload_n hx hb dL_law_817 rfl (lv_at hl 4 rfl) ?_
  refine cV_i (As := []) S (P_l (P_perm pM hP)) hK hN (m_X7_thrown l G k _ _ _ _ _ _ _ _ _ _ _ _ _ _ _ _ _ _ _ _ _ _ _ _) gw_100 rfl rfl rfl hdl_100 rfl rfl [0] rfl 7 0 rfl rfl rfl rfl hl.1 rfl rfl ⟨(by show _ ≤ (601024 : Nat); omega), (by show _ ≤ (7293034 : Nat); omega)⟩ dL_law_818 (fun rX hr => ?_)
  subst hr
  rw [ht2]
  refine lv_iload hx hb dL_law_821 (lv_at hl 1 rfl) ?_
  refine lv_icmp_eq (tgt := 828) hx hb dL_law_823 (by decide) (fun q823 => ?_) (fun q823 => ?_)
  · skip
    refine lv_iload hx hb dL_law_828 (lv_at hl 1 rfl) ?_
    refine lv_if_ne (tgt := 845) hx hb dL_law_830 (by decide) (fun q830 => ?_) (fun q830 => ?_)
    · skip
      refine lv_goto (tgt := 1794) hx hb dL_law_845 (by decide) ?_
      refine W.widen (k := c0 + 5) (n := s0 + 12040) (by omega) (by omega) ?_
      exact kk _ _ _ _ _ _ _ _ hok1 hmk2 hP hD hS (lv_sub hl [2, 3, 4, 5, 6, 7] rfl)
    · skip
      have he := (nI_0' e_cfg_lt).mp q830
      refine lv_aload_n hx hb dL_law_833 rfl (lv_at hl 5 rfl) ?_
      refine n_iconst 0 (by decide) hx hb dL_law_834 ?_
      refine l_lald hx hb hK hP 47 rfl (by decide) (by decide) dL_law_835 ?_
      refine lv_iload hx hb dL_law_836 (lv_at hl 0 rfl) ?_
      refine lv_i2l (v := (v2).toInt64) hx hb dL_law_838 rfl ?_
      refine W.lcmp hx hb dL_law_839 ?_
      refine lv_if_eq (tgt := 845) hx hb dL_law_840 (by decide) (fun q840 => ?_) (fun q840 => ?_)
      · skip
        refine lv_goto (tgt := 1794) hx hb dL_law_845 (by decide) ?_
        refine W.widen (k := c0 + 5) (n := s0 + 12040) (by omega) (by omega) ?_
        exact kk _ _ _ _ _ _ _ _ hok1 hmk2 hP hD hS (lv_sub hl [2, 3, 4, 5, 6, 7] rfl)
      · skip
        exact absurd (by rw [ho1 he, hv2 he]; exact lg_same _) q840
  · skip
    exact absurd rfl q823
set_option maxHeartbeats 4000000 in
set_option maxRecDepth 100000 in
theorem law_c11 (S : CallFix p m c code 9 s #[.ref bS] lw_tbl RL) (hst : l.stackTraces = false) (hX : va_X bS L xs s s.heap) (hbl : bS < s.heap.size) (hbA : ¬ A bS) (hK : va_K G vwCl (tyG k) s) (hN : gN s) (hE : xE A s) (hA : ∀ q, s.heap.size ≤ q → A q) (hc0 : c0 + 5 ≤ 601024) (hs0 : s0 + 12040 ≤ 7293034) (hi9 : 4 * i9 + 4 ≤ L) (hL : L ≤ 2048)
    (hok : COK σ x) (hmk : MOK σ y) (hP : va_P G vwCl (lawW k a b oL oD σ x σ y fo fd) H) (hD : va_D A (lawW k a b oL oD σ x σ y fo fd)) (hS : va_S A s.heap H locs) (hl : lv_has ls 9 [(0, .ref bS), (1, .ref (b 0)), (2, .ref (a 0)), (3, .ref oL), (4, .ref oD), (5, .int (nI (4 * i9)))])
    (kk : ∀ (σ1 : Sg) (x1 : Cx) (y1 : Mx) (fo1 : Nat → Int64) (fd1 : Nat → UInt64) (H1 : Heap) (locs1 : List Loc) (ls1 : Array Slot), COK σ1 x1 → MOK σ1 y1 → va_P G vwCl (lawW k a b oL oD σ1 x1 σ1 y1 fo1 fd1) H1 → va_D A (lawW k a b oL oD σ1 x1 σ1 y1 fo1 fd1) → va_S A s.heap H1 locs1 → lv_has ls1 9 [(0, .ref bS), (1, .ref (b 0)), (2, .ref (a 0)), (3, .ref oL), (4, .ref oD), (5, .int (nI (4 * i9)))] → W p l e room_1 s m #[.ref bS] below meth c H1 locs1 (c0 + 5) (s0 + 12040) Q (F0 m 1794 ls1 [])) : W p l e room_1 s m #[.ref bS] below meth c H locs c0 s0 Q (F0 m 848 ls []) := by
  obtain ⟨hx, hb, hml, hown, hts⟩ := id S
  have hl : lv_has ls 9 [(0, .ref bS), (1, .ref (b 0)), (2, .ref (a 0)), (3, .ref oL), (4, .ref oD), (5, .int (nI (4 * i9)))] := hl
  refine lv_aload_n hx hb dL_law_848 rfl (lv_at hl 1 rfl) ?_
  refine lv_aload_n hx hb dL_law_849 rfl (lv_at hl 0 rfl) ?_
  refine lv_iload hx hb dL_law_850 (lv_at hl 5 rfl) ?_
  refine n_iconst 1 (by decide) hx hb dL_law_852 ?_
  refine n_iadd hx hb dL_law_853 ?_
  refine s_ld (i := (4 * i9) + 1) hx hb hX hbl hbA hS (by omega) (by omega) dL_law_854 ?_
  refine lv_aload_n hx hb dL_law_855 rfl (lv_at hl 3 rfl) ?_
  refine bH_i (As := [.ref (b 0), .int (xs ((4 * i9) + 1)), .ref oL]) (wn := fun u : (Cx) × (Nat → Int64) => lawW k a b oL oD σ u.1 σ y u.2 fd) S hP hK hN hE hD hS hA (m_L_costOf l hst G k _ b σ x oL fo (xs ((4 * i9) + 1)) hok) gw_139 rfl rfl rfl hdl_139 rfl rfl pL (fun _ => pL.symm) rfl hl.1 rfl rfl ⟨(by show _ ≤ (601024 : Nat); omega), (by show _ ≤ (7293034 : Nat); omega)⟩ dL_law_856 (fun rX u H locs hw hP hD hS => ?_)
  obtain ⟨x1, f1⟩ := u
  dsimp only at hw hP hD
  obtain ⟨rfl, ho1, hok1⟩ := hw
  refine lv_istore (lv' := [(6, .int (nI (e_cfg σ (xs ((4 * i9) + 1))))), (0, .ref bS), (1, .ref (b 0)), (2, .ref (a 0)), (3, .ref oL), (4, .ref oD), (5, .int (nI (4 * i9)))]) hx hb dL_law_859 hl (by decide) rfl (fun ls hl => ?_)
  refine lv_aload_n hx hb dL_law_861 rfl (lv_at hl 3 rfl) ?_
  refine lv_aload_n hx hb dL_law_862 rfl (lv_at hl 1 rfl) ?_
  refine lv_iload hx hb dL_law_863 (lv_at hl 6 rfl) ?_
  refine n_iconst 1 (by decide) hx hb dL_law_865 ?_
  refine n_iadd hx hb dL_law_866 ?_
  refine s_ld (i := (4 * i9) + 1) hx hb hX hbl hbA hS (by omega) (by omega) dL_law_867 ?_
  refine bV_i (As := [.int (xs ((4 * i9) + 1))]) (wn := fun u : Mx => lawW k a b oL oD σ x1 σ u f1 fd) S hP hK hN hD hS hA (m_X7_costOf l G k _ a σ y (xs ((4 * i9) + 1)) hmk) gw_141 rfl rfl rfl hdl_141 rfl rfl pM (fun _ => pM.symm) 7 0 rfl rfl rfl rfl hl.1 rfl rfl ⟨(by show _ ≤ (601024 : Nat); omega), (by show _ ≤ (7293034 : Nat); omega)⟩ dL_law_868 (fun rX u H locs hw hP hD hS => ?_)
  obtain ⟨y2, rfl⟩ : ∃ z, z = u := ⟨_, rfl⟩
  obtain ⟨v2, hq, hv2, hmk2, ht2⟩ := hw
  subst rX
  refine lv_istore (lv' := [(7, .int v2), (6, .int (nI (e_cfg σ (xs ((4 * i9) + 1))))), (0, .ref bS), (1, .ref (b 0)), (2, .ref (a 0)), (3, .ref oL), (4, .ref oD), (5, .int (nI (4 * i9)))]) hx hb dL_law_871 hl (by decide) rfl (fun ls hl => ?_)
  refine lv_aload_n hx hb dL_law_873 rfl (lv_at hl 4 rfl) ?_
  refine cV_i (As := []) S (P_l (P_perm pM hP)) hK hN (m_X7_thrown l G k _ _ _ _ _ _ _ _ _ _ _ _ _ _ _ _ _ _ _ _ _ _ _ _) gw_100 rfl rfl rfl hdl_100 rfl rfl [0] rfl 7 0 rfl rfl rfl rfl hl.1 rfl rfl ⟨(by show _ ≤ (601024 : Nat); omega), (by show _ ≤ (7293034 : Nat); omega)⟩ dL_law_874 (fun rX hr => ?_)
  subst hr
  rw [ht2]
  refine lv_iload hx hb dL_law_877 (lv_at hl 1 rfl) ?_
  refine lv_icmp_eq (tgt := 884) hx hb dL_law_879 (by decide) (fun q879 => ?_) (fun q879 => ?_)
  · skip
    refine lv_iload hx hb dL_law_884 (lv_at hl 1 rfl) ?_
    refine lv_if_ne (tgt := 901) hx hb dL_law_886 (by decide) (fun q886 => ?_) (fun q886 => ?_)
    · skip
      refine lv_goto (tgt := 1794) hx hb dL_law_901 (by decide) ?_
      refine W.widen (k := c0 + 5) (n := s0 + 12040) (by omega) (by omega) ?_
      exact kk _ _ _ _ _ _ _ _ hok1 hmk2 hP hD hS (lv_sub hl [2, 3, 4, 5, 6, 7] rfl)
    · skip
      have he := (nI_0' e_cfg_lt).mp q886
      refine lv_aload_n hx hb dL_law_889 rfl (lv_at hl 5 rfl) ?_
      refine n_iconst 0 (by decide) hx hb dL_law_890 ?_
      refine l_lald hx hb hK hP 47 rfl (by decide) (by decide) dL_law_891 ?_
      refine lv_iload hx hb dL_law_892 (lv_at hl 0 rfl) ?_
      refine lv_i2l (v := (v2).toInt64) hx hb dL_law_894 rfl ?_
      refine W.lcmp hx hb dL_law_895 ?_
      refine lv_if_eq (tgt := 901) hx hb dL_law_896 (by decide) (fun q896 => ?_) (fun q896 => ?_)
      · skip
        refine lv_goto (tgt := 1794) hx hb dL_law_901 (by decide) ?_
        refine W.widen (k := c0 + 5) (n := s0 + 12040) (by omega) (by omega) ?_
        exact kk _ _ _ _ _ _ _ _ hok1 hmk2 hP hD hS (lv_sub hl [2, 3, 4, 5, 6, 7] rfl)
      · skip
        exact absurd (by rw [ho1 he, hv2 he]; exact lg_same _) q896
  · skip
    exact absurd rfl q879
end LCASES0
