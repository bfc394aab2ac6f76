section LCASES2
variable {p : Program} {l : Launch} {e : Env} {s : State} {m : MethodId} {below : List Frame} {meth : Method} {c : Code} {Q : State → Prop} {A : Nat → Prop} {G : va_G} {k : Nat → ClassId} {bS L : Nat} {xs : Nat → Int32} {a b : Nat → Nat} {oL oD : Nat} {H : Heap} {locs : List Loc} {ls : Array Slot} {c0 s0 i9 : Nat} {σ : Sg} {x : Cx} {y : Mx} {fo : Nat → Int64} {fd : Nat → UInt64}
set_option maxHeartbeats 4000000 in
set_option maxRecDepth 100000 in
theorem law_c24 (S : CallFix p m c code 9 s #[.ref bS] lw_tbl RL) (hst : l.stackTraces = false) (hX : va_X bS L xs s s.heap) (hbl : bS < s.heap.size) (hbA : ¬ A bS) (hK : va_K G vwCl (tyG k) s) (hN : gN s) (hE : xE A s) (hA : ∀ q, s.heap.size ≤ q → A q) (hc0 : c0 + 5 ≤ 601024) (hs0 : s0 + 12040 ≤ 7293034) (hi9 : 4 * i9 + 4 ≤ L) (hL : L ≤ 2048)
    (hok : COK σ x) (hmk : MOK σ y) (hP : va_P G vwCl (lawW k a b oL oD σ x σ y fo fd) H) (hD : va_D A (lawW k a b oL oD σ x σ y fo fd)) (hS : va_S A s.heap H locs) (hl : lv_has ls 9 [(0, .ref bS), (1, .ref (b 0)), (2, .ref (a 0)), (3, .ref oL), (4, .ref oD), (5, .int (nI (4 * i9)))])
    (kk : ∀ (σ1 : Sg) (x1 : Cx) (y1 : Mx) (fo1 : Nat → Int64) (fd1 : Nat → UInt64) (H1 : Heap) (locs1 : List Loc) (ls1 : Array Slot), COK σ1 x1 → MOK σ1 y1 → va_P G vwCl (lawW k a b oL oD σ1 x1 σ1 y1 fo1 fd1) H1 → va_D A (lawW k a b oL oD σ1 x1 σ1 y1 fo1 fd1) → va_S A s.heap H1 locs1 → lv_has ls1 9 [(0, .ref bS), (1, .ref (b 0)), (2, .ref (a 0)), (3, .ref oL), (4, .ref oD), (5, .int (nI (4 * i9)))] → W p l e room_1 s m #[.ref bS] below meth c H1 locs1 (c0 + 5) (s0 + 12040) Q (F0 m 1794 ls1 [])) : W p l e room_1 s m #[.ref bS] below meth c H locs c0 s0 Q (F0 m 1444 ls []) := by
  obtain ⟨hx, hb, hml, hown, hts⟩ := id S
  have hl : lv_has ls 9 [(0, .ref bS), (1, .ref (b 0)), (2, .ref (a 0)), (3, .ref oL), (4, .ref oD), (5, .int (nI (4 * i9)))] := hl
  refine lv_aload_n hx hb dL_law_1444 rfl (lv_at hl 1 rfl) ?_
  refine bV_i (As := []) (wn := fun u : Cx => lawW k a b oL oD σ u σ y fo fd) S hP hK hN hD hS hA (m_X6_ruledOut l G k _ b σ x hok) gw_182 rfl rfl rfl hdl_182 rfl rfl pC (fun _ => pC.symm) 6 0 rfl rfl rfl rfl hl.1 rfl rfl ⟨(by show _ ≤ (601024 : Nat); omega), (by show _ ≤ (7293034 : Nat); omega)⟩ dL_law_1445 (fun rX u H locs hw hP hD hS => ?_)
  obtain ⟨x1, rfl⟩ : ∃ z, z = u := ⟨_, rfl⟩
  obtain ⟨v1, hq, cv1, hok1⟩ := hw
  subst rX
  refine lv_aload_n hx hb dL_law_1448 rfl (lv_at hl 2 rfl) ?_
  refine bV_i (As := []) (wn := fun u : Mx => lawW k a b oL oD σ x1 σ u fo fd) S hP hK hN hD hS hA (m_X7_ruledOut l G k _ a σ y  hmk) gw_185 rfl rfl rfl hdl_185 rfl rfl pM (fun _ => pM.symm) 7 0 rfl rfl rfl rfl hl.1 rfl rfl ⟨(by show _ ≤ (601024 : Nat); omega), (by show _ ≤ (7293034 : Nat); omega)⟩ dL_law_1449 (fun rX u H locs hw hP hD hS => ?_)
  obtain ⟨y2, rfl⟩ : ∃ z, z = u := ⟨_, rfl⟩
  obtain ⟨v2, hq, hv2, hmk2, ht2⟩ := hw
  subst rX
  refine lv_icmp_eq (tgt := 1794) hx hb dL_law_1452 (by decide) (fun q1452 => ?_) (fun q1452 => ?_)
  · skip
    refine W.widen (k := c0 + 5) (n := s0 + 12040) (by omega) (by omega) ?_
    exact kk _ _ _ _ _ _ _ _ hok1 hmk2 hP hD hS (lv_sub hl [0, 1, 2, 3, 4, 5] rfl)
  · skip
    exact absurd (by rw [cv1, hv2 rfl]) q1452
set_option maxHeartbeats 4000000 in
set_option maxRecDepth 100000 in
theorem law_c25 (S : CallFix p m c code 9 s #[.ref bS] lw_tbl RL) (hst : l.stackTraces = false) (hX : va_X bS L xs s s.heap) (hbl : bS < s.heap.size) (hbA : ¬ A bS) (hK : va_K G vwCl (tyG k) s) (hN : gN s) (hE : xE A s) (hA : ∀ q, s.heap.size ≤ q → A q) (hc0 : c0 + 5 ≤ 601024) (hs0 : s0 + 12040 ≤ 7293034) (hi9 : 4 * i9 + 4 ≤ L) (hL : L ≤ 2048)
    (hok : COK σ x) (hmk : MOK σ y) (hP : va_P G vwCl (lawW k a b oL oD σ x σ y fo fd) H) (hD : va_D A (lawW k a b oL oD σ x σ y fo fd)) (hS : va_S A s.heap H locs) (hl : lv_has ls 9 [(0, .ref bS), (1, .ref (b 0)), (2, .ref (a 0)), (3, .ref oL), (4, .ref oD), (5, .int (nI (4 * i9)))])
    (kk : ∀ (σ1 : Sg) (x1 : Cx) (y1 : Mx) (fo1 : Nat → Int64) (fd1 : Nat → UInt64) (H1 : Heap) (locs1 : List Loc) (ls1 : Array Slot), COK σ1 x1 → MOK σ1 y1 → va_P G vwCl (lawW k a b oL oD σ1 x1 σ1 y1 fo1 fd1) H1 → va_D A (lawW k a b oL oD σ1 x1 σ1 y1 fo1 fd1) → va_S A s.heap H1 locs1 → lv_has ls1 9 [(0, .ref bS), (1, .ref (b 0)), (2, .ref (a 0)), (3, .ref oL), (4, .ref oD), (5, .int (nI (4 * i9)))] → W p l e room_1 s m #[.ref bS] below meth c H1 locs1 (c0 + 5) (s0 + 12040) Q (F0 m 1794 ls1 [])) : W p l e room_1 s m #[.ref bS] below meth c H locs c0 s0 Q (F0 m 1457 ls []) := by
  obtain ⟨hx, hb, hml, hown, hts⟩ := id S
  have hl : lv_has ls 9 [(0, .ref bS), (1, .ref (b 0)), (2, .ref (a 0)), (3, .ref oL), (4, .ref oD), (5, .int (nI (4 * i9)))] := hl
  refine lv_aload_n hx hb dL_law_1457 rfl (lv_at hl 1 rfl) ?_
  refine lv_aload_n hx hb dL_law_1458 rfl (lv_at hl 0 rfl) ?_
  refine lv_iload hx hb dL_law_1459 (lv_at hl 5 rfl) ?_
  refine n_iconst 1 (by decide) hx hb dL_law_1461 ?_
  refine n_iadd hx hb dL_law_1462 ?_
  refine s_ld (i := (4 * i9) + 1) hx hb hX hbl hbA hS (by omega) (by omega) dL_law_1463 ?_
  refine lv_aload hx hb dL_law_1464 (lv_at hl 4 rfl) ?_
  refine bH_i (As := [.ref (b 0), .int (xs ((4 * i9) + 1)), .ref oD]) (wn := fun u : (Cx) × (Nat → UInt64) => lawW k a b oL oD σ u.1 σ y fo u.2) S hP hK hN hE hD hS hA (m_L_share l hst G k _ b σ x oD fd (xs ((4 * i9) + 1)) hok) gw_186 rfl rfl rfl hdl_186 rfl rfl pD (fun _ => pD.symm) rfl hl.1 rfl rfl ⟨(by show _ ≤ (601024 : Nat); omega), (by show _ ≤ (7293034 : Nat); omega)⟩ dL_law_1466 (fun rX u H locs hw hP hD hS => ?_)
  obtain ⟨x1, f1⟩ := u
  dsimp only at hw hP hD
  obtain ⟨rfl, ho1, hok1⟩ := hw
  refine lv_istore (lv' := [(6, .int (nI (e_fea σ (xs ((4 * i9) + 1))))), (0, .ref bS), (1, .ref (b 0)), (2, .ref (a 0)), (3, .ref oL), (4, .ref oD), (5, .int (nI (4 * i9)))]) hx hb dL_law_1469 hl (by decide) rfl (fun ls hl => ?_)
  refine lv_aload_n hx hb dL_law_1471 rfl (lv_at hl 3 rfl) ?_
  refine lv_aload_n hx hb dL_law_1472 rfl (lv_at hl 1 rfl) ?_
  refine lv_iload hx hb dL_law_1473 (lv_at hl 6 rfl) ?_
  refine n_iconst 1 (by decide) hx hb dL_law_1475 ?_
  refine n_iadd hx hb dL_law_1476 ?_
  refine s_ld (i := (4 * i9) + 1) hx hb hX hbl hbA hS (by omega) (by omega) dL_law_1477 ?_
  refine bV_d (As := [.int (xs ((4 * i9) + 1))]) (wn := fun u : Mx => lawW k a b oL oD σ x1 σ u fo f1) S hP hK hN hD hS hA (m_X7_share l G k _ a σ y (xs ((4 * i9) + 1)) hmk) gw_189 rfl rfl rfl hdl_189 rfl rfl pM (fun _ => pM.symm) 7 0 rfl rfl rfl rfl hl.1 rfl rfl ⟨(by show _ ≤ (601024 : Nat); omega), (by show _ ≤ (7293034 : Nat); omega)⟩ dL_law_1478 (fun rX u H locs hw hP hD hS => ?_)
  obtain ⟨y2, rfl⟩ : ∃ z, z = u := ⟨_, rfl⟩
  obtain ⟨v2, hq, hv2, hmk2, ht2⟩ := hw
  subst rX
  refine lv_dstore (lv' := [(7, .double v2), (6, .int (nI (e_fea σ (xs ((4 * i9) + 1))))), (0, .ref bS), (1, .ref (b 0)), (2, .ref (a 0)), (3, .ref oL), (4, .ref oD), (5, .int (nI (4 * i9)))]) hx hb dL_law_1481 hl (by decide) rfl (fun ls hl => ?_)
  refine lv_aload_n hx hb dL_law_1483 rfl (lv_at hl 4 rfl) ?_
  refine cV_i (As := []) S (P_l (P_perm pM hP)) hK hN (m_X7_thrown l G k _ _ _ _ _ _ _ _ _ _ _ _ _ _ _ _ _ _ _ _ _ _ _ _) gw_100 rfl rfl rfl hdl_100 rfl rfl [0] rfl 7 0 rfl rfl rfl rfl hl.1 rfl rfl ⟨(by show _ ≤ (601024 : Nat); omega), (by show _ ≤ (7293034 : Nat); omega)⟩ dL_law_1484 (fun rX hr => ?_)
  subst hr
  rw [ht2]
  refine lv_iload hx hb dL_law_1487 (lv_at hl 1 rfl) ?_
  refine lv_icmp_eq (tgt := 1494) hx hb dL_law_1489 (by decide) (fun q1489 => ?_) (fun q1489 => ?_)
  · skip
    refine lv_iload hx hb dL_law_1494 (lv_at hl 1 rfl) ?_
    refine lv_if_ne (tgt := 1531) hx hb dL_law_1496 (by decide) (fun q1496 => ?_) (fun q1496 => ?_)
    · skip
      refine lv_goto (tgt := 1794) hx hb dL_law_1531 (by decide) ?_
      refine W.widen (k := c0 + 5) (n := s0 + 12040) (by omega) (by omega) ?_
      exact kk _ _ _ _ _ _ _ _ hok1 hmk2 hP hD hS (lv_sub hl [2, 3, 4, 5, 6, 7] rfl)
    · skip
      have he := (nI_0' e_fea_lt).mp q1496
      refine lv_aload hx hb dL_law_1499 (lv_at hl 6 rfl) ?_
      refine n_iconst 0 (by decide) hx hb dL_law_1501 ?_
      refine d_dald hx hb hK hP 48 rfl (by decide) (by decide) dL_law_1502 ?_
      rw [ho1 he]
      refine lv_dload hx hb dL_law_1503 (lv_at hl 0 rfl) ?_
      rw [hv2 he]
      refine lv_dcmp hx hb dL_law_1505 ?_
      refine lv_if_eq (tgt := 1531) hx hb dL_law_1506 (by decide) (fun q1506 => ?_) (fun q1506 => ?_)
      · skip
        refine lv_goto (tgt := 1794) hx hb dL_law_1531 (by decide) ?_
        refine W.widen (k := c0 + 5) (n := s0 + 12040) (by omega) (by omega) ?_
        exact kk _ _ _ _ _ _ _ _ hok1 hmk2 hP hD hS (lv_sub hl [2, 3, 4, 5, 6, 7] rfl)
      · skip
        refine lv_aload hx hb dL_law_1509 (lv_at hl 6 rfl) ?_
        refine n_iconst 0 (by decide) hx hb dL_law_1511 ?_
        refine d_dald hx hb hK hP 48 rfl (by decide) (by decide) dL_law_1512 ?_
        rw [ho1 he]
        refine lv_aload hx hb dL_law_1513 (lv_at hl 6 rfl) ?_
        refine n_iconst 0 (by decide) hx hb dL_law_1515 ?_
        refine d_dald hx hb hK hP 48 rfl (by decide) (by decide) dL_law_1516 ?_
        rw [ho1 he]
        refine lv_dcmp hx hb dL_law_1517 ?_
        refine lv_if_eq (tgt := 1529) hx hb dL_law_1518 (by decide) (fun q1518 => ?_) (fun q1518 => ?_)
        · skip
          exact absurd q1518 q1506
        · skip
          refine lv_dload hx hb dL_law_1521 (lv_at hl 0 rfl) ?_
          rw [hv2 he]
          refine lv_dload hx hb dL_law_1523 (lv_at hl 0 rfl) ?_
          rw [hv2 he]
          refine lv_dcmp hx hb dL_law_1525 ?_
          refine lv_if_ne (tgt := 1531) hx hb dL_law_1526 (by decide) (fun q1526 => ?_) (fun q1526 => ?_)
          · skip
            refine lv_goto (tgt := 1794) hx hb dL_law_1531 (by decide) ?_
            refine W.widen (k := c0 + 5) (n := s0 + 12040) (by omega) (by omega) ?_
            exact kk _ _ _ _ _ _ _ _ hok1 hmk2 hP hD hS (lv_sub hl [2, 3, 4, 5, 6, 7] rfl)
          · skip
            exact absurd q1526 q1506
  · skip
    exact absurd rfl q1489
set_option maxHeartbeats 4000000 in
set_option maxRecDepth 100000 in
theorem law_c26 (S : CallFix p m c code 9 s #[.ref bS] lw_tbl RL) (hst : l.stackTraces = false) (hX : va_X bS L xs s s.heap) (hbl : bS < s.heap.size) (hbA : ¬ A bS) (hK : va_K G vwCl (tyG k) s) (hN : gN s) (hE : xE A s) (hA : ∀ q, s.heap.size ≤ q → A q) (hc0 : c0 + 5 ≤ 601024) (hs0 : s0 + 12040 ≤ 7293034) (hi9 : 4 * i9 + 4 ≤ L) (hL : L ≤ 2048)
    (hok : COK σ x) (hmk : MOK σ y) (hP : va_P G vwCl (lawW k a b oL oD σ x σ y fo fd) H) (hD : va_D A (lawW k a b oL oD σ x σ y fo fd)) (hS : va_S A s.heap H locs) (hl : lv_has ls 9 [(0, .ref bS), (1, .ref (b 0)), (2, .ref (a 0)), (3, .ref oL), (4, .ref oD), (5, .int (nI (4 * i9)))])
    (kk : ∀ (σ1 : Sg) (x1 : Cx) (y1 : Mx) (fo1 : Nat → Int64) (fd1 : Nat → UInt64) (H1 : Heap) (locs1 : List Loc) (ls1 : Array Slot), COK σ1 x1 → MOK σ1 y1 → va_P G vwCl (lawW k a b oL oD σ1 x1 σ1 y1 fo1 fd1) H1 → va_D A (lawW k a b oL oD σ1 x1 σ1 y1 fo1 fd1) → va_S A s.heap H1 locs1 → lv_has ls1 9 [(0, .ref bS), (1, .ref (b 0)), (2, .ref (a 0)), (3, .ref oL), (4, .ref oD), (5, .int (nI (4 * i9)))] → W p l e room_1 s m #[.ref bS] below meth c H1 locs1 (c0 + 5) (s0 + 12040) Q (F0 m 1794 ls1 [])) : W p l e room_1 s m #[.ref bS] below meth c H locs c0 s0 Q (F0 m 1534 ls []) := by
  obtain ⟨hx, hb, hml, hown, hts⟩ := id S
  have hl : lv_has ls 9 [(0, .ref bS), (1, .ref (b 0)), (2, .ref (a 0)), (3, .ref oL), (4, .ref oD), (5, .int (nI (4 * i9)))] := hl
  refine lv_aload_n hx hb dL_law_1534 rfl (lv_at hl 1 rfl) ?_
  refine bV_i (As := []) (wn := fun u : Cx => lawW k a b oL oD σ u σ y fo fd) S hP hK hN hD hS hA (m_X6_question l G k _ b σ x hok) gw_190 rfl rfl rfl hdl_190 rfl rfl pC (fun _ => pC.symm) 6 0 rfl rfl rfl rfl hl.1 rfl rfl ⟨(by show _ ≤ (601024 : Nat); omega), (by show _ ≤ (7293034 : Nat); omega)⟩ dL_law_1535 (fun rX u H locs hw hP hD hS => ?_)
  obtain ⟨x1, rfl⟩ : ∃ z, z = u := ⟨_, rfl⟩
  obtain ⟨v1, hq, cv1, hok1⟩ := hw
  subst rX
  refine lv_aload_n hx hb dL_law_1538 rfl (lv_at hl 2 rfl) ?_
  refine bV_i (As := []) (wn := fun u : Mx => lawW k a b oL oD σ x1 σ u fo fd) S hP hK hN hD hS hA (m_X7_question l G k _ a σ y  hmk) gw_193 rfl rfl rfl hdl_193 rfl rfl pM (fun _ => pM.symm) 7 0 rfl rfl rfl rfl hl.1 rfl rfl ⟨(by show _ ≤ (601024 : Nat); omega), (by show _ ≤ (7293034 : Nat); omega)⟩ dL_law_1539 (fun rX u H locs hw hP hD hS => ?_)
  obtain ⟨y2, rfl⟩ : ∃ z, z = u := ⟨_, rfl⟩
  obtain ⟨v2, hq, hv2, hmk2, ht2⟩ := hw
  subst rX
  refine lv_icmp_eq (tgt := 1794) hx hb dL_law_1542 (by decide) (fun q1542 => ?_) (fun q1542 => ?_)
  · skip
    refine W.widen (k := c0 + 5) (n := s0 + 12040) (by omega) (by omega) ?_
    exact kk _ _ _ _ _ _ _ _ hok1 hmk2 hP hD hS (lv_sub hl [0, 1, 2, 3, 4, 5] rfl)
  · skip
    exact absurd (by rw [cv1, hv2 rfl]) q1542
set_option maxHeartbeats 4000000 in
set_option maxRecDepth 100000 in
theorem law_c27 (S : CallFix p m c code 9 s #[.ref bS] lw_tbl RL) (hst : l.stackTraces = false) (hX : va_X bS L xs s s.heap) (hbl : bS < s.heap.size) (hbA : ¬ A bS) (hK : va_K G vwCl (tyG k) s) (hN : gN s) (hE : xE A s) (hA : ∀ q, s.heap.size ≤ q → A q) (hc0 : c0 + 5 ≤ 601024) (hs0 : s0 + 12040 ≤ 7293034) (hi9 : 4 * i9 + 4 ≤ L) (hL : L ≤ 2048)
    (hok : COK σ x) (hmk : MOK σ y) (hP : va_P G vwCl (lawW k a b oL oD σ x σ y fo fd) H) (hD : va_D A (lawW k a b oL oD σ x σ y fo fd)) (hS : va_S A s.heap H locs) (hl : lv_has ls 9 [(0, .ref bS), (1, .ref (b 0)), (2, .ref (a 0)), (3, .ref oL), (4, .ref oD), (5, .int (nI (4 * i9)))])
    (kk : ∀ (σ1 : Sg) (x1 : Cx) (y1 : Mx) (fo1 : Nat → Int64) (fd1 : Nat → UInt64) (H1 : Heap) (locs1 : List Loc) (ls1 : Array Slot), COK σ1 x1 → MOK σ1 y1 → va_P G vwCl (lawW k a b oL oD σ1 x1 σ1 y1 fo1 fd1) H1 → va_D A (lawW k a b oL oD σ1 x1 σ1 y1 fo1 fd1) → va_S A s.heap H1 locs1 → lv_has ls1 9 [(0, .ref bS), (1, .ref (b 0)), (2, .ref (a 0)), (3, .ref oL), (4, .ref oD), (5, .int (nI (4 * i9)))] → W p l e room_1 s m #[.ref bS] below meth c H1 locs1 (c0 + 5) (s0 + 12040) Q (F0 m 1794 ls1 [])) : W p l e room_1 s m #[.ref bS] below meth c H locs c0 s0 Q (F0 m 1547 ls []) := by
  obtain ⟨hx, hb, hml, hown, hts⟩ := id S
  have hl : lv_has ls 9 [(0, .ref bS), (1, .ref (b 0)), (2, .ref (a 0)), (3, .ref oL), (4, .ref oD), (5, .int (nI (4 * i9)))] := hl
  refine lv_aload_n hx hb dL_law_1547 rfl (lv_at hl 1 rfl) ?_
  refine bV_i (As := []) (wn := fun u : Cx => lawW k a b oL oD σ u σ y fo fd) S hP hK hN hD hS hA (m_X6_cheapest l G k _ b σ x hok) gw_194 rfl rfl rfl hdl_194 rfl rfl pC (fun _ => pC.symm) 6 0 rfl rfl rfl rfl hl.1 rfl rfl ⟨(by show _ ≤ (601024 : Nat); omega), (by show _ ≤ (7293034 : Nat); omega)⟩ dL_law_1548 (fun rX u H locs hw hP hD hS => ?_)
  obtain ⟨x1, rfl⟩ : ∃ z, z = u := ⟨_, rfl⟩
  obtain ⟨v1, hq, cv1, hok1⟩ := hw
  subst rX
  refine lv_aload_n hx hb dL_law_1551 rfl (lv_at hl 2 rfl) ?_
  refine bV_i (As := []) (wn := fun u : Mx => lawW k a b oL oD σ x1 σ u fo fd) S hP hK hN hD hS hA (m_X7_cheapest l G k _ a σ y  hmk) gw_197 rfl rfl rfl hdl_197 rfl rfl pM (fun _ => pM.symm) 7 0 rfl rfl rfl rfl hl.1 rfl rfl ⟨(by show _ ≤ (601024 : Nat); omega), (by show _ ≤ (7293034 : Nat); omega)⟩ dL_law_1552 (fun rX u H locs hw hP hD hS => ?_)
  obtain ⟨y2, rfl⟩ : ∃ z, z = u := ⟨_, rfl⟩
  obtain ⟨v2, hq, hv2, hmk2, ht2⟩ := hw
  subst rX
  refine lv_icmp_eq (tgt := 1794) hx hb dL_law_1555 (by decide) (fun q1555 => ?_) (fun q1555 => ?_)
  · skip
    refine W.widen (k := c0 + 5) (n := s0 + 12040) (by omega) (by omega) ?_
    exact kk _ _ _ _ _ _ _ _ hok1 hmk2 hP hD hS (lv_sub hl [0, 1, 2, 3, 4, 5] rfl)
  · skip
    exact absurd (by rw [cv1, hv2 rfl]) q1555
set_option maxHeartbeats 4000000 in
set_option maxRecDepth 100000 in
theorem law_c28 (S : CallFix p m c code 9 s #[.ref bS] lw_tbl RL) (hst : l.stackTraces = false) (hX : va_X bS L xs s s.heap) (hbl : bS < s.heap.size) (hbA : ¬ A bS) (hK : va_K G vwCl (tyG k) s) (hN : gN s) (hE : xE A s) (hA : ∀ q, s.heap.size ≤ q → A q) (hc0 : c0 + 5 ≤ 601024) (hs0 : s0 + 12040 ≤ 7293034) (hi9 : 4 * i9 + 4 ≤ L) (hL : L ≤ 2048)
    (hok : COK σ x) (hmk : MOK σ y) (hP : va_P G vwCl (lawW k a b oL oD σ x σ y fo fd) H) (hD : va_D A (lawW k a b oL oD σ x σ y fo fd)) (hS : va_S A s.heap H locs) (hl : lv_has ls 9 [(0, .ref bS), (1, .ref (b 0)), (2, .ref (a 0)), (3, .ref oL), (4, .ref oD), (5, .int (nI (4 * i9)))])
    (kk : ∀ (σ1 : Sg) (x1 : Cx) (y1 : Mx) (fo1 : Nat → Int64) (fd1 : Nat → UInt64) (H1 : Heap) (locs1 : List Loc) (ls1 : Array Slot), COK σ1 x1 → MOK σ1 y1 → va_P G vwCl (lawW k a b oL oD σ1 x1 σ1 y1 fo1 fd1) H1 → va_D A (lawW k a b oL oD σ1 x1 σ1 y1 fo1 fd1) → va_S A s.heap H1 locs1 → lv_has ls1 9 [(0, .ref bS), (1, .ref (b 0)), (2, .ref (a 0)), (3, .ref oL), (4, .ref oD), (5, .int (nI (4 * i9)))] → W p l e room_1 s m #[.ref bS] below meth c H1 locs1 (c0 + 5) (s0 + 12040) Q (F0 m 1794 ls1 [])) : W p l e room_1 s m #[.ref bS] below meth c H locs c0 s0 Q (F0 m 1560 ls []) := by
  obtain ⟨hx, hb, hml, hown, hts⟩ := id S
  have hl : lv_has ls 9 [(0, .ref bS), (1, .ref (b 0)), (2, .ref (a 0)), (3, .ref oL), (4, .ref oD), (5, .int (nI (4 * i9)))] := hl
  refine lv_aload_n hx hb dL_law_1560 rfl (lv_at hl 1 rfl) ?_
  refine bV_i (As := []) (wn := fun u : Cx => lawW k a b oL oD σ u σ y fo fd) S hP hK hN hD hS hA (m_X6_best l G k _ b σ x hok) gw_198 rfl rfl rfl hdl_198 rfl rfl pC (fun _ => pC.symm) 6 0 rfl rfl rfl rfl hl.1 rfl rfl ⟨(by show _ ≤ (601024 : Nat); omega), (by show _ ≤ (7293034 : Nat); omega)⟩ dL_law_1561 (fun rX u H locs hw hP hD hS => ?_)
  obtain ⟨x1, rfl⟩ : ∃ z, z = u := ⟨_, rfl⟩
  obtain ⟨v1, hq, cv1, hok1⟩ := hw
  subst rX
  refine lv_aload_n hx hb dL_law_1564 rfl (lv_at hl 2 rfl) ?_
  refine bV_i (As := []) (wn := fun u : Mx => lawW k a b oL oD σ x1 σ u fo fd) S hP hK hN hD hS hA (m_X7_best l G k _ a σ y  hmk) gw_201 rfl rfl rfl hdl_201 rfl rfl pM (fun _ => pM.symm) 7 0 rfl rfl rfl rfl hl.1 rfl rfl ⟨(by show _ ≤ (601024 : Nat); omega), (by show _ ≤ (7293034 : Nat); omega)⟩ dL_law_1565 (fun rX u H locs hw hP hD hS => ?_)
  obtain ⟨y2, rfl⟩ : ∃ z, z = u := ⟨_, rfl⟩
  obtain ⟨v2, hq, hv2, hmk2, ht2⟩ := hw
  subst rX
  refine lv_icmp_eq (tgt := 1794) hx hb dL_law_1568 (by decide) (fun q1568 => ?_) (fun q1568 => ?_)
  · skip
    refine W.widen (k := c0 + 5) (n := s0 + 12040) (by omega) (by omega) ?_
    exact kk _ _ _ _ _ _ _ _ hok1 hmk2 hP hD hS (lv_sub hl [0, 1, 2, 3, 4, 5] rfl)
  · skip
    exact absurd (by rw [cv1, hv2 rfl]) q1568
set_option maxHeartbeats 4000000 in
set_option maxRecDepth 100000 in
theorem law_c29 (S : CallFix p m c code 9 s #[.ref bS] lw_tbl RL) (hst : l.stackTraces = false) (hX : va_X bS L xs s s.heap) (hbl : bS < s.heap.size) (hbA : ¬ A bS) (hK : va_K G vwCl (tyG k) s) (hN : gN s) (hE : xE A s) (hA : ∀ q, s.heap.size ≤ q → A q) (hc0 : c0 + 5 ≤ 601024) (hs0 : s0 + 12040 ≤ 7293034) (hi9 : 4 * i9 + 4 ≤ L) (hL : L ≤ 2048)
    (hok : COK σ x) (hmk : MOK σ y) (hP : va_P G vwCl (lawW k a b oL oD σ x σ y fo fd) H) (hD : va_D A (lawW k a b oL oD σ x σ y fo fd)) (hS : va_S A s.heap H locs) (hl : lv_has ls 9 [(0, .ref bS), (1, .ref (b 0)), (2, .ref (a 0)), (3, .ref oL), (4, .ref oD), (5, .int (nI (4 * i9)))])
    (kk : ∀ (σ1 : Sg) (x1 : Cx) (y1 : Mx) (fo1 : Nat → Int64) (fd1 : Nat → UInt64) (H1 : Heap) (locs1 : List Loc) (ls1 : Array Slot), COK σ1 x1 → MOK σ1 y1 → va_P G vwCl (lawW k a b oL oD σ1 x1 σ1 y1 fo1 fd1) H1 → va_D A (lawW k a b oL oD σ1 x1 σ1 y1 fo1 fd1) → va_S A s.heap H1 locs1 → lv_has ls1 9 [(0, .ref bS), (1, .ref (b 0)), (2, .ref (a 0)), (3, .ref oL), (4, .ref oD), (5, .int (nI (4 * i9)))] → W p l e room_1 s m #[.ref bS] below meth c H1 locs1 (c0 + 5) (s0 + 12040) Q (F0 m 1794 ls1 [])) : W p l e room_1 s m #[.ref bS] below meth c H locs c0 s0 Q (F0 m 1573 ls []) := by
  obtain ⟨hx, hb, hml, hown, hts⟩ := id S
  have hl : lv_has ls 9 [(0, .ref bS), (1, .ref (b 0)), (2, .ref (a 0)), (3, .ref oL), (4, .ref oD), (5, .int (nI (4 * i9)))] := hl
  refine lv_aload_n hx hb dL_law_1573 rfl (lv_at hl 1 rfl) ?_
  refine bV_i (As := []) (wn := fun u : Cx => lawW k a b oL oD σ u σ y fo fd) S hP hK hN hD hS hA (m_X6_frontSize l G k _ b σ x hok) gw_202 rfl rfl rfl hdl_202 rfl rfl pC (fun _ => pC.symm) 6 0 rfl rfl rfl rfl hl.1 rfl rfl ⟨(by show _ ≤ (601024 : Nat); omega), (by show _ ≤ (7293034 : Nat); omega)⟩ dL_law_1574 (fun rX u H locs hw hP hD hS => ?_)
  obtain ⟨x1, rfl⟩ : ∃ z, z = u := ⟨_, rfl⟩
  obtain ⟨v1, hq, cv1, hok1⟩ := hw
  subst rX
  refine lv_aload_n hx hb dL_law_1577 rfl (lv_at hl 2 rfl) ?_
  refine bV_i (As := []) (wn := fun u : Mx => lawW k a b oL oD σ x1 σ u fo fd) S hP hK hN hD hS hA (m_X7_frontSize l G k _ a σ y  hmk) gw_205 rfl rfl rfl hdl_205 rfl rfl pM (fun _ => pM.symm) 7 0 rfl rfl rfl rfl hl.1 rfl rfl ⟨(by show _ ≤ (601024 : Nat); omega), (by show _ ≤ (7293034 : Nat); omega)⟩ dL_law_1578 (fun rX u H locs hw hP hD hS => ?_)
  obtain ⟨y2, rfl⟩ : ∃ z, z = u := ⟨_, rfl⟩
  obtain ⟨v2, hq, hv2, hmk2, ht2⟩ := hw
  subst rX
  refine lv_icmp_eq (tgt := 1794) hx hb dL_law_1581 (by decide) (fun q1581 => ?_) (fun q1581 => ?_)
  · skip
    refine W.widen (k := c0 + 5) (n := s0 + 12040) (by omega) (by omega) ?_
    exact kk _ _ _ _ _ _ _ _ hok1 hmk2 hP hD hS (lv_sub hl [0, 1, 2, 3, 4, 5] rfl)
  · skip
    exact absurd (by rw [cv1, hv2 rfl]) q1581
set_option maxHeartbeats 4000000 in
set_option maxRecDepth 100000 in
theorem law_c30 (S : CallFix p m c code 9 s #[.ref bS] lw_tbl RL) (hst : l.stackTraces = false) (hX : va_X bS L xs s s.heap) (hbl : bS < s.heap.size) (hbA : ¬ A bS) (hK : va_K G vwCl (tyG k) s) (hN : gN s) (hE : xE A s) (hA : ∀ q, s.heap.size ≤ q → A q) (hc0 : c0 + 5 ≤ 601024) (hs0 : s0 + 12040 ≤ 7293034) (hi9 : 4 * i9 + 4 ≤ L) (hL : L ≤ 2048)
    (hok : COK σ x) (hmk : MOK σ y) (hP : va_P G vwCl (lawW k a b oL oD σ x σ y fo fd) H) (hD : va_D A (lawW k a b oL oD σ x σ y fo fd)) (hS : va_S A s.heap H locs) (hl : lv_has ls 9 [(0, .ref bS), (1, .ref (b 0)), (2, .ref (a 0)), (3, .ref oL), (4, .ref oD), (5, .int (nI (4 * i9)))])
    (kk : ∀ (σ1 : Sg) (x1 : Cx) (y1 : Mx) (fo1 : Nat → Int64) (fd1 : Nat → UInt64) (H1 : Heap) (locs1 : List Loc) (ls1 : Array Slot), COK σ1 x1 → MOK σ1 y1 → va_P G vwCl (lawW k a b oL oD σ1 x1 σ1 y1 fo1 fd1) H1 → va_D A (lawW k a b oL oD σ1 x1 σ1 y1 fo1 fd1) → va_S A s.heap H1 locs1 → lv_has ls1 9 [(0, .ref bS), (1, .ref (b 0)), (2, .ref (a 0)), (3, .ref oL), (4, .ref oD), (5, .int (nI (4 * i9)))] → W p l e room_1 s m #[.ref bS] below meth c H1 locs1 (c0 + 5) (s0 + 12040) Q (F0 m 1794 ls1 [])) : W p l e room_1 s m #[.ref bS] below meth c H locs c0 s0 Q (F0 m 1586 ls []) := by
  obtain ⟨hx, hb, hml, hown, hts⟩ := id S
  have hl : lv_has ls 9 [(0, .ref bS), (1, .ref (b 0)), (2, .ref (a 0)), (3, .ref oL), (4, .ref oD), (5, .int (nI (4 * i9)))] := hl
  refine lv_aload_n hx hb dL_law_1586 rfl (lv_at hl 1 rfl) ?_
  refine lv_aload_n hx hb dL_law_1587 rfl (lv_at hl 0 rfl) ?_
  refine lv_iload hx hb dL_law_1588 (lv_at hl 5 rfl) ?_
  refine n_iconst 1 (by decide) hx hb dL_law_1590 ?_
  refine n_iadd hx hb dL_law_1591 ?_
  refine s_ld (i := (4 * i9) + 1) hx hb hX hbl hbA hS (by omega) (by omega) dL_law_1592 ?_
  refine lv_aload_n hx hb dL_law_1593 rfl (lv_at hl 3 rfl) ?_
  refine bH_i (As := [.ref (b 0), .int (xs ((4 * i9) + 1)), .ref oL]) (wn := fun u : (Cx) × (Nat → Int64) => lawW k a b oL oD σ u.1 σ y u.2 fd) S hP hK hN hE hD hS hA (m_L_front l hst G k _ b σ x oL fo (xs ((4 * i9) + 1)) hok) gw_206 rfl rfl rfl hdl_206 rfl rfl pL (fun _ => pL.symm) rfl hl.1 rfl rfl ⟨(by show _ ≤ (601024 : Nat); omega), (by show _ ≤ (7293034 : Nat); omega)⟩ dL_law_1594 (fun rX u H locs hw hP hD hS => ?_)
  obtain ⟨x1, f1⟩ := u
  dsimp only at hw hP hD
  obtain ⟨rfl, ho1, hok1⟩ := hw
  refine lv_istore (lv' := [(6, .int (nI (e_if (isF (xs ((4 * i9) + 1)) (cntF σ))))), (0, .ref bS), (1, .ref (b 0)), (2, .ref (a 0)), (3, .ref oL), (4, .ref oD), (5, .int (nI (4 * i9)))]) hx hb dL_law_1597 hl (by decide) rfl (fun ls hl => ?_)
  refine lv_aload_n hx hb dL_law_1599 rfl (lv_at hl 3 rfl) ?_
  refine lv_aload_n hx hb dL_law_1600 rfl (lv_at hl 1 rfl) ?_
  refine lv_iload hx hb dL_law_1601 (lv_at hl 6 rfl) ?_
  refine n_iconst 1 (by decide) hx hb dL_law_1603 ?_
  refine n_iadd hx hb dL_law_1604 ?_
  refine s_ld (i := (4 * i9) + 1) hx hb hX hbl hbA hS (by omega) (by omega) dL_law_1605 ?_
  refine bV_i (As := [.int (xs ((4 * i9) + 1))]) (wn := fun u : Mx => lawW k a b oL oD σ x1 σ u f1 fd) S hP hK hN hD hS hA (m_X7_front l G k _ a σ y (xs ((4 * i9) + 1)) hmk) gw_208 rfl rfl rfl hdl_208 rfl rfl pM (fun _ => pM.symm) 7 0 rfl rfl rfl rfl hl.1 rfl rfl ⟨(by show _ ≤ (601024 : Nat); omega), (by show _ ≤ (7293034 : Nat); omega)⟩ dL_law_1606 (fun rX u H locs hw hP hD hS => ?_)
  obtain ⟨y2, rfl⟩ : ∃ z, z = u := ⟨_, rfl⟩
  obtain ⟨v2, hq, hv2, hmk2, ht2⟩ := hw
  subst rX
  refine lv_istore (lv' := [(7, .int v2), (6, .int (nI (e_if (isF (xs ((4 * i9) + 1)) (cntF σ))))), (0, .ref bS), (1, .ref (b 0)), (2, .ref (a 0)), (3, .ref oL), (4, .ref oD), (5, .int (nI (4 * i9)))]) hx hb dL_law_1609 hl (by decide) rfl (fun ls hl => ?_)
  refine lv_aload_n hx hb dL_law_1611 rfl (lv_at hl 4 rfl) ?_
  refine cV_i (As := []) S (P_l (P_perm pM hP)) hK hN (m_X7_thrown l G k _ _ _ _ _ _ _ _ _ _ _ _ _ _ _ _ _ _ _ _ _ _ _ _) gw_100 rfl rfl rfl hdl_100 rfl rfl [0] rfl 7 0 rfl rfl rfl rfl hl.1 rfl rfl ⟨(by show _ ≤ (601024 : Nat); omega), (by show _ ≤ (7293034 : Nat); omega)⟩ dL_law_1612 (fun rX hr => ?_)
  subst hr
  rw [ht2]
  refine lv_iload hx hb dL_law_1615 (lv_at hl 1 rfl) ?_
  refine lv_icmp_eq (tgt := 1622) hx hb dL_law_1617 (by decide) (fun q1617 => ?_) (fun q1617 => ?_)
  · skip
    refine lv_iload hx hb dL_law_1622 (lv_at hl 1 rfl) ?_
    refine lv_if_ne (tgt := 1639) hx hb dL_law_1624 (by decide) (fun q1624 => ?_) (fun q1624 => ?_)
    · skip
      refine lv_goto (tgt := 1794) hx hb dL_law_1639 (by decide) ?_
      refine W.widen (k := c0 + 5) (n := s0 + 12040) (by omega) (by omega) ?_
      exact kk _ _ _ _ _ _ _ _ hok1 hmk2 hP hD hS (lv_sub hl [2, 3, 4, 5, 6, 7] rfl)
    · skip
      have he := (nI_0' e_if_lt).mp q1624
      refine lv_aload_n hx hb dL_law_1627 rfl (lv_at hl 5 rfl) ?_
      refine n_iconst 0 (by decide) hx hb dL_law_1628 ?_
      refine l_lald hx hb hK hP 47 rfl (by decide) (by decide) dL_law_1629 ?_
      refine lv_iload hx hb dL_law_1630 (lv_at hl 0 rfl) ?_
      refine lv_i2l (v := (v2).toInt64) hx hb dL_law_1632 rfl ?_
      refine W.lcmp hx hb dL_law_1633 ?_
      refine lv_if_eq (tgt := 1639) hx hb dL_law_1634 (by decide) (fun q1634 => ?_) (fun q1634 => ?_)
      · skip
        refine lv_goto (tgt := 1794) hx hb dL_law_1639 (by decide) ?_
        refine W.widen (k := c0 + 5) (n := s0 + 12040) (by omega) (by omega) ?_
        exact kk _ _ _ _ _ _ _ _ hok1 hmk2 hP hD hS (lv_sub hl [2, 3, 4, 5, 6, 7] rfl)
      · skip
        exact absurd (by rw [ho1 he, hv2 he]; exact lg_same _) q1634
  · skip
    exact absurd rfl q1617
set_option maxHeartbeats 4000000 in
set_option maxRecDepth 100000 in
theorem law_c31 (S : CallFix p m c code 9 s #[.ref bS] lw_tbl RL) (hst : l.stackTraces = false) (hX : va_X bS L xs s s.heap) (hbl : bS < s.heap.size) (hbA : ¬ A bS) (hK : va_K G vwCl (tyG k) s) (hN : gN s) (hE : xE A s) (hA : ∀ q, s.heap.size ≤ q → A q) (hc0 : c0 + 5 ≤ 601024) (hs0 : s0 + 12040 ≤ 7293034) (hi9 : 4 * i9 + 4 ≤ L) (hL : L ≤ 2048)
    (hok : COK σ x) (hmk : MOK σ y) (hP : va_P G vwCl (lawW k a b oL oD σ x σ y fo fd) H) (hD : va_D A (lawW k a b oL oD σ x σ y fo fd)) (hS : va_S A s.heap H locs) (hl : lv_has ls 9 [(0, .ref bS), (1, .ref (b 0)), (2, .ref (a 0)), (3, .ref oL), (4, .ref oD), (5, .int (nI (4 * i9)))])
    (kk : ∀ (σ1 : Sg) (x1 : Cx) (y1 : Mx) (fo1 : Nat → Int64) (fd1 : Nat → UInt64) (H1 : Heap) (locs1 : List Loc) (ls1 : Array Slot), COK σ1 x1 → MOK σ1 y1 → va_P G vwCl (lawW k a b oL oD σ1 x1 σ1 y1 fo1 fd1) H1 → va_D A (lawW k a b oL oD σ1 x1 σ1 y1 fo1 fd1) → va_S A s.heap H1 locs1 → lv_has ls1 9 [(0, .ref bS), (1, .ref (b 0)), (2, .ref (a 0)), (3, .ref oL), (4, .ref oD), (5, .int (nI (4 * i9)))] → W p l e room_1 s m #[.ref bS] below meth c H1 locs1 (c0 + 5) (s0 + 12040) Q (F0 m 1794 ls1 [])) : W p l e room_1 s m #[.ref bS] below meth c H locs c0 s0 Q (F0 m 1642 ls []) := by
  obtain ⟨hx, hb, hml, hown, hts⟩ := id S
  have hl : lv_has ls 9 [(0, .ref bS), (1, .ref (b 0)), (2, .ref (a 0)), (3, .ref oL), (4, .ref oD), (5, .int (nI (4 * i9)))] := hl
  refine lv_aload_n hx hb dL_law_1642 rfl (lv_at hl 1 rfl) ?_
  refine lv_aload_n hx hb dL_law_1643 rfl (lv_at hl 0 rfl) ?_
  refine lv_iload hx hb dL_law_1644 (lv_at hl 5 rfl) ?_
  refine n_iconst 1 (by decide) hx hb dL_law_1646 ?_
  refine n_iadd hx hb dL_law_1647 ?_
  refine s_ld (i := (4 * i9) + 1) hx hb hX hbl hbA hS (by omega) (by omega) dL_law_1648 ?_
  refine lv_aload_n hx hb dL_law_1649 rfl (lv_at hl 3 rfl) ?_
  refine bH_i (As := [.ref (b 0), .int (xs ((4 * i9) + 1)), .ref oL]) (wn := fun u : (Cx) × (Nat → Int64) => lawW k a b oL oD σ u.1 σ y u.2 fd) S hP hK hN hE hD hS hA (m_L_nearest l hst G k _ b σ x oL fo (xs ((4 * i9) + 1)) hok) gw_209 rfl rfl rfl hdl_209 rfl rfl pL (fun _ => pL.symm) rfl hl.1 rfl rfl ⟨(by show _ ≤ (601024 : Nat); omega), (by show _ ≤ (7293034 : Nat); omega)⟩ dL_law_1650 (fun rX u H locs hw hP hD hS => ?_)
  obtain ⟨x1, f1⟩ := u
  dsimp only at hw hP hD
  obtain ⟨rfl, ho1, hok1⟩ := hw
  refine lv_istore (lv' := [(6, .int (nI (e_cfg σ (xs ((4 * i9) + 1))))), (0, .ref bS), (1, .ref (b 0)), (2, .ref (a 0)), (3, .ref oL), (4, .ref oD), (5, .int (nI (4 * i9)))]) hx hb dL_law_1653 hl (by decide) rfl (fun ls hl => ?_)
  refine lv_aload_n hx hb dL_law_1655 rfl (lv_at hl 3 rfl) ?_
  refine lv_aload_n hx hb dL_law_1656 rfl (lv_at hl 1 rfl) ?_
  refine lv_iload hx hb dL_law_1657 (lv_at hl 6 rfl) ?_
  refine n_iconst 1 (by decide) hx hb dL_law_1659 ?_
  refine n_iadd hx hb dL_law_1660 ?_
  refine s_ld (i := (4 * i9) + 1) hx hb hX hbl hbA hS (by omega) (by omega) dL_law_1661 ?_
  refine bV_i (As := [.int (xs ((4 * i9) + 1))]) (wn := fun u : Mx => lawW k a b oL oD σ x1 σ u f1 fd) S hP hK hN hD hS hA (m_X7_nearest l G k _ a σ y (xs ((4 * i9) + 1)) hmk) gw_211 rfl rfl rfl hdl_211 rfl rfl pM (fun _ => pM.symm) 7 0 rfl rfl rfl rfl hl.1 rfl rfl ⟨(by show _ ≤ (601024 : Nat); omega), (by show _ ≤ (7293034 : Nat); omega)⟩ dL_law_1662 (fun rX u H locs hw hP hD hS => ?_)
  obtain ⟨y2, rfl⟩ : ∃ z, z = u := ⟨_, rfl⟩
  obtain ⟨v2, hq, hv2, hmk2, ht2⟩ := hw
  subst rX
  refine lv_istore (lv' := [(7, .int v2), (6, .int (nI (e_cfg σ (xs ((4 * i9) + 1))))), (0, .ref bS), (1, .ref (b 0)), (2, .ref (a 0)), (3, .ref oL), (4, .ref oD), (5, .int (nI (4 * i9)))]) hx hb dL_law_1665 hl (by decide) rfl (fun ls hl => ?_)
  refine lv_aload_n hx hb dL_law_1667 rfl (lv_at hl 4 rfl) ?_
  refine cV_i (As := []) S (P_l (P_perm pM hP)) hK hN (m_X7_thrown l G k _ _ _ _ _ _ _ _ _ _ _ _ _ _ _ _ _ _ _ _ _ _ _ _) gw_100 rfl rfl rfl hdl_100 rfl rfl [0] rfl 7 0 rfl rfl rfl rfl hl.1 rfl rfl ⟨(by show _ ≤ (601024 : Nat); omega), (by show _ ≤ (7293034 : Nat); omega)⟩ dL_law_1668 (fun rX hr => ?_)
  subst hr
  rw [ht2]
  refine lv_iload hx hb dL_law_1671 (lv_at hl 1 rfl) ?_
  refine lv_icmp_eq (tgt := 1678) hx hb dL_law_1673 (by decide) (fun q1673 => ?_) (fun q1673 => ?_)
  · skip
    refine lv_iload hx hb dL_law_1678 (lv_at hl 1 rfl) ?_
    refine lv_if_ne (tgt := 1695) hx hb dL_law_1680 (by decide) (fun q1680 => ?_) (fun q1680 => ?_)
    · skip
      refine lv_goto (tgt := 1794) hx hb dL_law_1695 (by decide) ?_
      refine W.widen (k := c0 + 5) (n := s0 + 12040) (by omega) (by omega) ?_
      exact kk _ _ _ _ _ _ _ _ hok1 hmk2 hP hD hS (lv_sub hl [2, 3, 4, 5, 6, 7] rfl)
    · skip
      have he := (nI_0' e_cfg_lt).mp q1680
      refine lv_aload_n hx hb dL_law_1683 rfl (lv_at hl 5 rfl) ?_
      refine n_iconst 0 (by decide) hx hb dL_law_1684 ?_
      refine l_lald hx hb hK hP 47 rfl (by decide) (by decide) dL_law_1685 ?_
      refine lv_iload hx hb dL_law_1686 (lv_at hl 0 rfl) ?_
      refine lv_i2l (v := (v2).toInt64) hx hb dL_law_1688 rfl ?_
      refine W.lcmp hx hb dL_law_1689 ?_
      refine lv_if_eq (tgt := 1695) hx hb dL_law_1690 (by decide) (fun q1690 => ?_) (fun q1690 => ?_)
      · skip
        refine lv_goto (tgt := 1794) hx hb dL_law_1695 (by decide) ?_
        refine W.widen (k := c0 + 5) (n := s0 + 12040) (by omega) (by omega) ?_
        exact kk _ _ _ _ _ _ _ _ hok1 hmk2 hP hD hS (lv_sub hl [2, 3, 4, 5, 6, 7] rfl)
      · skip
        exact absurd (by rw [ho1 he, hv2 he]; exact lg_same _) q1690
  · skip
    exact absurd rfl q1673
set_option maxHeartbeats 4000000 in
set_option maxRecDepth 100000 in
theorem law_c32 (S : CallFix p m c code 9 s #[.ref bS] lw_tbl RL) (hst : l.stackTraces = false) (hX : va_X bS L xs s s.heap) (hbl : bS < s.heap.size) (hbA : ¬ A bS) (hK : va_K G vwCl (tyG k) s) (hN : gN s) (hE : xE A s) (hA : ∀ q, s.heap.size ≤ q → A q) (hc0 : c0 + 5 ≤ 601024) (hs0 : s0 + 12040 ≤ 7293034) (hi9 : 4 * i9 + 4 ≤ L) (hL : L ≤ 2048)
    (hok : COK σ x) (hmk : MOK σ y) (hP : va_P G vwCl (lawW k a b oL oD σ x σ y fo fd) H) (hD : va_D A (lawW k a b oL oD σ x σ y fo fd)) (hS : va_S A s.heap H locs) (hl : lv_has ls 9 [(0, .ref bS), (1, .ref (b 0)), (2, .ref (a 0)), (3, .ref oL), (4, .ref oD), (5, .int (nI (4 * i9)))])
    (kk : ∀ (σ1 : Sg) (x1 : Cx) (y1 : Mx) (fo1 : Nat → Int64) (fd1 : Nat → UInt64) (H1 : Heap) (locs1 : List Loc) (ls1 : Array Slot), COK σ1 x1 → MOK σ1 y1 → va_P G vwCl (lawW k a b oL oD σ1 x1 σ1 y1 fo1 fd1) H1 → va_D A (lawW k a b oL oD σ1 x1 σ1 y1 fo1 fd1) → va_S A s.heap H1 locs1 → lv_has ls1 9 [(0, .ref bS), (1, .ref (b 0)), (2, .ref (a 0)), (3, .ref oL), (4, .ref oD), (5, .int (nI (4 * i9)))] → W p l e room_1 s m #[.ref bS] below meth c H1 locs1 (c0 + 5) (s0 + 12040) Q (F0 m 1794 ls1 [])) : W p l e room_1 s m #[.ref bS] below meth c H locs c0 s0 Q (F0 m 1698 ls []) := by
  obtain ⟨hx, hb, hml, hown, hts⟩ := id S
  have hl : lv_has ls 9 [(0, .ref bS), (1, .ref (b 0)), (2, .ref (a 0)), (3, .ref oL), (4, .ref oD), (5, .int (nI (4 * i9)))] := hl
  refine lv_aload_n hx hb dL_law_1698 rfl (lv_at hl 1 rfl) ?_
  refine bV_i (As := []) (wn := fun u : Cx => lawW k a b oL oD σ u σ y fo fd) S hP hK hN hD hS hA (m_X6_pairCount l G k _ b σ x hok) gw_212 rfl rfl rfl hdl_212 rfl rfl pC (fun _ => pC.symm) 6 0 rfl rfl rfl rfl hl.1 rfl rfl ⟨(by show _ ≤ (601024 : Nat); omega), (by show _ ≤ (7293034 : Nat); omega)⟩ dL_law_1699 (fun rX u H locs hw hP hD hS => ?_)
  obtain ⟨x1, rfl⟩ : ∃ z, z = u := ⟨_, rfl⟩
  obtain ⟨v1, hq, cv1, hok1⟩ := hw
  subst rX
  refine lv_aload_n hx hb dL_law_1702 rfl (lv_at hl 2 rfl) ?_
  refine bV_i (As := []) (wn := fun u : Mx => lawW k a b oL oD σ x1 σ u fo fd) S hP hK hN hD hS hA (m_X7_pairCount l G k _ a σ y  hmk) gw_215 rfl rfl rfl hdl_215 rfl rfl pM (fun _ => pM.symm) 7 0 rfl rfl rfl rfl hl.1 rfl rfl ⟨(by show _ ≤ (601024 : Nat); omega), (by show _ ≤ (7293034 : Nat); omega)⟩ dL_law_1703 (fun rX u H locs hw hP hD hS => ?_)
  obtain ⟨y2, rfl⟩ : ∃ z, z = u := ⟨_, rfl⟩
  obtain ⟨v2, hq, hv2, hmk2, ht2⟩ := hw
  subst rX
  refine lv_icmp_eq (tgt := 1794) hx hb dL_law_1706 (by decide) (fun q1706 => ?_) (fun q1706 => ?_)
  · skip
    refine W.widen (k := c0 + 5) (n := s0 + 12040) (by omega) (by omega) ?_
    exact kk _ _ _ _ _ _ _ _ hok1 hmk2 hP hD hS (lv_sub hl [0, 1, 2, 3, 4, 5] rfl)
  · skip
    exact absurd (by rw [cv1, hv2 rfl]) q1706
set_option maxHeartbeats 4000000 in
set_option maxRecDepth 100000 in
theorem law_c33 (S : CallFix p m c code 9 s #[.ref bS] lw_tbl RL) (hst : l.stackTraces = false) (hX : va_X bS L xs s s.heap) (hbl : bS < s.heap.size) (hbA : ¬ A bS) (hK : va_K G vwCl (tyG k) s) (hN : gN s) (hE : xE A s) (hA : ∀ q, s.heap.size ≤ q → A q) (hc0 : c0 + 5 ≤ 601024) (hs0 : s0 + 12040 ≤ 7293034) (hi9 : 4 * i9 + 4 ≤ L) (hL : L ≤ 2048)
    (hok : COK σ x) (hmk : MOK σ y) (hP : va_P G vwCl (lawW k a b oL oD σ x σ y fo fd) H) (hD : va_D A (lawW k a b oL oD σ x σ y fo fd)) (hS : va_S A s.heap H locs) (hl : lv_has ls 9 [(0, .ref bS), (1, .ref (b 0)), (2, .ref (a 0)), (3, .ref oL), (4, .ref oD), (5, .int (nI (4 * i9)))])
    (kk : ∀ (σ1 : Sg) (x1 : Cx) (y1 : Mx) (fo1 : Nat → Int64) (fd1 : Nat → UInt64) (H1 : Heap) (locs1 : List Loc) (ls1 : Array Slot), COK σ1 x1 → MOK σ1 y1 → va_P G vwCl (lawW k a b oL oD σ1 x1 σ1 y1 fo1 fd1) H1 → va_D A (lawW k a b oL oD σ1 x1 σ1 y1 fo1 fd1) → va_S A s.heap H1 locs1 → lv_has ls1 9 [(0, .ref bS), (1, .ref (b 0)), (2, .ref (a 0)), (3, .ref oL), (4, .ref oD), (5, .int (nI (4 * i9)))] → W p l e room_1 s m #[.ref bS] below meth c H1 locs1 (c0 + 5) (s0 + 12040) Q (F0 m 1794 ls1 [])) : W p l e room_1 s m #[.ref bS] below meth c H locs c0 s0 Q (F0 m 1711 ls []) := by
  obtain ⟨hx, hb, hml, hown, hts⟩ := id S
  have hl : lv_has ls 9 [(0, .ref bS), (1, .ref (b 0)), (2, .ref (a 0)), (3, .ref oL), (4, .ref oD), (5, .int (nI (4 * i9)))] := hl
  refine lv_aload_n hx hb dL_law_1711 rfl (lv_at hl 1 rfl) ?_
  refine bV_i (As := []) (wn := fun u : Cx => lawW k a b oL oD σ u σ y fo fd) S hP hK hN hD hS hA (m_X6_sampleSize l G k _ b σ x hok) gw_216 rfl rfl rfl hdl_216 rfl rfl pC (fun _ => pC.symm) 6 0 rfl rfl rfl rfl hl.1 rfl rfl ⟨(by show _ ≤ (601024 : Nat); omega), (by show _ ≤ (7293034 : Nat); omega)⟩ dL_law_1712 (fun rX u H locs hw hP hD hS => ?_)
  obtain ⟨x1, rfl⟩ : ∃ z, z = u := ⟨_, rfl⟩
  obtain ⟨v1, hq, cv1, hok1⟩ := hw
  subst rX
  refine lv_aload_n hx hb dL_law_1715 rfl (lv_at hl 2 rfl) ?_
  refine bV_i (As := []) (wn := fun u : Mx => lawW k a b oL oD σ x1 σ u fo fd) S hP hK hN hD hS hA (m_X7_sampleSize l G k _ a σ y  hmk) gw_219 rfl rfl rfl hdl_219 rfl rfl pM (fun _ => pM.symm) 7 0 rfl rfl rfl rfl hl.1 rfl rfl ⟨(by show _ ≤ (601024 : Nat); omega), (by show _ ≤ (7293034 : Nat); omega)⟩ dL_law_1716 (fun rX u H locs hw hP hD hS => ?_)
  obtain ⟨y2, rfl⟩ : ∃ z, z = u := ⟨_, rfl⟩
  obtain ⟨v2, hq, hv2, hmk2, ht2⟩ := hw
  subst rX
  refine lv_icmp_eq (tgt := 1794) hx hb dL_law_1719 (by decide) (fun q1719 => ?_) (fun q1719 => ?_)
  · skip
    refine W.widen (k := c0 + 5) (n := s0 + 12040) (by omega) (by omega) ?_
    exact kk _ _ _ _ _ _ _ _ hok1 hmk2 hP hD hS (lv_sub hl [0, 1, 2, 3, 4, 5] rfl)
  · skip
    exact absurd (by rw [cv1, hv2 rfl]) q1719
set_option maxHeartbeats 4000000 in
set_option maxRecDepth 100000 in
theorem law_c34 (S : CallFix p m c code 9 s #[.ref bS] lw_tbl RL) (hst : l.stackTraces = false) (hX : va_X bS L xs s s.heap) (hbl : bS < s.heap.size) (hbA : ¬ A bS) (hK : va_K G vwCl (tyG k) s) (hN : gN s) (hE : xE A s) (hA : ∀ q, s.heap.size ≤ q → A q) (hc0 : c0 + 5 ≤ 601024) (hs0 : s0 + 12040 ≤ 7293034) (hi9 : 4 * i9 + 4 ≤ L) (hL : L ≤ 2048)
    (hok : COK σ x) (hmk : MOK σ y) (hP : va_P G vwCl (lawW k a b oL oD σ x σ y fo fd) H) (hD : va_D A (lawW k a b oL oD σ x σ y fo fd)) (hS : va_S A s.heap H locs) (hl : lv_has ls 9 [(0, .ref bS), (1, .ref (b 0)), (2, .ref (a 0)), (3, .ref oL), (4, .ref oD), (5, .int (nI (4 * i9)))])
    (kk : ∀ (σ1 : Sg) (x1 : Cx) (y1 : Mx) (fo1 : Nat → Int64) (fd1 : Nat → UInt64) (H1 : Heap) (locs1 : List Loc) (ls1 : Array Slot), COK σ1 x1 → MOK σ1 y1 → va_P G vwCl (lawW k a b oL oD σ1 x1 σ1 y1 fo1 fd1) H1 → va_D A (lawW k a b oL oD σ1 x1 σ1 y1 fo1 fd1) → va_S A s.heap H1 locs1 → lv_has ls1 9 [(0, .ref bS), (1, .ref (b 0)), (2, .ref (a 0)), (3, .ref oL), (4, .ref oD), (5, .int (nI (4 * i9)))] → W p l e room_1 s m #[.ref bS] below meth c H1 locs1 (c0 + 5) (s0 + 12040) Q (F0 m 1794 ls1 [])) : W p l e room_1 s m #[.ref bS] below meth c H locs c0 s0 Q (F0 m 1724 ls []) := by
  obtain ⟨hx, hb, hml, hown, hts⟩ := id S
  have hl : lv_has ls 9 [(0, .ref bS), (1, .ref (b 0)), (2, .ref (a 0)), (3, .ref oL), (4, .ref oD), (5, .int (nI (4 * i9)))] := hl
  refine lv_aload_n hx hb dL_law_1724 rfl (lv_at hl 1 rfl) ?_
  refine lv_aload_n hx hb dL_law_1725 rfl (lv_at hl 0 rfl) ?_
  refine lv_iload hx hb dL_law_1726 (lv_at hl 5 rfl) ?_
  refine n_iconst 1 (by decide) hx hb dL_law_1728 ?_
  refine n_iadd hx hb dL_law_1729 ?_
  refine s_ld (i := (4 * i9) + 1) hx hb hX hbl hbA hS (by omega) (by omega) dL_law_1730 ?_
  refine lv_aload_n hx hb dL_law_1731 rfl (lv_at hl 3 rfl) ?_
  refine bH_i (As := [.ref (b 0), .int (xs ((4 * i9) + 1)), .ref oL]) (wn := fun u : (Cx) × (Nat → Int64) => lawW k a b oL oD σ u.1 σ y u.2 fd) S hP hK hN hE hD hS hA (m_L_sample l hst G k _ b σ x oL fo (xs ((4 * i9) + 1)) hok) gw_220 rfl rfl rfl hdl_220 rfl rfl pL (fun _ => pL.symm) rfl hl.1 rfl rfl ⟨(by show _ ≤ (601024 : Nat); omega), (by show _ ≤ (7293034 : Nat); omega)⟩ dL_law_1732 (fun rX u H locs hw hP hD hS => ?_)
  obtain ⟨x1, f1⟩ := u
  dsimp only at hw hP hD
  obtain ⟨rfl, ho1, hok1⟩ := hw
  refine lv_istore (lv' := [(6, .int (nI (e_if (isF (xs ((4 * i9) + 1)) (smC σ))))), (0, .ref bS), (1, .ref (b 0)), (2, .ref (a 0)), (3, .ref oL), (4, .ref oD), (5, .int (nI (4 * i9)))]) hx hb dL_law_1735 hl (by decide) rfl (fun ls hl => ?_)
  refine lv_aload_n hx hb dL_law_1737 rfl (lv_at hl 3 rfl) ?_
  refine lv_aload_n hx hb dL_law_1738 rfl (lv_at hl 1 rfl) ?_
  refine lv_iload hx hb dL_law_1739 (lv_at hl 6 rfl) ?_
  refine n_iconst 1 (by decide) hx hb dL_law_1741 ?_
  refine n_iadd hx hb dL_law_1742 ?_
  refine s_ld (i := (4 * i9) + 1) hx hb hX hbl hbA hS (by omega) (by omega) dL_law_1743 ?_
  refine bV_i (As := [.int (xs ((4 * i9) + 1))]) (wn := fun u : Mx => lawW k a b oL oD σ x1 σ u f1 fd) S hP hK hN hD hS hA (m_X7_sample l G k _ a σ y (xs ((4 * i9) + 1)) hmk) gw_222 rfl rfl rfl hdl_222 rfl rfl pM (fun _ => pM.symm) 7 0 rfl rfl rfl rfl hl.1 rfl rfl ⟨(by show _ ≤ (601024 : Nat); omega), (by show _ ≤ (7293034 : Nat); omega)⟩ dL_law_1744 (fun rX u H locs hw hP hD hS => ?_)
  obtain ⟨y2, rfl⟩ : ∃ z, z = u := ⟨_, rfl⟩
  obtain ⟨v2, hq, hv2, hmk2, ht2⟩ := hw
  subst rX
  refine lv_istore (lv' := [(7, .int v2), (6, .int (nI (e_if (isF (xs ((4 * i9) + 1)) (smC σ))))), (0, .ref bS), (1, .ref (b 0)), (2, .ref (a 0)), (3, .ref oL), (4, .ref oD), (5, .int (nI (4 * i9)))]) hx hb dL_law_1747 hl (by decide) rfl (fun ls hl => ?_)
  refine lv_aload_n hx hb dL_law_1749 rfl (lv_at hl 4 rfl) ?_
  refine cV_i (As := []) S (P_l (P_perm pM hP)) hK hN (m_X7_thrown l G k _ _ _ _ _ _ _ _ _ _ _ _ _ _ _ _ _ _ _ _ _ _ _ _) gw_100 rfl rfl rfl hdl_100 rfl rfl [0] rfl 7 0 rfl rfl rfl rfl hl.1 rfl rfl ⟨(by show _ ≤ (601024 : Nat); omega), (by show _ ≤ (7293034 : Nat); omega)⟩ dL_law_1750 (fun rX hr => ?_)
  subst hr
  rw [ht2]
  refine lv_iload hx hb dL_law_1753 (lv_at hl 1 rfl) ?_
  refine lv_icmp_eq (tgt := 1760) hx hb dL_law_1755 (by decide) (fun q1755 => ?_) (fun q1755 => ?_)
  · skip
    refine lv_iload hx hb dL_law_1760 (lv_at hl 1 rfl) ?_
    refine lv_if_ne (tgt := 1777) hx hb dL_law_1762 (by decide) (fun q1762 => ?_) (fun q1762 => ?_)
    · skip
      refine lv_goto (tgt := 1794) hx hb dL_law_1777 (by decide) ?_
      refine W.widen (k := c0 + 5) (n := s0 + 12040) (by omega) (by omega) ?_
      exact kk _ _ _ _ _ _ _ _ hok1 hmk2 hP hD hS (lv_sub hl [2, 3, 4, 5, 6, 7] rfl)
    · skip
      have he := (nI_0' e_if_lt).mp q1762
      refine lv_aload_n hx hb dL_law_1765 rfl (lv_at hl 5 rfl) ?_
      refine n_iconst 0 (by decide) hx hb dL_law_1766 ?_
      refine l_lald hx hb hK hP 47 rfl (by decide) (by decide) dL_law_1767 ?_
      refine lv_iload hx hb dL_law_1768 (lv_at hl 0 rfl) ?_
      refine lv_i2l (v := (v2).toInt64) hx hb dL_law_1770 rfl ?_
      refine W.lcmp hx hb dL_law_1771 ?_
      refine lv_if_eq (tgt := 1777) hx hb dL_law_1772 (by decide) (fun q1772 => ?_) (fun q1772 => ?_)
      · skip
        refine lv_goto (tgt := 1794) hx hb dL_law_1777 (by decide) ?_
        refine W.widen (k := c0 + 5) (n := s0 + 12040) (by omega) (by omega) ?_
        exact kk _ _ _ _ _ _ _ _ hok1 hmk2 hP hD hS (lv_sub hl [2, 3, 4, 5, 6, 7] rfl)
      · skip
        exact absurd (by rw [ho1 he, hv2 he]; exact lg_same _) q1772
  · skip
    exact absurd rfl q1755
set_option maxHeartbeats 4000000 in
set_option maxRecDepth 100000 in
theorem law_c35 (S : CallFix p m c code 9 s #[.ref bS] lw_tbl RL) (hst : l.stackTraces = false) (hX : va_X bS L xs s s.heap) (hbl : bS < s.heap.size) (hbA : ¬ A bS) (hK : va_K G vwCl (tyG k) s) (hN : gN s) (hE : xE A s) (hA : ∀ q, s.heap.size ≤ q → A q) (hc0 : c0 + 5 ≤ 601024) (hs0 : s0 + 12040 ≤ 7293034) (hi9 : 4 * i9 + 4 ≤ L) (hL : L ≤ 2048)
    (hok : COK σ x) (hmk : MOK σ y) (hP : va_P G vwCl (lawW k a b oL oD σ x σ y fo fd) H) (hD : va_D A (lawW k a b oL oD σ x σ y fo fd)) (hS : va_S A s.heap H locs) (hl : lv_has ls 9 [(0, .ref bS), (1, .ref (b 0)), (2, .ref (a 0)), (3, .ref oL), (4, .ref oD), (5, .int (nI (4 * i9)))])
    (kk : ∀ (σ1 : Sg) (x1 : Cx) (y1 : Mx) (fo1 : Nat → Int64) (fd1 : Nat → UInt64) (H1 : Heap) (locs1 : List Loc) (ls1 : Array Slot), COK σ1 x1 → MOK σ1 y1 → va_P G vwCl (lawW k a b oL oD σ1 x1 σ1 y1 fo1 fd1) H1 → va_D A (lawW k a b oL oD σ1 x1 σ1 y1 fo1 fd1) → va_S A s.heap H1 locs1 → lv_has ls1 9 [(0, .ref bS), (1, .ref (b 0)), (2, .ref (a 0)), (3, .ref oL), (4, .ref oD), (5, .int (nI (4 * i9)))] → W p l e room_1 s m #[.ref bS] below meth c H1 locs1 (c0 + 5) (s0 + 12040) Q (F0 m 1794 ls1 [])) : W p l e room_1 s m #[.ref bS] below meth c H locs c0 s0 Q (F0 m 1780 ls []) := by
  obtain ⟨hx, hb, hml, hown, hts⟩ := id S
  have hl : lv_has ls 9 [(0, .ref bS), (1, .ref (b 0)), (2, .ref (a 0)), (3, .ref oL), (4, .ref oD), (5, .int (nI (4 * i9)))] := hl
  refine lv_aload_n hx hb dL_law_1780 rfl (lv_at hl 1 rfl) ?_
  refine bV_l (As := []) (wn := fun u : Cx => lawW k a b oL oD σ u σ y fo fd) S hP hK hN hD hS hA (m_X6_digest l G k _ b σ x hok) gw_223 rfl rfl rfl hdl_223 rfl rfl pC (fun _ => pC.symm) 6 0 rfl rfl rfl rfl hl.1 rfl rfl ⟨(by show _ ≤ (601024 : Nat); omega), (by show _ ≤ (7293034 : Nat); omega)⟩ dL_law_1781 (fun rX u H locs hw hP hD hS => ?_)
  obtain ⟨x1, rfl⟩ : ∃ z, z = u := ⟨_, rfl⟩
  obtain ⟨v1, hq, cv1, hok1⟩ := hw
  subst rX
  refine lv_aload_n hx hb dL_law_1784 rfl (lv_at hl 2 rfl) ?_
  refine bV_l (As := []) (wn := fun u : Mx => lawW k a b oL oD σ x1 σ u fo fd) S hP hK hN hD hS hA (m_X7_digest l G k _ a σ y  hmk) gw_227 rfl rfl rfl hdl_227 rfl rfl pM (fun _ => pM.symm) 7 0 rfl rfl rfl rfl hl.1 rfl rfl ⟨(by show _ ≤ (601024 : Nat); omega), (by show _ ≤ (7293034 : Nat); omega)⟩ dL_law_1785 (fun rX u H locs hw hP hD hS => ?_)
  obtain ⟨y2, rfl⟩ : ∃ z, z = u := ⟨_, rfl⟩
  obtain ⟨v2, hq, hv2, hmk2, ht2⟩ := hw
  subst rX
  refine W.lcmp hx hb dL_law_1788 ?_
  refine lv_if_eq (tgt := 1794) hx hb dL_law_1789 (by decide) (fun q1789 => ?_) (fun q1789 => ?_)
  · skip
    refine W.widen (k := c0 + 5) (n := s0 + 12040) (by omega) (by omega) ?_
    exact kk _ _ _ _ _ _ _ _ hok1 hmk2 hP hD hS (lv_sub hl [0, 1, 2, 3, 4, 5] rfl)
  · skip
    exact absurd (by rw [cv1, hv2 rfl]; exact lg_same _) q1789
end LCASES2
