section LCASES1
variable {p : Program} {l : Launch} {e : Env} {s : State} {m : MethodId} {below : List Frame} {meth : Method} {c : Code} {Q : State → Prop} {A : Nat → Prop} {G : va_G} {k : Nat → ClassId} {bS L : Nat} {xs : Nat → Int32} {a b : Nat → Nat} {oL oD : Nat} {H : Heap} {locs : List Loc} {ls : Array Slot} {c0 s0 i9 : Nat} {σ : Sg} {x : Cx} {y : Mx} {fo : Nat → Int64} {fd : Nat → UInt64}
set_option maxHeartbeats 4000000 in
set_option maxRecDepth 100000 in
theorem law_c12 (S : CallFix p m c code 9 s #[.ref bS] lw_tbl RL) (hst : l.stackTraces = false) (hX : va_X bS L xs s s.heap) (hbl : bS < s.heap.size) (hbA : ¬ A bS) (hK : va_K G vwCl (tyG k) s) (hN : gN s) (hE : xE A s) (hA : ∀ q, s.heap.size ≤ q → A q) (hc0 : c0 + 5 ≤ 601024) (hs0 : s0 + 12040 ≤ 7293034) (hi9 : 4 * i9 + 4 ≤ L) (hL : L ≤ 2048)
    (hok : COK σ x) (hmk : MOK σ y) (hP : va_P G vwCl (lawW k a b oL oD σ x σ y fo fd) H) (hD : va_D A (lawW k a b oL oD σ x σ y fo fd)) (hS : va_S A s.heap H locs) (hl : lv_has ls 9 [(0, .ref bS), (1, .ref (b 0)), (2, .ref (a 0)), (3, .ref oL), (4, .ref oD), (5, .int (nI (4 * i9)))])
    (kk : ∀ (σ1 : Sg) (x1 : Cx) (y1 : Mx) (fo1 : Nat → Int64) (fd1 : Nat → UInt64) (H1 : Heap) (locs1 : List Loc) (ls1 : Array Slot), COK σ1 x1 → MOK σ1 y1 → va_P G vwCl (lawW k a b oL oD σ1 x1 σ1 y1 fo1 fd1) H1 → va_D A (lawW k a b oL oD σ1 x1 σ1 y1 fo1 fd1) → va_S A s.heap H1 locs1 → lv_has ls1 9 [(0, .ref bS), (1, .ref (b 0)), (2, .ref (a 0)), (3, .ref oL), (4, .ref oD), (5, .int (nI (4 * i9)))] → W p l e room_1 s m #[.ref bS] below meth c H1 locs1 (c0 + 5) (s0 + 12040) Q (F0 m 1794 ls1 [])) : W p l e room_1 s m #[.ref bS] below meth c H locs c0 s0 Q (F0 m 904 ls []) := by
  obtain ⟨hx, hb, hml, hown, hts⟩ := id S
  have hl : lv_has ls 9 [(0, .ref bS), (1, .ref (b 0)), (2, .ref (a 0)), (3, .ref oL), (4, .ref oD), (5, .int (nI (4 * i9)))] := hl
  refine lv_aload_n hx hb dL_law_904 rfl (lv_at hl 1 rfl) ?_
  refine lv_aload_n hx hb dL_law_905 rfl (lv_at hl 0 rfl) ?_
  refine lv_iload hx hb dL_law_906 (lv_at hl 5 rfl) ?_
  refine n_iconst 1 (by decide) hx hb dL_law_908 ?_
  refine n_iadd hx hb dL_law_909 ?_
  refine s_ld (i := (4 * i9) + 1) hx hb hX hbl hbA hS (by omega) (by omega) dL_law_910 ?_
  refine lv_aload_n hx hb dL_law_911 rfl (lv_at hl 3 rfl) ?_
  refine bH_i (As := [.ref (b 0), .int (xs ((4 * i9) + 1)), .ref oL]) (wn := fun u : (Cx) × (Nat → Int64) => lawW k a b oL oD σ u.1 σ y u.2 fd) S hP hK hN hE hD hS hA (m_L_valueOf l hst G k _ b σ x oL fo (xs ((4 * i9) + 1)) hok) gw_142 rfl rfl rfl hdl_142 rfl rfl pL (fun _ => pL.symm) rfl hl.1 rfl rfl ⟨(by show _ ≤ (601024 : Nat); omega), (by show _ ≤ (7293034 : Nat); omega)⟩ dL_law_912 (fun rX u H locs hw hP hD hS => ?_)
  obtain ⟨x1, f1⟩ := u
  dsimp only at hw hP hD
  obtain ⟨rfl, ho1, hok1⟩ := hw
  refine lv_istore (lv' := [(6, .int (nI (e_cfg σ (xs ((4 * i9) + 1))))), (0, .ref bS), (1, .ref (b 0)), (2, .ref (a 0)), (3, .ref oL), (4, .ref oD), (5, .int (nI (4 * i9)))]) hx hb dL_law_915 hl (by decide) rfl (fun ls hl => ?_)
  refine lv_aload_n hx hb dL_law_917 rfl (lv_at hl 3 rfl) ?_
  refine lv_aload_n hx hb dL_law_918 rfl (lv_at hl 1 rfl) ?_
  refine lv_iload hx hb dL_law_919 (lv_at hl 6 rfl) ?_
  refine n_iconst 1 (by decide) hx hb dL_law_921 ?_
  refine n_iadd hx hb dL_law_922 ?_
  refine s_ld (i := (4 * i9) + 1) hx hb hX hbl hbA hS (by omega) (by omega) dL_law_923 ?_
  refine bV_i (As := [.int (xs ((4 * i9) + 1))]) (wn := fun u : Mx => lawW k a b oL oD σ x1 σ u f1 fd) S hP hK hN hD hS hA (m_X7_valueOf l G k _ a σ y (xs ((4 * i9) + 1)) hmk) gw_144 rfl rfl rfl hdl_144 rfl rfl pM (fun _ => pM.symm) 7 0 rfl rfl rfl rfl hl.1 rfl rfl ⟨(by show _ ≤ (601024 : Nat); omega), (by show _ ≤ (7293034 : Nat); omega)⟩ dL_law_924 (fun rX u H locs hw hP hD hS => ?_)
  obtain ⟨y2, rfl⟩ : ∃ z, z = u := ⟨_, rfl⟩
  obtain ⟨v2, hq, hv2, hmk2, ht2⟩ := hw
  subst rX
  refine lv_istore (lv' := [(7, .int v2), (6, .int (nI (e_cfg σ (xs ((4 * i9) + 1))))), (0, .ref bS), (1, .ref (b 0)), (2, .ref (a 0)), (3, .ref oL), (4, .ref oD), (5, .int (nI (4 * i9)))]) hx hb dL_law_927 hl (by decide) rfl (fun ls hl => ?_)
  refine lv_aload_n hx hb dL_law_929 rfl (lv_at hl 4 rfl) ?_
  refine cV_i (As := []) S (P_l (P_perm pM hP)) hK hN (m_X7_thrown l G k _ _ _ _ _ _ _ _ _ _ _ _ _ _ _ _ _ _ _ _ _ _ _ _) gw_100 rfl rfl rfl hdl_100 rfl rfl [0] rfl 7 0 rfl rfl rfl rfl hl.1 rfl rfl ⟨(by show _ ≤ (601024 : Nat); omega), (by show _ ≤ (7293034 : Nat); omega)⟩ dL_law_930 (fun rX hr => ?_)
  subst hr
  rw [ht2]
  refine lv_iload hx hb dL_law_933 (lv_at hl 1 rfl) ?_
  refine lv_icmp_eq (tgt := 940) hx hb dL_law_935 (by decide) (fun q935 => ?_) (fun q935 => ?_)
  · skip
    refine lv_iload hx hb dL_law_940 (lv_at hl 1 rfl) ?_
    refine lv_if_ne (tgt := 957) hx hb dL_law_942 (by decide) (fun q942 => ?_) (fun q942 => ?_)
    · skip
      refine lv_goto (tgt := 1794) hx hb dL_law_957 (by decide) ?_
      refine W.widen (k := c0 + 5) (n := s0 + 12040) (by omega) (by omega) ?_
      exact kk _ _ _ _ _ _ _ _ hok1 hmk2 hP hD hS (lv_sub hl [2, 3, 4, 5, 6, 7] rfl)
    · skip
      have he := (nI_0' e_cfg_lt).mp q942
      refine lv_aload_n hx hb dL_law_945 rfl (lv_at hl 5 rfl) ?_
      refine n_iconst 0 (by decide) hx hb dL_law_946 ?_
      refine l_lald hx hb hK hP 47 rfl (by decide) (by decide) dL_law_947 ?_
      refine lv_iload hx hb dL_law_948 (lv_at hl 0 rfl) ?_
      refine lv_i2l (v := (v2).toInt64) hx hb dL_law_950 rfl ?_
      refine W.lcmp hx hb dL_law_951 ?_
      refine lv_if_eq (tgt := 957) hx hb dL_law_952 (by decide) (fun q952 => ?_) (fun q952 => ?_)
      · skip
        refine lv_goto (tgt := 1794) hx hb dL_law_957 (by decide) ?_
        refine W.widen (k := c0 + 5) (n := s0 + 12040) (by omega) (by omega) ?_
        exact kk _ _ _ _ _ _ _ _ hok1 hmk2 hP hD hS (lv_sub hl [2, 3, 4, 5, 6, 7] rfl)
      · skip
        exact absurd (by rw [ho1 he, hv2 he]; exact lg_same _) q952
  · skip
    exact absurd rfl q935
set_option maxHeartbeats 4000000 in
set_option maxRecDepth 100000 in
theorem law_c13 (S : CallFix p m c code 9 s #[.ref bS] lw_tbl RL) (hst : l.stackTraces = false) (hX : va_X bS L xs s s.heap) (hbl : bS < s.heap.size) (hbA : ¬ A bS) (hK : va_K G vwCl (tyG k) s) (hN : gN s) (hE : xE A s) (hA : ∀ q, s.heap.size ≤ q → A q) (hc0 : c0 + 5 ≤ 601024) (hs0 : s0 + 12040 ≤ 7293034) (hi9 : 4 * i9 + 4 ≤ L) (hL : L ≤ 2048)
    (hok : COK σ x) (hmk : MOK σ y) (hP : va_P G vwCl (lawW k a b oL oD σ x σ y fo fd) H) (hD : va_D A (lawW k a b oL oD σ x σ y fo fd)) (hS : va_S A s.heap H locs) (hl : lv_has ls 9 [(0, .ref bS), (1, .ref (b 0)), (2, .ref (a 0)), (3, .ref oL), (4, .ref oD), (5, .int (nI (4 * i9)))])
    (kk : ∀ (σ1 : Sg) (x1 : Cx) (y1 : Mx) (fo1 : Nat → Int64) (fd1 : Nat → UInt64) (H1 : Heap) (locs1 : List Loc) (ls1 : Array Slot), COK σ1 x1 → MOK σ1 y1 → va_P G vwCl (lawW k a b oL oD σ1 x1 σ1 y1 fo1 fd1) H1 → va_D A (lawW k a b oL oD σ1 x1 σ1 y1 fo1 fd1) → va_S A s.heap H1 locs1 → lv_has ls1 9 [(0, .ref bS), (1, .ref (b 0)), (2, .ref (a 0)), (3, .ref oL), (4, .ref oD), (5, .int (nI (4 * i9)))] → W p l e room_1 s m #[.ref bS] below meth c H1 locs1 (c0 + 5) (s0 + 12040) Q (F0 m 1794 ls1 [])) : W p l e room_1 s m #[.ref bS] below meth c H locs c0 s0 Q (F0 m 960 ls []) := by
  obtain ⟨hx, hb, hml, hown, hts⟩ := id S
  have hl : lv_has ls 9 [(0, .ref bS), (1, .ref (b 0)), (2, .ref (a 0)), (3, .ref oL), (4, .ref oD), (5, .int (nI (4 * i9)))] := hl
  refine lv_aload_n hx hb dL_law_960 rfl (lv_at hl 1 rfl) ?_
  refine bV_i (As := []) (wn := fun u : Cx => lawW k a b oL oD σ u σ y fo fd) S hP hK hN hD hS hA (m_X6_productCount l G k _ b σ x hok) gw_145 rfl rfl rfl hdl_145 rfl rfl pC (fun _ => pC.symm) 6 0 rfl rfl rfl rfl hl.1 rfl rfl ⟨(by show _ ≤ (601024 : Nat); omega), (by show _ ≤ (7293034 : Nat); omega)⟩ dL_law_961 (fun rX u H locs hw hP hD hS => ?_)
  obtain ⟨x1, rfl⟩ : ∃ z, z = u := ⟨_, rfl⟩
  obtain ⟨v1, hq, cv1, hok1⟩ := hw
  subst rX
  refine lv_aload_n hx hb dL_law_964 rfl (lv_at hl 2 rfl) ?_
  refine bV_i (As := []) (wn := fun u : Mx => lawW k a b oL oD σ x1 σ u fo fd) S hP hK hN hD hS hA (m_X7_productCount l G k _ a σ y  hmk) gw_148 rfl rfl rfl hdl_148 rfl rfl pM (fun _ => pM.symm) 7 0 rfl rfl rfl rfl hl.1 rfl rfl ⟨(by show _ ≤ (601024 : Nat); omega), (by show _ ≤ (7293034 : Nat); omega)⟩ dL_law_965 (fun rX u H locs hw hP hD hS => ?_)
  obtain ⟨y2, rfl⟩ : ∃ z, z = u := ⟨_, rfl⟩
  obtain ⟨v2, hq, hv2, hmk2, ht2⟩ := hw
  subst rX
  refine lv_icmp_eq (tgt := 1794) hx hb dL_law_968 (by decide) (fun q968 => ?_) (fun q968 => ?_)
  · skip
    refine W.widen (k := c0 + 5) (n := s0 + 12040) (by omega) (by omega) ?_
    exact kk _ _ _ _ _ _ _ _ hok1 hmk2 hP hD hS (lv_sub hl [0, 1, 2, 3, 4, 5] rfl)
  · skip
    exact absurd (by rw [cv1, hv2 rfl]) q968
set_option maxHeartbeats 4000000 in
set_option maxRecDepth 100000 in
theorem law_c14 (S : CallFix p m c code 9 s #[.ref bS] lw_tbl RL) (hst : l.stackTraces = false) (hX : va_X bS L xs s s.heap) (hbl : bS < s.heap.size) (hbA : ¬ A bS) (hK : va_K G vwCl (tyG k) s) (hN : gN s) (hE : xE A s) (hA : ∀ q, s.heap.size ≤ q → A q) (hc0 : c0 + 5 ≤ 601024) (hs0 : s0 + 12040 ≤ 7293034) (hi9 : 4 * i9 + 4 ≤ L) (hL : L ≤ 2048)
    (hok : COK σ x) (hmk : MOK σ y) (hP : va_P G vwCl (lawW k a b oL oD σ x σ y fo fd) H) (hD : va_D A (lawW k a b oL oD σ x σ y fo fd)) (hS : va_S A s.heap H locs) (hl : lv_has ls 9 [(0, .ref bS), (1, .ref (b 0)), (2, .ref (a 0)), (3, .ref oL), (4, .ref oD), (5, .int (nI (4 * i9)))])
    (kk : ∀ (σ1 : Sg) (x1 : Cx) (y1 : Mx) (fo1 : Nat → Int64) (fd1 : Nat → UInt64) (H1 : Heap) (locs1 : List Loc) (ls1 : Array Slot), COK σ1 x1 → MOK σ1 y1 → va_P G vwCl (lawW k a b oL oD σ1 x1 σ1 y1 fo1 fd1) H1 → va_D A (lawW k a b oL oD σ1 x1 σ1 y1 fo1 fd1) → va_S A s.heap H1 locs1 → lv_has ls1 9 [(0, .ref bS), (1, .ref (b 0)), (2, .ref (a 0)), (3, .ref oL), (4, .ref oD), (5, .int (nI (4 * i9)))] → W p l e room_1 s m #[.ref bS] below meth c H1 locs1 (c0 + 5) (s0 + 12040) Q (F0 m 1794 ls1 [])) : W p l e room_1 s m #[.ref bS] below meth c H locs c0 s0 Q (F0 m 973 ls []) := by
  obtain ⟨hx, hb, hml, hown, hts⟩ := id S
  have hl : lv_has ls 9 [(0, .ref bS), (1, .ref (b 0)), (2, .ref (a 0)), (3, .ref oL), (4, .ref oD), (5, .int (nI (4 * i9)))] := hl
  refine lv_aload_n hx hb dL_law_973 rfl (lv_at hl 1 rfl) ?_
  refine lv_aload_n hx hb dL_law_974 rfl (lv_at hl 0 rfl) ?_
  refine lv_iload hx hb dL_law_975 (lv_at hl 5 rfl) ?_
  refine n_iconst 1 (by decide) hx hb dL_law_977 ?_
  refine n_iadd hx hb dL_law_978 ?_
  refine s_ld (i := (4 * i9) + 1) hx hb hX hbl hbA hS (by omega) (by omega) dL_law_979 ?_
  refine lv_aload_n hx hb dL_law_980 rfl (lv_at hl 3 rfl) ?_
  refine bH_i (As := [.ref (b 0), .int (xs ((4 * i9) + 1)), .ref oL]) (wn := fun u : (Cx) × (Nat → Int64) => lawW k a b oL oD σ u.1 σ y u.2 fd) S hP hK hN hE hD hS hA (m_L_product l hst G k _ b σ x oL fo (xs ((4 * i9) + 1)) hok) gw_149 rfl rfl rfl hdl_149 rfl rfl pL (fun _ => pL.symm) rfl hl.1 rfl rfl ⟨(by show _ ≤ (601024 : Nat); omega), (by show _ ≤ (7293034 : Nat); omega)⟩ dL_law_981 (fun rX u H locs hw hP hD hS => ?_)
  obtain ⟨x1, f1⟩ := u
  dsimp only at hw hP hD
  obtain ⟨rfl, ho1, hok1⟩ := hw
  refine lv_istore (lv' := [(6, .int (nI (e_if (isF (xs ((4 * i9) + 1)) (cntP σ))))), (0, .ref bS), (1, .ref (b 0)), (2, .ref (a 0)), (3, .ref oL), (4, .ref oD), (5, .int (nI (4 * i9)))]) hx hb dL_law_984 hl (by decide) rfl (fun ls hl => ?_)
  refine lv_aload_n hx hb dL_law_986 rfl (lv_at hl 3 rfl) ?_
  refine lv_aload_n hx hb dL_law_987 rfl (lv_at hl 1 rfl) ?_
  refine lv_iload hx hb dL_law_988 (lv_at hl 6 rfl) ?_
  refine n_iconst 1 (by decide) hx hb dL_law_990 ?_
  refine n_iadd hx hb dL_law_991 ?_
  refine s_ld (i := (4 * i9) + 1) hx hb hX hbl hbA hS (by omega) (by omega) dL_law_992 ?_
  refine bV_i (As := [.int (xs ((4 * i9) + 1))]) (wn := fun u : Mx => lawW k a b oL oD σ x1 σ u f1 fd) S hP hK hN hD hS hA (m_X7_product l G k _ a σ y (xs ((4 * i9) + 1)) hmk) gw_151 rfl rfl rfl hdl_151 rfl rfl pM (fun _ => pM.symm) 7 0 rfl rfl rfl rfl hl.1 rfl rfl ⟨(by show _ ≤ (601024 : Nat); omega), (by show _ ≤ (7293034 : Nat); omega)⟩ dL_law_993 (fun rX u H locs hw hP hD hS => ?_)
  obtain ⟨y2, rfl⟩ : ∃ z, z = u := ⟨_, rfl⟩
  obtain ⟨v2, hq, hv2, hmk2, ht2⟩ := hw
  subst rX
  refine lv_istore (lv' := [(7, .int v2), (6, .int (nI (e_if (isF (xs ((4 * i9) + 1)) (cntP σ))))), (0, .ref bS), (1, .ref (b 0)), (2, .ref (a 0)), (3, .ref oL), (4, .ref oD), (5, .int (nI (4 * i9)))]) hx hb dL_law_996 hl (by decide) rfl (fun ls hl => ?_)
  refine lv_aload_n hx hb dL_law_998 rfl (lv_at hl 4 rfl) ?_
  refine cV_i (As := []) S (P_l (P_perm pM hP)) hK hN (m_X7_thrown l G k _ _ _ _ _ _ _ _ _ _ _ _ _ _ _ _ _ _ _ _ _ _ _ _) gw_100 rfl rfl rfl hdl_100 rfl rfl [0] rfl 7 0 rfl rfl rfl rfl hl.1 rfl rfl ⟨(by show _ ≤ (601024 : Nat); omega), (by show _ ≤ (7293034 : Nat); omega)⟩ dL_law_999 (fun rX hr => ?_)
  subst hr
  rw [ht2]
  refine lv_iload hx hb dL_law_1002 (lv_at hl 1 rfl) ?_
  refine lv_icmp_eq (tgt := 1009) hx hb dL_law_1004 (by decide) (fun q1004 => ?_) (fun q1004 => ?_)
  · skip
    refine lv_iload hx hb dL_law_1009 (lv_at hl 1 rfl) ?_
    refine lv_if_ne (tgt := 1026) hx hb dL_law_1011 (by decide) (fun q1011 => ?_) (fun q1011 => ?_)
    · skip
      refine lv_goto (tgt := 1794) hx hb dL_law_1026 (by decide) ?_
      refine W.widen (k := c0 + 5) (n := s0 + 12040) (by omega) (by omega) ?_
      exact kk _ _ _ _ _ _ _ _ hok1 hmk2 hP hD hS (lv_sub hl [2, 3, 4, 5, 6, 7] rfl)
    · skip
      have he := (nI_0' e_if_lt).mp q1011
      refine lv_aload_n hx hb dL_law_1014 rfl (lv_at hl 5 rfl) ?_
      refine n_iconst 0 (by decide) hx hb dL_law_1015 ?_
      refine l_lald hx hb hK hP 47 rfl (by decide) (by decide) dL_law_1016 ?_
      refine lv_iload hx hb dL_law_1017 (lv_at hl 0 rfl) ?_
      refine lv_i2l (v := (v2).toInt64) hx hb dL_law_1019 rfl ?_
      refine W.lcmp hx hb dL_law_1020 ?_
      refine lv_if_eq (tgt := 1026) hx hb dL_law_1021 (by decide) (fun q1021 => ?_) (fun q1021 => ?_)
      · skip
        refine lv_goto (tgt := 1794) hx hb dL_law_1026 (by decide) ?_
        refine W.widen (k := c0 + 5) (n := s0 + 12040) (by omega) (by omega) ?_
        exact kk _ _ _ _ _ _ _ _ hok1 hmk2 hP hD hS (lv_sub hl [2, 3, 4, 5, 6, 7] rfl)
      · skip
        exact absurd (by rw [ho1 he, hv2 he]; exact lg_same _) q1021
  · skip
    exact absurd rfl q1004
set_option maxHeartbeats 4000000 in
set_option maxRecDepth 100000 in
theorem law_c15 (S : CallFix p m c code 9 s #[.ref bS] lw_tbl RL) (hst : l.stackTraces = false) (hX : va_X bS L xs s s.heap) (hbl : bS < s.heap.size) (hbA : ¬ A bS) (hK : va_K G vwCl (tyG k) s) (hN : gN s) (hE : xE A s) (hA : ∀ q, s.heap.size ≤ q → A q) (hc0 : c0 + 5 ≤ 601024) (hs0 : s0 + 12040 ≤ 7293034) (hi9 : 4 * i9 + 4 ≤ L) (hL : L ≤ 2048)
    (hok : COK σ x) (hmk : MOK σ y) (hP : va_P G vwCl (lawW k a b oL oD σ x σ y fo fd) H) (hD : va_D A (lawW k a b oL oD σ x σ y fo fd)) (hS : va_S A s.heap H locs) (hl : lv_has ls 9 [(0, .ref bS), (1, .ref (b 0)), (2, .ref (a 0)), (3, .ref oL), (4, .ref oD), (5, .int (nI (4 * i9)))])
    (kk : ∀ (σ1 : Sg) (x1 : Cx) (y1 : Mx) (fo1 : Nat → Int64) (fd1 : Nat → UInt64) (H1 : Heap) (locs1 : List Loc) (ls1 : Array Slot), COK σ1 x1 → MOK σ1 y1 → va_P G vwCl (lawW k a b oL oD σ1 x1 σ1 y1 fo1 fd1) H1 → va_D A (lawW k a b oL oD σ1 x1 σ1 y1 fo1 fd1) → va_S A s.heap H1 locs1 → lv_has ls1 9 [(0, .ref bS), (1, .ref (b 0)), (2, .ref (a 0)), (3, .ref oL), (4, .ref oD), (5, .int (nI (4 * i9)))] → W p l e room_1 s m #[.ref bS] below meth c H1 locs1 (c0 + 5) (s0 + 12040) Q (F0 m 1794 ls1 [])) : W p l e room_1 s m #[.ref bS] below meth c H locs c0 s0 Q (F0 m 1029 ls []) := by
  obtain ⟨hx, hb, hml, hown, hts⟩ := id S
  have hl : lv_has ls 9 [(0, .ref bS), (1, .ref (b 0)), (2, .ref (a 0)), (3, .ref oL), (4, .ref oD), (5, .int (nI (4 * i9)))] := hl
  refine lv_aload_n hx hb dL_law_1029 rfl (lv_at hl 1 rfl) ?_
  refine lv_aload_n hx hb dL_law_1030 rfl (lv_at hl 0 rfl) ?_
  refine lv_iload hx hb dL_law_1031 (lv_at hl 5 rfl) ?_
  refine n_iconst 1 (by decide) hx hb dL_law_1033 ?_
  refine n_iadd hx hb dL_law_1034 ?_
  refine s_ld (i := (4 * i9) + 1) hx hb hX hbl hbA hS (by omega) (by omega) dL_law_1035 ?_
  refine lv_aload_n hx hb dL_law_1036 rfl (lv_at hl 3 rfl) ?_
  refine bH_i (As := [.ref (b 0), .int (xs ((4 * i9) + 1)), .ref oL]) (wn := fun u : (Cx) × (Nat → Int64) => lawW k a b oL oD σ u.1 σ y u.2 fd) S hP hK hN hE hD hS hA (m_L_isDead l hst G k _ b σ x oL fo (xs ((4 * i9) + 1)) hok) gw_152 rfl rfl rfl hdl_152 rfl rfl pL (fun _ => pL.symm) rfl hl.1 rfl rfl ⟨(by show _ ≤ (601024 : Nat); omega), (by show _ ≤ (7293034 : Nat); omega)⟩ dL_law_1037 (fun rX u H locs hw hP hD hS => ?_)
  obtain ⟨x1, f1⟩ := u
  dsimp only at hw hP hD
  obtain ⟨rfl, ho1, hok1⟩ := hw
  refine lv_istore (lv' := [(6, .int (nI (e_fea σ (xs ((4 * i9) + 1))))), (0, .ref bS), (1, .ref (b 0)), (2, .ref (a 0)), (3, .ref oL), (4, .ref oD), (5, .int (nI (4 * i9)))]) hx hb dL_law_1040 hl (by decide) rfl (fun ls hl => ?_)
  refine lv_aload_n hx hb dL_law_1042 rfl (lv_at hl 3 rfl) ?_
  refine lv_aload_n hx hb dL_law_1043 rfl (lv_at hl 1 rfl) ?_
  refine lv_iload hx hb dL_law_1044 (lv_at hl 6 rfl) ?_
  refine n_iconst 1 (by decide) hx hb dL_law_1046 ?_
  refine n_iadd hx hb dL_law_1047 ?_
  refine s_ld (i := (4 * i9) + 1) hx hb hX hbl hbA hS (by omega) (by omega) dL_law_1048 ?_
  refine bV_i (As := [.int (xs ((4 * i9) + 1))]) (wn := fun u : Mx => lawW k a b oL oD σ x1 σ u f1 fd) S hP hK hN hD hS hA (m_X7_isDead l G k _ a σ y (xs ((4 * i9) + 1)) hmk) gw_154 rfl rfl rfl hdl_154 rfl rfl pM (fun _ => pM.symm) 7 0 rfl rfl rfl rfl hl.1 rfl rfl ⟨(by show _ ≤ (601024 : Nat); omega), (by show _ ≤ (7293034 : Nat); omega)⟩ dL_law_1049 (fun rX u H locs hw hP hD hS => ?_)
  obtain ⟨y2, rfl⟩ : ∃ z, z = u := ⟨_, rfl⟩
  obtain ⟨v2, hq, hv2, hmk2, ht2⟩ := hw
  subst rX
  refine lv_istore (lv' := [(7, .int v2), (6, .int (nI (e_fea σ (xs ((4 * i9) + 1))))), (0, .ref bS), (1, .ref (b 0)), (2, .ref (a 0)), (3, .ref oL), (4, .ref oD), (5, .int (nI (4 * i9)))]) hx hb dL_law_1052 hl (by decide) rfl (fun ls hl => ?_)
  refine lv_aload_n hx hb dL_law_1054 rfl (lv_at hl 4 rfl) ?_
  refine cV_i (As := []) S (P_l (P_perm pM hP)) hK hN (m_X7_thrown l G k _ _ _ _ _ _ _ _ _ _ _ _ _ _ _ _ _ _ _ _ _ _ _ _) gw_100 rfl rfl rfl hdl_100 rfl rfl [0] rfl 7 0 rfl rfl rfl rfl hl.1 rfl rfl ⟨(by show _ ≤ (601024 : Nat); omega), (by show _ ≤ (7293034 : Nat); omega)⟩ dL_law_1055 (fun rX hr => ?_)
  subst hr
  rw [ht2]
  refine lv_iload hx hb dL_law_1058 (lv_at hl 1 rfl) ?_
  refine lv_icmp_eq (tgt := 1065) hx hb dL_law_1060 (by decide) (fun q1060 => ?_) (fun q1060 => ?_)
  · skip
    refine lv_iload hx hb dL_law_1065 (lv_at hl 1 rfl) ?_
    refine lv_if_ne (tgt := 1089) hx hb dL_law_1067 (by decide) (fun q1067 => ?_) (fun q1067 => ?_)
    · skip
      refine lv_goto (tgt := 1794) hx hb dL_law_1089 (by decide) ?_
      refine W.widen (k := c0 + 5) (n := s0 + 12040) (by omega) (by omega) ?_
      exact kk _ _ _ _ _ _ _ _ hok1 hmk2 hP hD hS (lv_sub hl [2, 3, 4, 5, 6, 7] rfl)
    · skip
      have he := (nI_0' e_fea_lt).mp q1067
      refine lv_aload_n hx hb dL_law_1070 rfl (lv_at hl 5 rfl) ?_
      refine n_iconst 0 (by decide) hx hb dL_law_1071 ?_
      refine l_lald hx hb hK hP 47 rfl (by decide) (by decide) dL_law_1072 ?_
      refine lv_iload hx hb dL_law_1073 (lv_at hl 0 rfl) ?_
      refine lv_if_eq (tgt := 1082) hx hb dL_law_1075 (by decide) (fun q1075 => ?_) (fun q1075 => ?_)
      · skip
        refine lv_lconst (v := 0) hx hb dL_law_1082 (by decide) ?_
        refine W.lcmp hx hb dL_law_1083 ?_
        refine lv_if_eq (tgt := 1089) hx hb dL_law_1084 (by decide) (fun q1084 => ?_) (fun q1084 => ?_)
        · skip
          refine lv_goto (tgt := 1794) hx hb dL_law_1089 (by decide) ?_
          refine W.widen (k := c0 + 5) (n := s0 + 12040) (by omega) (by omega) ?_
          exact kk _ _ _ _ _ _ _ _ hok1 hmk2 hP hD hS (lv_sub hl [2, 3, 4, 5, 6, 7] rfl)
        · skip
          exact absurd (by rw [ho1 he, ← bI_off (hv2 he) q1075]; exact lg_same _) q1084
      · skip
        refine lv_lconst (v := 1) hx hb dL_law_1078 (by decide) ?_
        refine lv_goto (tgt := 1083) hx hb dL_law_1079 (by decide) ?_
        refine W.lcmp hx hb dL_law_1083 ?_
        refine lv_if_eq (tgt := 1089) hx hb dL_law_1084 (by decide) (fun q1084 => ?_) (fun q1084 => ?_)
        · skip
          refine lv_goto (tgt := 1794) hx hb dL_law_1089 (by decide) ?_
          refine W.widen (k := c0 + 5) (n := s0 + 12040) (by omega) (by omega) ?_
          exact kk _ _ _ _ _ _ _ _ hok1 hmk2 hP hD hS (lv_sub hl [2, 3, 4, 5, 6, 7] rfl)
        · skip
          exact absurd (by rw [ho1 he, ← bI_on (hv2 he) q1075]; exact lg_same _) q1084
  · skip
    exact absurd rfl q1060
set_option maxHeartbeats 4000000 in
set_option maxRecDepth 100000 in
theorem law_c16 (S : CallFix p m c code 9 s #[.ref bS] lw_tbl RL) (hst : l.stackTraces = false) (hX : va_X bS L xs s s.heap) (hbl : bS < s.heap.size) (hbA : ¬ A bS) (hK : va_K G vwCl (tyG k) s) (hN : gN s) (hE : xE A s) (hA : ∀ q, s.heap.size ≤ q → A q) (hc0 : c0 + 5 ≤ 601024) (hs0 : s0 + 12040 ≤ 7293034) (hi9 : 4 * i9 + 4 ≤ L) (hL : L ≤ 2048)
    (hok : COK σ x) (hmk : MOK σ y) (hP : va_P G vwCl (lawW k a b oL oD σ x σ y fo fd) H) (hD : va_D A (lawW k a b oL oD σ x σ y fo fd)) (hS : va_S A s.heap H locs) (hl : lv_has ls 9 [(0, .ref bS), (1, .ref (b 0)), (2, .ref (a 0)), (3, .ref oL), (4, .ref oD), (5, .int (nI (4 * i9)))])
    (kk : ∀ (σ1 : Sg) (x1 : Cx) (y1 : Mx) (fo1 : Nat → Int64) (fd1 : Nat → UInt64) (H1 : Heap) (locs1 : List Loc) (ls1 : Array Slot), COK σ1 x1 → MOK σ1 y1 → va_P G vwCl (lawW k a b oL oD σ1 x1 σ1 y1 fo1 fd1) H1 → va_D A (lawW k a b oL oD σ1 x1 σ1 y1 fo1 fd1) → va_S A s.heap H1 locs1 → lv_has ls1 9 [(0, .ref bS), (1, .ref (b 0)), (2, .ref (a 0)), (3, .ref oL), (4, .ref oD), (5, .int (nI (4 * i9)))] → W p l e room_1 s m #[.ref bS] below meth c H1 locs1 (c0 + 5) (s0 + 12040) Q (F0 m 1794 ls1 [])) : W p l e room_1 s m #[.ref bS] below meth c H locs c0 s0 Q (F0 m 1092 ls []) := by
  obtain ⟨hx, hb, hml, hown, hts⟩ := id S
  have hl : lv_has ls 9 [(0, .ref bS), (1, .ref (b 0)), (2, .ref (a 0)), (3, .ref oL), (4, .ref oD), (5, .int (nI (4 * i9)))] := hl
  refine lv_aload_n hx hb dL_law_1092 rfl (lv_at hl 1 rfl) ?_
  refine lv_aload_n hx hb dL_law_1093 rfl (lv_at hl 0 rfl) ?_
  refine lv_iload hx hb dL_law_1094 (lv_at hl 5 rfl) ?_
  refine n_iconst 1 (by decide) hx hb dL_law_1096 ?_
  refine n_iadd hx hb dL_law_1097 ?_
  refine s_ld (i := (4 * i9) + 1) hx hb hX hbl hbA hS (by omega) (by omega) dL_law_1098 ?_
  refine lv_aload_n hx hb dL_law_1099 rfl (lv_at hl 3 rfl) ?_
  refine bH_i (As := [.ref (b 0), .int (xs ((4 * i9) + 1)), .ref oL]) (wn := fun u : (Cx) × (Nat → Int64) => lawW k a b oL oD σ u.1 σ y u.2 fd) S hP hK hN hE hD hS hA (m_L_isCore l hst G k _ b σ x oL fo (xs ((4 * i9) + 1)) hok) gw_155 rfl rfl rfl hdl_155 rfl rfl pL (fun _ => pL.symm) rfl hl.1 rfl rfl ⟨(by show _ ≤ (601024 : Nat); omega), (by show _ ≤ (7293034 : Nat); omega)⟩ dL_law_1100 (fun rX u H locs hw hP hD hS => ?_)
  obtain ⟨x1, f1⟩ := u
  dsimp only at hw hP hD
  obtain ⟨rfl, ho1, hok1⟩ := hw
  refine lv_istore (lv' := [(6, .int (nI (e_fea σ (xs ((4 * i9) + 1))))), (0, .ref bS), (1, .ref (b 0)), (2, .ref (a 0)), (3, .ref oL), (4, .ref oD), (5, .int (nI (4 * i9)))]) hx hb dL_law_1103 hl (by decide) rfl (fun ls hl => ?_)
  refine lv_aload_n hx hb dL_law_1105 rfl (lv_at hl 3 rfl) ?_
  refine lv_aload_n hx hb dL_law_1106 rfl (lv_at hl 1 rfl) ?_
  refine lv_iload hx hb dL_law_1107 (lv_at hl 6 rfl) ?_
  refine n_iconst 1 (by decide) hx hb dL_law_1109 ?_
  refine n_iadd hx hb dL_law_1110 ?_
  refine s_ld (i := (4 * i9) + 1) hx hb hX hbl hbA hS (by omega) (by omega) dL_law_1111 ?_
  refine bV_i (As := [.int (xs ((4 * i9) + 1))]) (wn := fun u : Mx => lawW k a b oL oD σ x1 σ u f1 fd) S hP hK hN hD hS hA (m_X7_isCore l G k _ a σ y (xs ((4 * i9) + 1)) hmk) gw_157 rfl rfl rfl hdl_157 rfl rfl pM (fun _ => pM.symm) 7 0 rfl rfl rfl rfl hl.1 rfl rfl ⟨(by show _ ≤ (601024 : Nat); omega), (by show _ ≤ (7293034 : Nat); omega)⟩ dL_law_1112 (fun rX u H locs hw hP hD hS => ?_)
  obtain ⟨y2, rfl⟩ : ∃ z, z = u := ⟨_, rfl⟩
  obtain ⟨v2, hq, hv2, hmk2, ht2⟩ := hw
  subst rX
  refine lv_istore (lv' := [(7, .int v2), (6, .int (nI (e_fea σ (xs ((4 * i9) + 1))))), (0, .ref bS), (1, .ref (b 0)), (2, .ref (a 0)), (3, .ref oL), (4, .ref oD), (5, .int (nI (4 * i9)))]) hx hb dL_law_1115 hl (by decide) rfl (fun ls hl => ?_)
  refine lv_aload_n hx hb dL_law_1117 rfl (lv_at hl 4 rfl) ?_
  refine cV_i (As := []) S (P_l (P_perm pM hP)) hK hN (m_X7_thrown l G k _ _ _ _ _ _ _ _ _ _ _ _ _ _ _ _ _ _ _ _ _ _ _ _) gw_100 rfl rfl rfl hdl_100 rfl rfl [0] rfl 7 0 rfl rfl rfl rfl hl.1 rfl rfl ⟨(by show _ ≤ (601024 : Nat); omega), (by show _ ≤ (7293034 : Nat); omega)⟩ dL_law_1118 (fun rX hr => ?_)
  subst hr
  rw [ht2]
  refine lv_iload hx hb dL_law_1121 (lv_at hl 1 rfl) ?_
  refine lv_icmp_eq (tgt := 1128) hx hb dL_law_1123 (by decide) (fun q1123 => ?_) (fun q1123 => ?_)
  · skip
    refine lv_iload hx hb dL_law_1128 (lv_at hl 1 rfl) ?_
    refine lv_if_ne (tgt := 1152) hx hb dL_law_1130 (by decide) (fun q1130 => ?_) (fun q1130 => ?_)
    · skip
      refine lv_goto (tgt := 1794) hx hb dL_law_1152 (by decide) ?_
      refine W.widen (k := c0 + 5) (n := s0 + 12040) (by omega) (by omega) ?_
      exact kk _ _ _ _ _ _ _ _ hok1 hmk2 hP hD hS (lv_sub hl [2, 3, 4, 5, 6, 7] rfl)
    · skip
      have he := (nI_0' e_fea_lt).mp q1130
      refine lv_aload_n hx hb dL_law_1133 rfl (lv_at hl 5 rfl) ?_
      refine n_iconst 0 (by decide) hx hb dL_law_1134 ?_
      refine l_lald hx hb hK hP 47 rfl (by decide) (by decide) dL_law_1135 ?_
      refine lv_iload hx hb dL_law_1136 (lv_at hl 0 rfl) ?_
      refine lv_if_eq (tgt := 1145) hx hb dL_law_1138 (by decide) (fun q1138 => ?_) (fun q1138 => ?_)
      · skip
        refine lv_lconst (v := 0) hx hb dL_law_1145 (by decide) ?_
        refine W.lcmp hx hb dL_law_1146 ?_
        refine lv_if_eq (tgt := 1152) hx hb dL_law_1147 (by decide) (fun q1147 => ?_) (fun q1147 => ?_)
        · skip
          refine lv_goto (tgt := 1794) hx hb dL_law_1152 (by decide) ?_
          refine W.widen (k := c0 + 5) (n := s0 + 12040) (by omega) (by omega) ?_
          exact kk _ _ _ _ _ _ _ _ hok1 hmk2 hP hD hS (lv_sub hl [2, 3, 4, 5, 6, 7] rfl)
        · skip
          exact absurd (by rw [ho1 he, ← bI_off (hv2 he) q1138]; exact lg_same _) q1147
      · skip
        refine lv_lconst (v := 1) hx hb dL_law_1141 (by decide) ?_
        refine lv_goto (tgt := 1146) hx hb dL_law_1142 (by decide) ?_
        refine W.lcmp hx hb dL_law_1146 ?_
        refine lv_if_eq (tgt := 1152) hx hb dL_law_1147 (by decide) (fun q1147 => ?_) (fun q1147 => ?_)
        · skip
          refine lv_goto (tgt := 1794) hx hb dL_law_1152 (by decide) ?_
          refine W.widen (k := c0 + 5) (n := s0 + 12040) (by omega) (by omega) ?_
          exact kk _ _ _ _ _ _ _ _ hok1 hmk2 hP hD hS (lv_sub hl [2, 3, 4, 5, 6, 7] rfl)
        · skip
          exact absurd (by rw [ho1 he, ← bI_on (hv2 he) q1138]; exact lg_same _) q1147
  · skip
    exact absurd rfl q1123
set_option maxHeartbeats 4000000 in
set_option maxRecDepth 100000 in
theorem law_c17 (S : CallFix p m c code 9 s #[.ref bS] lw_tbl RL) (hst : l.stackTraces = false) (hX : va_X bS L xs s s.heap) (hbl : bS < s.heap.size) (hbA : ¬ A bS) (hK : va_K G vwCl (tyG k) s) (hN : gN s) (hE : xE A s) (hA : ∀ q, s.heap.size ≤ q → A q) (hc0 : c0 + 5 ≤ 601024) (hs0 : s0 + 12040 ≤ 7293034) (hi9 : 4 * i9 + 4 ≤ L) (hL : L ≤ 2048)
    (hok : COK σ x) (hmk : MOK σ y) (hP : va_P G vwCl (lawW k a b oL oD σ x σ y fo fd) H) (hD : va_D A (lawW k a b oL oD σ x σ y fo fd)) (hS : va_S A s.heap H locs) (hl : lv_has ls 9 [(0, .ref bS), (1, .ref (b 0)), (2, .ref (a 0)), (3, .ref oL), (4, .ref oD), (5, .int (nI (4 * i9)))])
    (kk : ∀ (σ1 : Sg) (x1 : Cx) (y1 : Mx) (fo1 : Nat → Int64) (fd1 : Nat → UInt64) (H1 : Heap) (locs1 : List Loc) (ls1 : Array Slot), COK σ1 x1 → MOK σ1 y1 → va_P G vwCl (lawW k a b oL oD σ1 x1 σ1 y1 fo1 fd1) H1 → va_D A (lawW k a b oL oD σ1 x1 σ1 y1 fo1 fd1) → va_S A s.heap H1 locs1 → lv_has ls1 9 [(0, .ref bS), (1, .ref (b 0)), (2, .ref (a 0)), (3, .ref oL), (4, .ref oD), (5, .int (nI (4 * i9)))] → W p l e room_1 s m #[.ref bS] below meth c H1 locs1 (c0 + 5) (s0 + 12040) Q (F0 m 1794 ls1 [])) : W p l e room_1 s m #[.ref bS] below meth c H locs c0 s0 Q (F0 m 1155 ls []) := by
  obtain ⟨hx, hb, hml, hown, hts⟩ := id S
  have hl : lv_has ls 9 [(0, .ref bS), (1, .ref (b 0)), (2, .ref (a 0)), (3, .ref oL), (4, .ref oD), (5, .int (nI (4 * i9)))] := hl
  refine lv_aload_n hx hb dL_law_1155 rfl (lv_at hl 1 rfl) ?_
  refine lv_aload_n hx hb dL_law_1156 rfl (lv_at hl 0 rfl) ?_
  refine lv_iload hx hb dL_law_1157 (lv_at hl 5 rfl) ?_
  refine n_iconst 1 (by decide) hx hb dL_law_1159 ?_
  refine n_iadd hx hb dL_law_1160 ?_
  refine s_ld (i := (4 * i9) + 1) hx hb hX hbl hbA hS (by omega) (by omega) dL_law_1161 ?_
  refine lv_aload_n hx hb dL_law_1162 rfl (lv_at hl 3 rfl) ?_
  refine bH_i (As := [.ref (b 0), .int (xs ((4 * i9) + 1)), .ref oL]) (wn := fun u : (Cx) × (Nat → Int64) => lawW k a b oL oD σ u.1 σ y u.2 fd) S hP hK hN hE hD hS hA (m_L_isFalselyFree l hst G k _ b σ x oL fo (xs ((4 * i9) + 1)) hok) gw_158 rfl rfl rfl hdl_158 rfl rfl pL (fun _ => pL.symm) rfl hl.1 rfl rfl ⟨(by show _ ≤ (601024 : Nat); omega), (by show _ ≤ (7293034 : Nat); omega)⟩ dL_law_1163 (fun rX u H locs hw hP hD hS => ?_)
  obtain ⟨x1, f1⟩ := u
  dsimp only at hw hP hD
  obtain ⟨rfl, ho1, hok1⟩ := hw
  refine lv_istore (lv' := [(6, .int (nI (e_fea σ (xs ((4 * i9) + 1))))), (0, .ref bS), (1, .ref (b 0)), (2, .ref (a 0)), (3, .ref oL), (4, .ref oD), (5, .int (nI (4 * i9)))]) hx hb dL_law_1166 hl (by decide) rfl (fun ls hl => ?_)
  refine lv_aload_n hx hb dL_law_1168 rfl (lv_at hl 3 rfl) ?_
  refine lv_aload_n hx hb dL_law_1169 rfl (lv_at hl 1 rfl) ?_
  refine lv_iload hx hb dL_law_1170 (lv_at hl 6 rfl) ?_
  refine n_iconst 1 (by decide) hx hb dL_law_1172 ?_
  refine n_iadd hx hb dL_law_1173 ?_
  refine s_ld (i := (4 * i9) + 1) hx hb hX hbl hbA hS (by omega) (by omega) dL_law_1174 ?_
  refine bV_i (As := [.int (xs ((4 * i9) + 1))]) (wn := fun u : Mx => lawW k a b oL oD σ x1 σ u f1 fd) S hP hK hN hD hS hA (m_X7_isFalselyFree l G k _ a σ y (xs ((4 * i9) + 1)) hmk) gw_160 rfl rfl rfl hdl_160 rfl rfl pM (fun _ => pM.symm) 7 0 rfl rfl rfl rfl hl.1 rfl rfl ⟨(by show _ ≤ (601024 : Nat); omega), (by show _ ≤ (7293034 : Nat); omega)⟩ dL_law_1175 (fun rX u H locs hw hP hD hS => ?_)
  obtain ⟨y2, rfl⟩ : ∃ z, z = u := ⟨_, rfl⟩
  obtain ⟨v2, hq, hv2, hmk2, ht2⟩ := hw
  subst rX
  refine lv_istore (lv' := [(7, .int v2), (6, .int (nI (e_fea σ (xs ((4 * i9) + 1))))), (0, .ref bS), (1, .ref (b 0)), (2, .ref (a 0)), (3, .ref oL), (4, .ref oD), (5, .int (nI (4 * i9)))]) hx hb dL_law_1178 hl (by decide) rfl (fun ls hl => ?_)
  refine lv_aload_n hx hb dL_law_1180 rfl (lv_at hl 4 rfl) ?_
  refine cV_i (As := []) S (P_l (P_perm pM hP)) hK hN (m_X7_thrown l G k _ _ _ _ _ _ _ _ _ _ _ _ _ _ _ _ _ _ _ _ _ _ _ _) gw_100 rfl rfl rfl hdl_100 rfl rfl [0] rfl 7 0 rfl rfl rfl rfl hl.1 rfl rfl ⟨(by show _ ≤ (601024 : Nat); omega), (by show _ ≤ (7293034 : Nat); omega)⟩ dL_law_1181 (fun rX hr => ?_)
  subst hr
  rw [ht2]
  refine lv_iload hx hb dL_law_1184 (lv_at hl 1 rfl) ?_
  refine lv_icmp_eq (tgt := 1191) hx hb dL_law_1186 (by decide) (fun q1186 => ?_) (fun q1186 => ?_)
  · skip
    refine lv_iload hx hb dL_law_1191 (lv_at hl 1 rfl) ?_
    refine lv_if_ne (tgt := 1215) hx hb dL_law_1193 (by decide) (fun q1193 => ?_) (fun q1193 => ?_)
    · skip
      refine lv_goto (tgt := 1794) hx hb dL_law_1215 (by decide) ?_
      refine W.widen (k := c0 + 5) (n := s0 + 12040) (by omega) (by omega) ?_
      exact kk _ _ _ _ _ _ _ _ hok1 hmk2 hP hD hS (lv_sub hl [2, 3, 4, 5, 6, 7] rfl)
    · skip
      have he := (nI_0' e_fea_lt).mp q1193
      refine lv_aload_n hx hb dL_law_1196 rfl (lv_at hl 5 rfl) ?_
      refine n_iconst 0 (by decide) hx hb dL_law_1197 ?_
      refine l_lald hx hb hK hP 47 rfl (by decide) (by decide) dL_law_1198 ?_
      refine lv_iload hx hb dL_law_1199 (lv_at hl 0 rfl) ?_
      refine lv_if_eq (tgt := 1208) hx hb dL_law_1201 (by decide) (fun q1201 => ?_) (fun q1201 => ?_)
      · skip
        refine lv_lconst (v := 0) hx hb dL_law_1208 (by decide) ?_
        refine W.lcmp hx hb dL_law_1209 ?_
        refine lv_if_eq (tgt := 1215) hx hb dL_law_1210 (by decide) (fun q1210 => ?_) (fun q1210 => ?_)
        · skip
          refine lv_goto (tgt := 1794) hx hb dL_law_1215 (by decide) ?_
          refine W.widen (k := c0 + 5) (n := s0 + 12040) (by omega) (by omega) ?_
          exact kk _ _ _ _ _ _ _ _ hok1 hmk2 hP hD hS (lv_sub hl [2, 3, 4, 5, 6, 7] rfl)
        · skip
          exact absurd (by rw [ho1 he, ← bI_off (hv2 he) q1201]; exact lg_same _) q1210
      · skip
        refine lv_lconst (v := 1) hx hb dL_law_1204 (by decide) ?_
        refine lv_goto (tgt := 1209) hx hb dL_law_1205 (by decide) ?_
        refine W.lcmp hx hb dL_law_1209 ?_
        refine lv_if_eq (tgt := 1215) hx hb dL_law_1210 (by decide) (fun q1210 => ?_) (fun q1210 => ?_)
        · skip
          refine lv_goto (tgt := 1794) hx hb dL_law_1215 (by decide) ?_
          refine W.widen (k := c0 + 5) (n := s0 + 12040) (by omega) (by omega) ?_
          exact kk _ _ _ _ _ _ _ _ hok1 hmk2 hP hD hS (lv_sub hl [2, 3, 4, 5, 6, 7] rfl)
        · skip
          exact absurd (by rw [ho1 he, ← bI_on (hv2 he) q1201]; exact lg_same _) q1210
  · skip
    exact absurd rfl q1186
set_option maxHeartbeats 4000000 in
set_option maxRecDepth 100000 in
theorem law_c18 (S : CallFix p m c code 9 s #[.ref bS] lw_tbl RL) (hst : l.stackTraces = false) (hX : va_X bS L xs s s.heap) (hbl : bS < s.heap.size) (hbA : ¬ A bS) (hK : va_K G vwCl (tyG k) s) (hN : gN s) (hE : xE A s) (hA : ∀ q, s.heap.size ≤ q → A q) (hc0 : c0 + 5 ≤ 601024) (hs0 : s0 + 12040 ≤ 7293034) (hi9 : 4 * i9 + 4 ≤ L) (hL : L ≤ 2048)
    (hok : COK σ x) (hmk : MOK σ y) (hP : va_P G vwCl (lawW k a b oL oD σ x σ y fo fd) H) (hD : va_D A (lawW k a b oL oD σ x σ y fo fd)) (hS : va_S A s.heap H locs) (hl : lv_has ls 9 [(0, .ref bS), (1, .ref (b 0)), (2, .ref (a 0)), (3, .ref oL), (4, .ref oD), (5, .int (nI (4 * i9)))])
    (kk : ∀ (σ1 : Sg) (x1 : Cx) (y1 : Mx) (fo1 : Nat → Int64) (fd1 : Nat → UInt64) (H1 : Heap) (locs1 : List Loc) (ls1 : Array Slot), COK σ1 x1 → MOK σ1 y1 → va_P G vwCl (lawW k a b oL oD σ1 x1 σ1 y1 fo1 fd1) H1 → va_D A (lawW k a b oL oD σ1 x1 σ1 y1 fo1 fd1) → va_S A s.heap H1 locs1 → lv_has ls1 9 [(0, .ref bS), (1, .ref (b 0)), (2, .ref (a 0)), (3, .ref oL), (4, .ref oD), (5, .int (nI (4 * i9)))] → W p l e room_1 s m #[.ref bS] below meth c H1 locs1 (c0 + 5) (s0 + 12040) Q (F0 m 1794 ls1 [])) : W p l e room_1 s m #[.ref bS] below meth c H locs c0 s0 Q (F0 m 1218 ls []) := by
  obtain ⟨hx, hb, hml, hown, hts⟩ := id S
  have hl : lv_has ls 9 [(0, .ref bS), (1, .ref (b 0)), (2, .ref (a 0)), (3, .ref oL), (4, .ref oD), (5, .int (nI (4 * i9)))] := hl
  refine lv_aload_n hx hb dL_law_1218 rfl (lv_at hl 1 rfl) ?_
  refine lv_aload_n hx hb dL_law_1219 rfl (lv_at hl 0 rfl) ?_
  refine lv_iload hx hb dL_law_1220 (lv_at hl 5 rfl) ?_
  refine n_iconst 1 (by decide) hx hb dL_law_1222 ?_
  refine n_iadd hx hb dL_law_1223 ?_
  refine s_ld (i := (4 * i9) + 1) hx hb hX hbl hbA hS (by omega) (by omega) dL_law_1224 ?_
  refine lv_aload_n hx hb dL_law_1225 rfl (lv_at hl 0 rfl) ?_
  refine lv_iload hx hb dL_law_1226 (lv_at hl 5 rfl) ?_
  refine n_iconst 2 (by decide) hx hb dL_law_1228 ?_
  refine n_iadd hx hb dL_law_1229 ?_
  refine s_ld (i := (4 * i9) + 2) hx hb hX hbl hbA hS (by omega) (by omega) dL_law_1230 ?_
  refine lv_aload_n hx hb dL_law_1231 rfl (lv_at hl 3 rfl) ?_
  refine bH_i (As := [.ref (b 0), .int (xs ((4 * i9) + 1)), .int (xs ((4 * i9) + 2)), .ref oL]) (wn := fun u : (Cx) × (Nat → Int64) => lawW k a b oL oD σ u.1 σ y u.2 fd) S hP hK hN hE hD hS hA (m_L_areTogether l hst G k _ b σ x oL fo (xs ((4 * i9) + 1)) (xs ((4 * i9) + 2)) hok) gw_161 rfl rfl rfl hdl_161 rfl rfl pL (fun _ => pL.symm) rfl hl.1 rfl rfl ⟨(by show _ ≤ (601024 : Nat); omega), (by show _ ≤ (7293034 : Nat); omega)⟩ dL_law_1232 (fun rX u H locs hw hP hD hS => ?_)
  obtain ⟨x1, f1⟩ := u
  dsimp only at hw hP hD
  obtain ⟨rfl, ho1, hok1⟩ := hw
  refine lv_istore (lv' := [(6, .int (nI (e_two σ (xs ((4 * i9) + 1)) (xs ((4 * i9) + 2))))), (0, .ref bS), (1, .ref (b 0)), (2, .ref (a 0)), (3, .ref oL), (4, .ref oD), (5, .int (nI (4 * i9)))]) hx hb dL_law_1235 hl (by decide) rfl (fun ls hl => ?_)
  refine lv_aload_n hx hb dL_law_1237 rfl (lv_at hl 3 rfl) ?_
  refine lv_aload_n hx hb dL_law_1238 rfl (lv_at hl 1 rfl) ?_
  refine lv_iload hx hb dL_law_1239 (lv_at hl 6 rfl) ?_
  refine n_iconst 1 (by decide) hx hb dL_law_1241 ?_
  refine n_iadd hx hb dL_law_1242 ?_
  refine s_ld (i := (4 * i9) + 1) hx hb hX hbl hbA hS (by omega) (by omega) dL_law_1243 ?_
  refine lv_aload_n hx hb dL_law_1244 rfl (lv_at hl 1 rfl) ?_
  refine lv_iload hx hb dL_law_1245 (lv_at hl 6 rfl) ?_
  refine n_iconst 2 (by decide) hx hb dL_law_1247 ?_
  refine n_iadd hx hb dL_law_1248 ?_
  refine s_ld (i := (4 * i9) + 2) hx hb hX hbl hbA hS (by omega) (by omega) dL_law_1249 ?_
  refine bV_i (As := [.int (xs ((4 * i9) + 1)), .int (xs ((4 * i9) + 2))]) (wn := fun u : Mx => lawW k a b oL oD σ x1 σ u f1 fd) S hP hK hN hD hS hA (m_X7_areTogether l G k _ a σ y (xs ((4 * i9) + 1)) (xs ((4 * i9) + 2)) hmk) gw_163 rfl rfl rfl hdl_163 rfl rfl pM (fun _ => pM.symm) 7 0 rfl rfl rfl rfl hl.1 rfl rfl ⟨(by show _ ≤ (601024 : Nat); omega), (by show _ ≤ (7293034 : Nat); omega)⟩ dL_law_1250 (fun rX u H locs hw hP hD hS => ?_)
  obtain ⟨y2, rfl⟩ : ∃ z, z = u := ⟨_, rfl⟩
  obtain ⟨v2, hq, hv2, hmk2, ht2⟩ := hw
  subst rX
  refine lv_istore (lv' := [(7, .int v2), (6, .int (nI (e_two σ (xs ((4 * i9) + 1)) (xs ((4 * i9) + 2))))), (0, .ref bS), (1, .ref (b 0)), (2, .ref (a 0)), (3, .ref oL), (4, .ref oD), (5, .int (nI (4 * i9)))]) hx hb dL_law_1253 hl (by decide) rfl (fun ls hl => ?_)
  refine lv_aload_n hx hb dL_law_1255 rfl (lv_at hl 4 rfl) ?_
  refine cV_i (As := []) S (P_l (P_perm pM hP)) hK hN (m_X7_thrown l G k _ _ _ _ _ _ _ _ _ _ _ _ _ _ _ _ _ _ _ _ _ _ _ _) gw_100 rfl rfl rfl hdl_100 rfl rfl [0] rfl 7 0 rfl rfl rfl rfl hl.1 rfl rfl ⟨(by show _ ≤ (601024 : Nat); omega), (by show _ ≤ (7293034 : Nat); omega)⟩ dL_law_1256 (fun rX hr => ?_)
  subst hr
  rw [ht2]
  refine lv_iload hx hb dL_law_1259 (lv_at hl 1 rfl) ?_
  refine lv_icmp_eq (tgt := 1266) hx hb dL_law_1261 (by decide) (fun q1261 => ?_) (fun q1261 => ?_)
  · skip
    refine lv_iload hx hb dL_law_1266 (lv_at hl 1 rfl) ?_
    refine lv_if_ne (tgt := 1290) hx hb dL_law_1268 (by decide) (fun q1268 => ?_) (fun q1268 => ?_)
    · skip
      refine lv_goto (tgt := 1794) hx hb dL_law_1290 (by decide) ?_
      refine W.widen (k := c0 + 5) (n := s0 + 12040) (by omega) (by omega) ?_
      exact kk _ _ _ _ _ _ _ _ hok1 hmk2 hP hD hS (lv_sub hl [2, 3, 4, 5, 6, 7] rfl)
    · skip
      have he := (nI_0' e_two_lt).mp q1268
      refine lv_aload_n hx hb dL_law_1271 rfl (lv_at hl 5 rfl) ?_
      refine n_iconst 0 (by decide) hx hb dL_law_1272 ?_
      refine l_lald hx hb hK hP 47 rfl (by decide) (by decide) dL_law_1273 ?_
      refine lv_iload hx hb dL_law_1274 (lv_at hl 0 rfl) ?_
      refine lv_if_eq (tgt := 1283) hx hb dL_law_1276 (by decide) (fun q1276 => ?_) (fun q1276 => ?_)
      · skip
        refine lv_lconst (v := 0) hx hb dL_law_1283 (by decide) ?_
        refine W.lcmp hx hb dL_law_1284 ?_
        refine lv_if_eq (tgt := 1290) hx hb dL_law_1285 (by decide) (fun q1285 => ?_) (fun q1285 => ?_)
        · skip
          refine lv_goto (tgt := 1794) hx hb dL_law_1290 (by decide) ?_
          refine W.widen (k := c0 + 5) (n := s0 + 12040) (by omega) (by omega) ?_
          exact kk _ _ _ _ _ _ _ _ hok1 hmk2 hP hD hS (lv_sub hl [2, 3, 4, 5, 6, 7] rfl)
        · skip
          exact absurd (by rw [ho1 he, ← bI_off (hv2 he) q1276]; exact lg_same _) q1285
      · skip
        refine lv_lconst (v := 1) hx hb dL_law_1279 (by decide) ?_
        refine lv_goto (tgt := 1284) hx hb dL_law_1280 (by decide) ?_
        refine W.lcmp hx hb dL_law_1284 ?_
        refine lv_if_eq (tgt := 1290) hx hb dL_law_1285 (by decide) (fun q1285 => ?_) (fun q1285 => ?_)
        · skip
          refine lv_goto (tgt := 1794) hx hb dL_law_1290 (by decide) ?_
          refine W.widen (k := c0 + 5) (n := s0 + 12040) (by omega) (by omega) ?_
          exact kk _ _ _ _ _ _ _ _ hok1 hmk2 hP hD hS (lv_sub hl [2, 3, 4, 5, 6, 7] rfl)
        · skip
          exact absurd (by rw [ho1 he, ← bI_on (hv2 he) q1276]; exact lg_same _) q1285
  · skip
    exact absurd rfl q1261
set_option maxHeartbeats 4000000 in
set_option maxRecDepth 100000 in
theorem law_c19 (S : CallFix p m c code 9 s #[.ref bS] lw_tbl RL) (hst : l.stackTraces = false) (hX : va_X bS L xs s s.heap) (hbl : bS < s.heap.size) (hbA : ¬ A bS) (hK : va_K G vwCl (tyG k) s) (hN : gN s) (hE : xE A s) (hA : ∀ q, s.heap.size ≤ q → A q) (hc0 : c0 + 5 ≤ 601024) (hs0 : s0 + 12040 ≤ 7293034) (hi9 : 4 * i9 + 4 ≤ L) (hL : L ≤ 2048)
    (hok : COK σ x) (hmk : MOK σ y) (hP : va_P G vwCl (lawW k a b oL oD σ x σ y fo fd) H) (hD : va_D A (lawW k a b oL oD σ x σ y fo fd)) (hS : va_S A s.heap H locs) (hl : lv_has ls 9 [(0, .ref bS), (1, .ref (b 0)), (2, .ref (a 0)), (3, .ref oL), (4, .ref oD), (5, .int (nI (4 * i9)))])
    (kk : ∀ (σ1 : Sg) (x1 : Cx) (y1 : Mx) (fo1 : Nat → Int64) (fd1 : Nat → UInt64) (H1 : Heap) (locs1 : List Loc) (ls1 : Array Slot), COK σ1 x1 → MOK σ1 y1 → va_P G vwCl (lawW k a b oL oD σ1 x1 σ1 y1 fo1 fd1) H1 → va_D A (lawW k a b oL oD σ1 x1 σ1 y1 fo1 fd1) → va_S A s.heap H1 locs1 → lv_has ls1 9 [(0, .ref bS), (1, .ref (b 0)), (2, .ref (a 0)), (3, .ref oL), (4, .ref oD), (5, .int (nI (4 * i9)))] → W p l e room_1 s m #[.ref bS] below meth c H1 locs1 (c0 + 5) (s0 + 12040) Q (F0 m 1794 ls1 [])) : W p l e room_1 s m #[.ref bS] below meth c H locs c0 s0 Q (F0 m 1293 ls []) := by
  obtain ⟨hx, hb, hml, hown, hts⟩ := id S
  have hl : lv_has ls 9 [(0, .ref bS), (1, .ref (b 0)), (2, .ref (a 0)), (3, .ref oL), (4, .ref oD), (5, .int (nI (4 * i9)))] := hl
  refine lv_aload_n hx hb dL_law_1293 rfl (lv_at hl 1 rfl) ?_
  refine bV_i (As := []) (wn := fun u : Cx => lawW k a b oL oD σ u σ y fo fd) S hP hK hN hD hS hA (m_X6_bundles l G k _ b σ x hok) gw_164 rfl rfl rfl hdl_164 rfl rfl pC (fun _ => pC.symm) 6 0 rfl rfl rfl rfl hl.1 rfl rfl ⟨(by show _ ≤ (601024 : Nat); omega), (by show _ ≤ (7293034 : Nat); omega)⟩ dL_law_1294 (fun rX u H locs hw hP hD hS => ?_)
  obtain ⟨x1, rfl⟩ : ∃ z, z = u := ⟨_, rfl⟩
  obtain ⟨v1, hq, cv1, hok1⟩ := hw
  subst rX
  refine lv_aload_n hx hb dL_law_1297 rfl (lv_at hl 2 rfl) ?_
  refine bV_i (As := []) (wn := fun u : Mx => lawW k a b oL oD σ x1 σ u fo fd) S hP hK hN hD hS hA (m_X7_bundles l G k _ a σ y  hmk) gw_167 rfl rfl rfl hdl_167 rfl rfl pM (fun _ => pM.symm) 7 0 rfl rfl rfl rfl hl.1 rfl rfl ⟨(by show _ ≤ (601024 : Nat); omega), (by show _ ≤ (7293034 : Nat); omega)⟩ dL_law_1298 (fun rX u H locs hw hP hD hS => ?_)
  obtain ⟨y2, rfl⟩ : ∃ z, z = u := ⟨_, rfl⟩
  obtain ⟨v2, hq, hv2, hmk2, ht2⟩ := hw
  subst rX
  refine lv_icmp_eq (tgt := 1794) hx hb dL_law_1301 (by decide) (fun q1301 => ?_) (fun q1301 => ?_)
  · skip
    refine W.widen (k := c0 + 5) (n := s0 + 12040) (by omega) (by omega) ?_
    exact kk _ _ _ _ _ _ _ _ hok1 hmk2 hP hD hS (lv_sub hl [0, 1, 2, 3, 4, 5] rfl)
  · skip
    exact absurd (by rw [cv1, hv2 rfl]) q1301
set_option maxHeartbeats 4000000 in
set_option maxRecDepth 100000 in
theorem law_c20 (S : CallFix p m c code 9 s #[.ref bS] lw_tbl RL) (hst : l.stackTraces = false) (hX : va_X bS L xs s s.heap) (hbl : bS < s.heap.size) (hbA : ¬ A bS) (hK : va_K G vwCl (tyG k) s) (hN : gN s) (hE : xE A s) (hA : ∀ q, s.heap.size ≤ q → A q) (hc0 : c0 + 5 ≤ 601024) (hs0 : s0 + 12040 ≤ 7293034) (hi9 : 4 * i9 + 4 ≤ L) (hL : L ≤ 2048)
    (hok : COK σ x) (hmk : MOK σ y) (hP : va_P G vwCl (lawW k a b oL oD σ x σ y fo fd) H) (hD : va_D A (lawW k a b oL oD σ x σ y fo fd)) (hS : va_S A s.heap H locs) (hl : lv_has ls 9 [(0, .ref bS), (1, .ref (b 0)), (2, .ref (a 0)), (3, .ref oL), (4, .ref oD), (5, .int (nI (4 * i9)))])
    (kk : ∀ (σ1 : Sg) (x1 : Cx) (y1 : Mx) (fo1 : Nat → Int64) (fd1 : Nat → UInt64) (H1 : Heap) (locs1 : List Loc) (ls1 : Array Slot), COK σ1 x1 → MOK σ1 y1 → va_P G vwCl (lawW k a b oL oD σ1 x1 σ1 y1 fo1 fd1) H1 → va_D A (lawW k a b oL oD σ1 x1 σ1 y1 fo1 fd1) → va_S A s.heap H1 locs1 → lv_has ls1 9 [(0, .ref bS), (1, .ref (b 0)), (2, .ref (a 0)), (3, .ref oL), (4, .ref oD), (5, .int (nI (4 * i9)))] → W p l e room_1 s m #[.ref bS] below meth c H1 locs1 (c0 + 5) (s0 + 12040) Q (F0 m 1794 ls1 [])) : W p l e room_1 s m #[.ref bS] below meth c H locs c0 s0 Q (F0 m 1306 ls []) := by
  obtain ⟨hx, hb, hml, hown, hts⟩ := id S
  have hl : lv_has ls 9 [(0, .ref bS), (1, .ref (b 0)), (2, .ref (a 0)), (3, .ref oL), (4, .ref oD), (5, .int (nI (4 * i9)))] := hl
  refine lv_aload_n hx hb dL_law_1306 rfl (lv_at hl 1 rfl) ?_
  refine lv_aload_n hx hb dL_law_1307 rfl (lv_at hl 0 rfl) ?_
  refine lv_iload hx hb dL_law_1308 (lv_at hl 5 rfl) ?_
  refine n_iconst 1 (by decide) hx hb dL_law_1310 ?_
  refine n_iadd hx hb dL_law_1311 ?_
  refine s_ld (i := (4 * i9) + 1) hx hb hX hbl hbA hS (by omega) (by omega) dL_law_1312 ?_
  refine lv_aload_n hx hb dL_law_1313 rfl (lv_at hl 3 rfl) ?_
  refine bH_i (As := [.ref (b 0), .int (xs ((4 * i9) + 1)), .ref oL]) (wn := fun u : (Cx) × (Nat → Int64) => lawW k a b oL oD σ u.1 σ y u.2 fd) S hP hK hN hE hD hS hA (m_L_blame l hst G k _ b σ x oL fo (xs ((4 * i9) + 1)) hok) gw_168 rfl rfl rfl hdl_168 rfl rfl pL (fun _ => pL.symm) rfl hl.1 rfl rfl ⟨(by show _ ≤ (601024 : Nat); omega), (by show _ ≤ (7293034 : Nat); omega)⟩ dL_law_1314 (fun rX u H locs hw hP hD hS => ?_)
  obtain ⟨x1, f1⟩ := u
  dsimp only at hw hP hD
  obtain ⟨rfl, ho1, hok1⟩ := hw
  refine lv_istore (lv' := [(6, .int (nI (e_fea σ (xs ((4 * i9) + 1))))), (0, .ref bS), (1, .ref (b 0)), (2, .ref (a 0)), (3, .ref oL), (4, .ref oD), (5, .int (nI (4 * i9)))]) hx hb dL_law_1317 hl (by decide) rfl (fun ls hl => ?_)
  refine lv_aload_n hx hb dL_law_1319 rfl (lv_at hl 3 rfl) ?_
  refine lv_aload_n hx hb dL_law_1320 rfl (lv_at hl 1 rfl) ?_
  refine lv_iload hx hb dL_law_1321 (lv_at hl 6 rfl) ?_
  refine n_iconst 1 (by decide) hx hb dL_law_1323 ?_
  refine n_iadd hx hb dL_law_1324 ?_
  refine s_ld (i := (4 * i9) + 1) hx hb hX hbl hbA hS (by omega) (by omega) dL_law_1325 ?_
  refine bV_i (As := [.int (xs ((4 * i9) + 1))]) (wn := fun u : Mx => lawW k a b oL oD σ x1 σ u f1 fd) S hP hK hN hD hS hA (m_X7_blame l G k _ a σ y (xs ((4 * i9) + 1)) hmk) gw_170 rfl rfl rfl hdl_170 rfl rfl pM (fun _ => pM.symm) 7 0 rfl rfl rfl rfl hl.1 rfl rfl ⟨(by show _ ≤ (601024 : Nat); omega), (by show _ ≤ (7293034 : Nat); omega)⟩ dL_law_1326 (fun rX u H locs hw hP hD hS => ?_)
  obtain ⟨y2, rfl⟩ : ∃ z, z = u := ⟨_, rfl⟩
  obtain ⟨v2, hq, hv2, hmk2, ht2⟩ := hw
  subst rX
  refine lv_istore (lv' := [(7, .int v2), (6, .int (nI (e_fea σ (xs ((4 * i9) + 1))))), (0, .ref bS), (1, .ref (b 0)), (2, .ref (a 0)), (3, .ref oL), (4, .ref oD), (5, .int (nI (4 * i9)))]) hx hb dL_law_1329 hl (by decide) rfl (fun ls hl => ?_)
  refine lv_aload_n hx hb dL_law_1331 rfl (lv_at hl 4 rfl) ?_
  refine cV_i (As := []) S (P_l (P_perm pM hP)) hK hN (m_X7_thrown l G k _ _ _ _ _ _ _ _ _ _ _ _ _ _ _ _ _ _ _ _ _ _ _ _) gw_100 rfl rfl rfl hdl_100 rfl rfl [0] rfl 7 0 rfl rfl rfl rfl hl.1 rfl rfl ⟨(by show _ ≤ (601024 : Nat); omega), (by show _ ≤ (7293034 : Nat); omega)⟩ dL_law_1332 (fun rX hr => ?_)
  subst hr
  rw [ht2]
  refine lv_iload hx hb dL_law_1335 (lv_at hl 1 rfl) ?_
  refine lv_icmp_eq (tgt := 1342) hx hb dL_law_1337 (by decide) (fun q1337 => ?_) (fun q1337 => ?_)
  · skip
    refine lv_iload hx hb dL_law_1342 (lv_at hl 1 rfl) ?_
    refine lv_if_ne (tgt := 1359) hx hb dL_law_1344 (by decide) (fun q1344 => ?_) (fun q1344 => ?_)
    · skip
      refine lv_goto (tgt := 1794) hx hb dL_law_1359 (by decide) ?_
      refine W.widen (k := c0 + 5) (n := s0 + 12040) (by omega) (by omega) ?_
      exact kk _ _ _ _ _ _ _ _ hok1 hmk2 hP hD hS (lv_sub hl [2, 3, 4, 5, 6, 7] rfl)
    · skip
      have he := (nI_0' e_fea_lt).mp q1344
      refine lv_aload_n hx hb dL_law_1347 rfl (lv_at hl 5 rfl) ?_
      refine n_iconst 0 (by decide) hx hb dL_law_1348 ?_
      refine l_lald hx hb hK hP 47 rfl (by decide) (by decide) dL_law_1349 ?_
      refine lv_iload hx hb dL_law_1350 (lv_at hl 0 rfl) ?_
      refine lv_i2l (v := (v2).toInt64) hx hb dL_law_1352 rfl ?_
      refine W.lcmp hx hb dL_law_1353 ?_
      refine lv_if_eq (tgt := 1359) hx hb dL_law_1354 (by decide) (fun q1354 => ?_) (fun q1354 => ?_)
      · skip
        refine lv_goto (tgt := 1794) hx hb dL_law_1359 (by decide) ?_
        refine W.widen (k := c0 + 5) (n := s0 + 12040) (by omega) (by omega) ?_
        exact kk _ _ _ _ _ _ _ _ hok1 hmk2 hP hD hS (lv_sub hl [2, 3, 4, 5, 6, 7] rfl)
      · skip
        exact absurd (by rw [ho1 he, hv2 he]; exact lg_same _) q1354
  · skip
    exact absurd rfl q1337
set_option maxHeartbeats 4000000 in
set_option maxRecDepth 100000 in
theorem law_c21 (S : CallFix p m c code 9 s #[.ref bS] lw_tbl RL) (hst : l.stackTraces = false) (hX : va_X bS L xs s s.heap) (hbl : bS < s.heap.size) (hbA : ¬ A bS) (hK : va_K G vwCl (tyG k) s) (hN : gN s) (hE : xE A s) (hA : ∀ q, s.heap.size ≤ q → A q) (hc0 : c0 + 5 ≤ 601024) (hs0 : s0 + 12040 ≤ 7293034) (hi9 : 4 * i9 + 4 ≤ L) (hL : L ≤ 2048)
    (hok : COK σ x) (hmk : MOK σ y) (hP : va_P G vwCl (lawW k a b oL oD σ x σ y fo fd) H) (hD : va_D A (lawW k a b oL oD σ x σ y fo fd)) (hS : va_S A s.heap H locs) (hl : lv_has ls 9 [(0, .ref bS), (1, .ref (b 0)), (2, .ref (a 0)), (3, .ref oL), (4, .ref oD), (5, .int (nI (4 * i9)))])
    (kk : ∀ (σ1 : Sg) (x1 : Cx) (y1 : Mx) (fo1 : Nat → Int64) (fd1 : Nat → UInt64) (H1 : Heap) (locs1 : List Loc) (ls1 : Array Slot), COK σ1 x1 → MOK σ1 y1 → va_P G vwCl (lawW k a b oL oD σ1 x1 σ1 y1 fo1 fd1) H1 → va_D A (lawW k a b oL oD σ1 x1 σ1 y1 fo1 fd1) → va_S A s.heap H1 locs1 → lv_has ls1 9 [(0, .ref bS), (1, .ref (b 0)), (2, .ref (a 0)), (3, .ref oL), (4, .ref oD), (5, .int (nI (4 * i9)))] → W p l e room_1 s m #[.ref bS] below meth c H1 locs1 (c0 + 5) (s0 + 12040) Q (F0 m 1794 ls1 [])) : W p l e room_1 s m #[.ref bS] below meth c H locs c0 s0 Q (F0 m 1362 ls []) := by
  obtain ⟨hx, hb, hml, hown, hts⟩ := id S
  have hl : lv_has ls 9 [(0, .ref bS), (1, .ref (b 0)), (2, .ref (a 0)), (3, .ref oL), (4, .ref oD), (5, .int (nI (4 * i9)))] := hl
  refine lv_aload_n hx hb dL_law_1362 rfl (lv_at hl 1 rfl) ?_
  refine bV_i (As := []) (wn := fun u : Cx => lawW k a b oL oD σ u σ y fo fd) S hP hK hN hD hS hA (m_X6_candidateCount l G k _ b σ x hok) gw_171 rfl rfl rfl hdl_171 rfl rfl pC (fun _ => pC.symm) 6 0 rfl rfl rfl rfl hl.1 rfl rfl ⟨(by show _ ≤ (601024 : Nat); omega), (by show _ ≤ (7293034 : Nat); omega)⟩ dL_law_1363 (fun rX u H locs hw hP hD hS => ?_)
  obtain ⟨x1, rfl⟩ : ∃ z, z = u := ⟨_, rfl⟩
  obtain ⟨v1, hq, cv1, hok1⟩ := hw
  subst rX
  refine lv_aload_n hx hb dL_law_1366 rfl (lv_at hl 2 rfl) ?_
  refine bV_i (As := []) (wn := fun u : Mx => lawW k a b oL oD σ x1 σ u fo fd) S hP hK hN hD hS hA (m_X7_candidateCount l G k _ a σ y  hmk) gw_174 rfl rfl rfl hdl_174 rfl rfl pM (fun _ => pM.symm) 7 0 rfl rfl rfl rfl hl.1 rfl rfl ⟨(by show _ ≤ (601024 : Nat); omega), (by show _ ≤ (7293034 : Nat); omega)⟩ dL_law_1367 (fun rX u H locs hw hP hD hS => ?_)
  obtain ⟨y2, rfl⟩ : ∃ z, z = u := ⟨_, rfl⟩
  obtain ⟨v2, hq, hv2, hmk2, ht2, -⟩ := hw
  subst rX
  refine lv_icmp_eq (tgt := 1794) hx hb dL_law_1370 (by decide) (fun q1370 => ?_) (fun q1370 => ?_)
  · skip
    refine W.widen (k := c0 + 5) (n := s0 + 12040) (by omega) (by omega) ?_
    exact kk _ _ _ _ _ _ _ _ hok1 hmk2 hP hD hS (lv_sub hl [0, 1, 2, 3, 4, 5] rfl)
  · skip
    exact absurd (by rw [cv1, hv2 rfl]) q1370
set_option maxHeartbeats 4000000 in
set_option maxRecDepth 100000 in
theorem law_c22 (S : CallFix p m c code 9 s #[.ref bS] lw_tbl RL) (hst : l.stackTraces = false) (hX : va_X bS L xs s s.heap) (hbl : bS < s.heap.size) (hbA : ¬ A bS) (hK : va_K G vwCl (tyG k) s) (hN : gN s) (hE : xE A s) (hA : ∀ q, s.heap.size ≤ q → A q) (hc0 : c0 + 5 ≤ 601024) (hs0 : s0 + 12040 ≤ 7293034) (hi9 : 4 * i9 + 4 ≤ L) (hL : L ≤ 2048)
    (hok : COK σ x) (hmk : MOK σ y) (hP : va_P G vwCl (lawW k a b oL oD σ x σ y fo fd) H) (hD : va_D A (lawW k a b oL oD σ x σ y fo fd)) (hS : va_S A s.heap H locs) (hl : lv_has ls 9 [(0, .ref bS), (1, .ref (b 0)), (2, .ref (a 0)), (3, .ref oL), (4, .ref oD), (5, .int (nI (4 * i9)))])
    (kk : ∀ (σ1 : Sg) (x1 : Cx) (y1 : Mx) (fo1 : Nat → Int64) (fd1 : Nat → UInt64) (H1 : Heap) (locs1 : List Loc) (ls1 : Array Slot), COK σ1 x1 → MOK σ1 y1 → va_P G vwCl (lawW k a b oL oD σ1 x1 σ1 y1 fo1 fd1) H1 → va_D A (lawW k a b oL oD σ1 x1 σ1 y1 fo1 fd1) → va_S A s.heap H1 locs1 → lv_has ls1 9 [(0, .ref bS), (1, .ref (b 0)), (2, .ref (a 0)), (3, .ref oL), (4, .ref oD), (5, .int (nI (4 * i9)))] → W p l e room_1 s m #[.ref bS] below meth c H1 locs1 (c0 + 5) (s0 + 12040) Q (F0 m 1794 ls1 [])) : W p l e room_1 s m #[.ref bS] below meth c H locs c0 s0 Q (F0 m 1375 ls []) := by
  obtain ⟨hx, hb, hml, hown, hts⟩ := id S
  have hl : lv_has ls 9 [(0, .ref bS), (1, .ref (b 0)), (2, .ref (a 0)), (3, .ref oL), (4, .ref oD), (5, .int (nI (4 * i9)))] := hl
  refine lv_aload_n hx hb dL_law_1375 rfl (lv_at hl 1 rfl) ?_
  refine lv_aload_n hx hb dL_law_1376 rfl (lv_at hl 0 rfl) ?_
  refine lv_iload hx hb dL_law_1377 (lv_at hl 5 rfl) ?_
  refine n_iconst 1 (by decide) hx hb dL_law_1379 ?_
  refine n_iadd hx hb dL_law_1380 ?_
  refine s_ld (i := (4 * i9) + 1) hx hb hX hbl hbA hS (by omega) (by omega) dL_law_1381 ?_
  refine lv_aload_n hx hb dL_law_1382 rfl (lv_at hl 3 rfl) ?_
  refine bH_i (As := [.ref (b 0), .int (xs ((4 * i9) + 1)), .ref oL]) (wn := fun u : (Cx) × (Nat → Int64) => lawW k a b oL oD σ u.1 σ y u.2 fd) S hP hK hN hE hD hS hA (m_L_candidate l hst G k _ b σ x oL fo (xs ((4 * i9) + 1)) hok) gw_175 rfl rfl rfl hdl_175 rfl rfl pL (fun _ => pL.symm) rfl hl.1 rfl rfl ⟨(by show _ ≤ (601024 : Nat); omega), (by show _ ≤ (7293034 : Nat); omega)⟩ dL_law_1383 (fun rX u H locs hw hP hD hS => ?_)
  obtain ⟨x1, f1⟩ := u
  dsimp only at hw hP hD
  obtain ⟨rfl, ho1, hok1⟩ := hw
  refine lv_istore (lv' := [(6, .int (nI (e_if (isF (xs ((4 * i9) + 1)) (cntC σ))))), (0, .ref bS), (1, .ref (b 0)), (2, .ref (a 0)), (3, .ref oL), (4, .ref oD), (5, .int (nI (4 * i9)))]) hx hb dL_law_1386 hl (by decide) rfl (fun ls hl => ?_)
  refine lv_aload_n hx hb dL_law_1388 rfl (lv_at hl 3 rfl) ?_
  refine lv_aload_n hx hb dL_law_1389 rfl (lv_at hl 1 rfl) ?_
  refine lv_iload hx hb dL_law_1390 (lv_at hl 6 rfl) ?_
  refine n_iconst 1 (by decide) hx hb dL_law_1392 ?_
  refine n_iadd hx hb dL_law_1393 ?_
  refine s_ld (i := (4 * i9) + 1) hx hb hX hbl hbA hS (by omega) (by omega) dL_law_1394 ?_
  refine bV_i (As := [.int (xs ((4 * i9) + 1))]) (wn := fun u : Mx => lawW k a b oL oD σ x1 σ u f1 fd) S hP hK hN hD hS hA (m_X7_candidate l G k _ a σ y (xs ((4 * i9) + 1)) hmk) gw_177 rfl rfl rfl hdl_177 rfl rfl pM (fun _ => pM.symm) 7 0 rfl rfl rfl rfl hl.1 rfl rfl ⟨(by show _ ≤ (601024 : Nat); omega), (by show _ ≤ (7293034 : Nat); omega)⟩ dL_law_1395 (fun rX u H locs hw hP hD hS => ?_)
  obtain ⟨y2, rfl⟩ : ∃ z, z = u := ⟨_, rfl⟩
  obtain ⟨v2, hq, hv2, hmk2, ht2⟩ := hw
  subst rX
  refine lv_istore (lv' := [(7, .int v2), (6, .int (nI (e_if (isF (xs ((4 * i9) + 1)) (cntC σ))))), (0, .ref bS), (1, .ref (b 0)), (2, .ref (a 0)), (3, .ref oL), (4, .ref oD), (5, .int (nI (4 * i9)))]) hx hb dL_law_1398 hl (by decide) rfl (fun ls hl => ?_)
  refine lv_aload_n hx hb dL_law_1400 rfl (lv_at hl 4 rfl) ?_
  refine cV_i (As := []) S (P_l (P_perm pM hP)) hK hN (m_X7_thrown l G k _ _ _ _ _ _ _ _ _ _ _ _ _ _ _ _ _ _ _ _ _ _ _ _) gw_100 rfl rfl rfl hdl_100 rfl rfl [0] rfl 7 0 rfl rfl rfl rfl hl.1 rfl rfl ⟨(by show _ ≤ (601024 : Nat); omega), (by show _ ≤ (7293034 : Nat); omega)⟩ dL_law_1401 (fun rX hr => ?_)
  subst hr
  rw [ht2]
  refine lv_iload hx hb dL_law_1404 (lv_at hl 1 rfl) ?_
  refine lv_icmp_eq (tgt := 1411) hx hb dL_law_1406 (by decide) (fun q1406 => ?_) (fun q1406 => ?_)
  · skip
    refine lv_iload hx hb dL_law_1411 (lv_at hl 1 rfl) ?_
    refine lv_if_ne (tgt := 1428) hx hb dL_law_1413 (by decide) (fun q1413 => ?_) (fun q1413 => ?_)
    · skip
      refine lv_goto (tgt := 1794) hx hb dL_law_1428 (by decide) ?_
      refine W.widen (k := c0 + 5) (n := s0 + 12040) (by omega) (by omega) ?_
      exact kk _ _ _ _ _ _ _ _ hok1 hmk2 hP hD hS (lv_sub hl [2, 3, 4, 5, 6, 7] rfl)
    · skip
      have he := (nI_0' e_if_lt).mp q1413
      refine lv_aload_n hx hb dL_law_1416 rfl (lv_at hl 5 rfl) ?_
      refine n_iconst 0 (by decide) hx hb dL_law_1417 ?_
      refine l_lald hx hb hK hP 47 rfl (by decide) (by decide) dL_law_1418 ?_
      refine lv_iload hx hb dL_law_1419 (lv_at hl 0 rfl) ?_
      refine lv_i2l (v := (v2).toInt64) hx hb dL_law_1421 rfl ?_
      refine W.lcmp hx hb dL_law_1422 ?_
      refine lv_if_eq (tgt := 1428) hx hb dL_law_1423 (by decide) (fun q1423 => ?_) (fun q1423 => ?_)
      · skip
        refine lv_goto (tgt := 1794) hx hb dL_law_1428 (by decide) ?_
        refine W.widen (k := c0 + 5) (n := s0 + 12040) (by omega) (by omega) ?_
        exact kk _ _ _ _ _ _ _ _ hok1 hmk2 hP hD hS (lv_sub hl [2, 3, 4, 5, 6, 7] rfl)
      · skip
        exact absurd (by rw [ho1 he, hv2 he]; exact lg_same _) q1423
  · skip
    exact absurd rfl q1406
set_option maxHeartbeats 4000000 in
set_option maxRecDepth 100000 in
theorem law_c23 (S : CallFix p m c code 9 s #[.ref bS] lw_tbl RL) (hst : l.stackTraces = false) (hX : va_X bS L xs s s.heap) (hbl : bS < s.heap.size) (hbA : ¬ A bS) (hK : va_K G vwCl (tyG k) s) (hN : gN s) (hE : xE A s) (hA : ∀ q, s.heap.size ≤ q → A q) (hc0 : c0 + 5 ≤ 601024) (hs0 : s0 + 12040 ≤ 7293034) (hi9 : 4 * i9 + 4 ≤ L) (hL : L ≤ 2048)
    (hok : COK σ x) (hmk : MOK σ y) (hP : va_P G vwCl (lawW k a b oL oD σ x σ y fo fd) H) (hD : va_D A (lawW k a b oL oD σ x σ y fo fd)) (hS : va_S A s.heap H locs) (hl : lv_has ls 9 [(0, .ref bS), (1, .ref (b 0)), (2, .ref (a 0)), (3, .ref oL), (4, .ref oD), (5, .int (nI (4 * i9)))])
    (kk : ∀ (σ1 : Sg) (x1 : Cx) (y1 : Mx) (fo1 : Nat → Int64) (fd1 : Nat → UInt64) (H1 : Heap) (locs1 : List Loc) (ls1 : Array Slot), COK σ1 x1 → MOK σ1 y1 → va_P G vwCl (lawW k a b oL oD σ1 x1 σ1 y1 fo1 fd1) H1 → va_D A (lawW k a b oL oD σ1 x1 σ1 y1 fo1 fd1) → va_S A s.heap H1 locs1 → lv_has ls1 9 [(0, .ref bS), (1, .ref (b 0)), (2, .ref (a 0)), (3, .ref oL), (4, .ref oD), (5, .int (nI (4 * i9)))] → W p l e room_1 s m #[.ref bS] below meth c H1 locs1 (c0 + 5) (s0 + 12040) Q (F0 m 1794 ls1 [])) : W p l e room_1 s m #[.ref bS] below meth c H locs c0 s0 Q (F0 m 1431 ls []) := by
  obtain ⟨hx, hb, hml, hown, hts⟩ := id S
  have hl : lv_has ls 9 [(0, .ref bS), (1, .ref (b 0)), (2, .ref (a 0)), (3, .ref oL), (4, .ref oD), (5, .int (nI (4 * i9)))] := hl
  refine lv_aload_n hx hb dL_law_1431 rfl (lv_at hl 1 rfl) ?_
  refine bV_i (As := []) (wn := fun u : Cx => lawW k a b oL oD σ u σ y fo fd) S hP hK hN hD hS hA (m_X6_forced l G k _ b σ x hok) gw_178 rfl rfl rfl hdl_178 rfl rfl pC (fun _ => pC.symm) 6 0 rfl rfl rfl rfl hl.1 rfl rfl ⟨(by show _ ≤ (601024 : Nat); omega), (by show _ ≤ (7293034 : Nat); omega)⟩ dL_law_1432 (fun rX u H locs hw hP hD hS => ?_)
  obtain ⟨x1, rfl⟩ : ∃ z, z = u := ⟨_, rfl⟩
  obtain ⟨v1, hq, cv1, hok1⟩ := hw
  subst rX
  refine lv_aload_n hx hb dL_law_1435 rfl (lv_at hl 2 rfl) ?_
  refine bV_i (As := []) (wn := fun u : Mx => lawW k a b oL oD σ x1 σ u fo fd) S hP hK hN hD hS hA (m_X7_forced l G k _ a σ y  hmk) gw_181 rfl rfl rfl hdl_181 rfl rfl pM (fun _ => pM.symm) 7 0 rfl rfl rfl rfl hl.1 rfl rfl ⟨(by show _ ≤ (601024 : Nat); omega), (by show _ ≤ (7293034 : Nat); omega)⟩ dL_law_1436 (fun rX u H locs hw hP hD hS => ?_)
  obtain ⟨y2, rfl⟩ : ∃ z, z = u := ⟨_, rfl⟩
  obtain ⟨v2, hq, hv2, hmk2, ht2⟩ := hw
  subst rX
  refine lv_icmp_eq (tgt := 1794) hx hb dL_law_1439 (by decide) (fun q1439 => ?_) (fun q1439 => ?_)
  · skip
    refine W.widen (k := c0 + 5) (n := s0 + 12040) (by omega) (by omega) ?_
    exact kk _ _ _ _ _ _ _ _ hok1 hmk2 hP hD hS (lv_sub hl [0, 1, 2, 3, 4, 5] rfl)
  · skip
    exact absurd (by rw [cv1, hv2 rfl]) q1439
end LCASES1
