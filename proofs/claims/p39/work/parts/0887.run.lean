set_option maxHeartbeats 4000000 in
set_option maxRecDepth 100000 in
theorem law_run {p : Program} {l : Launch} {e : Env} {s : State} {m : MethodId} {below : List Frame} {meth : Method} {c : Code} {A : Nat → Prop} {G : va_G} {k : Nat → ClassId} {bS : Nat} {b : Nat → Nat} {oR oC oN : Nat} {fr fc fn : Nat → Int32} (S : CallFix p m c code 15 s #[.ref bS] lw_tbl RL) (hst : l.stackTraces = false) (hK : va_K G vwCl (tyG k) s) (hN : gN s) (hE : xE A s) (hA : ∀ q, s.heap.size ≤ q → A q) (hr : meth.sig.returnType = ret) (hlocks : meth.locks = false) (hA2 : ∀ q, A q → s.heap.size ≤ q) (harr : (Cond.arrayClass .int).before #[.ref bS] s = true) {σ : Sg} {x : Cx} {H : Heap} {locs : List Loc} {ls : Array Slot} (hB : BOK σ fr fc fn) (hok : COK σ x) (hP : va_P G vwCl (clW k b σ x ++ [(oR, .inl (k 0, 60, .inl fr)), (oC, .inl (k 0, 40, .inl fc)), (oN, .inl (k 0, 3, .inl fn))]) H) (hD : va_D A (clW k b σ x ++ [(oR, .inl (k 0, 60, .inl fr)), (oC, .inl (k 0, 40, .inl fc)), (oN, .inl (k 0, 3, .inl fn))])) (hS : va_S A s.heap H locs) (hl : lv_has ls 15 [(0, .ref bS), (1, .ref (b 0)), (2, .ref oR), (3, .ref oC), (4, .ref oN)]) : W p l e room_1 s m #[.ref bS] below meth c H locs 154 11271 (lw_Z below #[.ref bS] s) (F0 m 40 ls []) := by
  obtain ⟨hx, hb, hml, hown, hts⟩ := id S
  have hwf : WF σ := hok.1
  obtain ⟨hn7, hk4, hbd, hf0, hf1, hf2, hr2, hr4, hc3⟩ := id hB
  refine lv_aload hx hb dL_law_40 (lv_at hl 4 rfl) ?_
  refine n_iconst 0 (by decide) hx hb dL_law_42 ?_
  refine r_iald hx hb hK hP 33 rfl (by omega) (by first | decide | omega) dL_law_43 ?_
  rw [hf0]
  refine lv_istore (lv' := [(5, .int (nI (sN σ))), (0, .ref bS), (1, .ref (b 0)), (2, .ref oR), (3, .ref oC), (4, .ref oN)]) hx hb dL_law_44 hl (by decide) rfl (fun ls hl => ?_)
  refine lv_aload_n hx hb dL_law_46 rfl (lv_at hl 2 rfl) ?_
  refine bV_i (As := []) (wn := fun u : Cx => clW k b σ u ++ [(oR, .inl (k 0, 60, .inl fr)), (oC, .inl (k 0, 40, .inl fc)), (oN, .inl (k 0, 3, .inl fn))]) S hP hK hN hD hS hA (m_X6_candidateCount l G k _ b σ x hok) gw_56 rfl rfl rfl hdq_X6_candidateCount rfl rfl (List.Perm.refl _) (fun _ => List.Perm.refl _) 6 0 rfl rfl rfl rfl hl.1 rfl rfl ⟨(by show _ ≤ (600130 : Nat); omega), (by show _ ≤ (7301080 : Nat); omega)⟩ dL_law_47 (fun rX x1 H locs hw hP hD hS => ?_)
  obtain ⟨v1, hv1, hw1, hok⟩ := hw
  subst hv1
  subst hw1
  try dsimp only at hP hD
  have hP : va_P G vwCl (clW k b σ x1 ++ [(oR, .inl (k 0, 60, .inl fr)), (oC, .inl (k 0, 40, .inl fc)), (oN, .inl (k 0, 3, .inl fn))]) H := hP
  have hD : va_D A (clW k b σ x1 ++ [(oR, .inl (k 0, 60, .inl fr)), (oC, .inl (k 0, 40, .inl fc)), (oN, .inl (k 0, 3, .inl fn))]) := hD
  refine lv_istore (lv' := [(6, .int (nI (cntC σ))), (5, .int (nI (sN σ))), (0, .ref bS), (1, .ref (b 0)), (2, .ref oR), (3, .ref oC), (4, .ref oN)]) hx hb dL_law_50 hl (by decide) rfl (fun ls hl => ?_)
  refine lv_iconst (v := -1) hx hb dL_law_52 (by decide) ?_
  refine lv_istore (lv' := [(7, .int (-1)), (6, .int (nI (cntC σ))), (5, .int (nI (sN σ))), (0, .ref bS), (1, .ref (b 0)), (2, .ref oR), (3, .ref oC), (4, .ref oN)]) hx hb dL_law_53 hl (by decide) rfl (fun ls hl => ?_)
  refine n_iconst 0 (by decide) hx hb dL_law_55 ?_
  refine lv_istore (lv' := [(8, .int (nI 0)), (7, .int (-1)), (6, .int (nI (cntC σ))), (5, .int (nI (sN σ))), (0, .ref bS), (1, .ref (b 0)), (2, .ref oR), (3, .ref oC), (4, .ref oN)]) hx hb dL_law_56 hl (by decide) rfl (fun ls hl => ?_)
  refine W.widen (k := 154 + 8 * 0) (n := 11271 + 48 * 0) (by omega) (by omega) ?_
  refine lawA (c0 := 154) (s0 := 11271) S hst hK hN hE hA hwf hB (by omega) (by omega) (fun x H locs ls hok hP hD hS hl => ?_) (cntC σ + 1) 0 (by omega) (Nat.zero_le _) _ _ _ _ hok hP hD hS (lv_sub hl [4, 5, 6, 7, 8, 3, 2, 1, 0] rfl)
  refine n_bipush 49 (by decide) hx hb dL_law_112 ?_
  refine n_newI (N := 49) hx hb harr hK hP hD hS hA (by decide) (by show _ ≤ (600130 : Nat); omega) (by show _ ≤ (7301080 : Nat); omega) dL_law_114 (fun oS H hP hD hS => ?_)
  have hP : va_P G vwCl (clW k b σ x ++ [(oR, .inl (k 0, 60, .inl fr)), (oC, .inl (k 0, 40, .inl fc)), (oN, .inl (k 0, 3, .inl fn)), (oS, .inl (k 0, 49, .inl (nA (fun _ => 0))))]) H := hP
  have hD : va_D A (clW k b σ x ++ [(oR, .inl (k 0, 60, .inl fr)), (oC, .inl (k 0, 40, .inl fc)), (oN, .inl (k 0, 3, .inl fn)), (oS, .inl (k 0, 49, .inl (nA (fun _ => 0))))]) := hD
  refine lv_astore (lv' := [(8, .ref oS), (0, .ref bS), (1, .ref (b 0)), (2, .ref oR), (3, .ref oC), (4, .ref oN), (5, .int (nI (sN σ))), (6, .int (nI (cntC σ)))]) hx hb dL_law_116 hl (by decide) rfl (fun ls hl => ?_)
  refine n_iconst 0 (by decide) hx hb dL_law_118 ?_
  refine lv_istore (lv' := [(9, .int (nI 0)), (8, .ref oS), (0, .ref bS), (1, .ref (b 0)), (2, .ref oR), (3, .ref oC), (4, .ref oN), (5, .int (nI (sN σ))), (6, .int (nI (cntC σ)))]) hx hb dL_law_119 hl (by decide) rfl (fun ls hl => ?_)
  refine W.widen (k := 32923 + 392 * 0) (n := 207928 + 2352 * 0) (by omega) (by omega) ?_
  refine lawI (c0 := 32923) (s0 := 207928) S hst hK hN hE hA hwf hn7 (by omega) (by omega) (fun x gf H locs ls hgk hok hP hD hS hl => ?_) (smC σ + 1) 0 (by omega) (Nat.zero_le _) _ _ _ _ _ (GOK_cong (GOK_0 _) (TS_0 σ)) hok hP hD hS (lv_sub hl [2, 3, 4, 5, 6, 7, 8, 1, 0] rfl)
  refine lawM S hst hK hN hE hA hwf hgk (by omega) (by omega) (fun x H locs ls hok hP hD hS hl => ?_) hok hP hD hS hl
  refine W.widen (k := 136411 + 12 * 0) (n := 828856 + 72 * 0) (by omega) (by omega) ?_
  refine lawC (c0 := 136411) (s0 := 828856) S hst hK hN hE hA hwf hn7 (by omega) (by omega) (fun x H locs ls hok hP hD hS hl => ?_) (sN σ + 1) 0 (by omega) (Nat.zero_le _) _ _ _ _ hok hP hD hS hl
  refine lawQ S hst hK hN hE hA hwf (by omega) (by omega) (fun x H locs ls hok hP hD hS hl => ?_) hok hP hD hS hl
  refine lv_aload_n hx hb dL_law_508 rfl (lv_at hl 1 rfl) ?_
  refine bV_i (As := []) (wn := fun u : Cx => clW k b σ u ++ [(oR, .inl (k 0, 60, .inl fr)), (oC, .inl (k 0, 40, .inl fc)), (oN, .inl (k 0, 3, .inl fn)), (oS, .inl (k 0, 49, .inl (nA gf)))]) S hP hK hN hD hS hA (m_X6_productCount l G k _ b σ x hok) gw_92 rfl rfl rfl hdq_X6_productCount rfl rfl (List.Perm.refl _) (fun _ => List.Perm.refl _) 6 0 rfl rfl rfl rfl hl.1 rfl rfl ⟨(by show _ ≤ (600130 : Nat); omega), (by show _ ≤ (7301080 : Nat); omega)⟩ dL_law_509 (fun rX x2 H locs hw hP hD hS => ?_)
  obtain ⟨v2, hv2, hw2, hok⟩ := hw
  subst hv2
  subst hw2
  try dsimp only at hP hD
  have hP : va_P G vwCl (clW k b σ x2 ++ [(oR, .inl (k 0, 60, .inl fr)), (oC, .inl (k 0, 40, .inl fc)), (oN, .inl (k 0, 3, .inl fn)), (oS, .inl (k 0, 49, .inl (nA gf)))]) H := hP
  have hD : va_D A (clW k b σ x2 ++ [(oR, .inl (k 0, 60, .inl fr)), (oC, .inl (k 0, 40, .inl fc)), (oN, .inl (k 0, 3, .inl fn)), (oS, .inl (k 0, 49, .inl (nA gf)))]) := hD
  refine lv_istore (lv' := [(13, .int (nI (cntP σ))), (0, .ref bS), (1, .ref (b 0)), (2, .ref oR), (3, .ref oC), (4, .ref oN), (5, .int (nI (sN σ))), (6, .int (nI (cntC σ)))]) hx hb dL_law_512 hl (by decide) rfl (fun ls hl => ?_)
  refine n_iconst 0 (by decide) hx hb dL_law_514 ?_
  refine lv_istore (lv' := [(14, .int (nI 0)), (13, .int (nI (cntP σ))), (0, .ref bS), (1, .ref (b 0)), (2, .ref oR), (3, .ref oC), (4, .ref oN), (5, .int (nI (sN σ))), (6, .int (nI (cntC σ)))]) hx hb dL_law_515 hl (by decide) rfl (fun ls hl => ?_)
  refine W.widen (k := 136507 + 8 * 0) (n := 829432 + 48 * 0) (by omega) (by omega) ?_
  refine lawT (c0 := 136507) (s0 := 829432) S hst hK hN hE hA hwf hB (by omega) (by omega) (fun x H locs ls hok hP hD hS hl => ?_) (sK σ + 1) 0 (by omega) (Nat.zero_le _) _ _ _ _ hok hP hD hS (lv_sub hl [2, 3, 4, 5, 6, 7, 8, 1, 0] rfl)
  have hcl := cntC_le hwf
  refine lv_aload_n hx hb dL_law_586 rfl (lv_at hl 1 rfl) ?_
  refine bV_i (As := []) (wn := fun u : Cx => clW k b σ u ++ [(oR, .inl (k 0, 60, .inl fr)), (oC, .inl (k 0, 40, .inl fc)), (oN, .inl (k 0, 3, .inl fn)), (oS, .inl (k 0, 49, .inl (nA gf)))]) S hP hK hN hD hS hA (m_X6_candidateCount l G k _ b σ x hok) gw_56 rfl rfl rfl hdq_X6_candidateCount rfl rfl (List.Perm.refl _) (fun _ => List.Perm.refl _) 6 0 rfl rfl rfl rfl hl.1 rfl rfl ⟨(by show _ ≤ (600130 : Nat); omega), (by show _ ≤ (7301080 : Nat); omega)⟩ dL_law_587 (fun rX x3 H locs hw hP hD hS => ?_)
  obtain ⟨v3, hv3, hw3, hok⟩ := hw
  subst hv3
  subst hw3
  try dsimp only at hP hD
  have hP : va_P G vwCl (clW k b σ x3 ++ [(oR, .inl (k 0, 60, .inl fr)), (oC, .inl (k 0, 40, .inl fc)), (oN, .inl (k 0, 3, .inl fn)), (oS, .inl (k 0, 49, .inl (nA gf)))]) H := hP
  have hD : va_D A (clW k b σ x3 ++ [(oR, .inl (k 0, 60, .inl fr)), (oC, .inl (k 0, 40, .inl fc)), (oN, .inl (k 0, 3, .inl fn)), (oS, .inl (k 0, 49, .inl (nA gf)))]) := hD
  refine lv_iload hx hb dL_law_590 (lv_at hl 6 rfl) ?_
  refine n_icmp_ne (tgt := 599) (by omega) (by omega) hx hb dL_law_592 (by decide) (fun q592 => ?_) (fun q592 => ?_)
  · skip
    exact absurd rfl q592
  · skip
    refine n_iconst 1 (by decide) hx hb dL_law_595 ?_
    refine lv_goto (tgt := 600) hx hb dL_law_596 (by decide) ?_
    refine W.widen (k := 600130) (n := 7301080) (by omega) (by omega) ?_
    refine va_forget (fun q hq => hA2 _ (hS.2.2 q hq)) ?_
    exact lw_ret hx hb hr hlocks dL_law_600
