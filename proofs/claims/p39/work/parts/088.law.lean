theorem hdq_X6_candidate : yX6_candidate.cls = RX6 ∧ yX6_candidate.cls ≠ "java/lang/invoke/MethodHandle" ∧ yX6_candidate.cls ≠ "java/lang/invoke/VarHandle" ∧ (parseMethodDescriptor yX6_candidate.desc).map (fun d => d.parameters.length) = some 1 := by decide +kernel
theorem hdq_X6_violations : yX6_violations.cls = RX6 ∧ yX6_violations.cls ≠ "java/lang/invoke/MethodHandle" ∧ yX6_violations.cls ≠ "java/lang/invoke/VarHandle" ∧ (parseMethodDescriptor yX6_violations.desc).map (fun d => d.parameters.length) = some 1 := by decide +kernel
theorem hdq_L_fits : yL_fits.cls ≠ "java/lang/invoke/MethodHandle" ∧ yL_fits.cls ≠ "java/lang/invoke/VarHandle" ∧ (parseMethodDescriptor yL_fits.desc).map (fun d => d.parameters.length) = some 3 := by decide +kernel
theorem hdq_X6_sample : yX6_sample.cls = RX6 ∧ yX6_sample.cls ≠ "java/lang/invoke/MethodHandle" ∧ yX6_sample.cls ≠ "java/lang/invoke/VarHandle" ∧ (parseMethodDescriptor yX6_sample.desc).map (fun d => d.parameters.length) = some 1 := by decide +kernel
theorem hdq_X6_sampleSize : yX6_sampleSize.cls = RX6 ∧ yX6_sampleSize.cls ≠ "java/lang/invoke/MethodHandle" ∧ yX6_sampleSize.cls ≠ "java/lang/invoke/VarHandle" ∧ (parseMethodDescriptor yX6_sampleSize.desc).map (fun d => d.parameters.length) = some 0 := by decide +kernel
theorem hdq_J6_bitCount_0f7a4 : yJ6_bitCount_0f7a4.cls ≠ "java/lang/invoke/MethodHandle" ∧ yJ6_bitCount_0f7a4.cls ≠ "java/lang/invoke/VarHandle" ∧ (parseMethodDescriptor yJ6_bitCount_0f7a4.desc).map (fun d => d.parameters.length) = some 1 := by decide +kernel
theorem hdq_X6_pairCount : yX6_pairCount.cls = RX6 ∧ yX6_pairCount.cls ≠ "java/lang/invoke/MethodHandle" ∧ yX6_pairCount.cls ≠ "java/lang/invoke/VarHandle" ∧ (parseMethodDescriptor yX6_pairCount.desc).map (fun d => d.parameters.length) = some 0 := by decide +kernel
theorem hdq_X6_forced : yX6_forced.cls = RX6 ∧ yX6_forced.cls ≠ "java/lang/invoke/MethodHandle" ∧ yX6_forced.cls ≠ "java/lang/invoke/VarHandle" ∧ (parseMethodDescriptor yX6_forced.desc).map (fun d => d.parameters.length) = some 0 := by decide +kernel
theorem hdq_X6_ruledOut : yX6_ruledOut.cls = RX6 ∧ yX6_ruledOut.cls ≠ "java/lang/invoke/MethodHandle" ∧ yX6_ruledOut.cls ≠ "java/lang/invoke/VarHandle" ∧ (parseMethodDescriptor yX6_ruledOut.desc).map (fun d => d.parameters.length) = some 0 := by decide +kernel
theorem hdq_X6_candidateCount : yX6_candidateCount.cls = RX6 ∧ yX6_candidateCount.cls ≠ "java/lang/invoke/MethodHandle" ∧ yX6_candidateCount.cls ≠ "java/lang/invoke/VarHandle" ∧ (parseMethodDescriptor yX6_candidateCount.desc).map (fun d => d.parameters.length) = some 0 := by decide +kernel
theorem hdq_X6_question : yX6_question.cls = RX6 ∧ yX6_question.cls ≠ "java/lang/invoke/MethodHandle" ∧ yX6_question.cls ≠ "java/lang/invoke/VarHandle" ∧ (parseMethodDescriptor yX6_question.desc).map (fun d => d.parameters.length) = some 0 := by decide +kernel
theorem hdq_X6_productCount : yX6_productCount.cls = RX6 ∧ yX6_productCount.cls ≠ "java/lang/invoke/MethodHandle" ∧ yX6_productCount.cls ≠ "java/lang/invoke/VarHandle" ∧ (parseMethodDescriptor yX6_productCount.desc).map (fun d => d.parameters.length) = some 0 := by decide +kernel
/-! p39's law, loop by loop (written by wip/p39/build39b.py) -/
section LAW39
variable {p : Program} {l : Launch} {e : Env} {s : State} {m : MethodId} {below : List Frame} {meth : Method} {c : Code} {Q : State → Prop} {A : Nat → Prop} {G : va_G} {k : Nat → ClassId} {bS : Nat} {b : Nat → Nat} {oR oC oN oS : Nat} {fr fc fn : Nat → Int32} {c0 s0 : Nat}
set_option maxHeartbeats 4000000 in
set_option maxRecDepth 100000 in
theorem lawA (S : CallFix p m c code 15 s #[.ref bS] lw_tbl RL) (hst : l.stackTraces = false) (hK : va_K G vwCl (tyG k) s) (hN : gN s) (hE : xE A s) (hA : ∀ q, s.heap.size ≤ q → A q) {σ : Sg} (hwf : WF σ) (hB : BOK σ fr fc fn) (hc0 : c0 + 32768 ≤ 600130) (hs0 : s0 + 196608 ≤ 7301080)
    (kk : ∀ (x : Cx) (H : Heap) (locs : List Loc) (ls : Array Slot), COK σ x → va_P G vwCl (clW k b σ x ++ [(oR, .inl (k 0, 60, .inl fr)), (oC, .inl (k 0, 40, .inl fc)), (oN, .inl (k 0, 3, .inl fn))]) H → va_D A (clW k b σ x ++ [(oR, .inl (k 0, 60, .inl fr)), (oC, .inl (k 0, 40, .inl fc)), (oN, .inl (k 0, 3, .inl fn))]) → va_S A s.heap H locs → lv_has ls 15 [(0, .ref bS), (1, .ref (b 0)), (2, .ref oR), (3, .ref oC), (4, .ref oN), (5, .int (nI (sN σ))), (6, .int (nI (cntC σ)))] → W p l e room_1 s m #[.ref bS] below meth c H locs (c0 + 32768) (s0 + 196608) Q (F0 m 112 ls [])) :
    ∀ (NN i : Nat), cntC σ - i < NN → i ≤ cntC σ → ∀ (x : Cx) (H : Heap) (locs : List Loc) (ls : Array Slot), COK σ x → va_P G vwCl (clW k b σ x ++ [(oR, .inl (k 0, 60, .inl fr)), (oC, .inl (k 0, 40, .inl fc)), (oN, .inl (k 0, 3, .inl fn))]) H → va_D A (clW k b σ x ++ [(oR, .inl (k 0, 60, .inl fr)), (oC, .inl (k 0, 40, .inl fc)), (oN, .inl (k 0, 3, .inl fn))]) → va_S A s.heap H locs → lv_has ls 15 [(0, .ref bS), (1, .ref (b 0)), (2, .ref oR), (3, .ref oC), (4, .ref oN), (5, .int (nI (sN σ))), (6, .int (nI (cntC σ))), (7, .int (befI σ i)), (8, .int (nI i))] → W p l e room_1 s m #[.ref bS] below meth c H locs (c0 + 8 * i) (s0 + 48 * i) Q (F0 m 58 ls []) := by
  obtain ⟨hx, hb, hml, hown, hts⟩ := id S
  intro NN
  induction NN with
  | zero => intro i h; exact absurd h (Nat.not_lt_zero _)
  | succ NN ih =>
    intro i hm9 hi x H locs ls hok hP hD hS hl
    obtain ⟨hn7, hk4, hbd, hf0, hf1, hf2, hr2, hr4, hc3⟩ := id hB
    have hcl := cntC_le hwf
    have hpw := pow12 hwf.2.1
    have hMe : M2 σ = 2 ^ sN σ := rfl
    refine lv_iload hx hb dL_law_58 (lv_at hl 8 rfl) ?_
    refine lv_iload hx hb dL_law_60 (lv_at hl 6 rfl) ?_
    refine n_icmp_ge (tgt := 112) (by omega) (by omega) hx hb dL_law_62 (by decide) (fun q62 => ?_) (fun q62 => ?_)
    · skip
      refine W.widen (k := c0 + 32768) (n := s0 + 196608) (by omega) (by omega) ?_
      exact kk _ _ _ _ hok hP hD hS (lv_sub hl [0, 1, 2, 3, 4, 5, 6] rfl)
    · skip
      have hn1 := (h_nth q62).1
      have hn2 := (h_nth q62).2
      refine lv_aload_n hx hb dL_law_65 rfl (lv_at hl 1 rfl) ?_
      refine lv_iload hx hb dL_law_66 (lv_at hl 8 rfl) ?_
      refine bW_i (As := [.int (nI i)]) (wn := fun u : Cx => clW k b σ u ++ [(oR, .inl (k 0, 60, .inl fr)), (oC, .inl (k 0, 40, .inl fc)), (oN, .inl (k 0, 3, .inl fn))]) S hP hK hN hE hD hS hA (q_can l hst G k _ b σ x i (by omega) hok) gw_59 rfl rfl rfl hdq_X6_candidate rfl rfl (List.Perm.refl _) (fun _ => List.Perm.refl _) 6 0 rfl rfl rfl rfl hl.1 rfl rfl ⟨(by show _ ≤ (600130 : Nat); omega), (by show _ ≤ (7301080 : Nat); omega)⟩ dL_law_68 (fun rX x1 H locs hw hP hD hS => ?_)
      obtain ⟨hv1, hok⟩ := hw
      subst hv1
      try dsimp only at hP hD
      have hP : va_P G vwCl (clW k b σ x1 ++ [(oR, .inl (k 0, 60, .inl fr)), (oC, .inl (k 0, 40, .inl fc)), (oN, .inl (k 0, 3, .inl fn))]) H := hP
      have hD : va_D A (clW k b σ x1 ++ [(oR, .inl (k 0, 60, .inl fr)), (oC, .inl (k 0, 40, .inl fc)), (oN, .inl (k 0, 3, .inl fn))]) := hD
      refine lv_istore (lv' := [(9, .int (nI (nthN (candB σ) i (M2 σ)))), (0, .ref bS), (1, .ref (b 0)), (2, .ref oR), (3, .ref oC), (4, .ref oN), (5, .int (nI (sN σ))), (6, .int (nI (cntC σ))), (7, .int (befI σ i)), (8, .int (nI i))]) hx hb dL_law_71 hl (by decide) rfl (fun ls hl => ?_)
      refine lv_iload hx hb dL_law_73 (lv_at hl 0 rfl) ?_
      refine lv_iload hx hb dL_law_75 (lv_at hl 8 rfl) ?_
      refine lv_icmp_le (tgt := 100) hx hb dL_law_77 (by decide) (fun q77 => ?_) (fun q77 => ?_)
      · skip
        exact absurd q77 (h_bef hwf q62)
      · skip
        refine lv_aload_n hx hb dL_law_80 rfl (lv_at hl 2 rfl) ?_
        refine lv_iload hx hb dL_law_81 (lv_at hl 0 rfl) ?_
        refine bW_i (As := [.int (nI (nthN (candB σ) i (M2 σ)))]) (wn := fun u : Cx => clW k b σ u ++ [(oR, .inl (k 0, 60, .inl fr)), (oC, .inl (k 0, 40, .inl fc)), (oN, .inl (k 0, 3, .inl fn))]) S hP hK hN hE hD hS hA (q_vio l hst G k _ b σ x1 (nthN (candB σ) i (M2 σ)) (by omega) hok) gw_62 rfl rfl rfl hdq_X6_violations rfl rfl (List.Perm.refl _) (fun _ => List.Perm.refl _) 6 0 rfl rfl rfl rfl hl.1 rfl rfl ⟨(by show _ ≤ (600130 : Nat); omega), (by show _ ≤ (7301080 : Nat); omega)⟩ dL_law_83 (fun rX x2 H locs hw hP hD hS => ?_)
        obtain ⟨hv2, hok⟩ := hw
        subst hv2
        try dsimp only at hP hD
        have hP : va_P G vwCl (clW k b σ x2 ++ [(oR, .inl (k 0, 60, .inl fr)), (oC, .inl (k 0, 40, .inl fc)), (oN, .inl (k 0, 3, .inl fn))]) H := hP
        have hD : va_D A (clW k b σ x2 ++ [(oR, .inl (k 0, 60, .inl fr)), (oC, .inl (k 0, 40, .inl fc)), (oN, .inl (k 0, 3, .inl fn))]) := hD
        rw [h_vio hn2]
        refine n_if_ne (tgt := 100) (by omega) hx hb dL_law_86 (by decide) (fun q86 => ?_) (fun q86 => ?_)
        · skip
          exact absurd q86 (by decide)
        · skip
          refine lv_iload hx hb dL_law_89 (lv_at hl 0 rfl) ?_
          refine lv_aload_n hx hb dL_law_91 rfl (lv_at hl 3 rfl) ?_
          refine lv_aload hx hb dL_law_92 (lv_at hl 5 rfl) ?_
          refine cS_i (As := [.int (nI (nthN (candB σ) i (M2 σ))), .ref oR, .ref oN]) S hP hK hN (m_L_fits l G k oR oN (sN σ) (nthN (candB σ) i (M2 σ)) fr fn (sC σ) (sD σ) (sU σ) hn7 (by omega) hf0 hf2 hbd hr2 hr4 (fun f _ => hwf.2.2.2.2.2.2.2.1 f)) gw_65 rfl rfl rfl hdq_L_fits rfl rfl [31, 33] rfl rfl hl.1 rfl rfl ⟨(by show _ ≤ (600130 : Nat); omega), (by show _ ≤ (7301080 : Nat); omega)⟩ dL_law_94 (fun rX hr => ?_)
          subst hr
          rw [h_fit hn2]
          refine b_if_ne (tgt := 102) hx hb dL_law_97 (by decide) (fun q97 => ?_) (fun q97 => ?_)
          · skip
            refine lv_iload hx hb dL_law_102 (lv_at hl 0 rfl) ?_
            refine lv_istore (lv' := [(7, .int (nI (nthN (candB σ) i (M2 σ)))), (9, .int (nI (nthN (candB σ) i (M2 σ)))), (0, .ref bS), (1, .ref (b 0)), (2, .ref oR), (3, .ref oC), (4, .ref oN), (5, .int (nI (sN σ))), (6, .int (nI (cntC σ))), (8, .int (nI i))]) hx hb dL_law_104 hl (by decide) rfl (fun ls hl => ?_)
            refine n_iinc (lv' := [(8, .int (nI (i + 1))), (7, .int (nI (nthN (candB σ) i (M2 σ)))), (9, .int (nI (nthN (candB σ) i (M2 σ)))), (0, .ref bS), (1, .ref (b 0)), (2, .ref oR), (3, .ref oC), (4, .ref oN), (5, .int (nI (sN σ))), (6, .int (nI (cntC σ)))]) (k := 9) 1 hx hb dL_law_106 hl rfl (by decide) (by decide) rfl (fun ls hl => ?_)
            refine lv_goto (tgt := 58) hx hb dL_law_109 (by decide) ?_
            refine W.widen (k := c0 + 8 * (i + 1)) (n := s0 + 48 * (i + 1)) (by omega) (by omega) ?_
            exact ih (i + 1) (by omega) (by omega) _ _ _ _ hok hP hD hS (lv_sub hl [3, 4, 5, 6, 7, 8, 9, 1, 0] rfl)
          · skip
            exact absurd q97 (by decide)
set_option maxHeartbeats 4000000 in
set_option maxRecDepth 100000 in
theorem lawG (S : CallFix p m c code 15 s #[.ref bS] lw_tbl RL) (hst : l.stackTraces = false) (hK : va_K G vwCl (tyG k) s) (hN : gN s) (hE : xE A s) (hA : ∀ q, s.heap.size ≤ q → A q) {σ : Sg} (hwf : WF σ) (hn7 : sN σ ≤ 7) {i f : Nat} (hism : i < smC σ) (hf : f < sN σ) (hc0 : c0 + 56 ≤ 600130) (hs0 : s0 + 336 ≤ 7301080)
    (kk : ∀ (x : Cx) (gf : Nat → Nat) (H : Heap) (locs : List Loc) (ls : Array Slot), GOK (sN σ) gf (TS σ i (f + 1) 0) → COK σ x → va_P G vwCl (clW k b σ x ++ [(oR, .inl (k 0, 60, .inl fr)), (oC, .inl (k 0, 40, .inl fc)), (oN, .inl (k 0, 3, .inl fn)), (oS, .inl (k 0, 49, .inl (nA gf)))]) H → va_D A (clW k b σ x ++ [(oR, .inl (k 0, 60, .inl fr)), (oC, .inl (k 0, 40, .inl fc)), (oN, .inl (k 0, 3, .inl fn)), (oS, .inl (k 0, 49, .inl (nA gf)))]) → va_S A s.heap H locs → lv_has ls 15 [(0, .ref bS), (1, .ref (b 0)), (2, .ref oR), (3, .ref oC), (4, .ref oN), (5, .int (nI (sN σ))), (6, .int (nI (cntC σ))), (8, .ref oS), (9, .int (nI i)), (10, .int (nI f))] → W p l e room_1 s m #[.ref bS] below meth c H locs (c0 + 56) (s0 + 336) Q (F0 m 200 ls [])) :
    ∀ (NN g : Nat), sN σ - g < NN → f < g → g ≤ sN σ → ∀ (x : Cx) (gf : Nat → Nat) (H : Heap) (locs : List Loc) (ls : Array Slot), GOK (sN σ) gf (TS σ i f g) → COK σ x → va_P G vwCl (clW k b σ x ++ [(oR, .inl (k 0, 60, .inl fr)), (oC, .inl (k 0, 40, .inl fc)), (oN, .inl (k 0, 3, .inl fn)), (oS, .inl (k 0, 49, .inl (nA gf)))]) H → va_D A (clW k b σ x ++ [(oR, .inl (k 0, 60, .inl fr)), (oC, .inl (k 0, 40, .inl fc)), (oN, .inl (k 0, 3, .inl fn)), (oS, .inl (k 0, 49, .inl (nA gf)))]) → va_S A s.heap H locs → lv_has ls 15 [(0, .ref bS), (1, .ref (b 0)), (2, .ref oR), (3, .ref oC), (4, .ref oN), (5, .int (nI (sN σ))), (6, .int (nI (cntC σ))), (8, .ref oS), (9, .int (nI i)), (10, .int (nI f)), (11, .int (nI g))] → W p l e room_1 s m #[.ref bS] below meth c H locs (c0 + 8 * g) (s0 + 48 * g) Q (F0 m 146 ls []) := by
  obtain ⟨hx, hb, hml, hown, hts⟩ := id S
  intro NN
  induction NN with
  | zero => intro g h; exact absurd h (Nat.not_lt_zero _)
  | succ NN ih =>
    intro g hm9 hfg hg x gf H locs ls hgk hok hP hD hS hl
    have hpw := pow12 hwf.2.1
    have hMe : M2 σ = 2 ^ sN σ := rfl
    have hsm := (h_sm hwf).2
    have hsl := (h_smp hwf hism).1
    have htl := tI_lt (smpS (candB σ) (sN σ) (M2 σ) i) f g
    refine lv_iload hx hb dL_law_146 (lv_at hl 10 rfl) ?_
    refine lv_iload hx hb dL_law_148 (lv_at hl 5 rfl) ?_
    refine n_icmp_ge (tgt := 200) (by omega) (by omega) hx hb dL_law_150 (by decide) (fun q150 => ?_) (fun q150 => ?_)
    · skip
      refine W.widen (k := c0 + 56) (n := s0 + 336) (by omega) (by omega) ?_
      exact kk _ _ _ _ _ (GOK_cong hgk (TS_a (by omega) hg)) hok hP hD hS (lv_sub hl [0, 1, 2, 3, 4, 5, 6, 7, 8, 9] rfl)
    · skip
      refine lv_aload hx hb dL_law_153 (lv_at hl 7 rfl) ?_
      refine n_bipush 7 (by decide) hx hb dL_law_155 ?_
      refine lv_iload hx hb dL_law_157 (lv_at hl 9 rfl) ?_
      refine n_imul hx hb dL_law_159 ?_
      refine lv_iload hx hb dL_law_160 (lv_at hl 10 rfl) ?_
      refine n_iadd hx hb dL_law_162 ?_
      refine lv_dup2_11 hx hb dL_law_163 rfl rfl ?_
      refine n_iald hx hb hK hP 34 rfl (by omega) (by first | decide | omega) dL_law_164 ?_
      refine n_iconst 1 (by decide) hx hb dL_law_165 ?_
      refine n_iconst 2 (by decide) hx hb dL_law_166 ?_
      refine lv_aload_n hx hb dL_law_167 rfl (lv_at hl 1 rfl) ?_
      refine lv_iload hx hb dL_law_168 (lv_at hl 8 rfl) ?_
      refine bW_i (As := [.int (nI i)]) (wn := fun u : Cx => clW k b σ u ++ [(oR, .inl (k 0, 60, .inl fr)), (oC, .inl (k 0, 40, .inl fc)), (oN, .inl (k 0, 3, .inl fn)), (oS, .inl (k 0, 49, .inl (nA gf)))]) S hP hK hN hE hD hS hA (q_sam l hst G k _ b σ x i (by exact hism) (by omega) hok) gw_72 rfl rfl rfl hdq_X6_sample rfl rfl (List.Perm.refl _) (fun _ => List.Perm.refl _) 6 0 rfl rfl rfl rfl hl.1 rfl rfl ⟨(by show _ ≤ (600130 : Nat); omega), (by show _ ≤ (7301080 : Nat); omega)⟩ dL_law_170 (fun rX x1 H locs hw hP hD hS => ?_)
      obtain ⟨hv1, hok⟩ := hw
      subst hv1
      try dsimp only at hP hD
      have hP : va_P G vwCl (clW k b σ x1 ++ [(oR, .inl (k 0, 60, .inl fr)), (oC, .inl (k 0, 40, .inl fc)), (oN, .inl (k 0, 3, .inl fn)), (oS, .inl (k 0, 49, .inl (nA gf)))]) H := hP
      have hD : va_D A (clW k b σ x1 ++ [(oR, .inl (k 0, 60, .inl fr)), (oC, .inl (k 0, 40, .inl fc)), (oN, .inl (k 0, 3, .inl fn)), (oS, .inl (k 0, 49, .inl (nA gf)))]) := hD
      refine lv_iload hx hb dL_law_173 (lv_at hl 9 rfl) ?_
      refine lv_ishr hx hb dL_law_175 ?_
      refine n_iconst 1 (by decide) hx hb dL_law_176 ?_
      refine lv_iand hx hb dL_law_177 ?_
      rw [xI_bitN (by omega) (by omega)]
      refine n_imul hx hb dL_law_178 ?_
      refine lv_aload_n hx hb dL_law_179 rfl (lv_at hl 1 rfl) ?_
      refine lv_iload hx hb dL_law_180 (lv_at hl 8 rfl) ?_
      refine bW_i (As := [.int (nI i)]) (wn := fun u : Cx => clW k b σ u ++ [(oR, .inl (k 0, 60, .inl fr)), (oC, .inl (k 0, 40, .inl fc)), (oN, .inl (k 0, 3, .inl fn)), (oS, .inl (k 0, 49, .inl (nA gf)))]) S hP hK hN hE hD hS hA (q_sam l hst G k _ b σ x1 i (by exact hism) (by omega) hok) gw_72 rfl rfl rfl hdq_X6_sample rfl rfl (List.Perm.refl _) (fun _ => List.Perm.refl _) 6 0 rfl rfl rfl rfl hl.1 rfl rfl ⟨(by show _ ≤ (600130 : Nat); omega), (by show _ ≤ (7301080 : Nat); omega)⟩ dL_law_182 (fun rX x2 H locs hw hP hD hS => ?_)
      obtain ⟨hv2, hok⟩ := hw
      subst hv2
      try dsimp only at hP hD
      have hP : va_P G vwCl (clW k b σ x2 ++ [(oR, .inl (k 0, 60, .inl fr)), (oC, .inl (k 0, 40, .inl fc)), (oN, .inl (k 0, 3, .inl fn)), (oS, .inl (k 0, 49, .inl (nA gf)))]) H := hP
      have hD : va_D A (clW k b σ x2 ++ [(oR, .inl (k 0, 60, .inl fr)), (oC, .inl (k 0, 40, .inl fc)), (oN, .inl (k 0, 3, .inl fn)), (oS, .inl (k 0, 49, .inl (nA gf)))]) := hD
      refine lv_iload hx hb dL_law_185 (lv_at hl 10 rfl) ?_
      refine lv_ishr hx hb dL_law_187 ?_
      refine n_iconst 1 (by decide) hx hb dL_law_188 ?_
      refine lv_iand hx hb dL_law_189 ?_
      rw [xI_bitN (by omega) (by omega)]
      refine n_iadd hx hb dL_law_190 ?_
      rw [h_two, show (if (smpS (candB σ) (sN σ) (M2 σ) i).testBit f = true then 2 else 0) + (if (smpS (candB σ) (sN σ) (M2 σ) i).testBit g = true then 1 else 0) = tI (smpS (candB σ) (sN σ) (M2 σ) i) f g from rfl]
      refine n_ishl1 (by omega) hx hb dL_law_191 ?_
      refine n_ior hx hb dL_law_192 ?_
      refine n_iast (ws1 := (clW k b σ x2 ++ [(oR, .inl (k 0, 60, .inl fr)), (oC, .inl (k 0, 40, .inl fc)), (oN, .inl (k 0, 3, .inl fn)), (oS, .inl (k 0, 49, .inl (nA (va_up gf ((7 * f) + g) ((gf ((7 * f) + g)) ||| (2 ^ (tI (smpS (candB σ) (sN σ) (M2 σ) i) f g)))))))])) hx hb hK hP hD hS 34 rfl (by omega) (by first | decide | omega) rfl dL_law_193 (fun H locs hP hD hS => ?_)
      refine n_iinc (lv' := [(11, .int (nI (g + 1))), (0, .ref bS), (1, .ref (b 0)), (2, .ref oR), (3, .ref oC), (4, .ref oN), (5, .int (nI (sN σ))), (6, .int (nI (cntC σ))), (8, .ref oS), (9, .int (nI i)), (10, .int (nI f))]) (k := 10) 1 hx hb dL_law_194 hl rfl (by decide) (by decide) rfl (fun ls hl => ?_)
      refine lv_goto (tgt := 146) hx hb dL_law_197 (by decide) ?_
      refine W.widen (k := c0 + 8 * (g + 1)) (n := s0 + 48 * (g + 1)) (by omega) (by omega) ?_
      exact ih (g + 1) (by omega) (by omega) (by omega) _ _ _ _ _ (GOK_cong (GOK_step hgk hn7 hfg (by omega)) (TS_b hfg)) hok hP hD hS (lv_sub hl [1, 2, 3, 4, 5, 6, 7, 8, 9, 10, 0] rfl)
set_option maxHeartbeats 4000000 in
set_option maxRecDepth 100000 in
theorem lawF (S : CallFix p m c code 15 s #[.ref bS] lw_tbl RL) (hst : l.stackTraces = false) (hK : va_K G vwCl (tyG k) s) (hN : gN s) (hE : xE A s) (hA : ∀ q, s.heap.size ≤ q → A q) {σ : Sg} (hwf : WF σ) (hn7 : sN σ ≤ 7) {i : Nat} (hism : i < smC σ) (hc0 : c0 + 392 ≤ 600130) (hs0 : s0 + 2352 ≤ 7301080)
    (kk : ∀ (x : Cx) (gf : Nat → Nat) (H : Heap) (locs : List Loc) (ls : Array Slot), GOK (sN σ) gf (TS σ (i + 1) 0 0) → COK σ x → va_P G vwCl (clW k b σ x ++ [(oR, .inl (k 0, 60, .inl fr)), (oC, .inl (k 0, 40, .inl fc)), (oN, .inl (k 0, 3, .inl fn)), (oS, .inl (k 0, 49, .inl (nA gf)))]) H → va_D A (clW k b σ x ++ [(oR, .inl (k 0, 60, .inl fr)), (oC, .inl (k 0, 40, .inl fc)), (oN, .inl (k 0, 3, .inl fn)), (oS, .inl (k 0, 49, .inl (nA gf)))]) → va_S A s.heap H locs → lv_has ls 15 [(0, .ref bS), (1, .ref (b 0)), (2, .ref oR), (3, .ref oC), (4, .ref oN), (5, .int (nI (sN σ))), (6, .int (nI (cntC σ))), (8, .ref oS), (9, .int (nI i))] → W p l e room_1 s m #[.ref bS] below meth c H locs (c0 + 392) (s0 + 2352) Q (F0 m 206 ls [])) :
    ∀ (NN f : Nat), sN σ - f < NN → f ≤ sN σ → ∀ (x : Cx) (gf : Nat → Nat) (H : Heap) (locs : List Loc) (ls : Array Slot), GOK (sN σ) gf (TS σ i f 0) → COK σ x → va_P G vwCl (clW k b σ x ++ [(oR, .inl (k 0, 60, .inl fr)), (oC, .inl (k 0, 40, .inl fc)), (oN, .inl (k 0, 3, .inl fn)), (oS, .inl (k 0, 49, .inl (nA gf)))]) H → va_D A (clW k b σ x ++ [(oR, .inl (k 0, 60, .inl fr)), (oC, .inl (k 0, 40, .inl fc)), (oN, .inl (k 0, 3, .inl fn)), (oS, .inl (k 0, 49, .inl (nA gf)))]) → va_S A s.heap H locs → lv_has ls 15 [(0, .ref bS), (1, .ref (b 0)), (2, .ref oR), (3, .ref oC), (4, .ref oN), (5, .int (nI (sN σ))), (6, .int (nI (cntC σ))), (8, .ref oS), (9, .int (nI i)), (10, .int (nI f))] → W p l e room_1 s m #[.ref bS] below meth c H locs (c0 + 56 * f) (s0 + 336 * f) Q (F0 m 133 ls []) := by
  obtain ⟨hx, hb, hml, hown, hts⟩ := id S
  intro NN
  induction NN with
  | zero => intro f h; exact absurd h (Nat.not_lt_zero _)
  | succ NN ih =>
    intro f hm9 hf x gf H locs ls hgk hok hP hD hS hl
    refine lv_iload hx hb dL_law_133 (lv_at hl 9 rfl) ?_
    refine lv_iload hx hb dL_law_135 (lv_at hl 5 rfl) ?_
    refine n_icmp_ge (tgt := 206) (by omega) (by omega) hx hb dL_law_137 (by decide) (fun q137 => ?_) (fun q137 => ?_)
    · skip
      refine W.widen (k := c0 + 392) (n := s0 + 2352) (by omega) (by omega) ?_
      exact kk _ _ _ _ _ (GOK_cong hgk (TS_i (by omega) hf)) hok hP hD hS (lv_sub hl [0, 1, 2, 3, 4, 5, 6, 7, 8] rfl)
    · skip
      refine lv_iload hx hb dL_law_140 (lv_at hl 9 rfl) ?_
      refine n_iconst 1 (by decide) hx hb dL_law_142 ?_
      refine n_iadd hx hb dL_law_143 ?_
      refine lv_istore (lv' := [(11, .int (nI (f + 1))), (0, .ref bS), (1, .ref (b 0)), (2, .ref oR), (3, .ref oC), (4, .ref oN), (5, .int (nI (sN σ))), (6, .int (nI (cntC σ))), (8, .ref oS), (9, .int (nI i)), (10, .int (nI f))]) hx hb dL_law_144 hl (by decide) rfl (fun ls hl => ?_)
      refine W.widen (k := c0 + 56 * f + 8 * (f + 1)) (n := s0 + 336 * f + 48 * (f + 1)) (by omega) (by omega) ?_
      refine lawG (c0 := c0 + 56 * f) (s0 := s0 + 336 * f) S hst hK hN hE hA hwf hn7 hism q137 (by omega) (by omega) (fun x gf H locs ls hgk hok hP hD hS hl => ?_) (sN σ) (f + 1) (by omega) (by omega) (by omega) _ _ _ _ _ (GOK_cong hgk TS_in) hok hP hD hS (lv_sub hl [1, 2, 3, 4, 5, 6, 7, 8, 9, 10, 0] rfl)
      refine n_iinc (lv' := [(10, .int (nI (f + 1))), (0, .ref bS), (1, .ref (b 0)), (2, .ref oR), (3, .ref oC), (4, .ref oN), (5, .int (nI (sN σ))), (6, .int (nI (cntC σ))), (8, .ref oS), (9, .int (nI i))]) (k := 9) 1 hx hb dL_law_200 hl rfl (by decide) (by decide) rfl (fun ls hl => ?_)
      refine lv_goto (tgt := 133) hx hb dL_law_203 (by decide) ?_
      refine W.widen (k := c0 + 56 * (f + 1)) (n := s0 + 336 * (f + 1)) (by omega) (by omega) ?_
      exact ih (f + 1) (by omega) (by omega) _ _ _ _ _ hgk hok hP hD hS (lv_sub hl [1, 2, 3, 4, 5, 6, 7, 8, 9, 0] rfl)
set_option maxHeartbeats 4000000 in
set_option maxRecDepth 100000 in
theorem lawI (S : CallFix p m c code 15 s #[.ref bS] lw_tbl RL) (hst : l.stackTraces = false) (hK : va_K G vwCl (tyG k) s) (hN : gN s) (hE : xE A s) (hA : ∀ q, s.heap.size ≤ q → A q) {σ : Sg} (hwf : WF σ) (hn7 : sN σ ≤ 7) (hc0 : c0 + 103488 ≤ 600130) (hs0 : s0 + 620928 ≤ 7301080)
    (kk : ∀ (x : Cx) (gf : Nat → Nat) (H : Heap) (locs : List Loc) (ls : Array Slot), GOK (sN σ) gf (TS σ (smC σ) 0 0) → COK σ x → va_P G vwCl (clW k b σ x ++ [(oR, .inl (k 0, 60, .inl fr)), (oC, .inl (k 0, 40, .inl fc)), (oN, .inl (k 0, 3, .inl fn)), (oS, .inl (k 0, 49, .inl (nA gf)))]) H → va_D A (clW k b σ x ++ [(oR, .inl (k 0, 60, .inl fr)), (oC, .inl (k 0, 40, .inl fc)), (oN, .inl (k 0, 3, .inl fn)), (oS, .inl (k 0, 49, .inl (nA gf)))]) → va_S A s.heap H locs → lv_has ls 15 [(0, .ref bS), (1, .ref (b 0)), (2, .ref oR), (3, .ref oC), (4, .ref oN), (5, .int (nI (sN σ))), (6, .int (nI (cntC σ))), (8, .ref oS)] → W p l e room_1 s m #[.ref bS] below meth c H locs (c0 + 103488) (s0 + 620928) Q (F0 m 212 ls [])) :
    ∀ (NN i : Nat), smC σ - i < NN → i ≤ smC σ → ∀ (x : Cx) (gf : Nat → Nat) (H : Heap) (locs : List Loc) (ls : Array Slot), GOK (sN σ) gf (TS σ i 0 0) → COK σ x → va_P G vwCl (clW k b σ x ++ [(oR, .inl (k 0, 60, .inl fr)), (oC, .inl (k 0, 40, .inl fc)), (oN, .inl (k 0, 3, .inl fn)), (oS, .inl (k 0, 49, .inl (nA gf)))]) H → va_D A (clW k b σ x ++ [(oR, .inl (k 0, 60, .inl fr)), (oC, .inl (k 0, 40, .inl fc)), (oN, .inl (k 0, 3, .inl fn)), (oS, .inl (k 0, 49, .inl (nA gf)))]) → va_S A s.heap H locs → lv_has ls 15 [(0, .ref bS), (1, .ref (b 0)), (2, .ref oR), (3, .ref oC), (4, .ref oN), (5, .int (nI (sN σ))), (6, .int (nI (cntC σ))), (8, .ref oS), (9, .int (nI i))] → W p l e room_1 s m #[.ref bS] below meth c H locs (c0 + 392 * i) (s0 + 2352 * i) Q (F0 m 121 ls []) := by
  obtain ⟨hx, hb, hml, hown, hts⟩ := id S
  intro NN
  induction NN with
  | zero => intro i h; exact absurd h (Nat.not_lt_zero _)
  | succ NN ih =>
    intro i hm9 hi x gf H locs ls hgk hok hP hD hS hl
    have hsm := (h_sm hwf).2
    refine lv_iload hx hb dL_law_121 (lv_at hl 8 rfl) ?_
    refine lv_aload_n hx hb dL_law_123 rfl (lv_at hl 1 rfl) ?_
    refine bV_i (As := []) (wn := fun u : Cx => clW k b σ u ++ [(oR, .inl (k 0, 60, .inl fr)), (oC, .inl (k 0, 40, .inl fc)), (oN, .inl (k 0, 3, .inl fn)), (oS, .inl (k 0, 49, .inl (nA gf)))]) S hP hK hN hD hS hA (m_X6_sampleSize l G k _ b σ x hok) gw_69 rfl rfl rfl hdq_X6_sampleSize rfl rfl (List.Perm.refl _) (fun _ => List.Perm.refl _) 6 0 rfl rfl rfl rfl hl.1 rfl rfl ⟨(by show _ ≤ (600130 : Nat); omega), (by show _ ≤ (7301080 : Nat); omega)⟩ dL_law_124 (fun rX x1 H locs hw hP hD hS => ?_)
    obtain ⟨v1, hv1, hw1, hok⟩ := hw
    subst hv1
    subst hw1
    try dsimp only at hP hD
    have hP : va_P G vwCl (clW k b σ x1 ++ [(oR, .inl (k 0, 60, .inl fr)), (oC, .inl (k 0, 40, .inl fc)), (oN, .inl (k 0, 3, .inl fn)), (oS, .inl (k 0, 49, .inl (nA gf)))]) H := hP
    have hD : va_D A (clW k b σ x1 ++ [(oR, .inl (k 0, 60, .inl fr)), (oC, .inl (k 0, 40, .inl fc)), (oN, .inl (k 0, 3, .inl fn)), (oS, .inl (k 0, 49, .inl (nA gf)))]) := hD
    refine n_icmp_ge (tgt := 212) (by omega) (by omega) hx hb dL_law_127 (by decide) (fun q127 => ?_) (fun q127 => ?_)
    · skip
      refine W.widen (k := c0 + 103488) (n := s0 + 620928) (by omega) (by omega) ?_
      exact kk _ _ _ _ _ ((show i = smC σ by omega) ▸ hgk) hok hP hD hS (lv_sub hl [0, 1, 2, 3, 4, 5, 6, 7] rfl)
    · skip
      refine n_iconst 0 (by decide) hx hb dL_law_130 ?_
      refine lv_istore (lv' := [(10, .int (nI 0)), (0, .ref bS), (1, .ref (b 0)), (2, .ref oR), (3, .ref oC), (4, .ref oN), (5, .int (nI (sN σ))), (6, .int (nI (cntC σ))), (8, .ref oS), (9, .int (nI i))]) hx hb dL_law_131 hl (by decide) rfl (fun ls hl => ?_)
      refine W.widen (k := c0 + 392 * i + 56 * 0) (n := s0 + 2352 * i + 336 * 0) (by omega) (by omega) ?_
      refine lawF (c0 := c0 + 392 * i) (s0 := s0 + 2352 * i) S hst hK hN hE hA hwf hn7 q127 (by omega) (by omega) (fun x gf H locs ls hgk hok hP hD hS hl => ?_) (sN σ + 1) 0 (by omega) (Nat.zero_le _) _ _ _ _ _ hgk hok hP hD hS (lv_sub hl [1, 2, 3, 4, 5, 6, 7, 8, 9, 0] rfl)
      refine n_iinc (lv' := [(9, .int (nI (i + 1))), (0, .ref bS), (1, .ref (b 0)), (2, .ref oR), (3, .ref oC), (4, .ref oN), (5, .int (nI (sN σ))), (6, .int (nI (cntC σ))), (8, .ref oS)]) (k := 8) 1 hx hb dL_law_206 hl rfl (by decide) (by decide) rfl (fun ls hl => ?_)
      refine lv_goto (tgt := 121) hx hb dL_law_209 (by decide) ?_
      refine W.widen (k := c0 + 392 * (i + 1)) (n := s0 + 2352 * (i + 1)) (by omega) (by omega) ?_
      exact ih (i + 1) (by omega) (by omega) _ _ _ _ _ hgk hok hP hD hS (lv_sub hl [1, 2, 3, 4, 5, 6, 7, 8, 0] rfl)
set_option maxHeartbeats 4000000 in
set_option maxRecDepth 100000 in
theorem lawS (S : CallFix p m c code 15 s #[.ref bS] lw_tbl RL) (hst : l.stackTraces = false) (hK : va_K G vwCl (tyG k) s) (hN : gN s) (hE : xE A s) (hA : ∀ q, s.heap.size ≤ q → A q) {σ : Sg} (hwf : WF σ) {gf : Nat → Nat} (hg16 : ∀ j, gf j < 16) (hc0 : c0 ≤ 600130) (hs0 : s0 ≤ 7301080)
    (kk : ∀ (x : Cx) (H : Heap) (locs : List Loc) (ls : Array Slot), COK σ x → va_P G vwCl (clW k b σ x ++ [(oR, .inl (k 0, 60, .inl fr)), (oC, .inl (k 0, 40, .inl fc)), (oN, .inl (k 0, 3, .inl fn)), (oS, .inl (k 0, 49, .inl (nA gf)))]) H → va_D A (clW k b σ x ++ [(oR, .inl (k 0, 60, .inl fr)), (oC, .inl (k 0, 40, .inl fc)), (oN, .inl (k 0, 3, .inl fn)), (oS, .inl (k 0, 49, .inl (nA gf)))]) → va_S A s.heap H locs → lv_has ls 15 [(0, .ref bS), (1, .ref (b 0)), (2, .ref oR), (3, .ref oC), (4, .ref oN), (5, .int (nI (sN σ))), (6, .int (nI (cntC σ))), (9, .int (nI (fb_sm (fun j => popc (gf j)) 49)))] → W p l e room_1 s m #[.ref bS] below meth c H locs c0 s0 Q (F0 m 257 ls [])) :
    ∀ (NN j : Nat), 49 - j < NN → j ≤ 49 → ∀ (x : Cx) (H : Heap) (locs : List Loc) (ls : Array Slot), COK σ x → va_P G vwCl (clW k b σ x ++ [(oR, .inl (k 0, 60, .inl fr)), (oC, .inl (k 0, 40, .inl fc)), (oN, .inl (k 0, 3, .inl fn)), (oS, .inl (k 0, 49, .inl (nA gf)))]) H → va_D A (clW k b σ x ++ [(oR, .inl (k 0, 60, .inl fr)), (oC, .inl (k 0, 40, .inl fc)), (oN, .inl (k 0, 3, .inl fn)), (oS, .inl (k 0, 49, .inl (nA gf)))]) → va_S A s.heap H locs → lv_has ls 15 [(0, .ref bS), (1, .ref (b 0)), (2, .ref oR), (3, .ref oC), (4, .ref oN), (5, .int (nI (sN σ))), (6, .int (nI (cntC σ))), (9, .int (nI (fb_sm (fun j => popc (gf j)) j))), (10, .ref oS), (11, .int (nI 49)), (12, .int (nI j))] → W p l e room_1 s m #[.ref bS] below meth c H locs c0 s0 Q (F0 m 227 ls []) := by
  obtain ⟨hx, hb, hml, hown, hts⟩ := id S
  intro NN
  induction NN with
  | zero => intro j h; exact absurd h (Nat.not_lt_zero _)
  | succ NN ih =>
    intro j hm9 hj x H locs ls hok hP hD hS hl
    have hg := hg16 j
    refine lv_iload hx hb dL_law_227 (lv_at hl 10 rfl) ?_
    refine lv_iload hx hb dL_law_229 (lv_at hl 9 rfl) ?_
    refine n_icmp_ge (tgt := 257) (by omega) (by omega) hx hb dL_law_231 (by decide) (fun q231 => ?_) (fun q231 => ?_)
    · skip
      have hl := (lv_sub (l' := [(0, .ref bS), (1, .ref (b 0)), (2, .ref oR), (3, .ref oC), (4, .ref oN), (5, .int (nI (sN σ))), (6, .int (nI (cntC σ))), (9, .int (nI (fb_sm (fun j => popc (gf j)) j)))]) hl [0, 1, 2, 3, 4, 5, 6, 7] rfl)
      rw [show j = 49 by omega] at hl
      exact kk _ _ _ _ hok hP hD hS hl
    · skip
      refine lv_aload hx hb dL_law_234 (lv_at hl 8 rfl) ?_
      refine lv_iload hx hb dL_law_236 (lv_at hl 10 rfl) ?_
      refine n_iald hx hb hK hP 34 rfl (by omega) (by first | decide | omega) dL_law_238 ?_
      refine lv_istore (lv' := [(13, .int (nI (gf j))), (0, .ref bS), (1, .ref (b 0)), (2, .ref oR), (3, .ref oC), (4, .ref oN), (5, .int (nI (sN σ))), (6, .int (nI (cntC σ))), (9, .int (nI (fb_sm (fun j => popc (gf j)) j))), (10, .ref oS), (11, .int (nI 49)), (12, .int (nI j))]) hx hb dL_law_239 hl (by decide) rfl (fun ls hl => ?_)
      refine lv_iload hx hb dL_law_241 (lv_at hl 8 rfl) ?_
      refine lv_iload hx hb dL_law_243 (lv_at hl 0 rfl) ?_
      refine cS_i (As := [.int (nI (gf j))]) S hP hK hN (m_J6_bitCount l G k (gf j) (by omega)) gw_75 rfl rfl rfl hdq_J6_bitCount_0f7a4 rfl rfl [] rfl rfl hl.1 rfl rfl ⟨(by show _ ≤ (600130 : Nat); omega), (by show _ ≤ (7301080 : Nat); omega)⟩ dL_law_245 (fun rX hr => ?_)
      subst hr
      refine n_iadd hx hb dL_law_248 ?_
      refine lv_istore (lv' := [(9, .int (nI ((fb_sm (fun j => popc (gf j)) j) + (popc (gf j))))), (13, .int (nI (gf j))), (0, .ref bS), (1, .ref (b 0)), (2, .ref oR), (3, .ref oC), (4, .ref oN), (5, .int (nI (sN σ))), (6, .int (nI (cntC σ))), (10, .ref oS), (11, .int (nI 49)), (12, .int (nI j))]) hx hb dL_law_249 hl (by decide) rfl (fun ls hl => ?_)
      refine n_iinc (lv' := [(12, .int (nI (j + 1))), (9, .int (nI ((fb_sm (fun j => popc (gf j)) j) + (popc (gf j))))), (13, .int (nI (gf j))), (0, .ref bS), (1, .ref (b 0)), (2, .ref oR), (3, .ref oC), (4, .ref oN), (5, .int (nI (sN σ))), (6, .int (nI (cntC σ))), (10, .ref oS), (11, .int (nI 49))]) (k := 11) 1 hx hb dL_law_251 hl rfl (by decide) (by decide) rfl (fun ls hl => ?_)
      refine lv_goto (tgt := 227) hx hb dL_law_254 (by decide) ?_
      exact ih (j + 1) (by omega) (by omega) _ _ _ _ hok hP hD hS (lv_sub hl [3, 4, 5, 6, 7, 8, 9, 1, 10, 11, 0] rfl)
set_option maxHeartbeats 4000000 in
set_option maxRecDepth 100000 in
theorem lawM (S : CallFix p m c code 15 s #[.ref bS] lw_tbl RL) (hst : l.stackTraces = false) (hK : va_K G vwCl (tyG k) s) (hN : gN s) (hE : xE A s) (hA : ∀ q, s.heap.size ≤ q → A q) {σ : Sg} (hwf : WF σ) {gf : Nat → Nat} {x : Cx} {H : Heap} {locs : List Loc} {ls : Array Slot} (hgk : GOK (sN σ) gf (TS σ (smC σ) 0 0)) (hc0 : c0 ≤ 600130) (hs0 : s0 ≤ 7301080)
    (kk : ∀ (x : Cx) (H : Heap) (locs : List Loc) (ls : Array Slot), COK σ x → va_P G vwCl (clW k b σ x ++ [(oR, .inl (k 0, 60, .inl fr)), (oC, .inl (k 0, 40, .inl fc)), (oN, .inl (k 0, 3, .inl fn)), (oS, .inl (k 0, 49, .inl (nA gf)))]) H → va_D A (clW k b σ x ++ [(oR, .inl (k 0, 60, .inl fr)), (oC, .inl (k 0, 40, .inl fc)), (oN, .inl (k 0, 3, .inl fn)), (oS, .inl (k 0, 49, .inl (nA gf)))]) → va_S A s.heap H locs → lv_has ls 15 [(0, .ref bS), (1, .ref (b 0)), (2, .ref oR), (3, .ref oC), (4, .ref oN), (5, .int (nI (sN σ))), (6, .int (nI (cntC σ))), (10, .int (nI (r_for σ))), (11, .int (nI (r_rul σ))), (12, .int (nI 0))] → W p l e room_1 s m #[.ref bS] below meth c H locs c0 s0 Q (F0 m 302 ls [])) :
    COK σ x → va_P G vwCl (clW k b σ x ++ [(oR, .inl (k 0, 60, .inl fr)), (oC, .inl (k 0, 40, .inl fc)), (oN, .inl (k 0, 3, .inl fn)), (oS, .inl (k 0, 49, .inl (nA gf)))]) H → va_D A (clW k b σ x ++ [(oR, .inl (k 0, 60, .inl fr)), (oC, .inl (k 0, 40, .inl fc)), (oN, .inl (k 0, 3, .inl fn)), (oS, .inl (k 0, 49, .inl (nA gf)))]) → va_S A s.heap H locs → lv_has ls 15 [(0, .ref bS), (1, .ref (b 0)), (2, .ref oR), (3, .ref oC), (4, .ref oN), (5, .int (nI (sN σ))), (6, .int (nI (cntC σ))), (8, .ref oS)] → W p l e room_1 s m #[.ref bS] below meth c H locs c0 s0 Q (F0 m 212 ls []) := by
  obtain ⟨hx, hb, hml, hown, hts⟩ := id S
  intro hok hP hD hS hl
  have hsm := (h_sm hwf).2
  have hcl := cntC_le hwf
  have hpo : posC σ ≤ 264 := pos_264 (candB σ) (M2 σ) hwf.2.1
  have hfl := for_lt hwf
  have hrl := rul_lt hwf
  refine n_iconst 0 (by decide) hx hb dL_law_212 ?_
  refine lv_istore (lv' := [(9, .int (nI 0)), (0, .ref bS), (1, .ref (b 0)), (2, .ref oR), (3, .ref oC), (4, .ref oN), (5, .int (nI (sN σ))), (6, .int (nI (cntC σ))), (8, .ref oS)]) hx hb dL_law_213 hl (by decide) rfl (fun ls hl => ?_)
  refine lv_aload hx hb dL_law_215 (lv_at hl 8 rfl) ?_
  refine lv_astore (lv' := [(10, .ref oS), (9, .int (nI 0)), (0, .ref bS), (1, .ref (b 0)), (2, .ref oR), (3, .ref oC), (4, .ref oN), (5, .int (nI (sN σ))), (6, .int (nI (cntC σ))), (8, .ref oS)]) hx hb dL_law_217 hl (by decide) rfl (fun ls hl => ?_)
  refine lv_aload hx hb dL_law_219 (lv_at hl 0 rfl) ?_
  refine g_alen (n := 49) 34 0 hx hb hK hP rfl rfl rfl dL_law_221 ?_
  refine lv_istore (lv' := [(11, .int (nI 49)), (10, .ref oS), (9, .int (nI 0)), (0, .ref bS), (1, .ref (b 0)), (2, .ref oR), (3, .ref oC), (4, .ref oN), (5, .int (nI (sN σ))), (6, .int (nI (cntC σ))), (8, .ref oS)]) hx hb dL_law_222 hl (by decide) rfl (fun ls hl => ?_)
  refine n_iconst 0 (by decide) hx hb dL_law_224 ?_
  refine lv_istore (lv' := [(12, .int (nI 0)), (11, .int (nI 49)), (10, .ref oS), (9, .int (nI 0)), (0, .ref bS), (1, .ref (b 0)), (2, .ref oR), (3, .ref oC), (4, .ref oN), (5, .int (nI (sN σ))), (6, .int (nI (cntC σ))), (8, .ref oS)]) hx hb dL_law_225 hl (by decide) rfl (fun ls hl => ?_)
  refine lawS S hst hK hN hE hA hwf hgk.2.1 hc0 hs0 (fun x H locs ls hok hP hD hS hl => ?_) 50 0 (by omega) (by omega) _ _ _ _ hok hP hD hS (lv_sub hl [4, 5, 6, 7, 8, 9, 10, 3, 2, 1, 0] rfl)
  refine lv_iload hx hb dL_law_257 (lv_at hl 7 rfl) ?_
  rw [h_pairs hwf hgk]
  refine lv_aload_n hx hb dL_law_259 rfl (lv_at hl 1 rfl) ?_
  refine bV_i (As := []) (wn := fun u : Cx => clW k b σ u ++ [(oR, .inl (k 0, 60, .inl fr)), (oC, .inl (k 0, 40, .inl fc)), (oN, .inl (k 0, 3, .inl fn)), (oS, .inl (k 0, 49, .inl (nA gf)))]) S hP hK hN hD hS hA (m_X6_pairCount l G k _ b σ x hok) gw_80 rfl rfl rfl hdq_X6_pairCount rfl rfl (List.Perm.refl _) (fun _ => List.Perm.refl _) 6 0 rfl rfl rfl rfl hl.1 rfl rfl ⟨(by show _ ≤ (600130 : Nat); omega), (by show _ ≤ (7301080 : Nat); omega)⟩ dL_law_260 (fun rX x1 H locs hw hP hD hS => ?_)
  obtain ⟨v1, hv1, hw1, hok⟩ := hw
  subst hv1
  subst hw1
  try dsimp only at hP hD
  have hP : va_P G vwCl (clW k b σ x1 ++ [(oR, .inl (k 0, 60, .inl fr)), (oC, .inl (k 0, 40, .inl fc)), (oN, .inl (k 0, 3, .inl fn)), (oS, .inl (k 0, 49, .inl (nA gf)))]) H := hP
  have hD : va_D A (clW k b σ x1 ++ [(oR, .inl (k 0, 60, .inl fr)), (oC, .inl (k 0, 40, .inl fc)), (oN, .inl (k 0, 3, .inl fn)), (oS, .inl (k 0, 49, .inl (nA gf)))]) := hD
  refine n_icmp_ne (tgt := 275) (by omega) (by omega) hx hb dL_law_263 (by decide) (fun q263 => ?_) (fun q263 => ?_)
  · skip
    exact absurd rfl q263
  · skip
    refine lv_aload_n hx hb dL_law_266 rfl (lv_at hl 1 rfl) ?_
    refine bV_i (As := []) (wn := fun u : Cx => clW k b σ u ++ [(oR, .inl (k 0, 60, .inl fr)), (oC, .inl (k 0, 40, .inl fc)), (oN, .inl (k 0, 3, .inl fn)), (oS, .inl (k 0, 49, .inl (nA gf)))]) S hP hK hN hD hS hA (m_X6_sampleSize l G k _ b σ x1 hok) gw_69 rfl rfl rfl hdq_X6_sampleSize rfl rfl (List.Perm.refl _) (fun _ => List.Perm.refl _) 6 0 rfl rfl rfl rfl hl.1 rfl rfl ⟨(by show _ ≤ (600130 : Nat); omega), (by show _ ≤ (7301080 : Nat); omega)⟩ dL_law_267 (fun rX x2 H locs hw hP hD hS => ?_)
    obtain ⟨v2, hv2, hw2, hok⟩ := hw
    subst hv2
    subst hw2
    try dsimp only at hP hD
    have hP : va_P G vwCl (clW k b σ x2 ++ [(oR, .inl (k 0, 60, .inl fr)), (oC, .inl (k 0, 40, .inl fc)), (oN, .inl (k 0, 3, .inl fn)), (oS, .inl (k 0, 49, .inl (nA gf)))]) H := hP
    have hD : va_D A (clW k b σ x2 ++ [(oR, .inl (k 0, 60, .inl fr)), (oC, .inl (k 0, 40, .inl fc)), (oN, .inl (k 0, 3, .inl fn)), (oS, .inl (k 0, 49, .inl (nA gf)))]) := hD
    refine lv_iload hx hb dL_law_270 (lv_at hl 6 rfl) ?_
    refine n_icmp_le (tgt := 277) (by omega) (by omega) hx hb dL_law_272 (by decide) (fun q272 => ?_) (fun q272 => ?_)
    · skip
      refine lv_aload_n hx hb dL_law_277 rfl (lv_at hl 1 rfl) ?_
      refine bV_i (As := []) (wn := fun u : Cx => clW k b σ u ++ [(oR, .inl (k 0, 60, .inl fr)), (oC, .inl (k 0, 40, .inl fc)), (oN, .inl (k 0, 3, .inl fn)), (oS, .inl (k 0, 49, .inl (nA gf)))]) S hP hK hN hD hS hA (m_X6_forced l G k _ b σ x2 hok) gw_83 rfl rfl rfl hdq_X6_forced rfl rfl (List.Perm.refl _) (fun _ => List.Perm.refl _) 6 0 rfl rfl rfl rfl hl.1 rfl rfl ⟨(by show _ ≤ (600130 : Nat); omega), (by show _ ≤ (7301080 : Nat); omega)⟩ dL_law_278 (fun rX x3 H locs hw hP hD hS => ?_)
      obtain ⟨v3, hv3, hw3, hok⟩ := hw
      subst hv3
      subst hw3
      try dsimp only at hP hD
      have hP : va_P G vwCl (clW k b σ x3 ++ [(oR, .inl (k 0, 60, .inl fr)), (oC, .inl (k 0, 40, .inl fc)), (oN, .inl (k 0, 3, .inl fn)), (oS, .inl (k 0, 49, .inl (nA gf)))]) H := hP
      have hD : va_D A (clW k b σ x3 ++ [(oR, .inl (k 0, 60, .inl fr)), (oC, .inl (k 0, 40, .inl fc)), (oN, .inl (k 0, 3, .inl fn)), (oS, .inl (k 0, 49, .inl (nA gf)))]) := hD
      refine lv_istore (lv' := [(10, .int (nI (r_for σ))), (0, .ref bS), (1, .ref (b 0)), (2, .ref oR), (3, .ref oC), (4, .ref oN), (5, .int (nI (sN σ))), (6, .int (nI (cntC σ))), (9, .int (nI (fb_sm (fun j => popc (gf j)) 49)))]) hx hb dL_law_281 hl (by decide) rfl (fun ls hl => ?_)
      refine lv_aload_n hx hb dL_law_283 rfl (lv_at hl 2 rfl) ?_
      refine bV_i (As := []) (wn := fun u : Cx => clW k b σ u ++ [(oR, .inl (k 0, 60, .inl fr)), (oC, .inl (k 0, 40, .inl fc)), (oN, .inl (k 0, 3, .inl fn)), (oS, .inl (k 0, 49, .inl (nA gf)))]) S hP hK hN hD hS hA (m_X6_ruledOut l G k _ b σ x3 hok) gw_86 rfl rfl rfl hdq_X6_ruledOut rfl rfl (List.Perm.refl _) (fun _ => List.Perm.refl _) 6 0 rfl rfl rfl rfl hl.1 rfl rfl ⟨(by show _ ≤ (600130 : Nat); omega), (by show _ ≤ (7301080 : Nat); omega)⟩ dL_law_284 (fun rX x4 H locs hw hP hD hS => ?_)
      obtain ⟨v4, hv4, hw4, hok⟩ := hw
      subst hv4
      subst hw4
      try dsimp only at hP hD
      have hP : va_P G vwCl (clW k b σ x4 ++ [(oR, .inl (k 0, 60, .inl fr)), (oC, .inl (k 0, 40, .inl fc)), (oN, .inl (k 0, 3, .inl fn)), (oS, .inl (k 0, 49, .inl (nA gf)))]) H := hP
      have hD : va_D A (clW k b σ x4 ++ [(oR, .inl (k 0, 60, .inl fr)), (oC, .inl (k 0, 40, .inl fc)), (oN, .inl (k 0, 3, .inl fn)), (oS, .inl (k 0, 49, .inl (nA gf)))]) := hD
      refine lv_istore (lv' := [(11, .int (nI (r_rul σ))), (10, .int (nI (r_for σ))), (0, .ref bS), (1, .ref (b 0)), (2, .ref oR), (3, .ref oC), (4, .ref oN), (5, .int (nI (sN σ))), (6, .int (nI (cntC σ))), (9, .int (nI (fb_sm (fun j => popc (gf j)) 49)))]) hx hb dL_law_287 hl (by decide) rfl (fun ls hl => ?_)
      refine lv_iload hx hb dL_law_289 (lv_at hl 1 rfl) ?_
      refine lv_iload hx hb dL_law_291 (lv_at hl 0 rfl) ?_
      refine n_iand hx hb dL_law_293 ?_
      rw [for_rul]
      refine n_if_eq (tgt := 299) (by omega) hx hb dL_law_294 (by decide) (fun q294 => ?_) (fun q294 => ?_)
      · skip
        refine n_iconst 0 (by decide) hx hb dL_law_299 ?_
        refine lv_istore (lv' := [(12, .int (nI 0)), (11, .int (nI (r_rul σ))), (10, .int (nI (r_for σ))), (0, .ref bS), (1, .ref (b 0)), (2, .ref oR), (3, .ref oC), (4, .ref oN), (5, .int (nI (sN σ))), (6, .int (nI (cntC σ))), (9, .int (nI (fb_sm (fun j => popc (gf j)) 49)))]) hx hb dL_law_300 hl (by decide) rfl (fun ls hl => ?_)
        exact kk _ _ _ _ hok hP hD hS (lv_sub hl [3, 4, 5, 6, 7, 8, 9, 2, 1, 0] rfl)
      · skip
        exact absurd q294 (by decide)
    · skip
      have := h_few hwf; omega
set_option maxHeartbeats 4000000 in
set_option maxRecDepth 100000 in
theorem lawB (S : CallFix p m c code 15 s #[.ref bS] lw_tbl RL) (hst : l.stackTraces = false) (hK : va_K G vwCl (tyG k) s) (hN : gN s) (hE : xE A s) (hA : ∀ q, s.heap.size ≤ q → A q) {σ : Sg} (hwf : WF σ) {gf : Nat → Nat} {f w : Nat} (hf : f < sN σ) (h0 : sD σ f = 0) (hw : w = 1 ∨ w = 2) (e1 : cntC (decS σ f w) = cntC σ) (e2 : cntC (decS σ f (3 - w)) = 0) (hc0 : c0 + 12 ≤ 600130) (hs0 : s0 + 72 ≤ 7301080)
    (kk : ∀ (x : Cx) (H : Heap) (locs : List Loc) (ls : Array Slot), COK σ x → va_P G vwCl (clW k b σ x ++ [(oR, .inl (k 0, 60, .inl fr)), (oC, .inl (k 0, 40, .inl fc)), (oN, .inl (k 0, 3, .inl fn)), (oS, .inl (k 0, 49, .inl (nA gf)))]) H → va_D A (clW k b σ x ++ [(oR, .inl (k 0, 60, .inl fr)), (oC, .inl (k 0, 40, .inl fc)), (oN, .inl (k 0, 3, .inl fn)), (oS, .inl (k 0, 49, .inl (nA gf)))]) → va_S A s.heap H locs → lv_has ls 15 [(0, .ref bS), (1, .ref (b 0)), (2, .ref oR), (3, .ref oC), (4, .ref oN), (5, .int (nI (sN σ))), (6, .int (nI (cntC σ))), (10, .int (nI (r_for σ))), (11, .int (nI (r_rul σ))), (12, .int (nI f))] → W p l e room_1 s m #[.ref bS] below meth c H locs (c0 + 12) (s0 + 72) Q (F0 m 417 ls [])) :
    ∀ (x : Cx) (H : Heap) (locs : List Loc) (ls : Array Slot), COK σ x → va_P G vwCl (clW k b σ x ++ [(oR, .inl (k 0, 60, .inl fr)), (oC, .inl (k 0, 40, .inl fc)), (oN, .inl (k 0, 3, .inl fn)), (oS, .inl (k 0, 49, .inl (nA gf)))]) H → va_D A (clW k b σ x ++ [(oR, .inl (k 0, 60, .inl fr)), (oC, .inl (k 0, 40, .inl fc)), (oN, .inl (k 0, 3, .inl fn)), (oS, .inl (k 0, 49, .inl (nA gf)))]) → va_S A s.heap H locs → lv_has ls 15 [(0, .ref bS), (1, .ref (b 0)), (2, .ref oR), (3, .ref oC), (4, .ref oN), (5, .int (nI (sN σ))), (6, .int (nI (cntC σ))), (10, .int (nI (r_for σ))), (11, .int (nI (r_rul σ))), (12, .int (nI f)), (13, .int (nI w))] → W p l e room_1 s m #[.ref bS] below meth c H locs c0 s0 Q (F0 m 350 ls []) := by
  obtain ⟨hx, hb, hml, hown, hts⟩ := id S
  intro x H locs ls hok hP hD hS hl
  have hcl := cntC_le hwf
  refine lv_aload_n hx hb dL_law_350 rfl (lv_at hl 1 rfl) ?_
  refine lv_iload hx hb dL_law_351 (lv_at hl 9 rfl) ?_
  refine lv_iload hx hb dL_law_353 (lv_at hl 10 rfl) ?_
  refine bW_i (As := [.int (nI f), .int (nI w)]) (wn := fun u : Cx => clW k b (decS σ f w) u ++ [(oR, .inl (k 0, 60, .inl fr)), (oC, .inl (k 0, 40, .inl fc)), (oN, .inl (k 0, 3, .inl fn)), (oS, .inl (k 0, 49, .inl (nA gf)))]) S hP hK hN hE hD hS hA (q_dec l hst G k _ b σ x f w (by exact hf) (by omega) hok) gw_28 rfl rfl rfl hdq_X6_decide rfl rfl (List.Perm.refl _) (fun _ => List.Perm.refl _) 6 0 rfl rfl rfl rfl hl.1 rfl rfl ⟨(by show _ ≤ (600130 : Nat); omega), (by show _ ≤ (7301080 : Nat); omega)⟩ dL_law_355 (fun rX x1 H locs hw hP hD hS => ?_)
  obtain ⟨hv1, hok⟩ := hw
  subst hv1
  try dsimp only at hP hD
  have hP : va_P G vwCl (clW k b (decS σ f w) x1 ++ [(oR, .inl (k 0, 60, .inl fr)), (oC, .inl (k 0, 40, .inl fc)), (oN, .inl (k 0, 3, .inl fn)), (oS, .inl (k 0, 49, .inl (nA gf)))]) H := hP
  have hD : va_D A (clW k b (decS σ f w) x1 ++ [(oR, .inl (k 0, 60, .inl fr)), (oC, .inl (k 0, 40, .inl fc)), (oN, .inl (k 0, 3, .inl fn)), (oS, .inl (k 0, 49, .inl (nA gf)))]) := hD
  rw [h0]
  refine n_if_ne (tgt := 415) (by omega) hx hb dL_law_358 (by decide) (fun q358 => ?_) (fun q358 => ?_)
  · skip
    exact absurd q358 (by decide)
  · skip
    refine lv_aload_n hx hb dL_law_361 rfl (lv_at hl 1 rfl) ?_
    refine bV_i (As := []) (wn := fun u : Cx => clW k b (decS σ f w) u ++ [(oR, .inl (k 0, 60, .inl fr)), (oC, .inl (k 0, 40, .inl fc)), (oN, .inl (k 0, 3, .inl fn)), (oS, .inl (k 0, 49, .inl (nA gf)))]) S hP hK hN hD hS hA (m_X6_candidateCount l G k _ b (decS σ f w) x1 hok) gw_56 rfl rfl rfl hdq_X6_candidateCount rfl rfl (List.Perm.refl _) (fun _ => List.Perm.refl _) 6 0 rfl rfl rfl rfl hl.1 rfl rfl ⟨(by show _ ≤ (600130 : Nat); omega), (by show _ ≤ (7301080 : Nat); omega)⟩ dL_law_362 (fun rX x2 H locs hw hP hD hS => ?_)
    obtain ⟨v2, hv2, hw2, hok⟩ := hw
    subst hv2
    subst hw2
    try dsimp only at hP hD
    have hP : va_P G vwCl (clW k b (decS σ f w) x2 ++ [(oR, .inl (k 0, 60, .inl fr)), (oC, .inl (k 0, 40, .inl fc)), (oN, .inl (k 0, 3, .inl fn)), (oS, .inl (k 0, 49, .inl (nA gf)))]) H := hP
    have hD : va_D A (clW k b (decS σ f w) x2 ++ [(oR, .inl (k 0, 60, .inl fr)), (oC, .inl (k 0, 40, .inl fc)), (oN, .inl (k 0, 3, .inl fn)), (oS, .inl (k 0, 49, .inl (nA gf)))]) := hD
    rw [e1]
    refine lv_iload hx hb dL_law_365 (lv_at hl 6 rfl) ?_
    refine n_icmp_ne (tgt := 415) (by omega) (by omega) hx hb dL_law_367 (by decide) (fun q367 => ?_) (fun q367 => ?_)
    · skip
      exact absurd rfl q367
    · skip
      refine lv_aload_n hx hb dL_law_370 rfl (lv_at hl 1 rfl) ?_
      refine lv_iload hx hb dL_law_371 (lv_at hl 9 rfl) ?_
      refine n_iconst 3 (by decide) hx hb dL_law_373 ?_
      refine lv_iload hx hb dL_law_374 (lv_at hl 10 rfl) ?_
      refine n_isub (by omega) hx hb dL_law_376 ?_
      refine bW_i (As := [.int (nI f), .int (nI (3 - w))]) (wn := fun u : Cx => clW k b (decS (decS σ f w) f (3 - w)) u ++ [(oR, .inl (k 0, 60, .inl fr)), (oC, .inl (k 0, 40, .inl fc)), (oN, .inl (k 0, 3, .inl fn)), (oS, .inl (k 0, 49, .inl (nA gf)))]) S hP hK hN hE hD hS hA (q_dec l hst G k _ b (decS σ f w) x2 f (3 - w) (by exact hf) (by omega) hok) gw_28 rfl rfl rfl hdq_X6_decide rfl rfl (List.Perm.refl _) (fun _ => List.Perm.refl _) 6 0 rfl rfl rfl rfl hl.1 rfl rfl ⟨(by show _ ≤ (600130 : Nat); omega), (by show _ ≤ (7301080 : Nat); omega)⟩ dL_law_377 (fun rX x3 H locs hw hP hD hS => ?_)
      obtain ⟨hv3, hok⟩ := hw
      subst hv3
      try dsimp only at hP hD
      have hP : va_P G vwCl (clW k b (decS (decS σ f w) f (3 - w)) x3 ++ [(oR, .inl (k 0, 60, .inl fr)), (oC, .inl (k 0, 40, .inl fc)), (oN, .inl (k 0, 3, .inl fn)), (oS, .inl (k 0, 49, .inl (nA gf)))]) H := hP
      have hD : va_D A (clW k b (decS (decS σ f w) f (3 - w)) x3 ++ [(oR, .inl (k 0, 60, .inl fr)), (oC, .inl (k 0, 40, .inl fc)), (oN, .inl (k 0, 3, .inl fn)), (oS, .inl (k 0, 49, .inl (nA gf)))]) := hD
      rw [sD_dec]
      rw [dec_dec] at hP hD hok
      have hP : va_P G vwCl (clW k b (decS σ f (3 - w)) x3 ++ [(oR, .inl (k 0, 60, .inl fr)), (oC, .inl (k 0, 40, .inl fc)), (oN, .inl (k 0, 3, .inl fn)), (oS, .inl (k 0, 49, .inl (nA gf)))]) H := hP
      have hD : va_D A (clW k b (decS σ f (3 - w)) x3 ++ [(oR, .inl (k 0, 60, .inl fr)), (oC, .inl (k 0, 40, .inl fc)), (oN, .inl (k 0, 3, .inl fn)), (oS, .inl (k 0, 49, .inl (nA gf)))]) := hD
      refine lv_iload hx hb dL_law_380 (lv_at hl 10 rfl) ?_
      refine n_icmp_ne (tgt := 415) (by omega) (by omega) hx hb dL_law_382 (by decide) (fun q382 => ?_) (fun q382 => ?_)
      · skip
        exact absurd rfl q382
      · skip
        refine lv_aload_n hx hb dL_law_385 rfl (lv_at hl 1 rfl) ?_
        refine bV_i (As := []) (wn := fun u : Cx => clW k b (decS σ f (3 - w)) u ++ [(oR, .inl (k 0, 60, .inl fr)), (oC, .inl (k 0, 40, .inl fc)), (oN, .inl (k 0, 3, .inl fn)), (oS, .inl (k 0, 49, .inl (nA gf)))]) S hP hK hN hD hS hA (m_X6_candidateCount l G k _ b (decS σ f (3 - w)) x3 hok) gw_56 rfl rfl rfl hdq_X6_candidateCount rfl rfl (List.Perm.refl _) (fun _ => List.Perm.refl _) 6 0 rfl rfl rfl rfl hl.1 rfl rfl ⟨(by show _ ≤ (600130 : Nat); omega), (by show _ ≤ (7301080 : Nat); omega)⟩ dL_law_386 (fun rX x4 H locs hw hP hD hS => ?_)
        obtain ⟨v4, hv4, hw4, hok⟩ := hw
        subst hv4
        subst hw4
        try dsimp only at hP hD
        have hP : va_P G vwCl (clW k b (decS σ f (3 - w)) x4 ++ [(oR, .inl (k 0, 60, .inl fr)), (oC, .inl (k 0, 40, .inl fc)), (oN, .inl (k 0, 3, .inl fn)), (oS, .inl (k 0, 49, .inl (nA gf)))]) H := hP
        have hD : va_D A (clW k b (decS σ f (3 - w)) x4 ++ [(oR, .inl (k 0, 60, .inl fr)), (oC, .inl (k 0, 40, .inl fc)), (oN, .inl (k 0, 3, .inl fn)), (oS, .inl (k 0, 49, .inl (nA gf)))]) := hD
        rw [e2]
        refine n_if_ne (tgt := 415) (by omega) hx hb dL_law_389 (by decide) (fun q389 => ?_) (fun q389 => ?_)
        · skip
          exact absurd q389 (by decide)
        · skip
          refine lv_aload_n hx hb dL_law_392 rfl (lv_at hl 1 rfl) ?_
          refine lv_iload hx hb dL_law_393 (lv_at hl 9 rfl) ?_
          refine n_iconst 0 (by decide) hx hb dL_law_395 ?_
          refine bW_i (As := [.int (nI f), .int (nI 0)]) (wn := fun u : Cx => clW k b (decS (decS σ f (3 - w)) f 0) u ++ [(oR, .inl (k 0, 60, .inl fr)), (oC, .inl (k 0, 40, .inl fc)), (oN, .inl (k 0, 3, .inl fn)), (oS, .inl (k 0, 49, .inl (nA gf)))]) S hP hK hN hE hD hS hA (q_dec l hst G k _ b (decS σ f (3 - w)) x4 f 0 (by exact hf) (by decide) hok) gw_28 rfl rfl rfl hdq_X6_decide rfl rfl (List.Perm.refl _) (fun _ => List.Perm.refl _) 6 0 rfl rfl rfl rfl hl.1 rfl rfl ⟨(by show _ ≤ (600130 : Nat); omega), (by show _ ≤ (7301080 : Nat); omega)⟩ dL_law_396 (fun rX x5 H locs hw hP hD hS => ?_)
          obtain ⟨hv5, hok⟩ := hw
          subst hv5
          try dsimp only at hP hD
          have hP : va_P G vwCl (clW k b (decS (decS σ f (3 - w)) f 0) x5 ++ [(oR, .inl (k 0, 60, .inl fr)), (oC, .inl (k 0, 40, .inl fc)), (oN, .inl (k 0, 3, .inl fn)), (oS, .inl (k 0, 49, .inl (nA gf)))]) H := hP
          have hD : va_D A (clW k b (decS (decS σ f (3 - w)) f 0) x5 ++ [(oR, .inl (k 0, 60, .inl fr)), (oC, .inl (k 0, 40, .inl fc)), (oN, .inl (k 0, 3, .inl fn)), (oS, .inl (k 0, 49, .inl (nA gf)))]) := hD
          rw [sD_dec]
          rw [dec_back h0] at hP hD hok
          have hP : va_P G vwCl (clW k b σ x5 ++ [(oR, .inl (k 0, 60, .inl fr)), (oC, .inl (k 0, 40, .inl fc)), (oN, .inl (k 0, 3, .inl fn)), (oS, .inl (k 0, 49, .inl (nA gf)))]) H := hP
          have hD : va_D A (clW k b σ x5 ++ [(oR, .inl (k 0, 60, .inl fr)), (oC, .inl (k 0, 40, .inl fc)), (oN, .inl (k 0, 3, .inl fn)), (oS, .inl (k 0, 49, .inl (nA gf)))]) := hD
          refine n_iconst 3 (by decide) hx hb dL_law_399 ?_
          refine lv_iload hx hb dL_law_400 (lv_at hl 10 rfl) ?_
          refine n_isub (by omega) hx hb dL_law_402 ?_
          refine n_icmp_ne (tgt := 415) (by omega) (by omega) hx hb dL_law_403 (by decide) (fun q403 => ?_) (fun q403 => ?_)
          · skip
            exact absurd rfl q403
          · skip
            refine lv_aload_n hx hb dL_law_406 rfl (lv_at hl 1 rfl) ?_
            refine bV_i (As := []) (wn := fun u : Cx => clW k b σ u ++ [(oR, .inl (k 0, 60, .inl fr)), (oC, .inl (k 0, 40, .inl fc)), (oN, .inl (k 0, 3, .inl fn)), (oS, .inl (k 0, 49, .inl (nA gf)))]) S hP hK hN hD hS hA (m_X6_candidateCount l G k _ b σ x5 hok) gw_56 rfl rfl rfl hdq_X6_candidateCount rfl rfl (List.Perm.refl _) (fun _ => List.Perm.refl _) 6 0 rfl rfl rfl rfl hl.1 rfl rfl ⟨(by show _ ≤ (600130 : Nat); omega), (by show _ ≤ (7301080 : Nat); omega)⟩ dL_law_407 (fun rX x6 H locs hw hP hD hS => ?_)
            obtain ⟨v6, hv6, hw6, hok⟩ := hw
            subst hv6
            subst hw6
            try dsimp only at hP hD
            have hP : va_P G vwCl (clW k b σ x6 ++ [(oR, .inl (k 0, 60, .inl fr)), (oC, .inl (k 0, 40, .inl fc)), (oN, .inl (k 0, 3, .inl fn)), (oS, .inl (k 0, 49, .inl (nA gf)))]) H := hP
            have hD : va_D A (clW k b σ x6 ++ [(oR, .inl (k 0, 60, .inl fr)), (oC, .inl (k 0, 40, .inl fc)), (oN, .inl (k 0, 3, .inl fn)), (oS, .inl (k 0, 49, .inl (nA gf)))]) := hD
            refine lv_iload hx hb dL_law_410 (lv_at hl 6 rfl) ?_
            refine n_icmp_eq (tgt := 417) (by omega) (by omega) hx hb dL_law_412 (by decide) (fun q412 => ?_) (fun q412 => ?_)
            · skip
              refine W.widen (k := c0 + 12) (n := s0 + 72) (by omega) (by omega) ?_
              exact kk _ _ _ _ hok hP hD hS (lv_sub hl [0, 1, 2, 3, 4, 5, 6, 7, 8, 9] rfl)
            · skip
              exact absurd rfl q412
set_option maxHeartbeats 4000000 in
set_option maxRecDepth 100000 in
theorem lawC (S : CallFix p m c code 15 s #[.ref bS] lw_tbl RL) (hst : l.stackTraces = false) (hK : va_K G vwCl (tyG k) s) (hN : gN s) (hE : xE A s) (hA : ∀ q, s.heap.size ≤ q → A q) {σ : Sg} (hwf : WF σ) {gf : Nat → Nat} (hn7 : sN σ ≤ 7) (hc0 : c0 + 84 ≤ 600130) (hs0 : s0 + 504 ≤ 7301080)
    (kk : ∀ (x : Cx) (H : Heap) (locs : List Loc) (ls : Array Slot), COK σ x → va_P G vwCl (clW k b σ x ++ [(oR, .inl (k 0, 60, .inl fr)), (oC, .inl (k 0, 40, .inl fc)), (oN, .inl (k 0, 3, .inl fn)), (oS, .inl (k 0, 49, .inl (nA gf)))]) H → va_D A (clW k b σ x ++ [(oR, .inl (k 0, 60, .inl fr)), (oC, .inl (k 0, 40, .inl fc)), (oN, .inl (k 0, 3, .inl fn)), (oS, .inl (k 0, 49, .inl (nA gf)))]) → va_S A s.heap H locs → lv_has ls 15 [(0, .ref bS), (1, .ref (b 0)), (2, .ref oR), (3, .ref oC), (4, .ref oN), (5, .int (nI (sN σ))), (6, .int (nI (cntC σ)))] → W p l e room_1 s m #[.ref bS] below meth c H locs (c0 + 84) (s0 + 504) Q (F0 m 423 ls [])) :
    ∀ (NN f : Nat), sN σ - f < NN → f ≤ sN σ → ∀ (x : Cx) (H : Heap) (locs : List Loc) (ls : Array Slot), COK σ x → va_P G vwCl (clW k b σ x ++ [(oR, .inl (k 0, 60, .inl fr)), (oC, .inl (k 0, 40, .inl fc)), (oN, .inl (k 0, 3, .inl fn)), (oS, .inl (k 0, 49, .inl (nA gf)))]) H → va_D A (clW k b σ x ++ [(oR, .inl (k 0, 60, .inl fr)), (oC, .inl (k 0, 40, .inl fc)), (oN, .inl (k 0, 3, .inl fn)), (oS, .inl (k 0, 49, .inl (nA gf)))]) → va_S A s.heap H locs → lv_has ls 15 [(0, .ref bS), (1, .ref (b 0)), (2, .ref oR), (3, .ref oC), (4, .ref oN), (5, .int (nI (sN σ))), (6, .int (nI (cntC σ))), (10, .int (nI (r_for σ))), (11, .int (nI (r_rul σ))), (12, .int (nI f))] → W p l e room_1 s m #[.ref bS] below meth c H locs (c0 + 12 * f) (s0 + 72 * f) Q (F0 m 302 ls []) := by
  obtain ⟨hx, hb, hml, hown, hts⟩ := id S
  intro NN
  induction NN with
  | zero => intro f h; exact absurd h (Nat.not_lt_zero _)
  | succ NN ih =>
    intro f hm9 hf x H locs ls hok hP hD hS hl
    have hfl := for_lt hwf
    have hrl := rul_lt hwf
    refine lv_iload hx hb dL_law_302 (lv_at hl 9 rfl) ?_
    refine lv_iload hx hb dL_law_304 (lv_at hl 5 rfl) ?_
    refine n_icmp_ge (tgt := 423) (by omega) (by omega) hx hb dL_law_306 (by decide) (fun q306 => ?_) (fun q306 => ?_)
    · skip
      refine W.widen (k := c0 + 84) (n := s0 + 504) (by omega) (by omega) ?_
      exact kk _ _ _ _ hok hP hD hS (lv_sub hl [0, 1, 2, 3, 4, 5, 6] rfl)
    · skip
      refine lv_iload hx hb dL_law_309 (lv_at hl 7 rfl) ?_
      refine lv_iload hx hb dL_law_311 (lv_at hl 9 rfl) ?_
      refine lv_ishr hx hb dL_law_313 ?_
      refine n_iconst 1 (by decide) hx hb dL_law_314 ?_
      refine lv_iand hx hb dL_law_315 ?_
      rw [xI_bitB (by omega) (by omega)]
      refine b_if_ne (tgt := 332) hx hb dL_law_316 (by decide) (fun q316 => ?_) (fun q316 => ?_)
      · skip
        refine lv_iload hx hb dL_law_332 (lv_at hl 7 rfl) ?_
        refine lv_iload hx hb dL_law_334 (lv_at hl 9 rfl) ?_
        refine lv_ishr hx hb dL_law_336 ?_
        refine n_iconst 1 (by decide) hx hb dL_law_337 ?_
        refine lv_iand hx hb dL_law_338 ?_
        rw [xI_bitB (by omega) (by omega)]
        refine n_iconst 1 (by decide) hx hb dL_law_339 ?_
        refine b_icmp_ne (tgt := 347) (a := (r_for σ).testBit f) (b := true) hx hb dL_law_340 (by decide) (fun q340 => ?_) (fun q340 => ?_)
        · skip
          refine n_iconst 2 (by decide) hx hb dL_law_347 ?_
          refine lv_istore (lv' := [(13, .int (nI 2)), (0, .ref bS), (1, .ref (b 0)), (2, .ref oR), (3, .ref oC), (4, .ref oN), (5, .int (nI (sN σ))), (6, .int (nI (cntC σ))), (10, .int (nI (r_for σ))), (11, .int (nI (r_rul σ))), (12, .int (nI f))]) hx hb dL_law_348 hl (by decide) rfl (fun ls hl => ?_)
          have hy := h_way q306 (by first | exact Or.inl q316 | exact Or.inr q326)
          rw [show wayN σ f = 2 from if_neg q340] at hy
          refine lawB (w := 2) (c0 := c0 + 12 * f) (s0 := s0 + 72 * f) S hst hK hN hE hA hwf q306 hy.1 (Or.inr rfl) hy.2.1 hy.2.2 (by omega) (by omega) (fun x H locs ls hok hP hD hS hl => ?_) _ _ _ _ hok hP hD hS (lv_sub hl [1, 2, 3, 4, 5, 6, 7, 8, 9, 10, 0] rfl)
          refine n_iinc (lv' := [(12, .int (nI (f + 1))), (0, .ref bS), (1, .ref (b 0)), (2, .ref oR), (3, .ref oC), (4, .ref oN), (5, .int (nI (sN σ))), (6, .int (nI (cntC σ))), (10, .int (nI (r_for σ))), (11, .int (nI (r_rul σ)))]) (k := 9) 1 hx hb dL_law_417 hl rfl (by decide) (by decide) rfl (fun ls hl => ?_)
          refine lv_goto (tgt := 302) hx hb dL_law_420 (by decide) ?_
          refine W.widen (k := c0 + 12 * (f + 1)) (n := s0 + 72 * (f + 1)) (by omega) (by omega) ?_
          exact ih (f + 1) (by omega) (by omega) _ _ _ _ hok hP hD hS (lv_sub hl [1, 2, 3, 4, 5, 6, 7, 8, 9, 0] rfl)
        · skip
          refine n_iconst 1 (by decide) hx hb dL_law_343 ?_
          refine lv_goto (tgt := 348) hx hb dL_law_344 (by decide) ?_
          refine lv_istore (lv' := [(13, .int (nI 1)), (0, .ref bS), (1, .ref (b 0)), (2, .ref oR), (3, .ref oC), (4, .ref oN), (5, .int (nI (sN σ))), (6, .int (nI (cntC σ))), (10, .int (nI (r_for σ))), (11, .int (nI (r_rul σ))), (12, .int (nI f))]) hx hb dL_law_348 hl (by decide) rfl (fun ls hl => ?_)
          have hy := h_way q306 (by first | exact Or.inl q316 | exact Or.inr q326)
          rw [show wayN σ f = 1 from if_pos q340] at hy
          refine lawB (w := 1) (c0 := c0 + 12 * f) (s0 := s0 + 72 * f) S hst hK hN hE hA hwf q306 hy.1 (Or.inl rfl) hy.2.1 hy.2.2 (by omega) (by omega) (fun x H locs ls hok hP hD hS hl => ?_) _ _ _ _ hok hP hD hS (lv_sub hl [1, 2, 3, 4, 5, 6, 7, 8, 9, 10, 0] rfl)
          refine n_iinc (lv' := [(12, .int (nI (f + 1))), (0, .ref bS), (1, .ref (b 0)), (2, .ref oR), (3, .ref oC), (4, .ref oN), (5, .int (nI (sN σ))), (6, .int (nI (cntC σ))), (10, .int (nI (r_for σ))), (11, .int (nI (r_rul σ)))]) (k := 9) 1 hx hb dL_law_417 hl rfl (by decide) (by decide) rfl (fun ls hl => ?_)
          refine lv_goto (tgt := 302) hx hb dL_law_420 (by decide) ?_
          refine W.widen (k := c0 + 12 * (f + 1)) (n := s0 + 72 * (f + 1)) (by omega) (by omega) ?_
          exact ih (f + 1) (by omega) (by omega) _ _ _ _ hok hP hD hS (lv_sub hl [1, 2, 3, 4, 5, 6, 7, 8, 9, 0] rfl)
      · skip
        refine lv_iload hx hb dL_law_319 (lv_at hl 8 rfl) ?_
        refine lv_iload hx hb dL_law_321 (lv_at hl 9 rfl) ?_
        refine lv_ishr hx hb dL_law_323 ?_
        refine n_iconst 1 (by decide) hx hb dL_law_324 ?_
        refine lv_iand hx hb dL_law_325 ?_
        rw [xI_bitB (by omega) (by omega)]
        refine b_if_ne (tgt := 332) hx hb dL_law_326 (by decide) (fun q326 => ?_) (fun q326 => ?_)
        · skip
          refine lv_iload hx hb dL_law_332 (lv_at hl 7 rfl) ?_
          refine lv_iload hx hb dL_law_334 (lv_at hl 9 rfl) ?_
          refine lv_ishr hx hb dL_law_336 ?_
          refine n_iconst 1 (by decide) hx hb dL_law_337 ?_
          refine lv_iand hx hb dL_law_338 ?_
          rw [xI_bitB (by omega) (by omega)]
          refine n_iconst 1 (by decide) hx hb dL_law_339 ?_
          refine b_icmp_ne (tgt := 347) (a := (r_for σ).testBit f) (b := true) hx hb dL_law_340 (by decide) (fun q340 => ?_) (fun q340 => ?_)
          · skip
            refine n_iconst 2 (by decide) hx hb dL_law_347 ?_
            refine lv_istore (lv' := [(13, .int (nI 2)), (0, .ref bS), (1, .ref (b 0)), (2, .ref oR), (3, .ref oC), (4, .ref oN), (5, .int (nI (sN σ))), (6, .int (nI (cntC σ))), (10, .int (nI (r_for σ))), (11, .int (nI (r_rul σ))), (12, .int (nI f))]) hx hb dL_law_348 hl (by decide) rfl (fun ls hl => ?_)
            have hy := h_way q306 (by first | exact Or.inl q316 | exact Or.inr q326)
            rw [show wayN σ f = 2 from if_neg q340] at hy
            refine lawB (w := 2) (c0 := c0 + 12 * f) (s0 := s0 + 72 * f) S hst hK hN hE hA hwf q306 hy.1 (Or.inr rfl) hy.2.1 hy.2.2 (by omega) (by omega) (fun x H locs ls hok hP hD hS hl => ?_) _ _ _ _ hok hP hD hS (lv_sub hl [1, 2, 3, 4, 5, 6, 7, 8, 9, 10, 0] rfl)
            refine n_iinc (lv' := [(12, .int (nI (f + 1))), (0, .ref bS), (1, .ref (b 0)), (2, .ref oR), (3, .ref oC), (4, .ref oN), (5, .int (nI (sN σ))), (6, .int (nI (cntC σ))), (10, .int (nI (r_for σ))), (11, .int (nI (r_rul σ)))]) (k := 9) 1 hx hb dL_law_417 hl rfl (by decide) (by decide) rfl (fun ls hl => ?_)
            refine lv_goto (tgt := 302) hx hb dL_law_420 (by decide) ?_
            refine W.widen (k := c0 + 12 * (f + 1)) (n := s0 + 72 * (f + 1)) (by omega) (by omega) ?_
            exact ih (f + 1) (by omega) (by omega) _ _ _ _ hok hP hD hS (lv_sub hl [1, 2, 3, 4, 5, 6, 7, 8, 9, 0] rfl)
          · skip
            refine n_iconst 1 (by decide) hx hb dL_law_343 ?_
            refine lv_goto (tgt := 348) hx hb dL_law_344 (by decide) ?_
            refine lv_istore (lv' := [(13, .int (nI 1)), (0, .ref bS), (1, .ref (b 0)), (2, .ref oR), (3, .ref oC), (4, .ref oN), (5, .int (nI (sN σ))), (6, .int (nI (cntC σ))), (10, .int (nI (r_for σ))), (11, .int (nI (r_rul σ))), (12, .int (nI f))]) hx hb dL_law_348 hl (by decide) rfl (fun ls hl => ?_)
            have hy := h_way q306 (by first | exact Or.inl q316 | exact Or.inr q326)
            rw [show wayN σ f = 1 from if_pos q340] at hy
            refine lawB (w := 1) (c0 := c0 + 12 * f) (s0 := s0 + 72 * f) S hst hK hN hE hA hwf q306 hy.1 (Or.inl rfl) hy.2.1 hy.2.2 (by omega) (by omega) (fun x H locs ls hok hP hD hS hl => ?_) _ _ _ _ hok hP hD hS (lv_sub hl [1, 2, 3, 4, 5, 6, 7, 8, 9, 10, 0] rfl)
            refine n_iinc (lv' := [(12, .int (nI (f + 1))), (0, .ref bS), (1, .ref (b 0)), (2, .ref oR), (3, .ref oC), (4, .ref oN), (5, .int (nI (sN σ))), (6, .int (nI (cntC σ))), (10, .int (nI (r_for σ))), (11, .int (nI (r_rul σ)))]) (k := 9) 1 hx hb dL_law_417 hl rfl (by decide) (by decide) rfl (fun ls hl => ?_)
            refine lv_goto (tgt := 302) hx hb dL_law_420 (by decide) ?_
            refine W.widen (k := c0 + 12 * (f + 1)) (n := s0 + 72 * (f + 1)) (by omega) (by omega) ?_
            exact ih (f + 1) (by omega) (by omega) _ _ _ _ hok hP hD hS (lv_sub hl [1, 2, 3, 4, 5, 6, 7, 8, 9, 0] rfl)
        · skip
          refine lv_goto (tgt := 417) hx hb dL_law_329 (by decide) ?_
          refine n_iinc (lv' := [(12, .int (nI (f + 1))), (0, .ref bS), (1, .ref (b 0)), (2, .ref oR), (3, .ref oC), (4, .ref oN), (5, .int (nI (sN σ))), (6, .int (nI (cntC σ))), (10, .int (nI (r_for σ))), (11, .int (nI (r_rul σ)))]) (k := 9) 1 hx hb dL_law_417 hl rfl (by decide) (by decide) rfl (fun ls hl => ?_)
          refine lv_goto (tgt := 302) hx hb dL_law_420 (by decide) ?_
          refine W.widen (k := c0 + 12 * (f + 1)) (n := s0 + 72 * (f + 1)) (by omega) (by omega) ?_
          exact ih (f + 1) (by omega) (by omega) _ _ _ _ hok hP hD hS (lv_sub hl [1, 2, 3, 4, 5, 6, 7, 8, 9, 0] rfl)
set_option maxHeartbeats 4000000 in
set_option maxRecDepth 100000 in
theorem lawQ (S : CallFix p m c code 15 s #[.ref bS] lw_tbl RL) (hst : l.stackTraces = false) (hK : va_K G vwCl (tyG k) s) (hN : gN s) (hE : xE A s) (hA : ∀ q, s.heap.size ≤ q → A q) {σ : Sg} (hwf : WF σ) {gf : Nat → Nat} {x : Cx} {H : Heap} {locs : List Loc} {ls : Array Slot} (hc0 : c0 + 12 ≤ 600130) (hs0 : s0 + 72 ≤ 7301080)
    (kk : ∀ (x : Cx) (H : Heap) (locs : List Loc) (ls : Array Slot), COK σ x → va_P G vwCl (clW k b σ x ++ [(oR, .inl (k 0, 60, .inl fr)), (oC, .inl (k 0, 40, .inl fc)), (oN, .inl (k 0, 3, .inl fn)), (oS, .inl (k 0, 49, .inl (nA gf)))]) H → va_D A (clW k b σ x ++ [(oR, .inl (k 0, 60, .inl fr)), (oC, .inl (k 0, 40, .inl fc)), (oN, .inl (k 0, 3, .inl fn)), (oS, .inl (k 0, 49, .inl (nA gf)))]) → va_S A s.heap H locs → lv_has ls 15 [(0, .ref bS), (1, .ref (b 0)), (2, .ref oR), (3, .ref oC), (4, .ref oN), (5, .int (nI (sN σ))), (6, .int (nI (cntC σ)))] → W p l e room_1 s m #[.ref bS] below meth c H locs (c0 + 12) (s0 + 72) Q (F0 m 508 ls [])) :
    COK σ x → va_P G vwCl (clW k b σ x ++ [(oR, .inl (k 0, 60, .inl fr)), (oC, .inl (k 0, 40, .inl fc)), (oN, .inl (k 0, 3, .inl fn)), (oS, .inl (k 0, 49, .inl (nA gf)))]) H → va_D A (clW k b σ x ++ [(oR, .inl (k 0, 60, .inl fr)), (oC, .inl (k 0, 40, .inl fc)), (oN, .inl (k 0, 3, .inl fn)), (oS, .inl (k 0, 49, .inl (nA gf)))]) → va_S A s.heap H locs → lv_has ls 15 [(0, .ref bS), (1, .ref (b 0)), (2, .ref oR), (3, .ref oC), (4, .ref oN), (5, .int (nI (sN σ))), (6, .int (nI (cntC σ)))] → W p l e room_1 s m #[.ref bS] below meth c H locs c0 s0 Q (F0 m 423 ls []) := by
  obtain ⟨hx, hb, hml, hown, hts⟩ := id S
  intro hok hP hD hS hl
  have hcl := cntC_le hwf
  refine lv_aload_n hx hb dL_law_423 rfl (lv_at hl 1 rfl) ?_
  refine bV_i (As := []) (wn := fun u : Cx => clW k b σ u ++ [(oR, .inl (k 0, 60, .inl fr)), (oC, .inl (k 0, 40, .inl fc)), (oN, .inl (k 0, 3, .inl fn)), (oS, .inl (k 0, 49, .inl (nA gf)))]) S hP hK hN hD hS hA (m_X6_question l G k _ b σ x hok) gw_89 rfl rfl rfl hdq_X6_question rfl rfl (List.Perm.refl _) (fun _ => List.Perm.refl _) 6 0 rfl rfl rfl rfl hl.1 rfl rfl ⟨(by show _ ≤ (600130 : Nat); omega), (by show _ ≤ (7301080 : Nat); omega)⟩ dL_law_424 (fun rX x1 H locs hw hP hD hS => ?_)
  obtain ⟨v1, hv1, hw1, hok⟩ := hw
  subst hv1
  subst hw1
  try dsimp only at hP hD
  have hP : va_P G vwCl (clW k b σ x1 ++ [(oR, .inl (k 0, 60, .inl fr)), (oC, .inl (k 0, 40, .inl fc)), (oN, .inl (k 0, 3, .inl fn)), (oS, .inl (k 0, 49, .inl (nA gf)))]) H := hP
  have hD : va_D A (clW k b σ x1 ++ [(oR, .inl (k 0, 60, .inl fr)), (oC, .inl (k 0, 40, .inl fc)), (oN, .inl (k 0, 3, .inl fn)), (oS, .inl (k 0, 49, .inl (nA gf)))]) := hD
  rcases hq : (quP σ (sN σ)).1 with _ | f
  · skip
    have hqn := h_qn hq
    refine lv_istore (lv' := [(12, .int (-1)), (0, .ref bS), (1, .ref (b 0)), (2, .ref oR), (3, .ref oC), (4, .ref oN), (5, .int (nI (sN σ))), (6, .int (nI (cntC σ)))]) hx hb dL_law_427 hl (by decide) rfl (fun ls hl => ?_)
    refine lv_iload hx hb dL_law_429 (lv_at hl 0 rfl) ?_
    refine lv_if_lt (tgt := 500) hx hb dL_law_431 (by decide) (fun q431 => ?_) (fun q431 => ?_)
    · skip
      refine lv_iload hx hb dL_law_500 (lv_at hl 7 rfl) ?_
      refine n_iconst 1 (by decide) hx hb dL_law_502 ?_
      refine n_icmp_le (tgt := 508) (by omega) (by omega) hx hb dL_law_503 (by decide) (fun q503 => ?_) (fun q503 => ?_)
      · skip
        refine W.widen (k := c0 + 12) (n := s0 + 72) (by omega) (by omega) ?_
        exact kk _ _ _ _ hok hP hD hS (lv_sub hl [1, 2, 3, 4, 5, 6, 7] rfl)
      · skip
        omega
    · skip
      exact absurd (by decide) q431
  · skip
    obtain ⟨hqf, hq0, hq1, hq2, hq3⟩ := h_qu hwf hq
    have hf31 : f < 2147483648 := by have := hwf.2.1; omega
    refine lv_istore (lv' := [(12, .int (nI f)), (0, .ref bS), (1, .ref (b 0)), (2, .ref oR), (3, .ref oC), (4, .ref oN), (5, .int (nI (sN σ))), (6, .int (nI (cntC σ)))]) hx hb dL_law_427 hl (by decide) rfl (fun ls hl => ?_)
    refine lv_iload hx hb dL_law_429 (lv_at hl 0 rfl) ?_
    refine n_if_lt (tgt := 500) (by omega) hx hb dL_law_431 (by decide) (fun q431 => ?_) (fun q431 => ?_)
    · skip
      exact q431.elim
    · skip
      refine lv_aload_n hx hb dL_law_434 rfl (lv_at hl 2 rfl) ?_
      refine lv_iload hx hb dL_law_435 (lv_at hl 0 rfl) ?_
      refine n_iconst 1 (by decide) hx hb dL_law_437 ?_
      refine bW_i (As := [.int (nI f), .int (nI 1)]) (wn := fun u : Cx => clW k b (decS σ f 1) u ++ [(oR, .inl (k 0, 60, .inl fr)), (oC, .inl (k 0, 40, .inl fc)), (oN, .inl (k 0, 3, .inl fn)), (oS, .inl (k 0, 49, .inl (nA gf)))]) S hP hK hN hE hD hS hA (q_dec l hst G k _ b σ x1 f 1 (by exact hqf) (by decide) hok) gw_28 rfl rfl rfl hdq_X6_decide rfl rfl (List.Perm.refl _) (fun _ => List.Perm.refl _) 6 0 rfl rfl rfl rfl hl.1 rfl rfl ⟨(by show _ ≤ (600130 : Nat); omega), (by show _ ≤ (7301080 : Nat); omega)⟩ dL_law_438 (fun rX x2 H locs hw hP hD hS => ?_)
      obtain ⟨hv2, hok⟩ := hw
      subst hv2
      try dsimp only at hP hD
      have hP : va_P G vwCl (clW k b (decS σ f 1) x2 ++ [(oR, .inl (k 0, 60, .inl fr)), (oC, .inl (k 0, 40, .inl fc)), (oN, .inl (k 0, 3, .inl fn)), (oS, .inl (k 0, 49, .inl (nA gf)))]) H := hP
      have hD : va_D A (clW k b (decS σ f 1) x2 ++ [(oR, .inl (k 0, 60, .inl fr)), (oC, .inl (k 0, 40, .inl fc)), (oN, .inl (k 0, 3, .inl fn)), (oS, .inl (k 0, 49, .inl (nA gf)))]) := hD
      rw [hq0]
      refine lv_istore (lv' := [(13, .int (nI 0)), (12, .int (nI f)), (0, .ref bS), (1, .ref (b 0)), (2, .ref oR), (3, .ref oC), (4, .ref oN), (5, .int (nI (sN σ))), (6, .int (nI (cntC σ)))]) hx hb dL_law_441 hl (by decide) rfl (fun ls hl => ?_)
      refine lv_aload_n hx hb dL_law_443 rfl (lv_at hl 3 rfl) ?_
      refine bV_i (As := []) (wn := fun u : Cx => clW k b (decS σ f 1) u ++ [(oR, .inl (k 0, 60, .inl fr)), (oC, .inl (k 0, 40, .inl fc)), (oN, .inl (k 0, 3, .inl fn)), (oS, .inl (k 0, 49, .inl (nA gf)))]) S hP hK hN hD hS hA (m_X6_candidateCount l G k _ b (decS σ f 1) x2 hok) gw_56 rfl rfl rfl hdq_X6_candidateCount rfl rfl (List.Perm.refl _) (fun _ => List.Perm.refl _) 6 0 rfl rfl rfl rfl hl.1 rfl rfl ⟨(by show _ ≤ (600130 : Nat); omega), (by show _ ≤ (7301080 : Nat); omega)⟩ dL_law_444 (fun rX x3 H locs hw hP hD hS => ?_)
      obtain ⟨v3, hv3, hw3, hok⟩ := hw
      subst hv3
      subst hw3
      try dsimp only at hP hD
      have hP : va_P G vwCl (clW k b (decS σ f 1) x3 ++ [(oR, .inl (k 0, 60, .inl fr)), (oC, .inl (k 0, 40, .inl fc)), (oN, .inl (k 0, 3, .inl fn)), (oS, .inl (k 0, 49, .inl (nA gf)))]) H := hP
      have hD : va_D A (clW k b (decS σ f 1) x3 ++ [(oR, .inl (k 0, 60, .inl fr)), (oC, .inl (k 0, 40, .inl fc)), (oN, .inl (k 0, 3, .inl fn)), (oS, .inl (k 0, 49, .inl (nA gf)))]) := hD
      refine lv_istore (lv' := [(14, .int (nI (cntC (decS σ f 1)))), (13, .int (nI 0)), (12, .int (nI f)), (0, .ref bS), (1, .ref (b 0)), (2, .ref oR), (3, .ref oC), (4, .ref oN), (5, .int (nI (sN σ))), (6, .int (nI (cntC σ)))]) hx hb dL_law_447 hl (by decide) rfl (fun ls hl => ?_)
      refine lv_aload_n hx hb dL_law_449 rfl (lv_at hl 4 rfl) ?_
      refine lv_iload hx hb dL_law_450 (lv_at hl 2 rfl) ?_
      refine n_iconst 2 (by decide) hx hb dL_law_452 ?_
      refine bW_i (As := [.int (nI f), .int (nI 2)]) (wn := fun u : Cx => clW k b (decS (decS σ f 1) f 2) u ++ [(oR, .inl (k 0, 60, .inl fr)), (oC, .inl (k 0, 40, .inl fc)), (oN, .inl (k 0, 3, .inl fn)), (oS, .inl (k 0, 49, .inl (nA gf)))]) S hP hK hN hE hD hS hA (q_dec l hst G k _ b (decS σ f 1) x3 f 2 (by exact hqf) (by decide) hok) gw_28 rfl rfl rfl hdq_X6_decide rfl rfl (List.Perm.refl _) (fun _ => List.Perm.refl _) 6 0 rfl rfl rfl rfl hl.1 rfl rfl ⟨(by show _ ≤ (600130 : Nat); omega), (by show _ ≤ (7301080 : Nat); omega)⟩ dL_law_453 (fun rX x4 H locs hw hP hD hS => ?_)
      obtain ⟨hv4, hok⟩ := hw
      subst hv4
      try dsimp only at hP hD
      have hP : va_P G vwCl (clW k b (decS (decS σ f 1) f 2) x4 ++ [(oR, .inl (k 0, 60, .inl fr)), (oC, .inl (k 0, 40, .inl fc)), (oN, .inl (k 0, 3, .inl fn)), (oS, .inl (k 0, 49, .inl (nA gf)))]) H := hP
      have hD : va_D A (clW k b (decS (decS σ f 1) f 2) x4 ++ [(oR, .inl (k 0, 60, .inl fr)), (oC, .inl (k 0, 40, .inl fc)), (oN, .inl (k 0, 3, .inl fn)), (oS, .inl (k 0, 49, .inl (nA gf)))]) := hD
      rw [dec_dec] at hP hD hok
      have hP : va_P G vwCl (clW k b (decS σ f 2) x4 ++ [(oR, .inl (k 0, 60, .inl fr)), (oC, .inl (k 0, 40, .inl fc)), (oN, .inl (k 0, 3, .inl fn)), (oS, .inl (k 0, 49, .inl (nA gf)))]) H := hP
      have hD : va_D A (clW k b (decS σ f 2) x4 ++ [(oR, .inl (k 0, 60, .inl fr)), (oC, .inl (k 0, 40, .inl fc)), (oN, .inl (k 0, 3, .inl fn)), (oS, .inl (k 0, 49, .inl (nA gf)))]) := hD
      refine lv_pop hx hb dL_law_456 rfl ?_
      refine lv_iload hx hb dL_law_457 (lv_at hl 1 rfl) ?_
      refine n_if_ne (tgt := 486) (by omega) hx hb dL_law_459 (by decide) (fun q459 => ?_) (fun q459 => ?_)
      · skip
        exact absurd q459 (by decide)
      · skip
        refine lv_iload hx hb dL_law_462 (lv_at hl 0 rfl) ?_
        refine n_if_eq (tgt := 486) (by omega) hx hb dL_law_464 (by decide) (fun q464 => ?_) (fun q464 => ?_)
        · skip
          exact absurd q464 hq1
        · skip
          refine lv_iload hx hb dL_law_467 (lv_at hl 0 rfl) ?_
          refine lv_iload hx hb dL_law_469 (lv_at hl 9 rfl) ?_
          refine n_icmp_eq (tgt := 486) (by omega) (by omega) hx hb dL_law_471 (by decide) (fun q471 => ?_) (fun q471 => ?_)
          · skip
            exact absurd q471 hq2
          · skip
            refine lv_iload hx hb dL_law_474 (lv_at hl 0 rfl) ?_
            refine lv_aload_n hx hb dL_law_476 rfl (lv_at hl 4 rfl) ?_
            refine bV_i (As := []) (wn := fun u : Cx => clW k b (decS σ f 2) u ++ [(oR, .inl (k 0, 60, .inl fr)), (oC, .inl (k 0, 40, .inl fc)), (oN, .inl (k 0, 3, .inl fn)), (oS, .inl (k 0, 49, .inl (nA gf)))]) S hP hK hN hD hS hA (m_X6_candidateCount l G k _ b (decS σ f 2) x4 hok) gw_56 rfl rfl rfl hdq_X6_candidateCount rfl rfl (List.Perm.refl _) (fun _ => List.Perm.refl _) 6 0 rfl rfl rfl rfl hl.1 rfl rfl ⟨(by show _ ≤ (600130 : Nat); omega), (by show _ ≤ (7301080 : Nat); omega)⟩ dL_law_477 (fun rX x5 H locs hw hP hD hS => ?_)
            obtain ⟨v5, hv5, hw5, hok⟩ := hw
            subst hv5
            subst hw5
            try dsimp only at hP hD
            have hP : va_P G vwCl (clW k b (decS σ f 2) x5 ++ [(oR, .inl (k 0, 60, .inl fr)), (oC, .inl (k 0, 40, .inl fc)), (oN, .inl (k 0, 3, .inl fn)), (oS, .inl (k 0, 49, .inl (nA gf)))]) H := hP
            have hD : va_D A (clW k b (decS σ f 2) x5 ++ [(oR, .inl (k 0, 60, .inl fr)), (oC, .inl (k 0, 40, .inl fc)), (oN, .inl (k 0, 3, .inl fn)), (oS, .inl (k 0, 49, .inl (nA gf)))]) := hD
            refine n_iadd hx hb dL_law_480 ?_
            refine lv_iload hx hb dL_law_481 (lv_at hl 9 rfl) ?_
            refine n_icmp_eq (tgt := 488) (by omega) (by omega) hx hb dL_law_483 (by decide) (fun q483 => ?_) (fun q483 => ?_)
            · skip
              refine lv_aload_n hx hb dL_law_488 rfl (lv_at hl 4 rfl) ?_
              refine lv_iload hx hb dL_law_489 (lv_at hl 2 rfl) ?_
              refine lv_iload hx hb dL_law_491 (lv_at hl 1 rfl) ?_
              refine bW_i (As := [.int (nI f), .int (nI 0)]) (wn := fun u : Cx => clW k b (decS (decS σ f 2) f 0) u ++ [(oR, .inl (k 0, 60, .inl fr)), (oC, .inl (k 0, 40, .inl fc)), (oN, .inl (k 0, 3, .inl fn)), (oS, .inl (k 0, 49, .inl (nA gf)))]) S hP hK hN hE hD hS hA (q_dec l hst G k _ b (decS σ f 2) x5 f 0 (by exact hqf) (by decide) hok) gw_28 rfl rfl rfl hdq_X6_decide rfl rfl (List.Perm.refl _) (fun _ => List.Perm.refl _) 6 0 rfl rfl rfl rfl hl.1 rfl rfl ⟨(by show _ ≤ (600130 : Nat); omega), (by show _ ≤ (7301080 : Nat); omega)⟩ dL_law_493 (fun rX x6 H locs hw hP hD hS => ?_)
              obtain ⟨hv6, hok⟩ := hw
              subst hv6
              try dsimp only at hP hD
              have hP : va_P G vwCl (clW k b (decS (decS σ f 2) f 0) x6 ++ [(oR, .inl (k 0, 60, .inl fr)), (oC, .inl (k 0, 40, .inl fc)), (oN, .inl (k 0, 3, .inl fn)), (oS, .inl (k 0, 49, .inl (nA gf)))]) H := hP
              have hD : va_D A (clW k b (decS (decS σ f 2) f 0) x6 ++ [(oR, .inl (k 0, 60, .inl fr)), (oC, .inl (k 0, 40, .inl fc)), (oN, .inl (k 0, 3, .inl fn)), (oS, .inl (k 0, 49, .inl (nA gf)))]) := hD
              rw [dec_back hq0] at hP hD hok
              have hP : va_P G vwCl (clW k b σ x6 ++ [(oR, .inl (k 0, 60, .inl fr)), (oC, .inl (k 0, 40, .inl fc)), (oN, .inl (k 0, 3, .inl fn)), (oS, .inl (k 0, 49, .inl (nA gf)))]) H := hP
              have hD : va_D A (clW k b σ x6 ++ [(oR, .inl (k 0, 60, .inl fr)), (oC, .inl (k 0, 40, .inl fc)), (oN, .inl (k 0, 3, .inl fn)), (oS, .inl (k 0, 49, .inl (nA gf)))]) := hD
              refine lv_pop hx hb dL_law_496 rfl ?_
              refine lv_goto (tgt := 508) hx hb dL_law_497 (by decide) ?_
              refine W.widen (k := c0 + 12) (n := s0 + 72) (by omega) (by omega) ?_
              exact kk _ _ _ _ hok hP hD hS (lv_sub hl [3, 4, 5, 6, 7, 8, 9] rfl)
            · skip
              exact absurd hq3 q483
set_option maxHeartbeats 4000000 in
set_option maxRecDepth 100000 in
theorem lawT (S : CallFix p m c code 15 s #[.ref bS] lw_tbl RL) (hst : l.stackTraces = false) (hK : va_K G vwCl (tyG k) s) (hN : gN s) (hE : xE A s) (hA : ∀ q, s.heap.size ≤ q → A q) {σ : Sg} (hwf : WF σ) {gf : Nat → Nat} (hB : BOK σ fr fc fn) (hc0 : c0 + 32 ≤ 600130) (hs0 : s0 + 192 ≤ 7301080)
    (kk : ∀ (x : Cx) (H : Heap) (locs : List Loc) (ls : Array Slot), COK σ x → va_P G vwCl (clW k b σ x ++ [(oR, .inl (k 0, 60, .inl fr)), (oC, .inl (k 0, 40, .inl fc)), (oN, .inl (k 0, 3, .inl fn)), (oS, .inl (k 0, 49, .inl (nA gf)))]) H → va_D A (clW k b σ x ++ [(oR, .inl (k 0, 60, .inl fr)), (oC, .inl (k 0, 40, .inl fc)), (oN, .inl (k 0, 3, .inl fn)), (oS, .inl (k 0, 49, .inl (nA gf)))]) → va_S A s.heap H locs → lv_has ls 15 [(0, .ref bS), (1, .ref (b 0)), (2, .ref oR), (3, .ref oC), (4, .ref oN), (5, .int (nI (sN σ))), (6, .int (nI (cntC σ)))] → W p l e room_1 s m #[.ref bS] below meth c H locs (c0 + 32) (s0 + 192) Q (F0 m 586 ls [])) :
    ∀ (NN i : Nat), sK σ - i < NN → i ≤ sK σ → ∀ (x : Cx) (H : Heap) (locs : List Loc) (ls : Array Slot), COK σ x → va_P G vwCl (clW k b σ x ++ [(oR, .inl (k 0, 60, .inl fr)), (oC, .inl (k 0, 40, .inl fc)), (oN, .inl (k 0, 3, .inl fn)), (oS, .inl (k 0, 49, .inl (nA gf)))]) H → va_D A (clW k b σ x ++ [(oR, .inl (k 0, 60, .inl fr)), (oC, .inl (k 0, 40, .inl fc)), (oN, .inl (k 0, 3, .inl fn)), (oS, .inl (k 0, 49, .inl (nA gf)))]) → va_S A s.heap H locs → lv_has ls 15 [(0, .ref bS), (1, .ref (b 0)), (2, .ref oR), (3, .ref oC), (4, .ref oN), (5, .int (nI (sN σ))), (6, .int (nI (cntC σ))), (13, .int (nI (cntP σ))), (14, .int (nI i))] → W p l e room_1 s m #[.ref bS] below meth c H locs (c0 + 8 * i) (s0 + 48 * i) Q (F0 m 517 ls []) := by
  obtain ⟨hx, hb, hml, hown, hts⟩ := id S
  intro NN
  induction NN with
  | zero => intro i h; exact absurd h (Nat.not_lt_zero _)
  | succ NN ih =>
    intro i hm9 hi x H locs ls hok hP hD hS hl
    obtain ⟨hn7, hk4, hbd, hf0, hf1, hf2, hr2, hr4, hc3⟩ := id hB
    have hcl := cntP_le hwf
    refine lv_iload hx hb dL_law_517 (lv_at hl 8 rfl) ?_
    refine lv_aload hx hb dL_law_519 (lv_at hl 4 rfl) ?_
    refine n_iconst 1 (by decide) hx hb dL_law_521 ?_
    refine r_iald hx hb hK hP 33 rfl (by omega) (by first | decide | omega) dL_law_522 ?_
    rw [hf1]
    refine n_icmp_ge (tgt := 586) (by omega) (by omega) hx hb dL_law_523 (by decide) (fun q523 => ?_) (fun q523 => ?_)
    · skip
      refine W.widen (k := c0 + 32) (n := s0 + 192) (by omega) (by omega) ?_
      exact kk _ _ _ _ hok hP hD hS (lv_sub hl [0, 1, 2, 3, 4, 5, 6] rfl)
    · skip
      refine lv_aload_n hx hb dL_law_526 rfl (lv_at hl 3 rfl) ?_
      refine n_iconst 4 (by decide) hx hb dL_law_527 ?_
      refine lv_iload hx hb dL_law_528 (lv_at hl 8 rfl) ?_
      refine n_imul hx hb dL_law_530 ?_
      refine n_iconst 3 (by decide) hx hb dL_law_531 ?_
      refine n_iadd hx hb dL_law_532 ?_
      refine r_iald hx hb hK hP 32 rfl (by omega) (by first | decide | omega) dL_law_533 ?_
      rw [hc3 i (by omega)]
      refine b_if_ne (tgt := 540) hx hb dL_law_534 (by decide) (fun q534 => ?_) (fun q534 => ?_)
      · skip
        refine lv_aload_n hx hb dL_law_540 rfl (lv_at hl 1 rfl) ?_
        refine lv_iload hx hb dL_law_541 (lv_at hl 8 rfl) ?_
        refine n_iconst 0 (by decide) hx hb dL_law_543 ?_
        refine bW_i (As := [.int (nI i), .int (bI false)]) (wn := fun u : Cx => clW k b (trnS σ i false) u ++ [(oR, .inl (k 0, 60, .inl fr)), (oC, .inl (k 0, 40, .inl fc)), (oN, .inl (k 0, 3, .inl fn)), (oS, .inl (k 0, 49, .inl (nA gf)))]) S hP hK hN hE hD hS hA (q_trn l hst G k _ b σ x i false (by omega) hok) gw_35 rfl rfl rfl hdq_X6_turn rfl rfl (List.Perm.refl _) (fun _ => List.Perm.refl _) 6 0 rfl rfl rfl rfl hl.1 rfl rfl ⟨(by show _ ≤ (600130 : Nat); omega), (by show _ ≤ (7301080 : Nat); omega)⟩ dL_law_544 (fun rX x1 H locs hw hP hD hS => ?_)
        obtain ⟨hv1, hok⟩ := hw
        subst hv1
        try dsimp only at hP hD
        have hP : va_P G vwCl (clW k b (trnS σ i false) x1 ++ [(oR, .inl (k 0, 60, .inl fr)), (oC, .inl (k 0, 40, .inl fc)), (oN, .inl (k 0, 3, .inl fn)), (oS, .inl (k 0, 49, .inl (nA gf)))]) H := hP
        have hD : va_D A (clW k b (trnS σ i false) x1 ++ [(oR, .inl (k 0, 60, .inl fr)), (oC, .inl (k 0, 40, .inl fc)), (oN, .inl (k 0, 3, .inl fn)), (oS, .inl (k 0, 49, .inl (nA gf)))]) := hD
        rw [q534]
        refine b_if_eq (tgt := 578) hx hb dL_law_547 (by decide) (fun q547 => ?_) (fun q547 => ?_)
        · skip
          exact absurd q547 (by decide)
        · skip
          refine lv_aload_n hx hb dL_law_550 rfl (lv_at hl 1 rfl) ?_
          refine bV_i (As := []) (wn := fun u : Cx => clW k b (trnS σ i false) u ++ [(oR, .inl (k 0, 60, .inl fr)), (oC, .inl (k 0, 40, .inl fc)), (oN, .inl (k 0, 3, .inl fn)), (oS, .inl (k 0, 49, .inl (nA gf)))]) S hP hK hN hD hS hA (m_X6_productCount l G k _ b (trnS σ i false) x1 hok) gw_92 rfl rfl rfl hdq_X6_productCount rfl rfl (List.Perm.refl _) (fun _ => List.Perm.refl _) 6 0 rfl rfl rfl rfl hl.1 rfl rfl ⟨(by show _ ≤ (600130 : Nat); omega), (by show _ ≤ (7301080 : Nat); omega)⟩ dL_law_551 (fun rX x2 H locs hw hP hD hS => ?_)
          obtain ⟨v2, hv2, hw2, hok⟩ := hw
          subst hv2
          subst hw2
          try dsimp only at hP hD
          have hP : va_P G vwCl (clW k b (trnS σ i false) x2 ++ [(oR, .inl (k 0, 60, .inl fr)), (oC, .inl (k 0, 40, .inl fc)), (oN, .inl (k 0, 3, .inl fn)), (oS, .inl (k 0, 49, .inl (nA gf)))]) H := hP
          have hD : va_D A (clW k b (trnS σ i false) x2 ++ [(oR, .inl (k 0, 60, .inl fr)), (oC, .inl (k 0, 40, .inl fc)), (oN, .inl (k 0, 3, .inl fn)), (oS, .inl (k 0, 49, .inl (nA gf)))]) := hD
          refine lv_iload hx hb dL_law_554 (lv_at hl 7 rfl) ?_
          refine n_icmp_lt (tgt := 578) (by have := cntP_le hok.1; omega) (by omega) hx hb dL_law_556 (by decide) (fun q556 => ?_) (fun q556 => ?_)
          · skip
            have := cnt_off σ i; omega
          · skip
            refine lv_aload_n hx hb dL_law_559 rfl (lv_at hl 1 rfl) ?_
            refine lv_iload hx hb dL_law_560 (lv_at hl 8 rfl) ?_
            refine n_iconst 1 (by decide) hx hb dL_law_562 ?_
            refine bW_i (As := [.int (nI i), .int (bI true)]) (wn := fun u : Cx => clW k b (trnS (trnS σ i false) i true) u ++ [(oR, .inl (k 0, 60, .inl fr)), (oC, .inl (k 0, 40, .inl fc)), (oN, .inl (k 0, 3, .inl fn)), (oS, .inl (k 0, 49, .inl (nA gf)))]) S hP hK hN hE hD hS hA (q_trn l hst G k _ b (trnS σ i false) x2 i true (by show i < sK σ; omega) hok) gw_35 rfl rfl rfl hdq_X6_turn rfl rfl (List.Perm.refl _) (fun _ => List.Perm.refl _) 6 0 rfl rfl rfl rfl hl.1 rfl rfl ⟨(by show _ ≤ (600130 : Nat); omega), (by show _ ≤ (7301080 : Nat); omega)⟩ dL_law_563 (fun rX x3 H locs hw hP hD hS => ?_)
            obtain ⟨hv3, hok⟩ := hw
            subst hv3
            try dsimp only at hP hD
            have hP : va_P G vwCl (clW k b (trnS (trnS σ i false) i true) x3 ++ [(oR, .inl (k 0, 60, .inl fr)), (oC, .inl (k 0, 40, .inl fc)), (oN, .inl (k 0, 3, .inl fn)), (oS, .inl (k 0, 49, .inl (nA gf)))]) H := hP
            have hD : va_D A (clW k b (trnS (trnS σ i false) i true) x3 ++ [(oR, .inl (k 0, 60, .inl fr)), (oC, .inl (k 0, 40, .inl fc)), (oN, .inl (k 0, 3, .inl fn)), (oS, .inl (k 0, 49, .inl (nA gf)))]) := hD
            rw [sO_trn]
            rw [trn_back q534] at hP hD hok
            have hP : va_P G vwCl (clW k b σ x3 ++ [(oR, .inl (k 0, 60, .inl fr)), (oC, .inl (k 0, 40, .inl fc)), (oN, .inl (k 0, 3, .inl fn)), (oS, .inl (k 0, 49, .inl (nA gf)))]) H := hP
            have hD : va_D A (clW k b σ x3 ++ [(oR, .inl (k 0, 60, .inl fr)), (oC, .inl (k 0, 40, .inl fc)), (oN, .inl (k 0, 3, .inl fn)), (oS, .inl (k 0, 49, .inl (nA gf)))]) := hD
            refine b_if_ne (tgt := 578) hx hb dL_law_566 (by decide) (fun q566 => ?_) (fun q566 => ?_)
            · skip
              exact absurd q566 (by decide)
            · skip
              refine lv_aload_n hx hb dL_law_569 rfl (lv_at hl 1 rfl) ?_
              refine bV_i (As := []) (wn := fun u : Cx => clW k b σ u ++ [(oR, .inl (k 0, 60, .inl fr)), (oC, .inl (k 0, 40, .inl fc)), (oN, .inl (k 0, 3, .inl fn)), (oS, .inl (k 0, 49, .inl (nA gf)))]) S hP hK hN hD hS hA (m_X6_productCount l G k _ b σ x3 hok) gw_92 rfl rfl rfl hdq_X6_productCount rfl rfl (List.Perm.refl _) (fun _ => List.Perm.refl _) 6 0 rfl rfl rfl rfl hl.1 rfl rfl ⟨(by show _ ≤ (600130 : Nat); omega), (by show _ ≤ (7301080 : Nat); omega)⟩ dL_law_570 (fun rX x4 H locs hw hP hD hS => ?_)
              obtain ⟨v4, hv4, hw4, hok⟩ := hw
              subst hv4
              subst hw4
              try dsimp only at hP hD
              have hP : va_P G vwCl (clW k b σ x4 ++ [(oR, .inl (k 0, 60, .inl fr)), (oC, .inl (k 0, 40, .inl fc)), (oN, .inl (k 0, 3, .inl fn)), (oS, .inl (k 0, 49, .inl (nA gf)))]) H := hP
              have hD : va_D A (clW k b σ x4 ++ [(oR, .inl (k 0, 60, .inl fr)), (oC, .inl (k 0, 40, .inl fc)), (oN, .inl (k 0, 3, .inl fn)), (oS, .inl (k 0, 49, .inl (nA gf)))]) := hD
              refine lv_iload hx hb dL_law_573 (lv_at hl 7 rfl) ?_
              refine n_icmp_eq (tgt := 580) (by omega) (by omega) hx hb dL_law_575 (by decide) (fun q575 => ?_) (fun q575 => ?_)
              · skip
                refine n_iinc (lv' := [(14, .int (nI (i + 1))), (0, .ref bS), (1, .ref (b 0)), (2, .ref oR), (3, .ref oC), (4, .ref oN), (5, .int (nI (sN σ))), (6, .int (nI (cntC σ))), (13, .int (nI (cntP σ)))]) (k := 8) 1 hx hb dL_law_580 hl rfl (by decide) (by decide) rfl (fun ls hl => ?_)
                refine lv_goto (tgt := 517) hx hb dL_law_583 (by decide) ?_
                refine W.widen (k := c0 + 8 * (i + 1)) (n := s0 + 48 * (i + 1)) (by omega) (by omega) ?_
                exact ih (i + 1) (by omega) (by omega) _ _ _ _ hok hP hD hS (lv_sub hl [1, 2, 3, 4, 5, 6, 7, 8, 0] rfl)
              · skip
                exact absurd rfl q575
      · skip
        refine lv_goto (tgt := 580) hx hb dL_law_537 (by decide) ?_
        refine n_iinc (lv' := [(14, .int (nI (i + 1))), (0, .ref bS), (1, .ref (b 0)), (2, .ref oR), (3, .ref oC), (4, .ref oN), (5, .int (nI (sN σ))), (6, .int (nI (cntC σ))), (13, .int (nI (cntP σ)))]) (k := 8) 1 hx hb dL_law_580 hl rfl (by decide) (by decide) rfl (fun ls hl => ?_)
        refine lv_goto (tgt := 517) hx hb dL_law_583 (by decide) ?_
        refine W.widen (k := c0 + 8 * (i + 1)) (n := s0 + 48 * (i + 1)) (by omega) (by omega) ?_
        exact ih (i + 1) (by omega) (by omega) _ _ _ _ hok hP hD hS (lv_sub hl [1, 2, 3, 4, 5, 6, 7, 8, 0] rfl)
end LAW39
