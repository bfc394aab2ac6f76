theorem hdq_L_cell : yL_cell.cls ≠ "java/lang/invoke/MethodHandle" ∧ yL_cell.cls ≠ "java/lang/invoke/VarHandle" ∧ (parseMethodDescriptor yL_cell.desc).map (fun d => d.parameters.length) = some 2 := by decide +kernel
theorem hdq_L_below : yL_below.cls ≠ "java/lang/invoke/MethodHandle" ∧ yL_below.cls ≠ "java/lang/invoke/VarHandle" ∧ (parseMethodDescriptor yL_below.desc).map (fun d => d.parameters.length) = some 2 := by decide +kernel
theorem hdq_X6_addFeature : yX6_addFeature.cls = RX6 ∧ yX6_addFeature.cls ≠ "java/lang/invoke/MethodHandle" ∧ yX6_addFeature.cls ≠ "java/lang/invoke/VarHandle" ∧ (parseMethodDescriptor yX6_addFeature.desc).map (fun d => d.parameters.length) = some 2 := by decide +kernel
theorem hdq_X6_setWorth : yX6_setWorth.cls = RX6 ∧ yX6_setWorth.cls ≠ "java/lang/invoke/MethodHandle" ∧ yX6_setWorth.cls ≠ "java/lang/invoke/VarHandle" ∧ (parseMethodDescriptor yX6_setWorth.desc).map (fun d => d.parameters.length) = some 3 := by decide +kernel
theorem hdq_X6_decide : yX6_decide.cls = RX6 ∧ yX6_decide.cls ≠ "java/lang/invoke/MethodHandle" ∧ yX6_decide.cls ≠ "java/lang/invoke/VarHandle" ∧ (parseMethodDescriptor yX6_decide.desc).map (fun d => d.parameters.length) = some 2 := by decide +kernel
theorem hdq_X6_addConstraint : yX6_addConstraint.cls = RX6 ∧ yX6_addConstraint.cls ≠ "java/lang/invoke/MethodHandle" ∧ yX6_addConstraint.cls ≠ "java/lang/invoke/VarHandle" ∧ (parseMethodDescriptor yX6_addConstraint.desc).map (fun d => d.parameters.length) = some 3 := by decide +kernel
theorem hdq_X6_turn : yX6_turn.cls = RX6 ∧ yX6_turn.cls ≠ "java/lang/invoke/MethodHandle" ∧ yX6_turn.cls ≠ "java/lang/invoke/VarHandle" ∧ (parseMethodDescriptor yX6_turn.desc).map (fun d => d.parameters.length) = some 2 := by decide +kernel
theorem hdq_X6_setBudget : yX6_setBudget.cls = RX6 ∧ yX6_setBudget.cls ≠ "java/lang/invoke/MethodHandle" ∧ yX6_setBudget.cls ≠ "java/lang/invoke/VarHandle" ∧ (parseMethodDescriptor yX6_setBudget.desc).map (fun d => d.parameters.length) = some 1 := by decide +kernel
theorem hdq_X6_featureCount : yX6_featureCount.cls = RX6 ∧ yX6_featureCount.cls ≠ "java/lang/invoke/MethodHandle" ∧ yX6_featureCount.cls ≠ "java/lang/invoke/VarHandle" ∧ (parseMethodDescriptor yX6_featureCount.desc).map (fun d => d.parameters.length) = some 0 := by decide +kernel
/-! p39's build: a model out of the script's cells (written by wip/p39/build39.py) -/
abbrev rmB : Room := { frames := 8, cells := 120, slots := 720, locals := 140 }
def INI (σ : Sg) : Prop := (∀ f, sC σ f = 0) ∧ (∀ f, sV σ f = 0) ∧ (∀ f, sD σ f = 0) ∧ sK σ = 0 ∧ sU σ = -1
def BP2 (n0 i : Nat) (σ : Sg) (fr : Nat → Int32) : Prop := sN σ = n0 ∧ (∀ f, f < i → fr (5 * f + 2) = nI (sC σ f) ∧ fr (5 * f + 4) = nI (sD σ f)) ∧ (∀ f, i ≤ f → sC σ f = 0 ∧ sV σ f = 0 ∧ sD σ f = 0) ∧ sK σ = 0 ∧ sU σ = -1
def BP3 (n0 i : Nat) (σ : Sg) (fr fc : Nat → Int32) : Prop := sN σ = n0 ∧ sK σ = i ∧ sU σ = -1 ∧ (∀ f, f < n0 → fr (5 * f + 2) = nI (sC σ f) ∧ fr (5 * f + 4) = nI (sD σ f)) ∧ ∀ j, j < i → fc (4 * j + 3) = bI (sO σ j)
theorem u3_2 (fr : Nat → Int32) (i : Nat) (x y z : Int32) : upd (upd (upd fr (5 * i + 2) x) (5 * i + 3) y) (5 * i + 4) z (5 * i + 2) = x := by
  rw [pk_un (k := 5 * i + 4) (j := 5 * i + 2) (by omega), pk_un (k := 5 * i + 3) (j := 5 * i + 2) (by omega), pk_us]
theorem u3_3 (fr : Nat → Int32) (i : Nat) (x y z : Int32) : upd (upd (upd fr (5 * i + 2) x) (5 * i + 3) y) (5 * i + 4) z (5 * i + 3) = y := by
  rw [pk_un (k := 5 * i + 4) (j := 5 * i + 3) (by omega), pk_us]
theorem u3_4 (fr : Nat → Int32) (i : Nat) (x y z : Int32) : upd (upd (upd fr (5 * i + 2) x) (5 * i + 3) y) (5 * i + 4) z (5 * i + 4) = z := pk_us
theorem u3_n (fr : Nat → Int32) {i j : Nat} (x y z : Int32) (h2 : j ≠ 5 * i + 2) (h3 : j ≠ 5 * i + 3) (h4 : j ≠ 5 * i + 4) : upd (upd (upd fr (5 * i + 2) x) (5 * i + 3) y) (5 * i + 4) z j = fr j := by
  rw [pk_un h4, pk_un h3, pk_un h2]
theorem u4_0 (fc : Nat → Int32) (i : Nat) (x y z v : Int32) : upd (upd (upd (upd fc (4 * i) x) (4 * i + 1) y) (4 * i + 2) z) (4 * i + 3) v (4 * i) = x := by
  rw [pk_un (k := 4 * i + 3) (j := 4 * i) (by omega), pk_un (k := 4 * i + 2) (j := 4 * i) (by omega), pk_un (k := 4 * i + 1) (j := 4 * i) (by omega), pk_us]
theorem u4_1 (fc : Nat → Int32) (i : Nat) (x y z v : Int32) : upd (upd (upd (upd fc (4 * i) x) (4 * i + 1) y) (4 * i + 2) z) (4 * i + 3) v (4 * i + 1) = y := by
  rw [pk_un (k := 4 * i + 3) (j := 4 * i + 1) (by omega), pk_un (k := 4 * i + 2) (j := 4 * i + 1) (by omega), pk_us]
theorem u4_2 (fc : Nat → Int32) (i : Nat) (x y z v : Int32) : upd (upd (upd (upd fc (4 * i) x) (4 * i + 1) y) (4 * i + 2) z) (4 * i + 3) v (4 * i + 2) = z := by
  rw [pk_un (k := 4 * i + 3) (j := 4 * i + 2) (by omega), pk_us]
theorem u4_n (fc : Nat → Int32) {i j : Nat} (x y z v : Int32) (h0 : j ≠ 4 * i) (h1 : j ≠ 4 * i + 1) (h2 : j ≠ 4 * i + 2) (h3 : j ≠ 4 * i + 3) : upd (upd (upd (upd fc (4 * i) x) (4 * i + 1) y) (4 * i + 2) z) (4 * i + 3) v j = fc j := by
  rw [pk_un h3, pk_un h2, pk_un h1, pk_un h0]
theorem INI_add {σ : Sg} (h : INI σ) (p r : Nat) : INI (addS σ p r) := h
theorem INI_2 {σ : Sg} (h : INI σ) (fr : Nat → Int32) : BP2 (sN σ) 0 σ fr := ⟨rfl, fun f hf => absurd hf (Nat.not_lt_zero f), fun f _ => ⟨h.1 f, h.2.1 f, h.2.2.1 f⟩, h.2.2.2.1, h.2.2.2.2⟩
theorem BP2_step {n0 i : Nat} {σ : Sg} {fr : Nat → Int32} (h : BP2 n0 i σ fr) (a v d : Nat) : BP2 n0 (i + 1) (decS (worS σ i a v) i d) (upd (upd (upd fr (5 * i + 2) (nI a)) (5 * i + 3) (nI v)) (5 * i + 4) (nI d)) := by
  obtain ⟨h1, h2, h3, h4, h5⟩ := h
  refine ⟨h1, fun f hf => ?_, fun f hf => ?_, h4, h5⟩
  · show _ = nI (va_up (sC σ) i a f) ∧ _ = nI (va_up (sD σ) i d f)
    by_cases e : f = i
    · rw [e, u3_2, u3_4, va_up_self, va_up_self]; exact ⟨rfl, rfl⟩
    · rw [u3_n _ _ _ _ (by omega) (by omega) (by omega), u3_n _ _ _ _ (by omega) (by omega) (by omega), va_up_ne _ _ e, va_up_ne _ _ e]
      exact h2 f (by omega)
  · show va_up (sC σ) i a f = 0 ∧ va_up (sV σ) i v f = 0 ∧ va_up (sD σ) i d f = 0
    rw [va_up_ne _ _ (show f ≠ i by omega), va_up_ne _ _ (show f ≠ i by omega), va_up_ne _ _ (show f ≠ i by omega)]
    exact h3 f (by omega)
theorem BP2_3 {n0 i : Nat} {σ : Sg} {fr : Nat → Int32} (h : BP2 n0 i σ fr) (hi : n0 ≤ i) (fc : Nat → Int32) : BP3 n0 0 σ fr fc := ⟨h.1, h.2.2.2.1, h.2.2.2.2, fun f hf => h.2.1 f (by omega), fun j hj => absurd hj (Nat.not_lt_zero j)⟩
theorem con_on {σ : Sg} {i : Nat} (h : sK σ = i) (a b d : Nat) : sO (conS σ a b d) i = true := by
  show va_up (sO σ) (sK σ) true i = true
  rw [h, va_up_self]
theorem BP3_1 {n0 i : Nat} {σ : Sg} {fr fc : Nat → Int32} (h : BP3 n0 i σ fr fc) (x y z : Nat) : BP3 n0 (i + 1) (conS σ x y z) fr (upd (upd (upd (upd fc (4 * i) (nI x)) (4 * i + 1) (nI y)) (4 * i + 2) (nI z)) (4 * i + 3) (nI 1)) := by
  obtain ⟨h1, h2, h3, h4, h5⟩ := h
  refine ⟨h1, by show sK σ + 1 = i + 1; omega, h3, h4, fun j hj => ?_⟩
  by_cases e : j = i
  · rw [e, pk_us, con_on h2]; rfl
  · rw [u4_n _ _ _ _ _ (by omega) (by omega) (by omega) (by omega), h5 j (by omega)]
    show _ = bI (va_up (sO σ) (sK σ) true j)
    rw [va_up_ne _ _ (show j ≠ sK σ by omega)]
theorem BP3_0 {n0 i : Nat} {σ : Sg} {fr fc : Nat → Int32} (h : BP3 n0 i σ fr fc) (x y z : Nat) : BP3 n0 (i + 1) (trnS (conS σ x y z) i false) fr (upd (upd (upd (upd fc (4 * i) (nI x)) (4 * i + 1) (nI y)) (4 * i + 2) (nI z)) (4 * i + 3) (nI 0)) := by
  obtain ⟨h1, h2, h3, h4, h5⟩ := h
  refine ⟨h1, by show sK σ + 1 = i + 1; omega, h3, h4, fun j hj => ?_⟩
  show _ = bI (va_up (va_up (sO σ) (sK σ) true) i false j)
  by_cases e : j = i
  · rw [e, pk_us, va_up_self]; rfl
  · rw [u4_n _ _ _ _ _ (by omega) (by omega) (by omega) (by omega), h5 j (by omega), va_up_ne _ _ e, va_up_ne _ _ (show j ≠ sK σ by omega)]
theorem wor_t {σ : Sg} {i x y : Nat} (h1 : sC σ i = 0) (h2 : sV σ i = 0) (q : 0 < x + y) : (!(decide (sC σ i = x) && decide (sV σ i = y))) = true := by
  rw [h1, h2]
  by_cases hx : 0 = x
  · rw [decide_eq_false (show ¬ 0 = y by omega), Bool.and_false]; rfl
  · rw [decide_eq_false hx]; rfl
theorem wor_f {σ : Sg} {i x y : Nat} (h1 : sC σ i = 0) (h2 : sV σ i = 0) (q : x + y = 0) : (!(decide (sC σ i = x) && decide (sV σ i = y))) = false := by
  rw [h1, h2, decide_eq_true (show 0 = x by omega), decide_eq_true (show 0 = y by omega)]; rfl
theorem bud_ok {x : Nat} (h : x < 30) : ¬ (nI x < -1 ∨ 20000 < nI x) := by
  rintro (z | z)
  · exact Int32.lt_irrefl (Int32.lt_trans (neg1_lt (n := x) (by omega)) z)
  · exact nI_nlt (a := 20000) (b := x) (by omega) (by decide) z
theorem BP3_end {n0 i : Nat} {σ : Sg} {fr fc fn : Nat → Int32} (h : BP3 n0 i σ fr fc) (hn : n0 ≤ 7) (hi : i ≤ 4) (h0 : fn 0 = nI n0) (h1 : fn 1 = nI i) (v : Int32) (hv : v = -1 ∨ 0 ≤ v) : BOK (budS σ v) fr fc (upd fn 2 v) := by
  obtain ⟨a1, a2, a3, a4, a5⟩ := h
  refine ⟨?_, ?_, hv, ?_, ?_, pk_us, fun f hf => (a4 f (a1 ▸ hf)).1, fun f hf => (a4 f (a1 ▸ hf)).2, fun j hj => a5 j (a2 ▸ hj)⟩
  · show sN σ ≤ 7; omega
  · show sK σ ≤ 4; omega
  · rw [pk_un (k := 2) (j := 0) (by decide), h0]; show nI n0 = nI (sN σ); rw [a1]
  · rw [pk_un (k := 2) (j := 1) (by decide), h1]; show nI i = nI (sK σ); rw [a2]
section BUILD
variable {p : Program} {l : Launch} {e : Env} {s : State} {m : MethodId} {args : Array Value} {below : List Frame} {meth : Method} {c : Code} {Q : State → Prop} {A : Nat → Prop} {G : va_G} {k : Nat → ClassId} {bS L : Nat} {xs : Nat → Int32} {b : Nat → Nat} {oR oC oN : Nat}
set_option maxHeartbeats 4000000 in
set_option maxRecDepth 100000 in
theorem bld1 (S : CallFix p m c cL_build 9 s args wsL_build RL) (hst : l.stackTraces = false) (hX : va_X bS L xs s s.heap) (hbl : bS < s.heap.size) (hbA : ¬ A bS) (hK : va_K G vwCl (tyG k) s) (hN : gN s) (hE : xE A s) (hA : ∀ q, s.heap.size ≤ q → A q) (hL : L ≤ 260) {n0 : Nat} {fc fn : Nat → Int32} (hn7 : n0 ≤ 7) (hf0 : fn 0 = nI n0)
    (kk : ∀ (σ : Sg) (x : Cx) (fr : Nat → Int32) (H : Heap) (locs : List Loc) (ls : Array Slot), sN σ = n0 → INI σ → COK σ x → va_P G vwCl (clW k b σ x ++ [(oR, .inl (k 0, 60, .inl fr)), (oC, .inl (k 0, 40, .inl fc)), (oN, .inl (k 0, 3, .inl fn))]) H → va_D A (clW k b σ x ++ [(oR, .inl (k 0, 60, .inl fr)), (oC, .inl (k 0, 40, .inl fc)), (oN, .inl (k 0, 3, .inl fn))]) → va_S A s.heap H locs → lv_has ls 9 [(0, .ref (b 0)), (1, .ref bS), (2, .int (nI 0)), (3, .int (nI 7)), (4, .ref oR), (5, .ref oC), (6, .ref oN)] → W p l e rmB s m args below meth c H locs 28 168 Q (F0 m 117 ls [])) :
    ∀ (NN i : Nat), n0 - i < NN → i ≤ n0 → 1 ≤ i → ∀ (σ : Sg) (x : Cx) (fr : Nat → Int32) (H : Heap) (locs : List Loc) (ls : Array Slot), sN σ = i → INI σ → COK σ x → va_P G vwCl (clW k b σ x ++ [(oR, .inl (k 0, 60, .inl fr)), (oC, .inl (k 0, 40, .inl fc)), (oN, .inl (k 0, 3, .inl fn))]) H → va_D A (clW k b σ x ++ [(oR, .inl (k 0, 60, .inl fr)), (oC, .inl (k 0, 40, .inl fc)), (oN, .inl (k 0, 3, .inl fn))]) → va_S A s.heap H locs → lv_has ls 9 [(0, .ref (b 0)), (1, .ref bS), (2, .int (nI 0)), (3, .int (nI 7)), (4, .ref oR), (5, .ref oC), (6, .ref oN), (7, .int (nI i))] → W p l e rmB s m args below meth c H locs (4 * i) (24 * i) Q (F0 m 23 ls []) := by
  obtain ⟨hx, hb, hml, hown, hts⟩ := id S
  intro NN
  induction NN with
  | zero => intro i h; exact absurd h (Nat.not_lt_zero _)
  | succ NN ih =>
    intro i hm9 hi h1 σ x fr H locs ls hs hini hok hP hD hS hl
    refine lv_iload hx hb dL_build_23 (lv_at hl 7 rfl) ?_
    refine lv_aload hx hb dL_build_25 (lv_at hl 6 rfl) ?_
    refine n_iconst 0 (by decide) hx hb dL_build_27 ?_
    refine r_iald hx hb hK hP 33 rfl (by omega) (by first | decide | omega) dL_build_28 ?_
    rw [hf0]
    refine n_icmp_ge (tgt := 117) (by omega) (by omega) hx hb dL_build_29 (by decide) (fun q29 => ?_) (fun q29 => ?_)
    · skip
      refine W.widen (k := 28) (n := 168) (by omega) (by omega) ?_
      exact kk _ _ _ _ _ _ (by omega) hini hok hP hD hS (lv_sub hl [0, 1, 2, 3, 4, 5, 6] rfl)
    · skip
      refine lv_aload_n hx hb dL_build_32 rfl (lv_at hl 1 rfl) ?_
      refine lv_iload_n hx hb dL_build_33 rfl (lv_at hl 2 rfl) ?_
      refine n_iconst 1 (by decide) hx hb dL_build_34 ?_
      refine n_iadd hx hb dL_build_35 ?_
      refine lv_iload hx hb dL_build_36 (lv_at hl 7 rfl) ?_
      refine n_iconst 5 (by decide) hx hb dL_build_38 ?_
      refine n_irem (by omega) (by omega) (by omega) hx hb dL_build_39 ?_
      refine n_iadd hx hb dL_build_40 ?_
      refine cS_x (As := [.ref bS, .int (nI ((0 + 1) + (i % 5)))]) S hX hbl hbA hS (m_L_cell l bS L xs hL ((0 + 1) + (i % 5)) (by omega)) gL_build_L_cell rfl rfl rfl hdq_L_cell rfl rfl rfl hl.1 rfl rfl ⟨(by show _ ≤ (120 : Nat); omega), (by show _ ≤ (720 : Nat); omega)⟩ dL_build_41 (fun v1 _ => ?_)
      refine lv_iload hx hb dL_build_44 (lv_at hl 7 rfl) ?_
      refine n_iconst 5 (by decide) hx hb dL_build_46 ?_
      refine n_idiv (by omega) (by omega) (by omega) hx hb dL_build_47 ?_
      refine n_iconst 4 (by decide) hx hb dL_build_48 ?_
      refine n_imul hx hb dL_build_49 ?_
      refine lv_ishr hx hb dL_build_50 ?_
      refine lv_topi (fun y9 _ => ?_)
      refine lv_istore (lv' := [(8, .int y9), (0, .ref (b 0)), (1, .ref bS), (2, .int (nI 0)), (3, .int (nI 7)), (4, .ref oR), (5, .ref oC), (6, .ref oN), (7, .int (nI i))]) hx hb dL_build_51 hl (by decide) rfl (fun ls hl => ?_)
      refine lv_aload hx hb dL_build_53 (lv_at hl 5 rfl) ?_
      refine n_iconst 5 (by decide) hx hb dL_build_55 ?_
      refine lv_iload hx hb dL_build_56 (lv_at hl 8 rfl) ?_
      refine n_imul hx hb dL_build_58 ?_
      refine lv_iload hx hb dL_build_59 (lv_at hl 0 rfl) ?_
      refine lv_iload hx hb dL_build_61 (lv_at hl 8 rfl) ?_
      refine cS_i (As := [.int y9, .int (nI i)]) S hP hK hN (m_L_below l G k y9 i (by omega) (by omega)) gL_build_L_below rfl rfl rfl hdq_L_below rfl rfl [] rfl rfl hl.1 rfl rfl ⟨(by show _ ≤ (120 : Nat); omega), (by show _ ≤ (720 : Nat); omega)⟩ dL_build_63 (fun rX hr => ?_)
      obtain ⟨m2, rfl, hm2⟩ := hr
      refine r_iast (ws1 := (clW k b σ x ++ [(oR, .inl (k 0, 60, .inl (upd fr (5 * i) (nI m2)))), (oC, .inl (k 0, 40, .inl fc)), (oN, .inl (k 0, 3, .inl fn))])) hx hb hK hP hD hS 31 rfl (by omega) (by first | decide | omega) rfl dL_build_66 (fun H locs hP hD hS => ?_)
      refine lv_aload hx hb dL_build_67 (lv_at hl 5 rfl) ?_
      refine n_iconst 5 (by decide) hx hb dL_build_69 ?_
      refine lv_iload hx hb dL_build_70 (lv_at hl 8 rfl) ?_
      refine n_imul hx hb dL_build_72 ?_
      refine n_iconst 1 (by decide) hx hb dL_build_73 ?_
      refine n_iadd hx hb dL_build_74 ?_
      refine lv_iload hx hb dL_build_75 (lv_at hl 0 rfl) ?_
      refine n_iconst 4 (by decide) hx hb dL_build_77 ?_
      refine lv_ishr hx hb dL_build_78 ?_
      refine n_iconst 4 (by decide) hx hb dL_build_79 ?_
      refine cS_i (As := [.int (y9 >>> ((nI 4) &&& 31)), .int (nI 4)]) S hP hK hN (m_L_below l G k (y9 >>> ((nI 4) &&& 31)) 4 (by omega) (by omega)) gL_build_L_below rfl rfl rfl hdq_L_below rfl rfl [] rfl rfl hl.1 rfl rfl ⟨(by show _ ≤ (120 : Nat); omega), (by show _ ≤ (720 : Nat); omega)⟩ dL_build_80 (fun rX hr => ?_)
      obtain ⟨m3, rfl, hm3⟩ := hr
      refine r_iast (ws1 := (clW k b σ x ++ [(oR, .inl (k 0, 60, .inl (upd (upd fr (5 * i) (nI m2)) ((5 * i) + 1) (nI m3)))), (oC, .inl (k 0, 40, .inl fc)), (oN, .inl (k 0, 3, .inl fn))])) hx hb hK hP hD hS 31 rfl (by omega) (by first | decide | omega) rfl dL_build_83 (fun H locs hP hD hS => ?_)
      refine lv_aload_n hx hb dL_build_84 rfl (lv_at hl 1 rfl) ?_
      refine lv_aload hx hb dL_build_85 (lv_at hl 5 rfl) ?_
      refine n_iconst 5 (by decide) hx hb dL_build_87 ?_
      refine lv_iload hx hb dL_build_88 (lv_at hl 8 rfl) ?_
      refine n_imul hx hb dL_build_90 ?_
      refine r_iald hx hb hK hP 31 rfl (by omega) (by first | decide | omega) dL_build_91 ?_
      rw [pk_un (k := 5 * i + 1) (j := 5 * i) (by omega), pk_us]
      refine lv_aload hx hb dL_build_92 (lv_at hl 5 rfl) ?_
      refine n_iconst 5 (by decide) hx hb dL_build_94 ?_
      refine lv_iload hx hb dL_build_95 (lv_at hl 8 rfl) ?_
      refine n_imul hx hb dL_build_97 ?_
      refine n_iconst 1 (by decide) hx hb dL_build_98 ?_
      refine n_iadd hx hb dL_build_99 ?_
      refine r_iald hx hb hK hP 31 rfl (by omega) (by first | decide | omega) dL_build_100 ?_
      rw [pk_us]
      refine bW_i (As := [.int (nI m2), .int (nI m3)]) (wn := fun u : Cx => clW k b (addS σ m2 m3) u ++ [(oR, .inl (k 0, 60, .inl (upd (upd fr (5 * i) (nI m2)) ((5 * i) + 1) (nI m3)))), (oC, .inl (k 0, 40, .inl fc)), (oN, .inl (k 0, 3, .inl fn))]) S hP hK hN hE hD hS hA (q_add l hst G k _ b σ x m2 m3 (by omega) (by omega) (by omega) hok) gL_build_X6_addFeature rfl rfl rfl hdq_X6_addFeature rfl rfl (List.Perm.refl _) (fun _ => List.Perm.refl _) 6 0 rfl rfl rfl rfl hl.1 rfl rfl ⟨(by show _ ≤ (120 : Nat); omega), (by show _ ≤ (720 : Nat); omega)⟩ dL_build_101 (fun rX x4 H locs hw hP hD hS => ?_)
      obtain ⟨hv4, hok⟩ := hw
      subst hv4
      try dsimp only at hP hD
      have hP : va_P G vwCl (clW k b (addS σ m2 m3) x4 ++ [(oR, .inl (k 0, 60, .inl (upd (upd fr (5 * i) (nI m2)) ((5 * i) + 1) (nI m3)))), (oC, .inl (k 0, 40, .inl fc)), (oN, .inl (k 0, 3, .inl fn))]) H := hP
      have hD : va_D A (clW k b (addS σ m2 m3) x4 ++ [(oR, .inl (k 0, 60, .inl (upd (upd fr (5 * i) (nI m2)) ((5 * i) + 1) (nI m3)))), (oC, .inl (k 0, 40, .inl fc)), (oN, .inl (k 0, 3, .inl fn))]) := hD
      refine lv_iload hx hb dL_build_104 (lv_at hl 8 rfl) ?_
      refine n_icmp_eq (tgt := 111) (by omega) (by omega) hx hb dL_build_106 (by decide) (fun q106 => ?_) (fun q106 => ?_)
      · skip
        refine n_iinc (lv' := [(7, .int (nI (i + 1))), (8, .int y9), (0, .ref (b 0)), (1, .ref bS), (2, .int (nI 0)), (3, .int (nI 7)), (4, .ref oR), (5, .ref oC), (6, .ref oN)]) (k := 8) 1 hx hb dL_build_111 hl rfl (by decide) (by decide) rfl (fun ls hl => ?_)
        refine lv_goto (tgt := 23) hx hb dL_build_114 (by decide) ?_
        refine W.widen (k := 4 * (i + 1)) (n := 24 * (i + 1)) (by omega) (by omega) ?_
        exact ih (i + 1) (by omega) (by omega) (by omega) _ _ _ _ _ _ (by show sN σ + 1 = i + 1; omega) (INI_add hini _ _) hok hP hD hS (lv_sub hl [2, 3, 4, 5, 6, 7, 8, 0] rfl)
      · skip
        omega
set_option maxHeartbeats 4000000 in
set_option maxRecDepth 100000 in
theorem bld2 (S : CallFix p m c cL_build 9 s args wsL_build RL) (hst : l.stackTraces = false) (hX : va_X bS L xs s s.heap) (hbl : bS < s.heap.size) (hbA : ¬ A bS) (hK : va_K G vwCl (tyG k) s) (hN : gN s) (hE : xE A s) (hA : ∀ q, s.heap.size ≤ q → A q) (hL : L ≤ 260) {n0 : Nat} {fc fn : Nat → Int32} (hn7 : n0 ≤ 7) (hf0 : fn 0 = nI n0)
    (kk : ∀ (σ : Sg) (x : Cx) (fr : Nat → Int32) (H : Heap) (locs : List Loc) (ls : Array Slot), BP2 n0 n0 σ fr → COK σ x → va_P G vwCl (clW k b σ x ++ [(oR, .inl (k 0, 60, .inl fr)), (oC, .inl (k 0, 40, .inl fc)), (oN, .inl (k 0, 3, .inl fn))]) H → va_D A (clW k b σ x ++ [(oR, .inl (k 0, 60, .inl fr)), (oC, .inl (k 0, 40, .inl fc)), (oN, .inl (k 0, 3, .inl fn))]) → va_S A s.heap H locs → lv_has ls 9 [(0, .ref (b 0)), (1, .ref bS), (2, .int (nI 0)), (3, .int (nI 7)), (4, .ref oR), (5, .ref oC), (6, .ref oN)] → W p l e rmB s m args below meth c H locs 84 504 Q (F0 m 301 ls [])) :
    ∀ (NN i : Nat), n0 - i < NN → i ≤ n0 → ∀ (σ : Sg) (x : Cx) (fr : Nat → Int32) (H : Heap) (locs : List Loc) (ls : Array Slot), BP2 n0 i σ fr → COK σ x → va_P G vwCl (clW k b σ x ++ [(oR, .inl (k 0, 60, .inl fr)), (oC, .inl (k 0, 40, .inl fc)), (oN, .inl (k 0, 3, .inl fn))]) H → va_D A (clW k b σ x ++ [(oR, .inl (k 0, 60, .inl fr)), (oC, .inl (k 0, 40, .inl fc)), (oN, .inl (k 0, 3, .inl fn))]) → va_S A s.heap H locs → lv_has ls 9 [(0, .ref (b 0)), (1, .ref bS), (2, .int (nI 0)), (3, .int (nI 7)), (4, .ref oR), (5, .ref oC), (6, .ref oN), (7, .int (nI i))] → W p l e rmB s m args below meth c H locs (28 + 8 * i) (168 + 48 * i) Q (F0 m 120 ls []) := by
  obtain ⟨hx, hb, hml, hown, hts⟩ := id S
  intro NN
  induction NN with
  | zero => intro i h; exact absurd h (Nat.not_lt_zero _)
  | succ NN ih =>
    intro i hm9 hi σ x fr H locs ls hbp hok hP hD hS hl
    obtain ⟨hs, hq2, hz, hk0, hu0⟩ := id hbp
    obtain ⟨hz1, hz2, hz3⟩ := hz i (Nat.le_refl i)
    refine lv_iload hx hb dL_build_120 (lv_at hl 7 rfl) ?_
    refine lv_aload hx hb dL_build_122 (lv_at hl 6 rfl) ?_
    refine n_iconst 0 (by decide) hx hb dL_build_124 ?_
    refine r_iald hx hb hK hP 33 rfl (by omega) (by first | decide | omega) dL_build_125 ?_
    rw [hf0]
    refine n_icmp_ge (tgt := 301) (by omega) (by omega) hx hb dL_build_126 (by decide) (fun q126 => ?_) (fun q126 => ?_)
    · skip
      refine W.widen (k := 84) (n := 504) (by omega) (by omega) ?_
      exact kk _ _ _ _ _ _ ((show i = n0 by omega) ▸ hbp) hok hP hD hS (lv_sub hl [0, 1, 2, 3, 4, 5, 6] rfl)
    · skip
      refine lv_aload_n hx hb dL_build_129 rfl (lv_at hl 1 rfl) ?_
      refine lv_iload_n hx hb dL_build_130 rfl (lv_at hl 2 rfl) ?_
      refine n_bipush 6 (by decide) hx hb dL_build_131 ?_
      refine n_iadd hx hb dL_build_133 ?_
      refine lv_iload hx hb dL_build_134 (lv_at hl 7 rfl) ?_
      refine n_iconst 4 (by decide) hx hb dL_build_136 ?_
      refine n_irem (by omega) (by omega) (by omega) hx hb dL_build_137 ?_
      refine n_iadd hx hb dL_build_138 ?_
      refine cS_x (As := [.ref bS, .int (nI ((0 + 6) + (i % 4)))]) S hX hbl hbA hS (m_L_cell l bS L xs hL ((0 + 6) + (i % 4)) (by omega)) gL_build_L_cell rfl rfl rfl hdq_L_cell rfl rfl rfl hl.1 rfl rfl ⟨(by show _ ≤ (120 : Nat); omega), (by show _ ≤ (720 : Nat); omega)⟩ dL_build_139 (fun v1 _ => ?_)
      refine lv_iload hx hb dL_build_142 (lv_at hl 7 rfl) ?_
      refine n_iconst 4 (by decide) hx hb dL_build_144 ?_
      refine n_idiv (by omega) (by omega) (by omega) hx hb dL_build_145 ?_
      refine n_iconst 5 (by decide) hx hb dL_build_146 ?_
      refine n_imul hx hb dL_build_147 ?_
      refine lv_ishr hx hb dL_build_148 ?_
      refine lv_topi (fun y9 _ => ?_)
      refine lv_istore (lv' := [(8, .int y9), (0, .ref (b 0)), (1, .ref bS), (2, .int (nI 0)), (3, .int (nI 7)), (4, .ref oR), (5, .ref oC), (6, .ref oN), (7, .int (nI i))]) hx hb dL_build_149 hl (by decide) rfl (fun ls hl => ?_)
      refine lv_aload hx hb dL_build_151 (lv_at hl 5 rfl) ?_
      refine n_iconst 5 (by decide) hx hb dL_build_153 ?_
      refine lv_iload hx hb dL_build_154 (lv_at hl 8 rfl) ?_
      refine n_imul hx hb dL_build_156 ?_
      refine n_iconst 2 (by decide) hx hb dL_build_157 ?_
      refine n_iadd hx hb dL_build_158 ?_
      refine lv_iload hx hb dL_build_159 (lv_at hl 0 rfl) ?_
      refine n_bipush 7 (by decide) hx hb dL_build_161 ?_
      refine cS_i (As := [.int y9, .int (nI 7)]) S hP hK hN (m_L_below l G k y9 7 (by omega) (by omega)) gL_build_L_below rfl rfl rfl hdq_L_below rfl rfl [] rfl rfl hl.1 rfl rfl ⟨(by show _ ≤ (120 : Nat); omega), (by show _ ≤ (720 : Nat); omega)⟩ dL_build_163 (fun rX hr => ?_)
      obtain ⟨m2, rfl, hm2⟩ := hr
      refine r_iast (ws1 := (clW k b σ x ++ [(oR, .inl (k 0, 60, .inl (upd fr ((5 * i) + 2) (nI m2)))), (oC, .inl (k 0, 40, .inl fc)), (oN, .inl (k 0, 3, .inl fn))])) hx hb hK hP hD hS 31 rfl (by omega) (by first | decide | omega) rfl dL_build_166 (fun H locs hP hD hS => ?_)
      refine lv_aload hx hb dL_build_167 (lv_at hl 5 rfl) ?_
      refine n_iconst 5 (by decide) hx hb dL_build_169 ?_
      refine lv_iload hx hb dL_build_170 (lv_at hl 8 rfl) ?_
      refine n_imul hx hb dL_build_172 ?_
      refine n_iconst 3 (by decide) hx hb dL_build_173 ?_
      refine n_iadd hx hb dL_build_174 ?_
      refine lv_iload hx hb dL_build_175 (lv_at hl 0 rfl) ?_
      refine n_iconst 3 (by decide) hx hb dL_build_177 ?_
      refine lv_ishr hx hb dL_build_178 ?_
      refine n_bipush 7 (by decide) hx hb dL_build_179 ?_
      refine cS_i (As := [.int (y9 >>> ((nI 3) &&& 31)), .int (nI 7)]) S hP hK hN (m_L_below l G k (y9 >>> ((nI 3) &&& 31)) 7 (by omega) (by omega)) gL_build_L_below rfl rfl rfl hdq_L_below rfl rfl [] rfl rfl hl.1 rfl rfl ⟨(by show _ ≤ (120 : Nat); omega), (by show _ ≤ (720 : Nat); omega)⟩ dL_build_181 (fun rX hr => ?_)
      obtain ⟨m3, rfl, hm3⟩ := hr
      refine r_iast (ws1 := (clW k b σ x ++ [(oR, .inl (k 0, 60, .inl (upd (upd fr ((5 * i) + 2) (nI m2)) ((5 * i) + 3) (nI m3)))), (oC, .inl (k 0, 40, .inl fc)), (oN, .inl (k 0, 3, .inl fn))])) hx hb hK hP hD hS 31 rfl (by omega) (by first | decide | omega) rfl dL_build_184 (fun H locs hP hD hS => ?_)
      refine lv_aload hx hb dL_build_185 (lv_at hl 5 rfl) ?_
      refine n_iconst 5 (by decide) hx hb dL_build_187 ?_
      refine lv_iload hx hb dL_build_188 (lv_at hl 8 rfl) ?_
      refine n_imul hx hb dL_build_190 ?_
      refine n_iconst 4 (by decide) hx hb dL_build_191 ?_
      refine n_iadd hx hb dL_build_192 ?_
      refine lv_iload hx hb dL_build_193 (lv_at hl 0 rfl) ?_
      refine n_bipush 6 (by decide) hx hb dL_build_195 ?_
      refine lv_ishr hx hb dL_build_197 ?_
      refine n_iconst 4 (by decide) hx hb dL_build_198 ?_
      refine cS_i (As := [.int (y9 >>> ((nI 6) &&& 31)), .int (nI 4)]) S hP hK hN (m_L_below l G k (y9 >>> ((nI 6) &&& 31)) 4 (by omega) (by omega)) gL_build_L_below rfl rfl rfl hdq_L_below rfl rfl [] rfl rfl hl.1 rfl rfl ⟨(by show _ ≤ (120 : Nat); omega), (by show _ ≤ (720 : Nat); omega)⟩ dL_build_199 (fun rX hr => ?_)
      obtain ⟨m4, rfl, hm4⟩ := hr
      refine n_if_ne (tgt := 219) (by omega) hx hb dL_build_202 (by decide) (fun q202 => ?_) (fun q202 => ?_)
      · skip
        refine n_iconst 0 (by decide) hx hb dL_build_219 ?_
        refine r_iast (ws1 := (clW k b σ x ++ [(oR, .inl (k 0, 60, .inl (upd (upd (upd fr ((5 * i) + 2) (nI m2)) ((5 * i) + 3) (nI m3)) ((5 * i) + 4) (nI 0)))), (oC, .inl (k 0, 40, .inl fc)), (oN, .inl (k 0, 3, .inl fn))])) hx hb hK hP hD hS 31 rfl (by omega) (by first | decide | omega) rfl dL_build_220 (fun H locs hP hD hS => ?_)
        refine lv_aload_n hx hb dL_build_221 rfl (lv_at hl 1 rfl) ?_
        refine lv_iload hx hb dL_build_222 (lv_at hl 8 rfl) ?_
        refine lv_aload hx hb dL_build_224 (lv_at hl 5 rfl) ?_
        refine n_iconst 5 (by decide) hx hb dL_build_226 ?_
        refine lv_iload hx hb dL_build_227 (lv_at hl 8 rfl) ?_
        refine n_imul hx hb dL_build_229 ?_
        refine n_iconst 2 (by decide) hx hb dL_build_230 ?_
        refine n_iadd hx hb dL_build_231 ?_
        refine r_iald hx hb hK hP 31 rfl (by omega) (by first | decide | omega) dL_build_232 ?_
        rw [u3_2]
        refine lv_aload hx hb dL_build_233 (lv_at hl 5 rfl) ?_
        refine n_iconst 5 (by decide) hx hb dL_build_235 ?_
        refine lv_iload hx hb dL_build_236 (lv_at hl 8 rfl) ?_
        refine n_imul hx hb dL_build_238 ?_
        refine n_iconst 3 (by decide) hx hb dL_build_239 ?_
        refine n_iadd hx hb dL_build_240 ?_
        refine r_iald hx hb hK hP 31 rfl (by omega) (by first | decide | omega) dL_build_241 ?_
        rw [u3_3]
        refine bW_i (As := [.int (nI i), .int (nI m2), .int (nI m3)]) (wn := fun u : Cx => clW k b (worS σ i m2 m3) u ++ [(oR, .inl (k 0, 60, .inl (upd (upd (upd fr ((5 * i) + 2) (nI m2)) ((5 * i) + 3) (nI m3)) ((5 * i) + 4) (nI 0)))), (oC, .inl (k 0, 40, .inl fc)), (oN, .inl (k 0, 3, .inl fn))]) S hP hK hN hE hD hS hA (q_wor l hst G k _ b σ x i m2 m3 (by omega) (by omega) (by omega) hok) gL_build_X6_setWorth rfl rfl rfl hdq_X6_setWorth rfl rfl (List.Perm.refl _) (fun _ => List.Perm.refl _) 6 0 rfl rfl rfl rfl hl.1 rfl rfl ⟨(by show _ ≤ (120 : Nat); omega), (by show _ ≤ (720 : Nat); omega)⟩ dL_build_242 (fun rX x5 H locs hw hP hD hS => ?_)
        obtain ⟨hv5, hok⟩ := hw
        subst hv5
        try dsimp only at hP hD
        have hP : va_P G vwCl (clW k b (worS σ i m2 m3) x5 ++ [(oR, .inl (k 0, 60, .inl (upd (upd (upd fr ((5 * i) + 2) (nI m2)) ((5 * i) + 3) (nI m3)) ((5 * i) + 4) (nI 0)))), (oC, .inl (k 0, 40, .inl fc)), (oN, .inl (k 0, 3, .inl fn))]) H := hP
        have hD : va_D A (clW k b (worS σ i m2 m3) x5 ++ [(oR, .inl (k 0, 60, .inl (upd (upd (upd fr ((5 * i) + 2) (nI m2)) ((5 * i) + 3) (nI m3)) ((5 * i) + 4) (nI 0)))), (oC, .inl (k 0, 40, .inl fc)), (oN, .inl (k 0, 3, .inl fn))]) := hD
        refine lv_aload hx hb dL_build_245 (lv_at hl 5 rfl) ?_
        refine n_iconst 5 (by decide) hx hb dL_build_247 ?_
        refine lv_iload hx hb dL_build_248 (lv_at hl 8 rfl) ?_
        refine n_imul hx hb dL_build_250 ?_
        refine n_iconst 2 (by decide) hx hb dL_build_251 ?_
        refine n_iadd hx hb dL_build_252 ?_
        refine r_iald hx hb hK hP 31 rfl (by omega) (by first | decide | omega) dL_build_253 ?_
        rw [u3_2]
        refine lv_aload hx hb dL_build_254 (lv_at hl 5 rfl) ?_
        refine n_iconst 5 (by decide) hx hb dL_build_256 ?_
        refine lv_iload hx hb dL_build_257 (lv_at hl 8 rfl) ?_
        refine n_imul hx hb dL_build_259 ?_
        refine n_iconst 3 (by decide) hx hb dL_build_260 ?_
        refine n_iadd hx hb dL_build_261 ?_
        refine r_iald hx hb hK hP 31 rfl (by omega) (by first | decide | omega) dL_build_262 ?_
        rw [u3_3]
        refine n_iadd hx hb dL_build_263 ?_
        refine n_if_le (tgt := 271) (by omega) hx hb dL_build_264 (by decide) (fun q264 => ?_) (fun q264 => ?_)
        · skip
          refine n_iconst 0 (by decide) hx hb dL_build_271 ?_
          refine b_icmp_ne (tgt := 293) (a := !(decide (sC σ i = m2) && decide (sV σ i = m3))) (b := false) hx hb dL_build_272 (by decide) (fun q272 => ?_) (fun q272 => ?_)
          · skip
            first | exact absurd (wor_t hz1 hz2 q264) q272 | exact absurd (wor_f hz1 hz2 q264) q272
          · skip
            refine lv_aload_n hx hb dL_build_275 rfl (lv_at hl 1 rfl) ?_
            refine lv_iload hx hb dL_build_276 (lv_at hl 8 rfl) ?_
            refine lv_aload hx hb dL_build_278 (lv_at hl 5 rfl) ?_
            refine n_iconst 5 (by decide) hx hb dL_build_280 ?_
            refine lv_iload hx hb dL_build_281 (lv_at hl 8 rfl) ?_
            refine n_imul hx hb dL_build_283 ?_
            refine n_iconst 4 (by decide) hx hb dL_build_284 ?_
            refine n_iadd hx hb dL_build_285 ?_
            refine r_iald hx hb hK hP 31 rfl (by omega) (by first | decide | omega) dL_build_286 ?_
            rw [u3_4]
            refine bW_i (As := [.int (nI i), .int (nI 0)]) (wn := fun u : Cx => clW k b (decS (worS σ i m2 m3) i 0) u ++ [(oR, .inl (k 0, 60, .inl (upd (upd (upd fr ((5 * i) + 2) (nI m2)) ((5 * i) + 3) (nI m3)) ((5 * i) + 4) (nI 0)))), (oC, .inl (k 0, 40, .inl fc)), (oN, .inl (k 0, 3, .inl fn))]) S hP hK hN hE hD hS hA (q_dec l hst G k _ b (worS σ i m2 m3) x5 i 0 (by exact (show i < sN σ by omega)) (by omega) hok) gL_build_X6_decide rfl rfl rfl hdq_X6_decide rfl rfl (List.Perm.refl _) (fun _ => List.Perm.refl _) 6 0 rfl rfl rfl rfl hl.1 rfl rfl ⟨(by show _ ≤ (120 : Nat); omega), (by show _ ≤ (720 : Nat); omega)⟩ dL_build_287 (fun rX x6 H locs hw hP hD hS => ?_)
            obtain ⟨hv6, hok⟩ := hw
            subst hv6
            try dsimp only at hP hD
            have hP : va_P G vwCl (clW k b (decS (worS σ i m2 m3) i 0) x6 ++ [(oR, .inl (k 0, 60, .inl (upd (upd (upd fr ((5 * i) + 2) (nI m2)) ((5 * i) + 3) (nI m3)) ((5 * i) + 4) (nI 0)))), (oC, .inl (k 0, 40, .inl fc)), (oN, .inl (k 0, 3, .inl fn))]) H := hP
            have hD : va_D A (clW k b (decS (worS σ i m2 m3) i 0) x6 ++ [(oR, .inl (k 0, 60, .inl (upd (upd (upd fr ((5 * i) + 2) (nI m2)) ((5 * i) + 3) (nI m3)) ((5 * i) + 4) (nI 0)))), (oC, .inl (k 0, 40, .inl fc)), (oN, .inl (k 0, 3, .inl fn))]) := hD
            rw [show sD (worS σ i m2 m3) i = 0 from hz3]
            refine n_if_eq (tgt := 295) (by omega) hx hb dL_build_290 (by decide) (fun q290 => ?_) (fun q290 => ?_)
            · skip
              refine n_iinc (lv' := [(7, .int (nI (i + 1))), (8, .int y9), (0, .ref (b 0)), (1, .ref bS), (2, .int (nI 0)), (3, .int (nI 7)), (4, .ref oR), (5, .ref oC), (6, .ref oN)]) (k := 8) 1 hx hb dL_build_295 hl rfl (by decide) (by decide) rfl (fun ls hl => ?_)
              refine lv_goto (tgt := 120) hx hb dL_build_298 (by decide) ?_
              refine W.widen (k := 28 + 8 * (i + 1)) (n := 168 + 48 * (i + 1)) (by omega) (by omega) ?_
              exact ih (i + 1) (by omega) (by omega) _ _ _ _ _ _ (BP2_step hbp _ _ _) hok hP hD hS (lv_sub hl [2, 3, 4, 5, 6, 7, 8, 0] rfl)
            · skip
              exact absurd q290 (by decide)
        · skip
          refine n_iconst 1 (by decide) hx hb dL_build_267 ?_
          refine lv_goto (tgt := 272) hx hb dL_build_268 (by decide) ?_
          refine b_icmp_ne (tgt := 293) (a := !(decide (sC σ i = m2) && decide (sV σ i = m3))) (b := true) hx hb dL_build_272 (by decide) (fun q272 => ?_) (fun q272 => ?_)
          · skip
            first | exact absurd (wor_t hz1 hz2 q264) q272 | exact absurd (wor_f hz1 hz2 q264) q272
          · skip
            refine lv_aload_n hx hb dL_build_275 rfl (lv_at hl 1 rfl) ?_
            refine lv_iload hx hb dL_build_276 (lv_at hl 8 rfl) ?_
            refine lv_aload hx hb dL_build_278 (lv_at hl 5 rfl) ?_
            refine n_iconst 5 (by decide) hx hb dL_build_280 ?_
            refine lv_iload hx hb dL_build_281 (lv_at hl 8 rfl) ?_
            refine n_imul hx hb dL_build_283 ?_
            refine n_iconst 4 (by decide) hx hb dL_build_284 ?_
            refine n_iadd hx hb dL_build_285 ?_
            refine r_iald hx hb hK hP 31 rfl (by omega) (by first | decide | omega) dL_build_286 ?_
            rw [u3_4]
            refine bW_i (As := [.int (nI i), .int (nI 0)]) (wn := fun u : Cx => clW k b (decS (worS σ i m2 m3) i 0) u ++ [(oR, .inl (k 0, 60, .inl (upd (upd (upd fr ((5 * i) + 2) (nI m2)) ((5 * i) + 3) (nI m3)) ((5 * i) + 4) (nI 0)))), (oC, .inl (k 0, 40, .inl fc)), (oN, .inl (k 0, 3, .inl fn))]) S hP hK hN hE hD hS hA (q_dec l hst G k _ b (worS σ i m2 m3) x5 i 0 (by exact (show i < sN σ by omega)) (by omega) hok) gL_build_X6_decide rfl rfl rfl hdq_X6_decide rfl rfl (List.Perm.refl _) (fun _ => List.Perm.refl _) 6 0 rfl rfl rfl rfl hl.1 rfl rfl ⟨(by show _ ≤ (120 : Nat); omega), (by show _ ≤ (720 : Nat); omega)⟩ dL_build_287 (fun rX x7 H locs hw hP hD hS => ?_)
            obtain ⟨hv7, hok⟩ := hw
            subst hv7
            try dsimp only at hP hD
            have hP : va_P G vwCl (clW k b (decS (worS σ i m2 m3) i 0) x7 ++ [(oR, .inl (k 0, 60, .inl (upd (upd (upd fr ((5 * i) + 2) (nI m2)) ((5 * i) + 3) (nI m3)) ((5 * i) + 4) (nI 0)))), (oC, .inl (k 0, 40, .inl fc)), (oN, .inl (k 0, 3, .inl fn))]) H := hP
            have hD : va_D A (clW k b (decS (worS σ i m2 m3) i 0) x7 ++ [(oR, .inl (k 0, 60, .inl (upd (upd (upd fr ((5 * i) + 2) (nI m2)) ((5 * i) + 3) (nI m3)) ((5 * i) + 4) (nI 0)))), (oC, .inl (k 0, 40, .inl fc)), (oN, .inl (k 0, 3, .inl fn))]) := hD
            rw [show sD (worS σ i m2 m3) i = 0 from hz3]
            refine n_if_eq (tgt := 295) (by omega) hx hb dL_build_290 (by decide) (fun q290 => ?_) (fun q290 => ?_)
            · skip
              refine n_iinc (lv' := [(7, .int (nI (i + 1))), (8, .int y9), (0, .ref (b 0)), (1, .ref bS), (2, .int (nI 0)), (3, .int (nI 7)), (4, .ref oR), (5, .ref oC), (6, .ref oN)]) (k := 8) 1 hx hb dL_build_295 hl rfl (by decide) (by decide) rfl (fun ls hl => ?_)
              refine lv_goto (tgt := 120) hx hb dL_build_298 (by decide) ?_
              refine W.widen (k := 28 + 8 * (i + 1)) (n := 168 + 48 * (i + 1)) (by omega) (by omega) ?_
              exact ih (i + 1) (by omega) (by omega) _ _ _ _ _ _ (BP2_step hbp _ _ _) hok hP hD hS (lv_sub hl [2, 3, 4, 5, 6, 7, 8, 0] rfl)
            · skip
              exact absurd q290 (by decide)
      · skip
        refine n_iconst 1 (by decide) hx hb dL_build_205 ?_
        refine lv_iload hx hb dL_build_206 (lv_at hl 0 rfl) ?_
        refine n_bipush 8 (by decide) hx hb dL_build_208 ?_
        refine lv_ishr hx hb dL_build_210 ?_
        refine n_iconst 2 (by decide) hx hb dL_build_211 ?_
        refine cS_i (As := [.int (y9 >>> ((nI 8) &&& 31)), .int (nI 2)]) S hP hK hN (m_L_below l G k (y9 >>> ((nI 8) &&& 31)) 2 (by omega) (by omega)) gL_build_L_below rfl rfl rfl hdq_L_below rfl rfl [] rfl rfl hl.1 rfl rfl ⟨(by show _ ≤ (120 : Nat); omega), (by show _ ≤ (720 : Nat); omega)⟩ dL_build_212 (fun rX hr => ?_)
        obtain ⟨m8, rfl, hm8⟩ := hr
        refine n_iadd hx hb dL_build_215 ?_
        refine lv_goto (tgt := 220) hx hb dL_build_216 (by decide) ?_
        refine r_iast (ws1 := (clW k b σ x ++ [(oR, .inl (k 0, 60, .inl (upd (upd (upd fr ((5 * i) + 2) (nI m2)) ((5 * i) + 3) (nI m3)) ((5 * i) + 4) (nI (1 + m8))))), (oC, .inl (k 0, 40, .inl fc)), (oN, .inl (k 0, 3, .inl fn))])) hx hb hK hP hD hS 31 rfl (by omega) (by first | decide | omega) rfl dL_build_220 (fun H locs hP hD hS => ?_)
        refine lv_aload_n hx hb dL_build_221 rfl (lv_at hl 1 rfl) ?_
        refine lv_iload hx hb dL_build_222 (lv_at hl 8 rfl) ?_
        refine lv_aload hx hb dL_build_224 (lv_at hl 5 rfl) ?_
        refine n_iconst 5 (by decide) hx hb dL_build_226 ?_
        refine lv_iload hx hb dL_build_227 (lv_at hl 8 rfl) ?_
        refine n_imul hx hb dL_build_229 ?_
        refine n_iconst 2 (by decide) hx hb dL_build_230 ?_
        refine n_iadd hx hb dL_build_231 ?_
        refine r_iald hx hb hK hP 31 rfl (by omega) (by first | decide | omega) dL_build_232 ?_
        rw [u3_2]
        refine lv_aload hx hb dL_build_233 (lv_at hl 5 rfl) ?_
        refine n_iconst 5 (by decide) hx hb dL_build_235 ?_
        refine lv_iload hx hb dL_build_236 (lv_at hl 8 rfl) ?_
        refine n_imul hx hb dL_build_238 ?_
        refine n_iconst 3 (by decide) hx hb dL_build_239 ?_
        refine n_iadd hx hb dL_build_240 ?_
        refine r_iald hx hb hK hP 31 rfl (by omega) (by first | decide | omega) dL_build_241 ?_
        rw [u3_3]
        refine bW_i (As := [.int (nI i), .int (nI m2), .int (nI m3)]) (wn := fun u : Cx => clW k b (worS σ i m2 m3) u ++ [(oR, .inl (k 0, 60, .inl (upd (upd (upd fr ((5 * i) + 2) (nI m2)) ((5 * i) + 3) (nI m3)) ((5 * i) + 4) (nI (1 + m8))))), (oC, .inl (k 0, 40, .inl fc)), (oN, .inl (k 0, 3, .inl fn))]) S hP hK hN hE hD hS hA (q_wor l hst G k _ b σ x i m2 m3 (by omega) (by omega) (by omega) hok) gL_build_X6_setWorth rfl rfl rfl hdq_X6_setWorth rfl rfl (List.Perm.refl _) (fun _ => List.Perm.refl _) 6 0 rfl rfl rfl rfl hl.1 rfl rfl ⟨(by show _ ≤ (120 : Nat); omega), (by show _ ≤ (720 : Nat); omega)⟩ dL_build_242 (fun rX x9 H locs hw hP hD hS => ?_)
        obtain ⟨hv9, hok⟩ := hw
        subst hv9
        try dsimp only at hP hD
        have hP : va_P G vwCl (clW k b (worS σ i m2 m3) x9 ++ [(oR, .inl (k 0, 60, .inl (upd (upd (upd fr ((5 * i) + 2) (nI m2)) ((5 * i) + 3) (nI m3)) ((5 * i) + 4) (nI (1 + m8))))), (oC, .inl (k 0, 40, .inl fc)), (oN, .inl (k 0, 3, .inl fn))]) H := hP
        have hD : va_D A (clW k b (worS σ i m2 m3) x9 ++ [(oR, .inl (k 0, 60, .inl (upd (upd (upd fr ((5 * i) + 2) (nI m2)) ((5 * i) + 3) (nI m3)) ((5 * i) + 4) (nI (1 + m8))))), (oC, .inl (k 0, 40, .inl fc)), (oN, .inl (k 0, 3, .inl fn))]) := hD
        refine lv_aload hx hb dL_build_245 (lv_at hl 5 rfl) ?_
        refine n_iconst 5 (by decide) hx hb dL_build_247 ?_
        refine lv_iload hx hb dL_build_248 (lv_at hl 8 rfl) ?_
        refine n_imul hx hb dL_build_250 ?_
        refine n_iconst 2 (by decide) hx hb dL_build_251 ?_
        refine n_iadd hx hb dL_build_252 ?_
        refine r_iald hx hb hK hP 31 rfl (by omega) (by first | decide | omega) dL_build_253 ?_
        rw [u3_2]
        refine lv_aload hx hb dL_build_254 (lv_at hl 5 rfl) ?_
        refine n_iconst 5 (by decide) hx hb dL_build_256 ?_
        refine lv_iload hx hb dL_build_257 (lv_at hl 8 rfl) ?_
        refine n_imul hx hb dL_build_259 ?_
        refine n_iconst 3 (by decide) hx hb dL_build_260 ?_
        refine n_iadd hx hb dL_build_261 ?_
        refine r_iald hx hb hK hP 31 rfl (by omega) (by first | decide | omega) dL_build_262 ?_
        rw [u3_3]
        refine n_iadd hx hb dL_build_263 ?_
        refine n_if_le (tgt := 271) (by omega) hx hb dL_build_264 (by decide) (fun q264 => ?_) (fun q264 => ?_)
        · skip
          refine n_iconst 0 (by decide) hx hb dL_build_271 ?_
          refine b_icmp_ne (tgt := 293) (a := !(decide (sC σ i = m2) && decide (sV σ i = m3))) (b := false) hx hb dL_build_272 (by decide) (fun q272 => ?_) (fun q272 => ?_)
          · skip
            first | exact absurd (wor_t hz1 hz2 q264) q272 | exact absurd (wor_f hz1 hz2 q264) q272
          · skip
            refine lv_aload_n hx hb dL_build_275 rfl (lv_at hl 1 rfl) ?_
            refine lv_iload hx hb dL_build_276 (lv_at hl 8 rfl) ?_
            refine lv_aload hx hb dL_build_278 (lv_at hl 5 rfl) ?_
            refine n_iconst 5 (by decide) hx hb dL_build_280 ?_
            refine lv_iload hx hb dL_build_281 (lv_at hl 8 rfl) ?_
            refine n_imul hx hb dL_build_283 ?_
            refine n_iconst 4 (by decide) hx hb dL_build_284 ?_
            refine n_iadd hx hb dL_build_285 ?_
            refine r_iald hx hb hK hP 31 rfl (by omega) (by first | decide | omega) dL_build_286 ?_
            rw [u3_4]
            refine bW_i (As := [.int (nI i), .int (nI (1 + m8))]) (wn := fun u : Cx => clW k b (decS (worS σ i m2 m3) i (1 + m8)) u ++ [(oR, .inl (k 0, 60, .inl (upd (upd (upd fr ((5 * i) + 2) (nI m2)) ((5 * i) + 3) (nI m3)) ((5 * i) + 4) (nI (1 + m8))))), (oC, .inl (k 0, 40, .inl fc)), (oN, .inl (k 0, 3, .inl fn))]) S hP hK hN hE hD hS hA (q_dec l hst G k _ b (worS σ i m2 m3) x9 i (1 + m8) (by exact (show i < sN σ by omega)) (by omega) hok) gL_build_X6_decide rfl rfl rfl hdq_X6_decide rfl rfl (List.Perm.refl _) (fun _ => List.Perm.refl _) 6 0 rfl rfl rfl rfl hl.1 rfl rfl ⟨(by show _ ≤ (120 : Nat); omega), (by show _ ≤ (720 : Nat); omega)⟩ dL_build_287 (fun rX x10 H locs hw hP hD hS => ?_)
            obtain ⟨hv10, hok⟩ := hw
            subst hv10
            try dsimp only at hP hD
            have hP : va_P G vwCl (clW k b (decS (worS σ i m2 m3) i (1 + m8)) x10 ++ [(oR, .inl (k 0, 60, .inl (upd (upd (upd fr ((5 * i) + 2) (nI m2)) ((5 * i) + 3) (nI m3)) ((5 * i) + 4) (nI (1 + m8))))), (oC, .inl (k 0, 40, .inl fc)), (oN, .inl (k 0, 3, .inl fn))]) H := hP
            have hD : va_D A (clW k b (decS (worS σ i m2 m3) i (1 + m8)) x10 ++ [(oR, .inl (k 0, 60, .inl (upd (upd (upd fr ((5 * i) + 2) (nI m2)) ((5 * i) + 3) (nI m3)) ((5 * i) + 4) (nI (1 + m8))))), (oC, .inl (k 0, 40, .inl fc)), (oN, .inl (k 0, 3, .inl fn))]) := hD
            rw [show sD (worS σ i m2 m3) i = 0 from hz3]
            refine n_if_eq (tgt := 295) (by omega) hx hb dL_build_290 (by decide) (fun q290 => ?_) (fun q290 => ?_)
            · skip
              refine n_iinc (lv' := [(7, .int (nI (i + 1))), (8, .int y9), (0, .ref (b 0)), (1, .ref bS), (2, .int (nI 0)), (3, .int (nI 7)), (4, .ref oR), (5, .ref oC), (6, .ref oN)]) (k := 8) 1 hx hb dL_build_295 hl rfl (by decide) (by decide) rfl (fun ls hl => ?_)
              refine lv_goto (tgt := 120) hx hb dL_build_298 (by decide) ?_
              refine W.widen (k := 28 + 8 * (i + 1)) (n := 168 + 48 * (i + 1)) (by omega) (by omega) ?_
              exact ih (i + 1) (by omega) (by omega) _ _ _ _ _ _ (BP2_step hbp _ _ _) hok hP hD hS (lv_sub hl [2, 3, 4, 5, 6, 7, 8, 0] rfl)
            · skip
              exact absurd q290 (by decide)
        · skip
          refine n_iconst 1 (by decide) hx hb dL_build_267 ?_
          refine lv_goto (tgt := 272) hx hb dL_build_268 (by decide) ?_
          refine b_icmp_ne (tgt := 293) (a := !(decide (sC σ i = m2) && decide (sV σ i = m3))) (b := true) hx hb dL_build_272 (by decide) (fun q272 => ?_) (fun q272 => ?_)
          · skip
            first | exact absurd (wor_t hz1 hz2 q264) q272 | exact absurd (wor_f hz1 hz2 q264) q272
          · skip
            refine lv_aload_n hx hb dL_build_275 rfl (lv_at hl 1 rfl) ?_
            refine lv_iload hx hb dL_build_276 (lv_at hl 8 rfl) ?_
            refine lv_aload hx hb dL_build_278 (lv_at hl 5 rfl) ?_
            refine n_iconst 5 (by decide) hx hb dL_build_280 ?_
            refine lv_iload hx hb dL_build_281 (lv_at hl 8 rfl) ?_
            refine n_imul hx hb dL_build_283 ?_
            refine n_iconst 4 (by decide) hx hb dL_build_284 ?_
            refine n_iadd hx hb dL_build_285 ?_
            refine r_iald hx hb hK hP 31 rfl (by omega) (by first | decide | omega) dL_build_286 ?_
            rw [u3_4]
            refine bW_i (As := [.int (nI i), .int (nI (1 + m8))]) (wn := fun u : Cx => clW k b (decS (worS σ i m2 m3) i (1 + m8)) u ++ [(oR, .inl (k 0, 60, .inl (upd (upd (upd fr ((5 * i) + 2) (nI m2)) ((5 * i) + 3) (nI m3)) ((5 * i) + 4) (nI (1 + m8))))), (oC, .inl (k 0, 40, .inl fc)), (oN, .inl (k 0, 3, .inl fn))]) S hP hK hN hE hD hS hA (q_dec l hst G k _ b (worS σ i m2 m3) x9 i (1 + m8) (by exact (show i < sN σ by omega)) (by omega) hok) gL_build_X6_decide rfl rfl rfl hdq_X6_decide rfl rfl (List.Perm.refl _) (fun _ => List.Perm.refl _) 6 0 rfl rfl rfl rfl hl.1 rfl rfl ⟨(by show _ ≤ (120 : Nat); omega), (by show _ ≤ (720 : Nat); omega)⟩ dL_build_287 (fun rX x11 H locs hw hP hD hS => ?_)
            obtain ⟨hv11, hok⟩ := hw
            subst hv11
            try dsimp only at hP hD
            have hP : va_P G vwCl (clW k b (decS (worS σ i m2 m3) i (1 + m8)) x11 ++ [(oR, .inl (k 0, 60, .inl (upd (upd (upd fr ((5 * i) + 2) (nI m2)) ((5 * i) + 3) (nI m3)) ((5 * i) + 4) (nI (1 + m8))))), (oC, .inl (k 0, 40, .inl fc)), (oN, .inl (k 0, 3, .inl fn))]) H := hP
            have hD : va_D A (clW k b (decS (worS σ i m2 m3) i (1 + m8)) x11 ++ [(oR, .inl (k 0, 60, .inl (upd (upd (upd fr ((5 * i) + 2) (nI m2)) ((5 * i) + 3) (nI m3)) ((5 * i) + 4) (nI (1 + m8))))), (oC, .inl (k 0, 40, .inl fc)), (oN, .inl (k 0, 3, .inl fn))]) := hD
            rw [show sD (worS σ i m2 m3) i = 0 from hz3]
            refine n_if_eq (tgt := 295) (by omega) hx hb dL_build_290 (by decide) (fun q290 => ?_) (fun q290 => ?_)
            · skip
              refine n_iinc (lv' := [(7, .int (nI (i + 1))), (8, .int y9), (0, .ref (b 0)), (1, .ref bS), (2, .int (nI 0)), (3, .int (nI 7)), (4, .ref oR), (5, .ref oC), (6, .ref oN)]) (k := 8) 1 hx hb dL_build_295 hl rfl (by decide) (by decide) rfl (fun ls hl => ?_)
              refine lv_goto (tgt := 120) hx hb dL_build_298 (by decide) ?_
              refine W.widen (k := 28 + 8 * (i + 1)) (n := 168 + 48 * (i + 1)) (by omega) (by omega) ?_
              exact ih (i + 1) (by omega) (by omega) _ _ _ _ _ _ (BP2_step hbp _ _ _) hok hP hD hS (lv_sub hl [2, 3, 4, 5, 6, 7, 8, 0] rfl)
            · skip
              exact absurd q290 (by decide)
set_option maxHeartbeats 4000000 in
set_option maxRecDepth 100000 in
theorem bld3 (S : CallFix p m c cL_build 9 s args wsL_build RL) (hst : l.stackTraces = false) (hX : va_X bS L xs s s.heap) (hbl : bS < s.heap.size) (hbA : ¬ A bS) (hK : va_K G vwCl (tyG k) s) (hN : gN s) (hE : xE A s) (hA : ∀ q, s.heap.size ≤ q → A q) (hL : L ≤ 260) {n0 K : Nat} {fr fn : Nat → Int32} (hn1 : 1 ≤ n0) (hn7 : n0 ≤ 7) (hK4 : K ≤ 4) (hf0 : fn 0 = nI n0) (hf1 : fn 1 = nI K)
    (kk : ∀ (σ : Sg) (x : Cx) (fc : Nat → Int32) (H : Heap) (locs : List Loc) (ls : Array Slot), BP3 n0 K σ fr fc → COK σ x → va_P G vwCl (clW k b σ x ++ [(oR, .inl (k 0, 60, .inl fr)), (oC, .inl (k 0, 40, .inl fc)), (oN, .inl (k 0, 3, .inl fn))]) H → va_D A (clW k b σ x ++ [(oR, .inl (k 0, 60, .inl fr)), (oC, .inl (k 0, 40, .inl fc)), (oN, .inl (k 0, 3, .inl fn))]) → va_S A s.heap H locs → lv_has ls 9 [(0, .ref (b 0)), (1, .ref bS), (2, .int (nI 0)), (3, .int (nI 7)), (4, .ref oR), (5, .ref oC), (6, .ref oN)] → W p l e rmB s m args below meth c H locs 116 696 Q (F0 m 485 ls [])) :
    ∀ (NN i : Nat), K - i < NN → i ≤ K → ∀ (σ : Sg) (x : Cx) (fc : Nat → Int32) (H : Heap) (locs : List Loc) (ls : Array Slot), BP3 n0 i σ fr fc → COK σ x → va_P G vwCl (clW k b σ x ++ [(oR, .inl (k 0, 60, .inl fr)), (oC, .inl (k 0, 40, .inl fc)), (oN, .inl (k 0, 3, .inl fn))]) H → va_D A (clW k b σ x ++ [(oR, .inl (k 0, 60, .inl fr)), (oC, .inl (k 0, 40, .inl fc)), (oN, .inl (k 0, 3, .inl fn))]) → va_S A s.heap H locs → lv_has ls 9 [(0, .ref (b 0)), (1, .ref bS), (2, .int (nI 0)), (3, .int (nI 7)), (4, .ref oR), (5, .ref oC), (6, .ref oN), (7, .int (nI i))] → W p l e rmB s m args below meth c H locs (84 + 8 * i) (504 + 48 * i) Q (F0 m 319 ls []) := by
  obtain ⟨hx, hb, hml, hown, hts⟩ := id S
  intro NN
  induction NN with
  | zero => intro i h; exact absurd h (Nat.not_lt_zero _)
  | succ NN ih =>
    intro i hm9 hi σ x fc H locs ls hbp hok hP hD hS hl
    obtain ⟨hs, hsk, hu0, hq2, hq5⟩ := id hbp
    refine lv_iload hx hb dL_build_319 (lv_at hl 7 rfl) ?_
    refine lv_aload hx hb dL_build_321 (lv_at hl 6 rfl) ?_
    refine n_iconst 1 (by decide) hx hb dL_build_323 ?_
    refine r_iald hx hb hK hP 33 rfl (by omega) (by first | decide | omega) dL_build_324 ?_
    rw [hf1]
    refine n_icmp_ge (tgt := 485) (by omega) (by omega) hx hb dL_build_325 (by decide) (fun q325 => ?_) (fun q325 => ?_)
    · skip
      refine W.widen (k := 116) (n := 696) (by omega) (by omega) ?_
      exact kk _ _ _ _ _ _ ((show i = K by omega) ▸ hbp) hok hP hD hS (lv_sub hl [0, 1, 2, 3, 4, 5, 6] rfl)
    · skip
      refine lv_aload_n hx hb dL_build_328 rfl (lv_at hl 1 rfl) ?_
      refine lv_iload_n hx hb dL_build_329 rfl (lv_at hl 2 rfl) ?_
      refine n_bipush 10 (by decide) hx hb dL_build_330 ?_
      refine n_iadd hx hb dL_build_332 ?_
      refine lv_iload hx hb dL_build_333 (lv_at hl 7 rfl) ?_
      refine n_iadd hx hb dL_build_335 ?_
      refine cS_x (As := [.ref bS, .int (nI ((0 + 10) + i))]) S hX hbl hbA hS (m_L_cell l bS L xs hL ((0 + 10) + i) (by omega)) gL_build_L_cell rfl rfl rfl hdq_L_cell rfl rfl rfl hl.1 rfl rfl ⟨(by show _ ≤ (120 : Nat); omega), (by show _ ≤ (720 : Nat); omega)⟩ dL_build_336 (fun v1 _ => ?_)
      refine lv_topi (fun y9 _ => ?_)
      refine lv_istore (lv' := [(8, .int y9), (0, .ref (b 0)), (1, .ref bS), (2, .int (nI 0)), (3, .int (nI 7)), (4, .ref oR), (5, .ref oC), (6, .ref oN), (7, .int (nI i))]) hx hb dL_build_339 hl (by decide) rfl (fun ls hl => ?_)
      refine lv_aload hx hb dL_build_341 (lv_at hl 6 rfl) ?_
      refine n_iconst 4 (by decide) hx hb dL_build_343 ?_
      refine lv_iload hx hb dL_build_344 (lv_at hl 8 rfl) ?_
      refine n_imul hx hb dL_build_346 ?_
      refine lv_iload hx hb dL_build_347 (lv_at hl 0 rfl) ?_
      refine n_iconst 2 (by decide) hx hb dL_build_349 ?_
      refine cS_i (As := [.int y9, .int (nI 2)]) S hP hK hN (m_L_below l G k y9 2 (by omega) (by omega)) gL_build_L_below rfl rfl rfl hdq_L_below rfl rfl [] rfl rfl hl.1 rfl rfl ⟨(by show _ ≤ (120 : Nat); omega), (by show _ ≤ (720 : Nat); omega)⟩ dL_build_350 (fun rX hr => ?_)
      obtain ⟨m2, rfl, hm2⟩ := hr
      refine r_iast (ws1 := (clW k b σ x ++ [(oR, .inl (k 0, 60, .inl fr)), (oC, .inl (k 0, 40, .inl (upd fc (4 * i) (nI m2)))), (oN, .inl (k 0, 3, .inl fn))])) hx hb hK hP hD hS 32 rfl (by omega) (by first | decide | omega) rfl dL_build_353 (fun H locs hP hD hS => ?_)
      refine lv_aload hx hb dL_build_354 (lv_at hl 6 rfl) ?_
      refine n_iconst 4 (by decide) hx hb dL_build_356 ?_
      refine lv_iload hx hb dL_build_357 (lv_at hl 8 rfl) ?_
      refine n_imul hx hb dL_build_359 ?_
      refine n_iconst 1 (by decide) hx hb dL_build_360 ?_
      refine n_iadd hx hb dL_build_361 ?_
      refine lv_iload hx hb dL_build_362 (lv_at hl 0 rfl) ?_
      refine n_iconst 2 (by decide) hx hb dL_build_364 ?_
      refine lv_ishr hx hb dL_build_365 ?_
      refine lv_aload hx hb dL_build_366 (lv_at hl 7 rfl) ?_
      refine n_iconst 0 (by decide) hx hb dL_build_368 ?_
      refine r_iald hx hb hK hP 33 rfl (by omega) (by first | decide | omega) dL_build_369 ?_
      rw [hf0]
      refine cS_i (As := [.int (y9 >>> ((nI 2) &&& 31)), .int (nI n0)]) S hP hK hN (m_L_below l G k (y9 >>> ((nI 2) &&& 31)) n0 (by omega) (by omega)) gL_build_L_below rfl rfl rfl hdq_L_below rfl rfl [] rfl rfl hl.1 rfl rfl ⟨(by show _ ≤ (120 : Nat); omega), (by show _ ≤ (720 : Nat); omega)⟩ dL_build_370 (fun rX hr => ?_)
      obtain ⟨m3, rfl, hm3⟩ := hr
      refine r_iast (ws1 := (clW k b σ x ++ [(oR, .inl (k 0, 60, .inl fr)), (oC, .inl (k 0, 40, .inl (upd (upd fc (4 * i) (nI m2)) ((4 * i) + 1) (nI m3)))), (oN, .inl (k 0, 3, .inl fn))])) hx hb hK hP hD hS 32 rfl (by omega) (by first | decide | omega) rfl dL_build_373 (fun H locs hP hD hS => ?_)
      refine lv_aload hx hb dL_build_374 (lv_at hl 6 rfl) ?_
      refine n_iconst 4 (by decide) hx hb dL_build_376 ?_
      refine lv_iload hx hb dL_build_377 (lv_at hl 8 rfl) ?_
      refine n_imul hx hb dL_build_379 ?_
      refine n_iconst 2 (by decide) hx hb dL_build_380 ?_
      refine n_iadd hx hb dL_build_381 ?_
      refine lv_iload hx hb dL_build_382 (lv_at hl 0 rfl) ?_
      refine n_bipush 6 (by decide) hx hb dL_build_384 ?_
      refine lv_ishr hx hb dL_build_386 ?_
      refine lv_aload hx hb dL_build_387 (lv_at hl 7 rfl) ?_
      refine n_iconst 0 (by decide) hx hb dL_build_389 ?_
      refine r_iald hx hb hK hP 33 rfl (by omega) (by first | decide | omega) dL_build_390 ?_
      rw [hf0]
      refine cS_i (As := [.int (y9 >>> ((nI 6) &&& 31)), .int (nI n0)]) S hP hK hN (m_L_below l G k (y9 >>> ((nI 6) &&& 31)) n0 (by omega) (by omega)) gL_build_L_below rfl rfl rfl hdq_L_below rfl rfl [] rfl rfl hl.1 rfl rfl ⟨(by show _ ≤ (120 : Nat); omega), (by show _ ≤ (720 : Nat); omega)⟩ dL_build_391 (fun rX hr => ?_)
      obtain ⟨m4, rfl, hm4⟩ := hr
      refine r_iast (ws1 := (clW k b σ x ++ [(oR, .inl (k 0, 60, .inl fr)), (oC, .inl (k 0, 40, .inl (upd (upd (upd fc (4 * i) (nI m2)) ((4 * i) + 1) (nI m3)) ((4 * i) + 2) (nI m4)))), (oN, .inl (k 0, 3, .inl fn))])) hx hb hK hP hD hS 32 rfl (by omega) (by first | decide | omega) rfl dL_build_394 (fun H locs hP hD hS => ?_)
      refine lv_aload hx hb dL_build_395 (lv_at hl 6 rfl) ?_
      refine n_iconst 4 (by decide) hx hb dL_build_397 ?_
      refine lv_iload hx hb dL_build_398 (lv_at hl 8 rfl) ?_
      refine n_imul hx hb dL_build_400 ?_
      refine n_iconst 3 (by decide) hx hb dL_build_401 ?_
      refine n_iadd hx hb dL_build_402 ?_
      refine lv_iload hx hb dL_build_403 (lv_at hl 0 rfl) ?_
      refine n_bipush 10 (by decide) hx hb dL_build_405 ?_
      refine lv_ishr hx hb dL_build_407 ?_
      refine n_iconst 5 (by decide) hx hb dL_build_408 ?_
      refine cS_i (As := [.int (y9 >>> ((nI 10) &&& 31)), .int (nI 5)]) S hP hK hN (m_L_below l G k (y9 >>> ((nI 10) &&& 31)) 5 (by omega) (by omega)) gL_build_L_below rfl rfl rfl hdq_L_below rfl rfl [] rfl rfl hl.1 rfl rfl ⟨(by show _ ≤ (120 : Nat); omega), (by show _ ≤ (720 : Nat); omega)⟩ dL_build_409 (fun rX hr => ?_)
      obtain ⟨m5, rfl, hm5⟩ := hr
      refine n_if_ne (tgt := 419) (by omega) hx hb dL_build_412 (by decide) (fun q412 => ?_) (fun q412 => ?_)
      · skip
        refine n_iconst 1 (by decide) hx hb dL_build_419 ?_
        refine r_iast (ws1 := (clW k b σ x ++ [(oR, .inl (k 0, 60, .inl fr)), (oC, .inl (k 0, 40, .inl (upd (upd (upd (upd fc (4 * i) (nI m2)) ((4 * i) + 1) (nI m3)) ((4 * i) + 2) (nI m4)) ((4 * i) + 3) (nI 1)))), (oN, .inl (k 0, 3, .inl fn))])) hx hb hK hP hD hS 32 rfl (by omega) (by first | decide | omega) rfl dL_build_420 (fun H locs hP hD hS => ?_)
        refine lv_aload_n hx hb dL_build_421 rfl (lv_at hl 1 rfl) ?_
        refine lv_aload hx hb dL_build_422 (lv_at hl 6 rfl) ?_
        refine n_iconst 4 (by decide) hx hb dL_build_424 ?_
        refine lv_iload hx hb dL_build_425 (lv_at hl 8 rfl) ?_
        refine n_imul hx hb dL_build_427 ?_
        refine r_iald hx hb hK hP 32 rfl (by omega) (by first | decide | omega) dL_build_428 ?_
        rw [u4_0]
        refine lv_aload hx hb dL_build_429 (lv_at hl 6 rfl) ?_
        refine n_iconst 4 (by decide) hx hb dL_build_431 ?_
        refine lv_iload hx hb dL_build_432 (lv_at hl 8 rfl) ?_
        refine n_imul hx hb dL_build_434 ?_
        refine n_iconst 1 (by decide) hx hb dL_build_435 ?_
        refine n_iadd hx hb dL_build_436 ?_
        refine r_iald hx hb hK hP 32 rfl (by omega) (by first | decide | omega) dL_build_437 ?_
        rw [u4_1]
        refine lv_aload hx hb dL_build_438 (lv_at hl 6 rfl) ?_
        refine n_iconst 4 (by decide) hx hb dL_build_440 ?_
        refine lv_iload hx hb dL_build_441 (lv_at hl 8 rfl) ?_
        refine n_imul hx hb dL_build_443 ?_
        refine n_iconst 2 (by decide) hx hb dL_build_444 ?_
        refine n_iadd hx hb dL_build_445 ?_
        refine r_iald hx hb hK hP 32 rfl (by omega) (by first | decide | omega) dL_build_446 ?_
        rw [u4_2]
        refine bW_i (As := [.int (nI m2), .int (nI m3), .int (nI m4)]) (wn := fun u : Cx => clW k b (conS σ m2 m3 m4) u ++ [(oR, .inl (k 0, 60, .inl fr)), (oC, .inl (k 0, 40, .inl (upd (upd (upd (upd fc (4 * i) (nI m2)) ((4 * i) + 1) (nI m3)) ((4 * i) + 2) (nI m4)) ((4 * i) + 3) (nI 1)))), (oN, .inl (k 0, 3, .inl fn))]) S hP hK hN hE hD hS hA (q_con l hst G k _ b σ x m2 m3 m4 (by omega) (by omega) (by omega) (by omega) hok) gL_build_X6_addConstraint rfl rfl rfl hdq_X6_addConstraint rfl rfl (List.Perm.refl _) (fun _ => List.Perm.refl _) 6 0 rfl rfl rfl rfl hl.1 rfl rfl ⟨(by show _ ≤ (120 : Nat); omega), (by show _ ≤ (720 : Nat); omega)⟩ dL_build_447 (fun rX x6 H locs hw hP hD hS => ?_)
        obtain ⟨hv6, hok⟩ := hw
        subst hv6
        try dsimp only at hP hD
        have hP : va_P G vwCl (clW k b (conS σ m2 m3 m4) x6 ++ [(oR, .inl (k 0, 60, .inl fr)), (oC, .inl (k 0, 40, .inl (upd (upd (upd (upd fc (4 * i) (nI m2)) ((4 * i) + 1) (nI m3)) ((4 * i) + 2) (nI m4)) ((4 * i) + 3) (nI 1)))), (oN, .inl (k 0, 3, .inl fn))]) H := hP
        have hD : va_D A (clW k b (conS σ m2 m3 m4) x6 ++ [(oR, .inl (k 0, 60, .inl fr)), (oC, .inl (k 0, 40, .inl (upd (upd (upd (upd fc (4 * i) (nI m2)) ((4 * i) + 1) (nI m3)) ((4 * i) + 2) (nI m4)) ((4 * i) + 3) (nI 1)))), (oN, .inl (k 0, 3, .inl fn))]) := hD
        refine lv_iload hx hb dL_build_450 (lv_at hl 8 rfl) ?_
        refine n_icmp_ne (tgt := 477) (by omega) (by omega) hx hb dL_build_452 (by decide) (fun q452 => ?_) (fun q452 => ?_)
        · skip
          omega
        · skip
          refine lv_aload hx hb dL_build_455 (lv_at hl 6 rfl) ?_
          refine n_iconst 4 (by decide) hx hb dL_build_457 ?_
          refine lv_iload hx hb dL_build_458 (lv_at hl 8 rfl) ?_
          refine n_imul hx hb dL_build_460 ?_
          refine n_iconst 3 (by decide) hx hb dL_build_461 ?_
          refine n_iadd hx hb dL_build_462 ?_
          refine r_iald hx hb hK hP 32 rfl (by omega) (by first | decide | omega) dL_build_463 ?_
          rw [pk_us]
          refine n_if_ne (tgt := 479) (by omega) hx hb dL_build_464 (by decide) (fun q464 => ?_) (fun q464 => ?_)
          · skip
            refine n_iinc (lv' := [(7, .int (nI (i + 1))), (8, .int y9), (0, .ref (b 0)), (1, .ref bS), (2, .int (nI 0)), (3, .int (nI 7)), (4, .ref oR), (5, .ref oC), (6, .ref oN)]) (k := 8) 1 hx hb dL_build_479 hl rfl (by decide) (by decide) rfl (fun ls hl => ?_)
            refine lv_goto (tgt := 319) hx hb dL_build_482 (by decide) ?_
            refine W.widen (k := 84 + 8 * (i + 1)) (n := 504 + 48 * (i + 1)) (by omega) (by omega) ?_
            exact ih (i + 1) (by omega) (by omega) _ _ _ _ _ _ (BP3_1 hbp _ _ _) hok hP hD hS (lv_sub hl [2, 3, 4, 5, 6, 7, 8, 0] rfl)
          · skip
            exact absurd q464 (by decide)
      · skip
        refine n_iconst 0 (by decide) hx hb dL_build_415 ?_
        refine lv_goto (tgt := 420) hx hb dL_build_416 (by decide) ?_
        refine r_iast (ws1 := (clW k b σ x ++ [(oR, .inl (k 0, 60, .inl fr)), (oC, .inl (k 0, 40, .inl (upd (upd (upd (upd fc (4 * i) (nI m2)) ((4 * i) + 1) (nI m3)) ((4 * i) + 2) (nI m4)) ((4 * i) + 3) (nI 0)))), (oN, .inl (k 0, 3, .inl fn))])) hx hb hK hP hD hS 32 rfl (by omega) (by first | decide | omega) rfl dL_build_420 (fun H locs hP hD hS => ?_)
        refine lv_aload_n hx hb dL_build_421 rfl (lv_at hl 1 rfl) ?_
        refine lv_aload hx hb dL_build_422 (lv_at hl 6 rfl) ?_
        refine n_iconst 4 (by decide) hx hb dL_build_424 ?_
        refine lv_iload hx hb dL_build_425 (lv_at hl 8 rfl) ?_
        refine n_imul hx hb dL_build_427 ?_
        refine r_iald hx hb hK hP 32 rfl (by omega) (by first | decide | omega) dL_build_428 ?_
        rw [u4_0]
        refine lv_aload hx hb dL_build_429 (lv_at hl 6 rfl) ?_
        refine n_iconst 4 (by decide) hx hb dL_build_431 ?_
        refine lv_iload hx hb dL_build_432 (lv_at hl 8 rfl) ?_
        refine n_imul hx hb dL_build_434 ?_
        refine n_iconst 1 (by decide) hx hb dL_build_435 ?_
        refine n_iadd hx hb dL_build_436 ?_
        refine r_iald hx hb hK hP 32 rfl (by omega) (by first | decide | omega) dL_build_437 ?_
        rw [u4_1]
        refine lv_aload hx hb dL_build_438 (lv_at hl 6 rfl) ?_
        refine n_iconst 4 (by decide) hx hb dL_build_440 ?_
        refine lv_iload hx hb dL_build_441 (lv_at hl 8 rfl) ?_
        refine n_imul hx hb dL_build_443 ?_
        refine n_iconst 2 (by decide) hx hb dL_build_444 ?_
        refine n_iadd hx hb dL_build_445 ?_
        refine r_iald hx hb hK hP 32 rfl (by omega) (by first | decide | omega) dL_build_446 ?_
        rw [u4_2]
        refine bW_i (As := [.int (nI m2), .int (nI m3), .int (nI m4)]) (wn := fun u : Cx => clW k b (conS σ m2 m3 m4) u ++ [(oR, .inl (k 0, 60, .inl fr)), (oC, .inl (k 0, 40, .inl (upd (upd (upd (upd fc (4 * i) (nI m2)) ((4 * i) + 1) (nI m3)) ((4 * i) + 2) (nI m4)) ((4 * i) + 3) (nI 0)))), (oN, .inl (k 0, 3, .inl fn))]) S hP hK hN hE hD hS hA (q_con l hst G k _ b σ x m2 m3 m4 (by omega) (by omega) (by omega) (by omega) hok) gL_build_X6_addConstraint rfl rfl rfl hdq_X6_addConstraint rfl rfl (List.Perm.refl _) (fun _ => List.Perm.refl _) 6 0 rfl rfl rfl rfl hl.1 rfl rfl ⟨(by show _ ≤ (120 : Nat); omega), (by show _ ≤ (720 : Nat); omega)⟩ dL_build_447 (fun rX x7 H locs hw hP hD hS => ?_)
        obtain ⟨hv7, hok⟩ := hw
        subst hv7
        try dsimp only at hP hD
        have hP : va_P G vwCl (clW k b (conS σ m2 m3 m4) x7 ++ [(oR, .inl (k 0, 60, .inl fr)), (oC, .inl (k 0, 40, .inl (upd (upd (upd (upd fc (4 * i) (nI m2)) ((4 * i) + 1) (nI m3)) ((4 * i) + 2) (nI m4)) ((4 * i) + 3) (nI 0)))), (oN, .inl (k 0, 3, .inl fn))]) H := hP
        have hD : va_D A (clW k b (conS σ m2 m3 m4) x7 ++ [(oR, .inl (k 0, 60, .inl fr)), (oC, .inl (k 0, 40, .inl (upd (upd (upd (upd fc (4 * i) (nI m2)) ((4 * i) + 1) (nI m3)) ((4 * i) + 2) (nI m4)) ((4 * i) + 3) (nI 0)))), (oN, .inl (k 0, 3, .inl fn))]) := hD
        refine lv_iload hx hb dL_build_450 (lv_at hl 8 rfl) ?_
        refine n_icmp_ne (tgt := 477) (by omega) (by omega) hx hb dL_build_452 (by decide) (fun q452 => ?_) (fun q452 => ?_)
        · skip
          omega
        · skip
          refine lv_aload hx hb dL_build_455 (lv_at hl 6 rfl) ?_
          refine n_iconst 4 (by decide) hx hb dL_build_457 ?_
          refine lv_iload hx hb dL_build_458 (lv_at hl 8 rfl) ?_
          refine n_imul hx hb dL_build_460 ?_
          refine n_iconst 3 (by decide) hx hb dL_build_461 ?_
          refine n_iadd hx hb dL_build_462 ?_
          refine r_iald hx hb hK hP 32 rfl (by omega) (by first | decide | omega) dL_build_463 ?_
          rw [pk_us]
          refine n_if_ne (tgt := 479) (by omega) hx hb dL_build_464 (by decide) (fun q464 => ?_) (fun q464 => ?_)
          · skip
            exact absurd q464 (by decide)
          · skip
            refine lv_aload_n hx hb dL_build_467 rfl (lv_at hl 1 rfl) ?_
            refine lv_iload hx hb dL_build_468 (lv_at hl 8 rfl) ?_
            refine n_iconst 0 (by decide) hx hb dL_build_470 ?_
            refine bW_i (As := [.int (nI i), .int (bI false)]) (wn := fun u : Cx => clW k b (trnS (conS σ m2 m3 m4) i false) u ++ [(oR, .inl (k 0, 60, .inl fr)), (oC, .inl (k 0, 40, .inl (upd (upd (upd (upd fc (4 * i) (nI m2)) ((4 * i) + 1) (nI m3)) ((4 * i) + 2) (nI m4)) ((4 * i) + 3) (nI 0)))), (oN, .inl (k 0, 3, .inl fn))]) S hP hK hN hE hD hS hA (q_trn l hst G k _ b (conS σ m2 m3 m4) x7 i false (by show i < sK σ + 1; omega) hok) gL_build_X6_turn rfl rfl rfl hdq_X6_turn rfl rfl (List.Perm.refl _) (fun _ => List.Perm.refl _) 6 0 rfl rfl rfl rfl hl.1 rfl rfl ⟨(by show _ ≤ (120 : Nat); omega), (by show _ ≤ (720 : Nat); omega)⟩ dL_build_471 (fun rX x8 H locs hw hP hD hS => ?_)
            obtain ⟨hv8, hok⟩ := hw
            subst hv8
            try dsimp only at hP hD
            have hP : va_P G vwCl (clW k b (trnS (conS σ m2 m3 m4) i false) x8 ++ [(oR, .inl (k 0, 60, .inl fr)), (oC, .inl (k 0, 40, .inl (upd (upd (upd (upd fc (4 * i) (nI m2)) ((4 * i) + 1) (nI m3)) ((4 * i) + 2) (nI m4)) ((4 * i) + 3) (nI 0)))), (oN, .inl (k 0, 3, .inl fn))]) H := hP
            have hD : va_D A (clW k b (trnS (conS σ m2 m3 m4) i false) x8 ++ [(oR, .inl (k 0, 60, .inl fr)), (oC, .inl (k 0, 40, .inl (upd (upd (upd (upd fc (4 * i) (nI m2)) ((4 * i) + 1) (nI m3)) ((4 * i) + 2) (nI m4)) ((4 * i) + 3) (nI 0)))), (oN, .inl (k 0, 3, .inl fn))]) := hD
            rw [con_on hsk]
            refine b_if_ne (tgt := 479) hx hb dL_build_474 (by decide) (fun q474 => ?_) (fun q474 => ?_)
            · skip
              refine n_iinc (lv' := [(7, .int (nI (i + 1))), (8, .int y9), (0, .ref (b 0)), (1, .ref bS), (2, .int (nI 0)), (3, .int (nI 7)), (4, .ref oR), (5, .ref oC), (6, .ref oN)]) (k := 8) 1 hx hb dL_build_479 hl rfl (by decide) (by decide) rfl (fun ls hl => ?_)
              refine lv_goto (tgt := 319) hx hb dL_build_482 (by decide) ?_
              refine W.widen (k := 84 + 8 * (i + 1)) (n := 504 + 48 * (i + 1)) (by omega) (by omega) ?_
              exact ih (i + 1) (by omega) (by omega) _ _ _ _ _ _ (BP3_0 hbp _ _ _) hok hP hD hS (lv_sub hl [2, 3, 4, 5, 6, 7, 8, 0] rfl)
            · skip
              exact absurd q474 (by decide)
set_option maxHeartbeats 4000000 in
set_option maxRecDepth 100000 in
theorem bld4 (S : CallFix p m c cL_build 9 s args wsL_build RL) (hst : l.stackTraces = false) (hX : va_X bS L xs s s.heap) (hbl : bS < s.heap.size) (hbA : ¬ A bS) (hK : va_K G vwCl (tyG k) s) (hN : gN s) (hE : xE A s) (hA : ∀ q, s.heap.size ≤ q → A q) (hL : L ≤ 260) {n0 K : Nat} {σ : Sg} {x : Cx} {fr fc fn : Nat → Int32} {H : Heap} {locs : List Loc} {ls : Array Slot} (hn7 : n0 ≤ 7) (hK4 : K ≤ 4) (hf0 : fn 0 = nI n0) (hf1 : fn 1 = nI K) (hbp : BP3 n0 K σ fr fc) (hok : COK σ x) (hP : va_P G vwCl (clW k b σ x ++ [(oR, .inl (k 0, 60, .inl fr)), (oC, .inl (k 0, 40, .inl fc)), (oN, .inl (k 0, 3, .inl fn))]) H) (hD : va_D A (clW k b σ x ++ [(oR, .inl (k 0, 60, .inl fr)), (oC, .inl (k 0, 40, .inl fc)), (oN, .inl (k 0, 3, .inl fn))])) (hS : va_S A s.heap H locs) (hl : lv_has ls 9 [(0, .ref (b 0)), (1, .ref bS), (2, .int (nI 0)), (3, .int (nI 7)), (4, .ref oR), (5, .ref oC), (6, .ref oN)])
    (kk : ∀ (σ : Sg) (x : Cx) (fn : Nat → Int32) (H : Heap) (locs : List Loc) (ls : Array Slot), BOK σ fr fc fn → COK σ x → va_P G vwCl (clW k b σ x ++ [(oR, .inl (k 0, 60, .inl fr)), (oC, .inl (k 0, 40, .inl fc)), (oN, .inl (k 0, 3, .inl fn))]) H → va_D A (clW k b σ x ++ [(oR, .inl (k 0, 60, .inl fr)), (oC, .inl (k 0, 40, .inl fc)), (oN, .inl (k 0, 3, .inl fn))]) → va_S A s.heap H locs → lv_has ls 9 [(0, .ref (b 0)), (1, .ref bS), (2, .int (nI 0)), (3, .int (nI 7)), (4, .ref oR), (5, .ref oC), (6, .ref oN)] → W p l e rmB s m args below meth c H locs 120 720 Q (F0 m 549 ls [.int (nI 1)])) :
    W p l e rmB s m args below meth c H locs 116 696 Q (F0 m 485 ls []) := by
  obtain ⟨hx, hb, hml, hown, hts⟩ := id S
  obtain ⟨hs, hsk, hu0, hq2, hq5⟩ := id hbp
  refine lv_aload hx hb dL_build_485 (lv_at hl 6 rfl) ?_
  refine n_iconst 2 (by decide) hx hb dL_build_487 ?_
  refine lv_aload_n hx hb dL_build_488 rfl (lv_at hl 1 rfl) ?_
  refine lv_iload_n hx hb dL_build_489 rfl (lv_at hl 2 rfl) ?_
  refine cS_x (As := [.ref bS, .int (nI 0)]) S hX hbl hbA hS (m_L_cell l bS L xs hL 0 (by omega)) gL_build_L_cell rfl rfl rfl hdq_L_cell rfl rfl rfl hl.1 rfl rfl ⟨(by show _ ≤ (120 : Nat); omega), (by show _ ≤ (720 : Nat); omega)⟩ dL_build_490 (fun v1 _ => ?_)
  refine n_bipush 9 (by decide) hx hb dL_build_493 ?_
  refine lv_ishr hx hb dL_build_495 ?_
  refine n_iconst 3 (by decide) hx hb dL_build_496 ?_
  refine cS_i (As := [.int (v1 >>> ((nI 9) &&& 31)), .int (nI 3)]) S hP hK hN (m_L_below l G k (v1 >>> ((nI 9) &&& 31)) 3 (by omega) (by omega)) gL_build_L_below rfl rfl rfl hdq_L_below rfl rfl [] rfl rfl hl.1 rfl rfl ⟨(by show _ ≤ (120 : Nat); omega), (by show _ ≤ (720 : Nat); omega)⟩ dL_build_497 (fun rX hr => ?_)
  obtain ⟨m2, rfl, hm2⟩ := hr
  refine n_if_ne (tgt := 519) (by omega) hx hb dL_build_500 (by decide) (fun q500 => ?_) (fun q500 => ?_)
  · skip
    refine lv_iconst (v := -1) hx hb dL_build_519 (by decide) ?_
    refine r_iast (ws1 := (clW k b σ x ++ [(oR, .inl (k 0, 60, .inl fr)), (oC, .inl (k 0, 40, .inl fc)), (oN, .inl (k 0, 3, .inl (upd fn 2 (-1))))])) hx hb hK hP hD hS 33 rfl (by omega) (by first | decide | omega) rfl dL_build_520 (fun H locs hP hD hS => ?_)
    refine lv_aload_n hx hb dL_build_521 rfl (lv_at hl 0 rfl) ?_
    refine lv_aload hx hb dL_build_522 (lv_at hl 6 rfl) ?_
    refine n_iconst 2 (by decide) hx hb dL_build_524 ?_
    refine r_iald hx hb hK hP 33 rfl (by omega) (by first | decide | omega) dL_build_525 ?_
    rw [pk_us]
    refine bW_i (As := [.int (-1)]) (wn := fun u : Cx => clW k b (budS σ (-1)) u ++ [(oR, .inl (k 0, 60, .inl fr)), (oC, .inl (k 0, 40, .inl fc)), (oN, .inl (k 0, 3, .inl (upd fn 2 (-1))))]) S hP hK hN hE hD hS hA (q_bud l hst G k _ b σ x (-1) (by first | exact bud_ok (by omega) | decide) hok) gL_build_X6_setBudget rfl rfl rfl hdq_X6_setBudget rfl rfl (List.Perm.refl _) (fun _ => List.Perm.refl _) 6 0 rfl rfl rfl rfl hl.1 rfl rfl ⟨(by show _ ≤ (120 : Nat); omega), (by show _ ≤ (720 : Nat); omega)⟩ dL_build_526 (fun rX x3 H locs hw hP hD hS => ?_)
    obtain ⟨hv3, hok⟩ := hw
    subst hv3
    try dsimp only at hP hD
    have hP : va_P G vwCl (clW k b (budS σ (-1)) x3 ++ [(oR, .inl (k 0, 60, .inl fr)), (oC, .inl (k 0, 40, .inl fc)), (oN, .inl (k 0, 3, .inl (upd fn 2 (-1))))]) H := hP
    have hD : va_D A (clW k b (budS σ (-1)) x3 ++ [(oR, .inl (k 0, 60, .inl fr)), (oC, .inl (k 0, 40, .inl fc)), (oN, .inl (k 0, 3, .inl (upd fn 2 (-1))))]) := hD
    rw [hu0]
    refine lv_iconst (v := -1) hx hb dL_build_529 (by decide) ?_
    refine lv_icmp_ne (tgt := 548) hx hb dL_build_530 (by decide) (fun q530 => ?_) (fun q530 => ?_)
    · skip
      exact absurd rfl q530
    · skip
      refine lv_aload_n hx hb dL_build_533 rfl (lv_at hl 0 rfl) ?_
      refine bV_i (As := []) (wn := fun u : Cx => clW k b (budS σ (-1)) u ++ [(oR, .inl (k 0, 60, .inl fr)), (oC, .inl (k 0, 40, .inl fc)), (oN, .inl (k 0, 3, .inl (upd fn 2 (-1))))]) S hP hK hN hD hS hA (m_X6_featureCount l G k _ b (budS σ (-1)) x3 hok) gL_build_X6_featureCount rfl rfl rfl hdq_X6_featureCount rfl rfl (List.Perm.refl _) (fun _ => List.Perm.refl _) 6 0 rfl rfl rfl rfl hl.1 rfl rfl ⟨(by show _ ≤ (120 : Nat); omega), (by show _ ≤ (720 : Nat); omega)⟩ dL_build_534 (fun rX x4 H locs hw hP hD hS => ?_)
      obtain ⟨v4, hv4, hw4, hok⟩ := hw
      subst hv4
      subst hw4
      try dsimp only at hP hD
      have hP : va_P G vwCl (clW k b (budS σ (-1)) x4 ++ [(oR, .inl (k 0, 60, .inl fr)), (oC, .inl (k 0, 40, .inl fc)), (oN, .inl (k 0, 3, .inl (upd fn 2 (-1))))]) H := hP
      have hD : va_D A (clW k b (budS σ (-1)) x4 ++ [(oR, .inl (k 0, 60, .inl fr)), (oC, .inl (k 0, 40, .inl fc)), (oN, .inl (k 0, 3, .inl (upd fn 2 (-1))))]) := hD
      rw [show sN (budS σ (-1)) = n0 from hs]
      refine lv_aload hx hb dL_build_537 (lv_at hl 6 rfl) ?_
      refine n_iconst 0 (by decide) hx hb dL_build_539 ?_
      refine r_iald hx hb hK hP 33 rfl (by omega) (by first | decide | omega) dL_build_540 ?_
      rw [pk_un (k := 2) (j := 0) (by decide), hf0]
      refine n_icmp_ne (tgt := 548) (by omega) (by omega) hx hb dL_build_541 (by decide) (fun q541 => ?_) (fun q541 => ?_)
      · skip
        exact absurd rfl q541
      · skip
        refine n_iconst 1 (by decide) hx hb dL_build_544 ?_
        refine lv_goto (tgt := 549) hx hb dL_build_545 (by decide) ?_
        exact kk _ _ _ _ _ _ (BP3_end hbp hn7 hK4 hf0 hf1 (-1) (Or.inl rfl)) hok hP hD hS (lv_sub hl [0, 1, 2, 3, 4, 5, 6] rfl)
  · skip
    refine lv_aload_n hx hb dL_build_503 rfl (lv_at hl 1 rfl) ?_
    refine lv_iload_n hx hb dL_build_504 rfl (lv_at hl 2 rfl) ?_
    refine cS_x (As := [.ref bS, .int (nI 0)]) S hX hbl hbA hS (m_L_cell l bS L xs hL 0 (by omega)) gL_build_L_cell rfl rfl rfl hdq_L_cell rfl rfl rfl hl.1 rfl rfl ⟨(by show _ ≤ (120 : Nat); omega), (by show _ ≤ (720 : Nat); omega)⟩ dL_build_505 (fun v5 _ => ?_)
    refine n_bipush 11 (by decide) hx hb dL_build_508 ?_
    refine lv_ishr hx hb dL_build_510 ?_
    refine n_bipush 30 (by decide) hx hb dL_build_511 ?_
    refine cS_i (As := [.int (v5 >>> ((nI 11) &&& 31)), .int (nI 30)]) S hP hK hN (m_L_below l G k (v5 >>> ((nI 11) &&& 31)) 30 (by omega) (by omega)) gL_build_L_below rfl rfl rfl hdq_L_below rfl rfl [] rfl rfl hl.1 rfl rfl ⟨(by show _ ≤ (120 : Nat); omega), (by show _ ≤ (720 : Nat); omega)⟩ dL_build_513 (fun rX hr => ?_)
    obtain ⟨m6, rfl, hm6⟩ := hr
    refine lv_goto (tgt := 520) hx hb dL_build_516 (by decide) ?_
    refine r_iast (ws1 := (clW k b σ x ++ [(oR, .inl (k 0, 60, .inl fr)), (oC, .inl (k 0, 40, .inl fc)), (oN, .inl (k 0, 3, .inl (upd fn 2 (nI m6))))])) hx hb hK hP hD hS 33 rfl (by omega) (by first | decide | omega) rfl dL_build_520 (fun H locs hP hD hS => ?_)
    refine lv_aload_n hx hb dL_build_521 rfl (lv_at hl 0 rfl) ?_
    refine lv_aload hx hb dL_build_522 (lv_at hl 6 rfl) ?_
    refine n_iconst 2 (by decide) hx hb dL_build_524 ?_
    refine r_iald hx hb hK hP 33 rfl (by omega) (by first | decide | omega) dL_build_525 ?_
    rw [pk_us]
    refine bW_i (As := [.int (nI m6)]) (wn := fun u : Cx => clW k b (budS σ (nI m6)) u ++ [(oR, .inl (k 0, 60, .inl fr)), (oC, .inl (k 0, 40, .inl fc)), (oN, .inl (k 0, 3, .inl (upd fn 2 (nI m6))))]) S hP hK hN hE hD hS hA (q_bud l hst G k _ b σ x (nI m6) (by first | exact bud_ok (by omega) | decide) hok) gL_build_X6_setBudget rfl rfl rfl hdq_X6_setBudget rfl rfl (List.Perm.refl _) (fun _ => List.Perm.refl _) 6 0 rfl rfl rfl rfl hl.1 rfl rfl ⟨(by show _ ≤ (120 : Nat); omega), (by show _ ≤ (720 : Nat); omega)⟩ dL_build_526 (fun rX x7 H locs hw hP hD hS => ?_)
    obtain ⟨hv7, hok⟩ := hw
    subst hv7
    try dsimp only at hP hD
    have hP : va_P G vwCl (clW k b (budS σ (nI m6)) x7 ++ [(oR, .inl (k 0, 60, .inl fr)), (oC, .inl (k 0, 40, .inl fc)), (oN, .inl (k 0, 3, .inl (upd fn 2 (nI m6))))]) H := hP
    have hD : va_D A (clW k b (budS σ (nI m6)) x7 ++ [(oR, .inl (k 0, 60, .inl fr)), (oC, .inl (k 0, 40, .inl fc)), (oN, .inl (k 0, 3, .inl (upd fn 2 (nI m6))))]) := hD
    rw [hu0]
    refine lv_iconst (v := -1) hx hb dL_build_529 (by decide) ?_
    refine lv_icmp_ne (tgt := 548) hx hb dL_build_530 (by decide) (fun q530 => ?_) (fun q530 => ?_)
    · skip
      exact absurd rfl q530
    · skip
      refine lv_aload_n hx hb dL_build_533 rfl (lv_at hl 0 rfl) ?_
      refine bV_i (As := []) (wn := fun u : Cx => clW k b (budS σ (nI m6)) u ++ [(oR, .inl (k 0, 60, .inl fr)), (oC, .inl (k 0, 40, .inl fc)), (oN, .inl (k 0, 3, .inl (upd fn 2 (nI m6))))]) S hP hK hN hD hS hA (m_X6_featureCount l G k _ b (budS σ (nI m6)) x7 hok) gL_build_X6_featureCount rfl rfl rfl hdq_X6_featureCount rfl rfl (List.Perm.refl _) (fun _ => List.Perm.refl _) 6 0 rfl rfl rfl rfl hl.1 rfl rfl ⟨(by show _ ≤ (120 : Nat); omega), (by show _ ≤ (720 : Nat); omega)⟩ dL_build_534 (fun rX x8 H locs hw hP hD hS => ?_)
      obtain ⟨v8, hv8, hw8, hok⟩ := hw
      subst hv8
      subst hw8
      try dsimp only at hP hD
      have hP : va_P G vwCl (clW k b (budS σ (nI m6)) x8 ++ [(oR, .inl (k 0, 60, .inl fr)), (oC, .inl (k 0, 40, .inl fc)), (oN, .inl (k 0, 3, .inl (upd fn 2 (nI m6))))]) H := hP
      have hD : va_D A (clW k b (budS σ (nI m6)) x8 ++ [(oR, .inl (k 0, 60, .inl fr)), (oC, .inl (k 0, 40, .inl fc)), (oN, .inl (k 0, 3, .inl (upd fn 2 (nI m6))))]) := hD
      rw [show sN (budS σ (nI m6)) = n0 from hs]
      refine lv_aload hx hb dL_build_537 (lv_at hl 6 rfl) ?_
      refine n_iconst 0 (by decide) hx hb dL_build_539 ?_
      refine r_iald hx hb hK hP 33 rfl (by omega) (by first | decide | omega) dL_build_540 ?_
      rw [pk_un (k := 2) (j := 0) (by decide), hf0]
      refine n_icmp_ne (tgt := 548) (by omega) (by omega) hx hb dL_build_541 (by decide) (fun q541 => ?_) (fun q541 => ?_)
      · skip
        exact absurd rfl q541
      · skip
        refine n_iconst 1 (by decide) hx hb dL_build_544 ?_
        refine lv_goto (tgt := 549) hx hb dL_build_545 (by decide) ?_
        exact kk _ _ _ _ _ _ (BP3_end hbp hn7 hK4 hf0 hf1 (nI m6) (Or.inr (nI_pos' (by omega)))) hok hP hD hS (lv_sub hl [0, 1, 2, 3, 4, 5, 6] rfl)
end BUILD
theorem INI_0 : INI sg0 := ⟨fun _ => rfl, fun _ => rfl, fun _ => rfl, rfl, rfl⟩
set_option maxHeartbeats 4000000 in
set_option maxRecDepth 100000 in
theorem m_L_build (l : Launch) (hst : l.stackTraces = false) (G : va_G) (k : Nat → ClassId) (sz : Nat) (b : Nat → Nat) (x : Cx) (oR oC oN bS L : Nat) (xs : Nat → Int32) (hL : L ≤ 260) (hok : COK sg0 x) : Met l yL_build wsL_build rmB (va_Pc [.ref (b 0), .ref bS, .int (nI 0), .int (nI 7), .ref oR, .ref oC, .ref oN] (Wb G k (clW k b sg0 x ++ a3 k oR oC oN (nA (fun _ => 0)) (nA (fun _ => 0)) (nA (fun _ => 0))) bS L xs sz)) (va_Qi (fun (rX : Int32) (u : Sg × Cx × (Nat → Int32) × (Nat → Int32) × (Nat → Int32)) => rX = bI true ∧ COK u.1 u.2.1 ∧ BOK u.1 u.2.2.1 u.2.2.2.1 u.2.2.2.2) (Bm G k (va_A (clW k b sg0 x ++ a3 k oR oC oN (nA (fun _ => 0)) (nA (fun _ => 0)) (nA (fun _ => 0))) sz) (fun u : Sg × Cx × (Nat → Int32) × (Nat → Int32) × (Nat → Int32) => clW k b u.1 u.2.1 ++ a3 k oR oC oN u.2.2.1 u.2.2.2.1 u.2.2.2.2)) (va_A (clW k b sg0 x ++ a3 k oR oC oN (nA (fun _ => 0)) (nA (fun _ => 0)) (nA (fun _ => 0))) sz)) 120 720 (va_A (clW k b sg0 x ++ a3 k oR oC oN (nA (fun _ => 0)) (nA (fun _ => 0)) (nA (fun _ => 0))) sz) := by
  refine met_mk (cc := cL_build) (maxL := 9) (ret := some .boolean) (by decide) rfl rfl ?_
  intro p e s m below meth c S hr hlk hnm hB ls hl
  obtain ⟨⟨⟨hsz, hP, hK, hN, hD0⟩, hE⟩, hX, hbA⟩ := hB
  subst hsz
  have hD := hD0.self (sz := s.heap.size)
  generalize hAe : va_A (clW k b sg0 x ++ a3 k oR oC oN (nA (fun _ => 0)) (nA (fun _ => 0)) (nA (fun _ => 0))) s.heap.size = A at hD hE hbA ⊢
  have hA : ∀ q : Nat, s.heap.size ≤ q → A q := fun q h => by rw [← hAe]; exact Or.inr h
  have hS : va_S A s.heap s.heap [] := va_S.rf
  have hbl : bS < s.heap.size := by obtain ⟨scr, h1, -⟩ := hX; exact (Array.getElem?_eq_some_iff.mp h1).1
  obtain ⟨hx, hb, hml, hown, hts⟩ := id S
  have hl : lv_has ls 9 [(0, .ref (b 0)), (1, .ref bS), (2, .int (nI 0)), (3, .int (nI 7)), (4, .ref oR), (5, .ref oC), (6, .ref oN)] := hl
  generalize nA (fun _ => 0) = z0 at hP hD
  refine lv_aload hx hb dL_build_0 (lv_at hl 6 rfl) ?_
  refine n_iconst 0 (by decide) hx hb dL_build_2 ?_
  refine n_iconst 1 (by decide) hx hb dL_build_3 ?_
  refine lv_aload_n hx hb dL_build_4 rfl (lv_at hl 1 rfl) ?_
  refine lv_iload_n hx hb dL_build_5 rfl (lv_at hl 2 rfl) ?_
  refine cS_x (As := [.ref bS, .int (nI 0)]) S hX hbl hbA hS (m_L_cell l bS L xs hL 0 (by omega)) gL_build_L_cell rfl rfl rfl hdq_L_cell rfl rfl rfl hl.1 rfl rfl ⟨(by show _ ≤ (120 : Nat); omega), (by show _ ≤ (720 : Nat); omega)⟩ dL_build_6 (fun v1 _ => ?_)
  refine lv_iload_n hx hb dL_build_9 rfl (lv_at hl 3 rfl) ?_
  refine cS_i (As := [.int v1, .int (nI 7)]) S hP hK hN (m_L_below l G k v1 7 (by omega) (by omega)) gL_build_L_below rfl rfl rfl hdq_L_below rfl rfl [] rfl rfl hl.1 rfl rfl ⟨(by show _ ≤ (120 : Nat); omega), (by show _ ≤ (720 : Nat); omega)⟩ dL_build_10 (fun rX hr => ?_)
  obtain ⟨m2, rfl, hm2⟩ := hr
  refine n_iadd hx hb dL_build_13 ?_
  refine r_iast (ws1 := (clW k b sg0 x ++ [(oR, .inl (k 0, 60, .inl z0)), (oC, .inl (k 0, 40, .inl z0)), (oN, .inl (k 0, 3, .inl (upd z0 0 (nI (1 + m2)))))])) hx hb hK hP hD hS 33 rfl (by omega) (by first | decide | omega) rfl dL_build_14 (fun H locs hP hD hS => ?_)
  refine lv_aload hx hb dL_build_15 (lv_at hl 4 rfl) ?_
  refine n_iconst 0 (by decide) hx hb dL_build_17 ?_
  refine lv_iconst (v := -1) hx hb dL_build_18 (by decide) ?_
  refine r_iast (ws1 := (clW k b sg0 x ++ [(oR, .inl (k 0, 60, .inl (upd z0 0 (-1)))), (oC, .inl (k 0, 40, .inl z0)), (oN, .inl (k 0, 3, .inl (upd z0 0 (nI (1 + m2)))))])) hx hb hK hP hD hS 31 rfl (by omega) (by first | decide | omega) rfl dL_build_19 (fun H locs hP hD hS => ?_)
  refine n_iconst 1 (by decide) hx hb dL_build_20 ?_
  refine lv_istore (lv' := [(7, .int (nI 1)), (0, .ref (b 0)), (1, .ref bS), (2, .int (nI 0)), (3, .int (nI 7)), (4, .ref oR), (5, .ref oC), (6, .ref oN)]) hx hb dL_build_21 hl (by decide) rfl (fun ls hl => ?_)
  refine W.widen (k := 4 * 1) (n := 24 * 1) (by omega) (by omega) ?_
  refine bld1 (n0 := 1 + m2) (fc := z0) (fn := upd z0 0 (nI (1 + m2))) S hst hX hbl hbA hK hN hE hA hL (by omega) pk_us (fun σ x fr H locs ls hs hini hok hP hD hS hl => ?_) (1 + m2) 1 (by omega) (by omega) (by decide) sg0 _ _ _ _ _ rfl INI_0 hok hP hD hS (lv_sub hl [1, 2, 3, 4, 5, 6, 7, 0] rfl)
  refine n_iconst 0 (by decide) hx hb dL_build_117 ?_
  refine lv_istore (lv' := [(7, .int (nI 0)), (0, .ref (b 0)), (1, .ref bS), (2, .int (nI 0)), (3, .int (nI 7)), (4, .ref oR), (5, .ref oC), (6, .ref oN)]) hx hb dL_build_118 hl (by decide) rfl (fun ls hl => ?_)
  refine W.widen (k := 28 + 8 * 0) (n := 168 + 48 * 0) (by omega) (by omega) ?_
  refine bld2 (n0 := 1 + m2) (fc := z0) (fn := upd z0 0 (nI (1 + m2))) S hst hX hbl hbA hK hN hE hA hL (by omega) pk_us (fun σ x fr H locs ls hbp hok hP hD hS hl => ?_) (1 + m2 + 1) 0 (by omega) (Nat.zero_le _) _ _ _ _ _ _ (hs ▸ INI_2 hini _) hok hP hD hS (lv_sub hl [1, 2, 3, 4, 5, 6, 7, 0] rfl)
  refine lv_aload hx hb dL_build_301 (lv_at hl 6 rfl) ?_
  refine n_iconst 1 (by decide) hx hb dL_build_303 ?_
  refine lv_aload_n hx hb dL_build_304 rfl (lv_at hl 1 rfl) ?_
  refine lv_iload_n hx hb dL_build_305 rfl (lv_at hl 2 rfl) ?_
  refine cS_x (As := [.ref bS, .int (nI 0)]) S hX hbl hbA hS (m_L_cell l bS L xs hL 0 (by omega)) gL_build_L_cell rfl rfl rfl hdq_L_cell rfl rfl rfl hl.1 rfl rfl ⟨(by show _ ≤ (120 : Nat); omega), (by show _ ≤ (720 : Nat); omega)⟩ dL_build_306 (fun v3 _ => ?_)
  refine n_iconst 5 (by decide) hx hb dL_build_309 ?_
  refine lv_ishr hx hb dL_build_310 ?_
  refine n_iconst 5 (by decide) hx hb dL_build_311 ?_
  refine cS_i (As := [.int (v3 >>> ((nI 5) &&& 31)), .int (nI 5)]) S hP hK hN (m_L_below l G k (v3 >>> ((nI 5) &&& 31)) 5 (by omega) (by omega)) gL_build_L_below rfl rfl rfl hdq_L_below rfl rfl [] rfl rfl hl.1 rfl rfl ⟨(by show _ ≤ (120 : Nat); omega), (by show _ ≤ (720 : Nat); omega)⟩ dL_build_312 (fun rX hr => ?_)
  obtain ⟨m4, rfl, hm4⟩ := hr
  refine r_iast (ws1 := (clW k b σ x ++ [(oR, .inl (k 0, 60, .inl fr)), (oC, .inl (k 0, 40, .inl z0)), (oN, .inl (k 0, 3, .inl (upd (upd z0 0 (nI (1 + m2))) 1 (nI m4))))])) hx hb hK hP hD hS 33 rfl (by omega) (by first | decide | omega) rfl dL_build_315 (fun H locs hP hD hS => ?_)
  refine n_iconst 0 (by decide) hx hb dL_build_316 ?_
  refine lv_istore (lv' := [(7, .int (nI 0)), (0, .ref (b 0)), (1, .ref bS), (2, .int (nI 0)), (3, .int (nI 7)), (4, .ref oR), (5, .ref oC), (6, .ref oN)]) hx hb dL_build_317 hl (by decide) rfl (fun ls hl => ?_)
  have hf0 : (upd (upd z0 0 (nI (1 + m2))) 1 (nI m4)) 0 = nI (1 + m2) := by rw [pk_un (k := 1) (j := 0) (by decide), pk_us]
  have hf1 : (upd (upd z0 0 (nI (1 + m2))) 1 (nI m4)) 1 = nI m4 := pk_us
  refine W.widen (k := 84 + 8 * 0) (n := 504 + 48 * 0) (by omega) (by omega) ?_
  refine bld3 (n0 := 1 + m2) (K := m4) (fr := fr) (fn := upd (upd z0 0 (nI (1 + m2))) 1 (nI m4)) S hst hX hbl hbA hK hN hE hA hL (by omega) (by omega) (by omega) hf0 hf1 (fun σ x fc H locs ls hbp hok hP hD hS hl => ?_) (m4 + 1) 0 (by omega) (Nat.zero_le _) _ _ _ _ _ _ (BP2_3 hbp (Nat.le_refl _) _) hok hP hD hS (lv_sub hl [1, 2, 3, 4, 5, 6, 7, 0] rfl)
  exact bld4 S hst hX hbl hbA hK hN hE hA hL (by omega) (by omega) hf0 hf1 hbp hok hP hD hS hl (fun σ x fn H locs ls hbk hok hP hD hS hl => e_mutZ (v := true) (u := (σ, x, fr, fc, fn)) hx hb hr hlk hS hP hK hD ⟨rfl, hok, hbk⟩ dL_build_549)
