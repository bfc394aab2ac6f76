set_option maxHeartbeats 4000000 in
set_option maxRecDepth 100000 in
theorem m_X6_has (l : Launch) (G : va_G) (k : Nat → ClassId) (c f : Nat) (hc : c < 2147483648) (hf : f < 32) : Met l yX6_has wsX6_has ({ frames := 0, cells := 0, slots := 0, locals := 0 } : Room) (va_Pc [.int (nI c), .int (nI f)] (Wd G k [])) (vp_Si (fun rX => rX = (bI ((c).testBit f)))) 0 0 (fun _ => False) := by
  refine met_mk (cc := cX6_has) (maxL := 2) (ret := (some .boolean)) (by decide) rfl rfl ?_
  intro pX eX sX mX bX meX cX S hr hlk hnm hB ls hl
  obtain ⟨hP, hK, hN⟩ := hB
  obtain ⟨hx, hb, hml, hown, hts⟩ := id S
  have hown : sX.vm.findClass RX6 = some mX.cls := hown
  have hl : lv_has ls 2 [(0, .int (nI c)), (1, .int (nI f))] := hl
  refine lv_iload_n hx hb dX6_has_0 rfl (lv_at hl 0 rfl) ?_
  refine lv_iload_n hx hb dX6_has_1 rfl (lv_at hl 1 rfl) ?_
  refine lv_ishr hx hb dX6_has_2 ?_
  refine n_iconst 1 (by decide) hx hb dX6_has_3 ?_
  refine lv_iand hx hb dX6_has_4 ?_
  refine n_iconst 1 (by decide) hx hb dX6_has_5 ?_
  refine lv_icmp_ne (tgt := 13) hx hb dX6_has_6 (by decide) (fun q6 => ?_) (fun q6 => ?_)
  · skip
    refine n_iconst 0 (by decide) hx hb dX6_has_13 ?_
    exact e_pureZ (v := false) hx hb hr hlk (by revert q6; rw [show nI 1 = (1 : Int32) from rfl, xI_bit hc hf]; cases c.testBit f <;> decide) dX6_has_14
  · skip
    refine n_iconst 1 (by decide) hx hb dX6_has_9 ?_
    refine lv_goto (tgt := 14) hx hb dX6_has_10 (by decide) ?_
    exact e_pureZ (v := true) hx hb hr hlk (by revert q6; rw [show nI 1 = (1 : Int32) from rfl, xI_bit hc hf]; cases c.testBit f <;> decide) dX6_has_14
set_option maxHeartbeats 4000000 in
set_option maxRecDepth 100000 in
theorem m_J6_bitCount (l : Launch) (G : va_G) (k : Nat → ClassId) (x : Nat) (hx32 : x < 4294967296) : Met l yJ6_bitCount_0f7a4 wsJ6_bitCount_0f7a4 ({ frames := 0, cells := 0, slots := 0, locals := 0 } : Room) (va_Pc [.int (nI x)] (Wd G k [])) (vp_Si (fun rX => rX = (nI (popc x)))) 0 0 (fun _ => False) := by
  refine met_mk (cc := cJ6_bitCount_0f7a4) (maxL := 1) (ret := (some .int)) (by decide) rfl rfl ?_
  intro pX eX sX mX bX meX cX S hr hlk hnm hB ls hl
  obtain ⟨hP, hK, hN⟩ := hB
  obtain ⟨hx, hb, hml, hown, hts⟩ := id S
  have hown : sX.vm.findClass RJ6 = some mX.cls := hown
  have hl : lv_has ls 1 [(0, .int (nI x))] := hl
  have lk0 : (Cond.constant RJ6 265 (1431655765)).before _ sX = true := hts _ (List.mem_cons_of_mem _ (List.mem_of_getElem? (i := 0) rfl))
  have lk1 : (Cond.constant RJ6 266 (858993459)).before _ sX = true := hts _ (List.mem_cons_of_mem _ (List.mem_of_getElem? (i := 1) rfl))
  have lk2 : (Cond.constant RJ6 267 (252645135)).before _ sX = true := hts _ (List.mem_cons_of_mem _ (List.mem_of_getElem? (i := 2) rfl))
  refine lv_iload_n hx hb dJ6_bitCount_0f7a4_0 rfl (lv_at hl 0 rfl) ?_
  refine lv_iload_n hx hb dJ6_bitCount_0f7a4_1 rfl (lv_at hl 0 rfl) ?_
  refine n_iconst 1 (by decide) hx hb dJ6_bitCount_0f7a4_2 ?_
  refine lv_iushr hx hb dJ6_bitCount_0f7a4_3 rfl ?_
  refine lv_ldcw hx hb hown lk0 dJ6_bitCount_0f7a4_4 ?_
  refine lv_iand hx hb dJ6_bitCount_0f7a4_7 ?_
  refine lv_isub hx hb dJ6_bitCount_0f7a4_8 ?_
  refine lv_topi (fun y1 ey1 => ?_)
  refine lv_istore_n (lv' := [(0, .int y1)]) hx hb dJ6_bitCount_0f7a4_9 rfl hl (by decide) rfl (fun ls hl => ?_)
  refine lv_iload_n hx hb dJ6_bitCount_0f7a4_10 rfl (lv_at hl 0 rfl) ?_
  refine lv_ldcw hx hb hown lk1 dJ6_bitCount_0f7a4_11 ?_
  refine lv_iand hx hb dJ6_bitCount_0f7a4_14 ?_
  refine lv_iload_n hx hb dJ6_bitCount_0f7a4_15 rfl (lv_at hl 0 rfl) ?_
  refine n_iconst 2 (by decide) hx hb dJ6_bitCount_0f7a4_16 ?_
  refine lv_iushr hx hb dJ6_bitCount_0f7a4_17 rfl ?_
  refine lv_ldcw hx hb hown lk1 dJ6_bitCount_0f7a4_18 ?_
  refine lv_iand hx hb dJ6_bitCount_0f7a4_21 ?_
  refine lv_iadd hx hb dJ6_bitCount_0f7a4_22 ?_
  refine lv_topi (fun y2 ey2 => ?_)
  refine lv_istore_n (lv' := [(0, .int y2)]) hx hb dJ6_bitCount_0f7a4_23 rfl hl (by decide) rfl (fun ls hl => ?_)
  refine lv_iload_n hx hb dJ6_bitCount_0f7a4_24 rfl (lv_at hl 0 rfl) ?_
  refine lv_iload_n hx hb dJ6_bitCount_0f7a4_25 rfl (lv_at hl 0 rfl) ?_
  refine n_iconst 4 (by decide) hx hb dJ6_bitCount_0f7a4_26 ?_
  refine lv_iushr hx hb dJ6_bitCount_0f7a4_27 rfl ?_
  refine lv_iadd hx hb dJ6_bitCount_0f7a4_28 ?_
  refine lv_ldcw hx hb hown lk2 dJ6_bitCount_0f7a4_29 ?_
  refine lv_iand hx hb dJ6_bitCount_0f7a4_32 ?_
  refine lv_topi (fun y3 ey3 => ?_)
  refine lv_istore_n (lv' := [(0, .int y3)]) hx hb dJ6_bitCount_0f7a4_33 rfl hl (by decide) rfl (fun ls hl => ?_)
  refine lv_iload_n hx hb dJ6_bitCount_0f7a4_34 rfl (lv_at hl 0 rfl) ?_
  refine lv_iload_n hx hb dJ6_bitCount_0f7a4_35 rfl (lv_at hl 0 rfl) ?_
  refine n_bipush 8 (by decide) hx hb dJ6_bitCount_0f7a4_36 ?_
  refine lv_iushr hx hb dJ6_bitCount_0f7a4_38 rfl ?_
  refine lv_iadd hx hb dJ6_bitCount_0f7a4_39 ?_
  refine lv_topi (fun y4 ey4 => ?_)
  refine lv_istore_n (lv' := [(0, .int y4)]) hx hb dJ6_bitCount_0f7a4_40 rfl hl (by decide) rfl (fun ls hl => ?_)
  refine lv_iload_n hx hb dJ6_bitCount_0f7a4_41 rfl (lv_at hl 0 rfl) ?_
  refine lv_iload_n hx hb dJ6_bitCount_0f7a4_42 rfl (lv_at hl 0 rfl) ?_
  refine n_bipush 16 (by decide) hx hb dJ6_bitCount_0f7a4_43 ?_
  refine lv_iushr hx hb dJ6_bitCount_0f7a4_45 rfl ?_
  refine lv_iadd hx hb dJ6_bitCount_0f7a4_46 ?_
  refine lv_topi (fun y5 ey5 => ?_)
  refine lv_istore_n (lv' := [(0, .int y5)]) hx hb dJ6_bitCount_0f7a4_47 rfl hl (by decide) rfl (fun ls hl => ?_)
  refine lv_iload_n hx hb dJ6_bitCount_0f7a4_48 rfl (lv_at hl 0 rfl) ?_
  refine n_bipush 63 (by decide) hx hb dJ6_bitCount_0f7a4_49 ?_
  refine lv_iand hx hb dJ6_bitCount_0f7a4_51 ?_
  exact e_pure hx hb hr hlk (by exact bc_ok hx32 ey1 ey2 ey3 ey4 ey5) dJ6_bitCount_0f7a4_52
set_option maxHeartbeats 4000000 in
set_option maxRecDepth 100000 in
theorem m_X1_isKnown (l : Launch) (G : va_G) (k : Nat → ClassId) (h0 : Nat) (v0 v1 : Value) (b : Bool)  : Met l yX1_isKnown wsX1_isKnown ({ frames := 0, cells := 0, slots := 0, locals := 0 } : Room) (va_Pc [.ref h0] (Wd G k [(h0, .inr (1, [v0, v1, .int (bI b)]))])) (vp_Si (fun rX => rX = (bI b))) 0 0 (fun _ => False) := by
  refine met_mk (cc := cX1_isKnown) (maxL := 1) (ret := (some .boolean)) (by decide) rfl rfl ?_
  intro pX eX sX mX bX meX cX S hr hlk hnm hB ls hl
  obtain ⟨hP, hK, hN⟩ := hB
  obtain ⟨hx, hb, hml, hown, hts⟩ := id S
  have hown : sX.vm.findClass RX1 = some mX.cls := hown
  have hl : lv_has ls 1 [(0, .ref h0)] := hl
  have lk0 : (Cond.fieldLink RX1 19 "FeatureAnalyzer$ConfigurationRow" "isKnown" "Z").before _ sX = true := hts _ (List.mem_cons_of_mem _ (List.mem_append_left _ (List.mem_of_getElem? (i := 0) rfl)))
  have inX1 : ∀ w ∈ wsX10, w ∈ wsX1_isKnown := fun w h => List.mem_cons_of_mem _ (List.mem_append_right _ (h))
  refine lv_aload_n hx hb dX1_isKnown_0 rfl (lv_at hl 0 rfl) ?_
  refine va_get (D := G) (ci := 1) (v := .int (bI b)) (C := RX1) (T := TX1) (N := 3) hx hb hts inX1 hown hK hP 0 rfl rfl 2 (by decide) lk0 (fun _ h9 => h9) rfl dX1_isKnown_1 ?_
  exact e_pureZ (v := b) hx hb hr hlk (by rfl) dX1_isKnown_4
set_option maxHeartbeats 4000000 in
set_option maxRecDepth 100000 in
theorem m_X1_size (l : Launch) (G : va_G) (k : Nat → ClassId) (h0 n : Nat) (v0 v2 : Value)  : Met l yX1_size wsX1_size ({ frames := 0, cells := 0, slots := 0, locals := 0 } : Room) (va_Pc [.ref h0] (Wd G k [(h0, .inr (1, [v0, .int (nI n), v2]))])) (vp_Si (fun rX => rX = (nI n))) 0 0 (fun _ => False) := by
  refine met_mk (cc := cX1_size) (maxL := 1) (ret := (some .int)) (by decide) rfl rfl ?_
  intro pX eX sX mX bX meX cX S hr hlk hnm hB ls hl
  obtain ⟨hP, hK, hN⟩ := hB
  obtain ⟨hx, hb, hml, hown, hts⟩ := id S
  have hown : sX.vm.findClass RX1 = some mX.cls := hown
  have hl : lv_has ls 1 [(0, .ref h0)] := hl
  have lk0 : (Cond.fieldLink RX1 15 "FeatureAnalyzer$ConfigurationRow" "size" "I").before _ sX = true := hts _ (List.mem_cons_of_mem _ (List.mem_append_left _ (List.mem_of_getElem? (i := 0) rfl)))
  have inX1 : ∀ w ∈ wsX10, w ∈ wsX1_size := fun w h => List.mem_cons_of_mem _ (List.mem_append_right _ (h))
  refine lv_aload_n hx hb dX1_size_0 rfl (lv_at hl 0 rfl) ?_
  refine va_get (D := G) (ci := 1) (v := .int (nI n)) (C := RX1) (T := TX1) (N := 3) hx hb hts inX1 hown hK hP 0 rfl rfl 1 (by decide) lk0 (fun _ h9 => h9) rfl dX1_size_1 ?_
  exact e_pure hx hb hr hlk (by rfl) dX1_size_4
set_option maxHeartbeats 4000000 in
set_option maxRecDepth 100000 in
theorem m_X1_at (l : Launch) (G : va_G) (k : Nat → ClassId) (h0 ra i : Nat) (g : Nat → Nat) (v1 v2 : Value) (hi : i < 2048) : Met l yX1_at wsX1_at ({ frames := 0, cells := 0, slots := 0, locals := 0 } : Room) (va_Pc [.ref h0, .int (nI i)] (Wd G k [(h0, .inr (1, [.ref ra, v1, v2])), (ra, .inl (k 0, 2048, .inl (nA g)))])) (vp_Si (fun rX => rX = (nI (g i)))) 0 0 (fun _ => False) := by
  refine met_mk (cc := cX1_at) (maxL := 2) (ret := (some .int)) (by decide) rfl rfl ?_
  intro pX eX sX mX bX meX cX S hr hlk hnm hB ls hl
  obtain ⟨hP, hK, hN⟩ := hB
  obtain ⟨hx, hb, hml, hown, hts⟩ := id S
  have hown : sX.vm.findClass RX1 = some mX.cls := hown
  have hl : lv_has ls 2 [(0, .ref h0), (1, .int (nI i))] := hl
  have lk0 : (Cond.fieldLink RX1 9 "FeatureAnalyzer$ConfigurationRow" "members" "[I").before _ sX = true := hts _ (List.mem_cons_of_mem _ (List.mem_append_left _ (List.mem_of_getElem? (i := 0) rfl)))
  have inX1 : ∀ w ∈ wsX10, w ∈ wsX1_at := fun w h => List.mem_cons_of_mem _ (List.mem_append_right _ (h))
  refine lv_aload_n hx hb dX1_at_0 rfl (lv_at hl 0 rfl) ?_
  refine va_get (D := G) (ci := 1) (v := .ref ra) (C := RX1) (T := TX1) (N := 3) hx hb hts inX1 hown hK hP 0 rfl rfl 0 (by decide) lk0 (fun _ h9 => h9) rfl dX1_at_1 ?_
  refine lv_iload_n hx hb dX1_at_4 rfl (lv_at hl 1 rfl) ?_
  refine n_iald hx hb hK hP 1 rfl (by omega) (by first | decide | omega) dX1_at_5 ?_
  exact e_pure hx hb hr hlk (by rfl) dX1_at_6
set_option maxHeartbeats 4000000 in
set_option maxRecDepth 100000 in
theorem m_X1_common (l : Launch) (G : va_G) (k : Nat → ClassId) (h0 ra n : Nat) (g : Nat → Nat) (v2 : Value) (hn : n ≤ 2048) (h1 : 1 ≤ n) (hg : ∀ i, i < n → g i < 4096) : Met l yX1_common wsX1_common ({ frames := 0, cells := 0, slots := 0, locals := 0 } : Room) (va_Pc [.ref h0] (Wd G k [(h0, .inr (1, [.ref ra, .int (nI n), v2])), (ra, .inl (k 0, 2048, .inl (nA g)))])) (vp_Si (fun rX => rX = (nI (comN g n)))) 0 0 (fun _ => False) := by
  refine met_mk (cc := cX1_common) (maxL := 3) (ret := (some .int)) (by decide) rfl rfl ?_
  intro pX eX sX mX bX meX cX S hr hlk hnm hB ls hl
  obtain ⟨hP, hK, hN⟩ := hB
  obtain ⟨hx, hb, hml, hown, hts⟩ := id S
  have hown : sX.vm.findClass RX1 = some mX.cls := hown
  have hl : lv_has ls 3 [(0, .ref h0)] := hl
  have lk0 : (Cond.fieldLink RX1 15 "FeatureAnalyzer$ConfigurationRow" "size" "I").before _ sX = true := hts _ (List.mem_cons_of_mem _ (List.mem_append_left _ (List.mem_of_getElem? (i := 0) rfl)))
  have inX1 : ∀ w ∈ wsX10, w ∈ wsX1_common := fun w h => List.mem_cons_of_mem _ (List.mem_append_right _ (h))
  have lk1 : (Cond.fieldLink RX1 9 "FeatureAnalyzer$ConfigurationRow" "members" "[I").before _ sX = true := hts _ (List.mem_cons_of_mem _ (List.mem_append_left _ (List.mem_of_getElem? (i := 1) rfl)))
  refine lv_iconst (v := -1) hx hb dX1_common_0 (by decide) ?_
  refine lv_istore_n (lv' := [(1, .int (-1)), (0, .ref h0)]) hx hb dX1_common_1 rfl hl (by decide) rfl (fun ls hl => ?_)
  refine n_iconst 0 (by decide) hx hb dX1_common_2 ?_
  refine lv_istore_n (lv' := [(2, .int (nI 0)), (1, .int (-1)), (0, .ref h0)]) hx hb dX1_common_3 rfl hl (by decide) rfl (fun ls hl => ?_)
  have L4 : ∀ (NN : Nat) (x : Int32) (i : Nat), (n - i) < NN → (i ≤ n) → (x = comI g i) → ∀ ls : Array Slot, lv_has ls 3 [(0, .ref h0), (1, .int x), (2, .int (nI i))] → W pX l eX ({ frames := 0, cells := 0, slots := 0, locals := 0 } : Room) sX mX ([.ref h0] : List Value).toArray bX meX cX sX.heap [] 0 0 (MQ bX (vp_Si (fun rX => rX = (nI (comN g n)))) ([.ref h0] : List Value).toArray sX 0 0 (fun _ => False)) (F0 mX 4 ls []) := by
    intro NN
    induction NN with
    | zero => intro x i hm9; exact absurd hm9 (Nat.not_lt_zero _)
    | succ NN ih4 =>
      intro x i hm9 hi ex ls hl
      refine lv_iload_n hx hb dX1_common_4 rfl (lv_at hl 2 rfl) ?_
      refine lv_aload_n hx hb dX1_common_5 rfl (lv_at hl 0 rfl) ?_
      refine va_get (D := G) (ci := 1) (v := .int (nI n)) (C := RX1) (T := TX1) (N := 3) hx hb hts inX1 hown hK hP 0 rfl rfl 1 (by decide) lk0 (fun _ h9 => h9) rfl dX1_common_6 ?_
      refine n_icmp_ge (tgt := 27) (by omega) (by omega) hx hb dX1_common_9 (by decide) (fun q9 => ?_) (fun q9 => ?_)
      · skip
        refine lv_iload_n hx hb dX1_common_27 rfl (lv_at hl 1 rfl) ?_
        exact e_pure hx hb hr hlk (by rw [ex, show i = n by omega]; exact comI_eq g n h1 hg) dX1_common_28
      · skip
        refine lv_iload_n hx hb dX1_common_12 rfl (lv_at hl 1 rfl) ?_
        refine lv_aload_n hx hb dX1_common_13 rfl (lv_at hl 0 rfl) ?_
        refine va_get (D := G) (ci := 1) (v := .ref ra) (C := RX1) (T := TX1) (N := 3) hx hb hts inX1 hown hK hP 0 rfl rfl 0 (by decide) lk1 (fun _ h9 => h9) rfl dX1_common_14 ?_
        refine lv_iload_n hx hb dX1_common_17 rfl (lv_at hl 2 rfl) ?_
        refine n_iald hx hb hK hP 1 rfl (by omega) (by first | decide | omega) dX1_common_18 ?_
        refine lv_iand hx hb dX1_common_19 ?_
        refine lv_istore_n (lv' := [(1, .int (x &&& (nI (g i)))), (0, .ref h0), (2, .int (nI i))]) hx hb dX1_common_20 rfl hl (by decide) rfl (fun ls hl => ?_)
        refine n_iinc (lv' := [(2, .int (nI (i + 1))), (1, .int (x &&& (nI (g i)))), (0, .ref h0)]) (k := 2) 1 hx hb dX1_common_21 hl rfl (by decide) (by decide) rfl (fun ls hl => ?_)
        refine lv_goto (tgt := 4) hx hb dX1_common_24 (by decide) ?_
        exact ih4 ((x &&& (nI (g i)))) (i + 1) (by omega) (by omega) (by rw [ex]; rfl)  _ (lv_sub hl [2, 1, 0] rfl)
  exact L4 _ ((-1)) (0) (Nat.lt_succ_self _) (by omega) (by rfl)  _ (lv_sub hl [2, 1, 0] rfl)
set_option maxHeartbeats 4000000 in
set_option maxRecDepth 100000 in
theorem m_X1_union (l : Launch) (G : va_G) (k : Nat → ClassId) (h0 ra n : Nat) (g : Nat → Nat) (v2 : Value) (hn : n ≤ 2048) : Met l yX1_union wsX1_union ({ frames := 0, cells := 0, slots := 0, locals := 0 } : Room) (va_Pc [.ref h0] (Wd G k [(h0, .inr (1, [.ref ra, .int (nI n), v2])), (ra, .inl (k 0, 2048, .inl (nA g)))])) (vp_Si (fun rX => rX = (nI (uniN g n)))) 0 0 (fun _ => False) := by
  refine met_mk (cc := cX1_union) (maxL := 3) (ret := (some .int)) (by decide) rfl rfl ?_
  intro pX eX sX mX bX meX cX S hr hlk hnm hB ls hl
  obtain ⟨hP, hK, hN⟩ := hB
  obtain ⟨hx, hb, hml, hown, hts⟩ := id S
  have hown : sX.vm.findClass RX1 = some mX.cls := hown
  have hl : lv_has ls 3 [(0, .ref h0)] := hl
  have lk0 : (Cond.fieldLink RX1 15 "FeatureAnalyzer$ConfigurationRow" "size" "I").before _ sX = true := hts _ (List.mem_cons_of_mem _ (List.mem_append_left _ (List.mem_of_getElem? (i := 0) rfl)))
  have inX1 : ∀ w ∈ wsX10, w ∈ wsX1_union := fun w h => List.mem_cons_of_mem _ (List.mem_append_right _ (h))
  have lk1 : (Cond.fieldLink RX1 9 "FeatureAnalyzer$ConfigurationRow" "members" "[I").before _ sX = true := hts _ (List.mem_cons_of_mem _ (List.mem_append_left _ (List.mem_of_getElem? (i := 1) rfl)))
  refine n_iconst 0 (by decide) hx hb dX1_union_0 ?_
  refine lv_istore_n (lv' := [(1, .int (nI 0)), (0, .ref h0)]) hx hb dX1_union_1 rfl hl (by decide) rfl (fun ls hl => ?_)
  refine n_iconst 0 (by decide) hx hb dX1_union_2 ?_
  refine lv_istore_n (lv' := [(2, .int (nI 0)), (1, .int (nI 0)), (0, .ref h0)]) hx hb dX1_union_3 rfl hl (by decide) rfl (fun ls hl => ?_)
  have L4 : ∀ (NN : Nat) (x : Nat) (i : Nat), (n - i) < NN → (i ≤ n) → (x = uniN g i) → ∀ ls : Array Slot, lv_has ls 3 [(0, .ref h0), (1, .int (nI x)), (2, .int (nI i))] → W pX l eX ({ frames := 0, cells := 0, slots := 0, locals := 0 } : Room) sX mX ([.ref h0] : List Value).toArray bX meX cX sX.heap [] 0 0 (MQ bX (vp_Si (fun rX => rX = (nI (uniN g n)))) ([.ref h0] : List Value).toArray sX 0 0 (fun _ => False)) (F0 mX 4 ls []) := by
    intro NN
    induction NN with
    | zero => intro x i hm9; exact absurd hm9 (Nat.not_lt_zero _)
    | succ NN ih4 =>
      intro x i hm9 hi ex ls hl
      refine lv_iload_n hx hb dX1_union_4 rfl (lv_at hl 2 rfl) ?_
      refine lv_aload_n hx hb dX1_union_5 rfl (lv_at hl 0 rfl) ?_
      refine va_get (D := G) (ci := 1) (v := .int (nI n)) (C := RX1) (T := TX1) (N := 3) hx hb hts inX1 hown hK hP 0 rfl rfl 1 (by decide) lk0 (fun _ h9 => h9) rfl dX1_union_6 ?_
      refine n_icmp_ge (tgt := 27) (by omega) (by omega) hx hb dX1_union_9 (by decide) (fun q9 => ?_) (fun q9 => ?_)
      · skip
        refine lv_iload_n hx hb dX1_union_27 rfl (lv_at hl 1 rfl) ?_
        exact e_pure hx hb hr hlk (by rw [ex, show i = n by omega]) dX1_union_28
      · skip
        refine lv_iload_n hx hb dX1_union_12 rfl (lv_at hl 1 rfl) ?_
        refine lv_aload_n hx hb dX1_union_13 rfl (lv_at hl 0 rfl) ?_
        refine va_get (D := G) (ci := 1) (v := .ref ra) (C := RX1) (T := TX1) (N := 3) hx hb hts inX1 hown hK hP 0 rfl rfl 0 (by decide) lk1 (fun _ h9 => h9) rfl dX1_union_14 ?_
        refine lv_iload_n hx hb dX1_union_17 rfl (lv_at hl 2 rfl) ?_
        refine n_iald hx hb hK hP 1 rfl (by omega) (by first | decide | omega) dX1_union_18 ?_
        refine n_ior hx hb dX1_union_19 ?_
        refine lv_istore_n (lv' := [(1, .int (nI (x ||| (g i)))), (0, .ref h0), (2, .int (nI i))]) hx hb dX1_union_20 rfl hl (by decide) rfl (fun ls hl => ?_)
        refine n_iinc (lv' := [(2, .int (nI (i + 1))), (1, .int (nI (x ||| (g i)))), (0, .ref h0)]) (k := 2) 1 hx hb dX1_union_21 hl rfl (by decide) (by decide) rfl (fun ls hl => ?_)
        refine lv_goto (tgt := 4) hx hb dX1_union_24 (by decide) ?_
        exact ih4 (x ||| (g i)) (i + 1) (by omega) (by omega) (by rw [ex]; rfl)  _ (lv_sub hl [2, 1, 0] rfl)
  exact L4 _ (0) (0) (Nat.lt_succ_self _) (by omega) (by rfl)  _ (lv_sub hl [2, 1, 0] rfl)
theorem hdN_X6_has : yX6_has.cls ≠ "java/lang/invoke/MethodHandle" ∧ yX6_has.cls ≠ "java/lang/invoke/VarHandle" ∧ (parseMethodDescriptor yX6_has.desc).map (fun d => d.parameters.length) = some 2 := by decide +kernel
set_option maxHeartbeats 4000000 in
set_option maxRecDepth 100000 in
theorem m_X1_countWith (l : Launch) (G : va_G) (k : Nat → ClassId) (h0 ra n f : Nat) (g : Nat → Nat) (v2 : Value) (hn : n ≤ 2048) (hf : f < 32) (hg : ∀ i, i < n → g i < 4096) : Met l yX1_countWith wsX1_countWith ({ frames := 1, cells := 0, slots := 0, locals := 21 } : Room) (va_Pc [.ref h0, .int (nI f)] (Wd G k [(h0, .inr (1, [.ref ra, .int (nI n), v2])), (ra, .inl (k 0, 2048, .inl (nA g)))])) (vp_Si (fun rX => rX = (nI (fb_ct (fun i => (g i).testBit f) n)))) 0 0 (fun _ => False) := by
  refine met_mk (cc := cX1_countWith) (maxL := 4) (ret := (some .int)) (by decide) rfl rfl ?_
  intro pX eX sX mX bX meX cX S hr hlk hnm hB ls hl
  obtain ⟨hP, hK, hN⟩ := hB
  obtain ⟨hx, hb, hml, hown, hts⟩ := id S
  have hown : sX.vm.findClass RX1 = some mX.cls := hown
  have hl : lv_has ls 4 [(0, .ref h0), (1, .int (nI f))] := hl
  have lk0 : (Cond.fieldLink RX1 15 "FeatureAnalyzer$ConfigurationRow" "size" "I").before _ sX = true := hts _ (List.mem_cons_of_mem _ (List.mem_append_left _ (List.mem_of_getElem? (i := 0) rfl)))
  have inX1 : ∀ w ∈ wsX10, w ∈ wsX1_countWith := fun w h => List.mem_cons_of_mem _ (List.mem_append_right _ (h))
  have lk1 : (Cond.fieldLink RX1 9 "FeatureAnalyzer$ConfigurationRow" "members" "[I").before _ sX = true := hts _ (List.mem_cons_of_mem _ (List.mem_append_left _ (List.mem_of_getElem? (i := 1) rfl)))
  refine n_iconst 0 (by decide) hx hb dX1_countWith_0 ?_
  refine lv_istore_n (lv' := [(2, .int (nI 0)), (0, .ref h0), (1, .int (nI f))]) hx hb dX1_countWith_1 rfl hl (by decide) rfl (fun ls hl => ?_)
  refine n_iconst 0 (by decide) hx hb dX1_countWith_2 ?_
  refine lv_istore_n (lv' := [(3, .int (nI 0)), (2, .int (nI 0)), (0, .ref h0), (1, .int (nI f))]) hx hb dX1_countWith_3 rfl hl (by decide) rfl (fun ls hl => ?_)
  have L4 : ∀ (NN : Nat) (x : Nat) (i : Nat), (n - i) < NN → (i ≤ n) → (x = fb_ct (fun i => (g i).testBit f) i) → ∀ ls : Array Slot, lv_has ls 4 [(0, .ref h0), (1, .int (nI f)), (2, .int (nI x)), (3, .int (nI i))] → W pX l eX ({ frames := 1, cells := 0, slots := 0, locals := 21 } : Room) sX mX ([.ref h0, .int (nI f)] : List Value).toArray bX meX cX sX.heap [] 0 0 (MQ bX (vp_Si (fun rX => rX = (nI (fb_ct (fun i => (g i).testBit f) n)))) ([.ref h0, .int (nI f)] : List Value).toArray sX 0 0 (fun _ => False)) (F0 mX 4 ls []) := by
    intro NN
    induction NN with
    | zero => intro x i hm9; exact absurd hm9 (Nat.not_lt_zero _)
    | succ NN ih4 =>
      intro x i hm9 hi ex ls hl
      refine lv_iload_n hx hb dX1_countWith_4 rfl (lv_at hl 3 rfl) ?_
      refine lv_aload_n hx hb dX1_countWith_5 rfl (lv_at hl 0 rfl) ?_
      refine va_get (D := G) (ci := 1) (v := .int (nI n)) (C := RX1) (T := TX1) (N := 3) hx hb hts inX1 hown hK hP 0 rfl rfl 1 (by decide) lk0 (fun _ h9 => h9) rfl dX1_countWith_6 ?_
      refine n_icmp_ge (tgt := 34) (by omega) (by omega) hx hb dX1_countWith_9 (by decide) (fun q9 => ?_) (fun q9 => ?_)
      · skip
        refine lv_iload_n hx hb dX1_countWith_34 rfl (lv_at hl 2 rfl) ?_
        exact e_pure hx hb hr hlk (by rw [ex, show i = n by omega]) dX1_countWith_35
      · skip
        have hgi := hg i (by omega)
        refine lv_aload_n hx hb dX1_countWith_12 rfl (lv_at hl 0 rfl) ?_
        refine va_get (D := G) (ci := 1) (v := .ref ra) (C := RX1) (T := TX1) (N := 3) hx hb hts inX1 hown hK hP 0 rfl rfl 0 (by decide) lk1 (fun _ h9 => h9) rfl dX1_countWith_13 ?_
        refine lv_iload_n hx hb dX1_countWith_16 rfl (lv_at hl 3 rfl) ?_
        refine n_iald hx hb hK hP 1 rfl (by omega) (by first | decide | omega) dX1_countWith_17 ?_
        refine lv_iload_n hx hb dX1_countWith_18 rfl (lv_at hl 1 rfl) ?_
        refine cN_i (As := [.int (nI (g i)), .int (nI f)]) S hP hK hN (m_X6_has l G k _ _ (by omega) (by omega)) gX1_countWith_X6_has_n23 (hN.at 1 rfl) (List.mem_cons_of_mem _ (List.mem_append_left _ (List.mem_of_getElem? (i := 3) rfl))) (List.mem_cons_of_mem _ (List.mem_append_left _ (List.mem_of_getElem? (i := 2) rfl))) rfl rfl rfl hdN_X6_has rfl rfl [] rfl rfl hl.1 rfl rfl ⟨Nat.le_of_ble_eq_true rfl, Nat.le_of_ble_eq_true rfl⟩ dX1_countWith_19 (fun rX hr1 => ?_)
        subst hr1
        refine b_if_eq (tgt := 28) hx hb dX1_countWith_22 (by decide) (fun q22 => ?_) (fun q22 => ?_)
        · skip
          refine n_iinc (lv' := [(3, .int (nI (i + 1))), (0, .ref h0), (1, .int (nI f)), (2, .int (nI x))]) (k := 3) 1 hx hb dX1_countWith_28 hl rfl (by decide) (by decide) rfl (fun ls hl => ?_)
          refine lv_goto (tgt := 4) hx hb dX1_countWith_31 (by decide) ?_
          exact ih4 (x) (i + 1) (by omega) (by omega) (by rw [fb_ct_succ, ex]; simp [*])  _ (lv_sub hl [1, 2, 3, 0] rfl)
        · skip
          refine n_iinc (lv' := [(2, .int (nI (x + 1))), (0, .ref h0), (1, .int (nI f)), (3, .int (nI i))]) (k := 2) 1 hx hb dX1_countWith_25 hl rfl (by decide) (by decide) rfl (fun ls hl => ?_)
          refine n_iinc (lv' := [(3, .int (nI (i + 1))), (2, .int (nI (x + 1))), (0, .ref h0), (1, .int (nI f))]) (k := 3) 1 hx hb dX1_countWith_28 hl rfl (by decide) (by decide) rfl (fun ls hl => ?_)
          refine lv_goto (tgt := 4) hx hb dX1_countWith_31 (by decide) ?_
          exact ih4 (x + 1) (i + 1) (by omega) (by omega) (by rw [fb_ct_succ, ex]; simp [*])  _ (lv_sub hl [2, 3, 1, 0] rfl)
  exact L4 _ (0) (0) (Nat.lt_succ_self _) (by omega) (by rfl)  _ (lv_sub hl [2, 3, 1, 0] rfl)
set_option maxHeartbeats 4000000 in
set_option maxRecDepth 100000 in
theorem m_X3_count (l : Launch) (G : va_G) (k : Nat → ClassId) (h0 n : Nat) (v1 v2 v3 v4 v5 v6 : Value)  : Met l yX3_count wsX3_count ({ frames := 0, cells := 0, slots := 0, locals := 0 } : Room) (va_Pc [.ref h0] (Wd G k [(h0, .inr (3, [.int (nI n), v1, v2, v3, v4, v5, v6]))])) (vp_Si (fun rX => rX = (nI n))) 0 0 (fun _ => False) := by
  refine met_mk (cc := cX3_count) (maxL := 1) (ret := (some .int)) (by decide) rfl rfl ?_
  intro pX eX sX mX bX meX cX S hr hlk hnm hB ls hl
  obtain ⟨hP, hK, hN⟩ := hB
  obtain ⟨hx, hb, hml, hown, hts⟩ := id S
  have hown : sX.vm.findClass RX3 = some mX.cls := hown
  have hl : lv_has ls 1 [(0, .ref h0)] := hl
  have lk0 : (Cond.fieldLink RX3 9 "FeatureAnalyzer$Features" "count" "I").before _ sX = true := hts _ (List.mem_cons_of_mem _ (List.mem_append_left _ (List.mem_of_getElem? (i := 0) rfl)))
  have inX3 : ∀ w ∈ wsX30, w ∈ wsX3_count := fun w h => List.mem_cons_of_mem _ (List.mem_append_right _ (h))
  refine lv_aload_n hx hb dX3_count_0 rfl (lv_at hl 0 rfl) ?_
  refine va_get (D := G) (ci := 3) (v := .int (nI n)) (C := RX3) (T := TX3) (N := 7) hx hb hts inX3 hown hK hP 0 rfl rfl 0 (by decide) lk0 (fun _ h9 => h9) rfl dX3_count_1 ?_
  exact e_pure hx hb hr hlk (by rfl) dX3_count_4
set_option maxHeartbeats 4000000 in
set_option maxRecDepth 100000 in
theorem m_X3_all (l : Launch) (G : va_G) (k : Nat → ClassId) (h0 n : Nat) (v1 v2 v3 v4 v5 v6 : Value) (hn : n ≤ 12) : Met l yX3_all wsX3_all ({ frames := 0, cells := 0, slots := 0, locals := 0 } : Room) (va_Pc [.ref h0] (Wd G k [(h0, .inr (3, [.int (nI n), v1, v2, v3, v4, v5, v6]))])) (vp_Si (fun rX => rX = (nI (2 ^ n - 1)))) 0 0 (fun _ => False) := by
  refine met_mk (cc := cX3_all) (maxL := 1) (ret := (some .int)) (by decide) rfl rfl ?_
  intro pX eX sX mX bX meX cX S hr hlk hnm hB ls hl
  obtain ⟨hP, hK, hN⟩ := hB
  obtain ⟨hx, hb, hml, hown, hts⟩ := id S
  have hown : sX.vm.findClass RX3 = some mX.cls := hown
  have hl : lv_has ls 1 [(0, .ref h0)] := hl
  have lk0 : (Cond.fieldLink RX3 9 "FeatureAnalyzer$Features" "count" "I").before _ sX = true := hts _ (List.mem_cons_of_mem _ (List.mem_append_left _ (List.mem_of_getElem? (i := 0) rfl)))
  have inX3 : ∀ w ∈ wsX30, w ∈ wsX3_all := fun w h => List.mem_cons_of_mem _ (List.mem_append_right _ (h))
  refine n_iconst 1 (by decide) hx hb dX3_all_0 ?_
  refine lv_aload_n hx hb dX3_all_1 rfl (lv_at hl 0 rfl) ?_
  refine va_get (D := G) (ci := 3) (v := .int (nI n)) (C := RX3) (T := TX3) (N := 7) hx hb hts inX3 hown hK hP 0 rfl rfl 0 (by decide) lk0 (fun _ h9 => h9) rfl dX3_all_2 ?_
  refine n_ishl1 (by omega) hx hb dX3_all_5 ?_
  refine n_iconst 1 (by decide) hx hb dX3_all_6 ?_
  refine n_isub (by exact Nat.one_le_two_pow) hx hb dX3_all_7 ?_
  exact e_pure hx hb hr hlk (by rfl) dX3_all_8
set_option maxHeartbeats 4000000 in
set_option maxRecDepth 100000 in
theorem m_X3_sumOver (l : Launch) (G : va_G) (k : Nat → ClassId) (h0 n c ra : Nat) (g : Nat → Nat) (v1 v2 v3 v4 v5 v6 : Value) (hn : n ≤ 12) (hc : c < 4096) : Met l yX3_sumOver wsX3_sumOver ({ frames := 1, cells := 0, slots := 0, locals := 21 } : Room) (va_Pc [.ref h0, .int (nI c), .ref ra] (Wd G k [(h0, .inr (3, [.int (nI n), v1, v2, v3, v4, v5, v6])), (ra, .inl (k 0, 12, .inl (nA g)))])) (vp_Si (fun rX => rX = (nI (sumN g c n)))) 0 0 (fun _ => False) := by
  refine met_mk (cc := cX3_sumOver) (maxL := 5) (ret := (some .int)) (by decide) rfl rfl ?_
  intro pX eX sX mX bX meX cX S hr hlk hnm hB ls hl
  obtain ⟨hP, hK, hN⟩ := hB
  obtain ⟨hx, hb, hml, hown, hts⟩ := id S
  have hown : sX.vm.findClass RX3 = some mX.cls := hown
  have hl : lv_has ls 5 [(0, .ref h0), (1, .int (nI c)), (2, .ref ra)] := hl
  have lk0 : (Cond.fieldLink RX3 9 "FeatureAnalyzer$Features" "count" "I").before _ sX = true := hts _ (List.mem_cons_of_mem _ (List.mem_append_left _ (List.mem_of_getElem? (i := 0) rfl)))
  have inX3 : ∀ w ∈ wsX30, w ∈ wsX3_sumOver := fun w h => List.mem_cons_of_mem _ (List.mem_append_right _ (h))
  refine n_iconst 0 (by decide) hx hb dX3_sumOver_0 ?_
  refine lv_istore_n (lv' := [(3, .int (nI 0)), (0, .ref h0), (1, .int (nI c)), (2, .ref ra)]) hx hb dX3_sumOver_1 rfl hl (by decide) rfl (fun ls hl => ?_)
  refine n_iconst 0 (by decide) hx hb dX3_sumOver_2 ?_
  refine lv_istore (lv' := [(4, .int (nI 0)), (3, .int (nI 0)), (0, .ref h0), (1, .int (nI c)), (2, .ref ra)]) hx hb dX3_sumOver_3 hl (by decide) rfl (fun ls hl => ?_)
  have L5 : ∀ (NN : Nat) (x : Nat) (i : Nat), (n - i) < NN → (i ≤ n) → (x = sumN g c i) → ∀ ls : Array Slot, lv_has ls 5 [(0, .ref h0), (1, .int (nI c)), (2, .ref ra), (3, .int (nI x)), (4, .int (nI i))] → W pX l eX ({ frames := 1, cells := 0, slots := 0, locals := 21 } : Room) sX mX ([.ref h0, .int (nI c), .ref ra] : List Value).toArray bX meX cX sX.heap [] 0 0 (MQ bX (vp_Si (fun rX => rX = (nI (sumN g c n)))) ([.ref h0, .int (nI c), .ref ra] : List Value).toArray sX 0 0 (fun _ => False)) (F0 mX 5 ls []) := by
    intro NN
    induction NN with
    | zero => intro x i hm9; exact absurd hm9 (Nat.not_lt_zero _)
    | succ NN ih5 =>
      intro x i hm9 hi ex ls hl
      refine lv_iload hx hb dX3_sumOver_5 (lv_at hl 4 rfl) ?_
      refine lv_aload_n hx hb dX3_sumOver_7 rfl (lv_at hl 0 rfl) ?_
      refine va_get (D := G) (ci := 3) (v := .int (nI n)) (C := RX3) (T := TX3) (N := 7) hx hb hts inX3 hown hK hP 0 rfl rfl 0 (by decide) lk0 (fun _ h9 => h9) rfl dX3_sumOver_8 ?_
      refine n_icmp_ge (tgt := 36) (by omega) (by omega) hx hb dX3_sumOver_11 (by decide) (fun q11 => ?_) (fun q11 => ?_)
      · skip
        refine lv_iload_n hx hb dX3_sumOver_36 rfl (lv_at hl 3 rfl) ?_
        exact e_pure hx hb hr hlk (by rw [ex, show i = n by omega]) dX3_sumOver_37
      · skip
        refine lv_iload_n hx hb dX3_sumOver_14 rfl (lv_at hl 1 rfl) ?_
        refine lv_iload hx hb dX3_sumOver_15 (lv_at hl 4 rfl) ?_
        refine cN_i (As := [.int (nI c), .int (nI i)]) S hP hK hN (m_X6_has l G k _ _ (by omega) (by omega)) gX3_sumOver_X6_has_n40 (hN.at 3 rfl) (List.mem_cons_of_mem _ (List.mem_append_left _ (List.mem_of_getElem? (i := 2) rfl))) (List.mem_cons_of_mem _ (List.mem_append_left _ (List.mem_of_getElem? (i := 1) rfl))) rfl rfl rfl hdN_X6_has rfl rfl [] rfl rfl hl.1 rfl rfl ⟨Nat.le_of_ble_eq_true rfl, Nat.le_of_ble_eq_true rfl⟩ dX3_sumOver_17 (fun rX hr1 => ?_)
        subst hr1
        refine b_if_eq (tgt := 30) hx hb dX3_sumOver_20 (by decide) (fun q20 => ?_) (fun q20 => ?_)
        · skip
          refine n_iinc (lv' := [(4, .int (nI (i + 1))), (0, .ref h0), (1, .int (nI c)), (2, .ref ra), (3, .int (nI x))]) (k := 4) 1 hx hb dX3_sumOver_30 hl rfl (by decide) (by decide) rfl (fun ls hl => ?_)
          refine lv_goto (tgt := 5) hx hb dX3_sumOver_33 (by decide) ?_
          exact ih5 (x) (i + 1) (by omega) (by omega) (by rw [sumN_succ, ex]; simp [*])  _ (lv_sub hl [1, 2, 3, 4, 0] rfl)
        · skip
          refine lv_iload_n hx hb dX3_sumOver_23 rfl (lv_at hl 3 rfl) ?_
          refine lv_aload_n hx hb dX3_sumOver_24 rfl (lv_at hl 2 rfl) ?_
          refine lv_iload hx hb dX3_sumOver_25 (lv_at hl 4 rfl) ?_
          refine n_iald hx hb hK hP 1 rfl (by omega) (by first | decide | omega) dX3_sumOver_27 ?_
          refine n_iadd hx hb dX3_sumOver_28 ?_
          refine lv_istore_n (lv' := [(3, .int (nI (x + (g i)))), (0, .ref h0), (1, .int (nI c)), (2, .ref ra), (4, .int (nI i))]) hx hb dX3_sumOver_29 rfl hl (by decide) rfl (fun ls hl => ?_)
          refine n_iinc (lv' := [(4, .int (nI (i + 1))), (3, .int (nI (x + (g i)))), (0, .ref h0), (1, .int (nI c)), (2, .ref ra)]) (k := 4) 1 hx hb dX3_sumOver_30 hl rfl (by decide) (by decide) rfl (fun ls hl => ?_)
          refine lv_goto (tgt := 5) hx hb dX3_sumOver_33 (by decide) ?_
          exact ih5 (x + (g i)) (i + 1) (by omega) (by omega) (by rw [sumN_succ, ex]; simp [*])  _ (lv_sub hl [2, 3, 4, 1, 0] rfl)
  exact L5 _ (0) (0) (Nat.lt_succ_self _) (by omega) (by rfl)  _ (lv_sub hl [2, 3, 4, 1, 0] rfl)
theorem hdV_X3_sumOver : yX3_sumOver.cls = RX3 ∧ yX3_sumOver.cls ≠ "java/lang/invoke/MethodHandle" ∧ yX3_sumOver.cls ≠ "java/lang/invoke/VarHandle" ∧ (parseMethodDescriptor yX3_sumOver.desc).map (fun d => d.parameters.length) = some 2 := by decide +kernel
set_option maxHeartbeats 4000000 in
set_option maxRecDepth 100000 in
theorem m_X3_costSum (l : Launch) (G : va_G) (k : Nat → ClassId) (h0 n c ra : Nat) (g : Nat → Nat) (v1 v2 v4 v5 v6 : Value) (hn : n ≤ 12) (hc : c < 4096) : Met l yX3_costSum wsX3_costSum ({ frames := 2, cells := 0, slots := 0, locals := 45 } : Room) (va_Pc [.ref h0, .int (nI c)] (Wd G k [(h0, .inr (3, [.int (nI n), v1, v2, .ref ra, v4, v5, v6])), (ra, .inl (k 0, 12, .inl (nA g)))])) (vp_Si (fun rX => rX = (nI (sumN g c n)))) 0 0 (fun _ => False) := by
  refine met_mk (cc := cX3_costSum) (maxL := 2) (ret := (some .int)) (by decide) rfl rfl ?_
  intro pX eX sX mX bX meX cX S hr hlk hnm hB ls hl
  obtain ⟨hP, hK, hN⟩ := hB
  obtain ⟨hx, hb, hml, hown, hts⟩ := id S
  have hown : sX.vm.findClass RX3 = some mX.cls := hown
  have hl : lv_has ls 2 [(0, .ref h0), (1, .int (nI c))] := hl
  have lk0 : (Cond.fieldLink RX3 22 "FeatureAnalyzer$Features" "costs" "[I").before _ sX = true := hts _ (List.mem_cons_of_mem _ (List.mem_append_left _ (List.mem_of_getElem? (i := 0) rfl)))
  have inX3 : ∀ w ∈ wsX30, w ∈ wsX3_costSum := fun w h => List.mem_cons_of_mem _ (List.mem_append_right _ (h))
  refine lv_aload_n hx hb dX3_costSum_0 rfl (lv_at hl 0 rfl) ?_
  refine lv_iload_n hx hb dX3_costSum_1 rfl (lv_at hl 1 rfl) ?_
  refine lv_aload_n hx hb dX3_costSum_2 rfl (lv_at hl 0 rfl) ?_
  refine va_get (D := G) (ci := 3) (v := .ref ra) (C := RX3) (T := TX3) (N := 7) hx hb hts inX3 hown hK hP 0 rfl rfl 3 (by decide) lk0 (fun _ h9 => h9) rfl dX3_costSum_3 ?_
  refine cV_i (As := [.int (nI c), .ref ra]) S hP hK hN (m_X3_sumOver l G k _ _ _ _ _ _ _ _ _ _ _ (by omega) (by omega)) gX3_costSum_X3_sumOver rfl rfl rfl hdV_X3_sumOver rfl rfl [0, 1] rfl 3 0 rfl rfl rfl rfl hl.1 rfl rfl ⟨Nat.le_of_ble_eq_true rfl, Nat.le_of_ble_eq_true rfl⟩ dX3_costSum_6 (fun rX hr1 => ?_)
  subst hr1
  exact e_pure hx hb hr hlk (by rfl) dX3_costSum_9
theorem hdS_J6_bitCount_0f7a4 : yJ6_bitCount_0f7a4.cls ≠ "java/lang/invoke/MethodHandle" ∧ yJ6_bitCount_0f7a4.cls ≠ "java/lang/invoke/VarHandle" ∧ (parseMethodDescriptor yJ6_bitCount_0f7a4.desc).map (fun d => d.parameters.length) = some 1 := by decide +kernel
set_option maxHeartbeats 4000000 in
set_option maxRecDepth 100000 in
theorem m_X3_countBrokenBelow (l : Launch) (G : va_G) (k : Nat → ClassId) (h0 n a6 c0 c1 c2 c3 f c : Nat) (g0 g2 g3 : Nat → Nat) (v1 v2 v3 v4 v5 : Value) (hf : f < 12) (hc : c < 4096) (h0b : g0 f < 4096) (h2b : g2 f < 4096) (h3b : g3 f < 4096) : Met l yX3_countBrokenBelow wsX3_countBrokenBelow ({ frames := 1, cells := 0, slots := 0, locals := 20 } : Room) (va_Pc [.ref h0, .int (nI f), .int (nI c)] (Wd G k [(h0, .inr (3, [.int (nI n), v1, v2, v3, v4, v5, .ref a6])), (a6, .inl (k 2, 4, .inr (.inr (.inr (.inr (q4 c0 c1 c2 c3)))))), (c0, .inl (k 0, 12, .inl (nA g0))), (c2, .inl (k 0, 12, .inl (nA g2))), (c3, .inl (k 0, 12, .inl (nA g3)))])) (vp_Si (fun rX => rX = (nI (belowN (g0 f) (g2 f) (g3 f) c)))) 0 0 (fun _ => False) := by
  refine met_mk (cc := cX3_countBrokenBelow) (maxL := 6) (ret := (some .int)) (by decide) rfl rfl ?_
  intro pX eX sX mX bX meX cX S hr hlk hnm hB ls hl
  obtain ⟨hP, hK, hN⟩ := hB
  obtain ⟨hx, hb, hml, hown, hts⟩ := id S
  have hown : sX.vm.findClass RX3 = some mX.cls := hown
  have hl : lv_has ls 6 [(0, .ref h0), (1, .int (nI f)), (2, .int (nI c))] := hl
  have lk0 : (Cond.fieldLink RX3 33 "FeatureAnalyzer$Features" "children" "[[I").before _ sX = true := hts _ (List.mem_cons_of_mem _ (List.mem_append_left _ (List.mem_of_getElem? (i := 0) rfl)))
  have inX3 : ∀ w ∈ wsX30, w ∈ wsX3_countBrokenBelow := fun w h => List.mem_cons_of_mem _ (List.mem_append_right _ (h))
  refine lv_aload_n hx hb dX3_countBrokenBelow_0 rfl (lv_at hl 0 rfl) ?_
  refine va_get (D := G) (ci := 3) (v := .ref a6) (C := RX3) (T := TX3) (N := 7) hx hb hts inX3 hown hK hP 0 rfl rfl 6 (by decide) lk0 (fun _ h9 => h9) rfl dX3_countBrokenBelow_1 ?_
  refine n_iconst 0 (by decide) hx hb dX3_countBrokenBelow_4 ?_
  refine q_aald (r := c0) hx hb hK hP 1 rfl (by omega) (by first | decide | omega) rfl dX3_countBrokenBelow_5 ?_
  refine lv_iload_n hx hb dX3_countBrokenBelow_6 rfl (lv_at hl 1 rfl) ?_
  refine n_iald hx hb hK hP 2 rfl (by omega) (by first | decide | omega) dX3_countBrokenBelow_7 ?_
  refine lv_iload_n hx hb dX3_countBrokenBelow_8 rfl (lv_at hl 2 rfl) ?_
  refine lv_iconst (v := -1) hx hb dX3_countBrokenBelow_9 (by decide) ?_
  refine lv_ixor hx hb dX3_countBrokenBelow_10 ?_
  refine n_iandC hx hb dX3_countBrokenBelow_11 ?_
  refine cS_i (As := [.int (nI (andn (g0 f) c))]) S hP hK hN (m_J6_bitCount l G k _ (by exact Nat.lt_trans (andn_lt _ h0b) (by decide))) gX3_countBrokenBelow_J6_bitCount_0f7a4 rfl rfl rfl hdS_J6_bitCount_0f7a4 rfl rfl [] rfl rfl hl.1 rfl rfl ⟨Nat.le_of_ble_eq_true rfl, Nat.le_of_ble_eq_true rfl⟩ dX3_countBrokenBelow_12 (fun rX hr1 => ?_)
  subst hr1
  refine lv_istore_n (lv' := [(3, .int (nI (popc (andn (g0 f) c)))), (0, .ref h0), (1, .int (nI f)), (2, .int (nI c))]) hx hb dX3_countBrokenBelow_15 rfl hl (by decide) rfl (fun ls hl => ?_)
  refine lv_aload_n hx hb dX3_countBrokenBelow_16 rfl (lv_at hl 1 rfl) ?_
  refine va_get (D := G) (ci := 3) (v := .ref a6) (C := RX3) (T := TX3) (N := 7) hx hb hts inX3 hown hK hP 0 rfl rfl 6 (by decide) lk0 (fun _ h9 => h9) rfl dX3_countBrokenBelow_17 ?_
  refine n_iconst 2 (by decide) hx hb dX3_countBrokenBelow_20 ?_
  refine q_aald (r := c2) hx hb hK hP 1 rfl (by omega) (by first | decide | omega) rfl dX3_countBrokenBelow_21 ?_
  refine lv_iload_n hx hb dX3_countBrokenBelow_22 rfl (lv_at hl 2 rfl) ?_
  refine n_iald hx hb hK hP 3 rfl (by omega) (by first | decide | omega) dX3_countBrokenBelow_23 ?_
  refine lv_istore (lv' := [(4, .int (nI (g2 f))), (3, .int (nI (popc (andn (g0 f) c)))), (0, .ref h0), (1, .int (nI f)), (2, .int (nI c))]) hx hb dX3_countBrokenBelow_24 hl (by decide) rfl (fun ls hl => ?_)
  refine lv_iload hx hb dX3_countBrokenBelow_26 (lv_at hl 0 rfl) ?_
  refine n_if_eq (tgt := 45) (by omega) hx hb dX3_countBrokenBelow_28 (by decide) (fun q28 => ?_) (fun q28 => ?_)
  · skip
    refine lv_aload_n hx hb dX3_countBrokenBelow_45 rfl (lv_at hl 2 rfl) ?_
    refine va_get (D := G) (ci := 3) (v := .ref a6) (C := RX3) (T := TX3) (N := 7) hx hb hts inX3 hown hK hP 0 rfl rfl 6 (by decide) lk0 (fun _ h9 => h9) rfl dX3_countBrokenBelow_46 ?_
    refine n_iconst 3 (by decide) hx hb dX3_countBrokenBelow_49 ?_
    refine q_aald (r := c3) hx hb hK hP 1 rfl (by omega) (by first | decide | omega) rfl dX3_countBrokenBelow_50 ?_
    refine lv_iload_n hx hb dX3_countBrokenBelow_51 rfl (lv_at hl 3 rfl) ?_
    refine n_iald hx hb hK hP 4 rfl (by omega) (by first | decide | omega) dX3_countBrokenBelow_52 ?_
    refine lv_istore (lv' := [(5, .int (nI (g3 f))), (4, .int (nI (g2 f))), (3, .int (nI (popc (andn (g0 f) c)))), (0, .ref h0), (1, .int (nI f)), (2, .int (nI c))]) hx hb dX3_countBrokenBelow_53 hl (by decide) rfl (fun ls hl => ?_)
    refine lv_iload hx hb dX3_countBrokenBelow_55 (lv_at hl 0 rfl) ?_
    refine n_if_eq (tgt := 70) (by omega) hx hb dX3_countBrokenBelow_57 (by decide) (fun q57 => ?_) (fun q57 => ?_)
    · skip
      refine lv_iload_n hx hb dX3_countBrokenBelow_70 rfl (lv_at hl 2 rfl) ?_
      exact e_pure hx hb hr hlk (by simp_all [belowN, Nat.pos_iff_ne_zero] <;> omega) dX3_countBrokenBelow_71
    · skip
      refine lv_iload hx hb dX3_countBrokenBelow_60 (lv_at hl 0 rfl) ?_
      refine lv_iload_n hx hb dX3_countBrokenBelow_62 rfl (lv_at hl 5 rfl) ?_
      refine n_iand hx hb dX3_countBrokenBelow_63 ?_
      refine n_if_ne (tgt := 70) (by exact Nat.lt_of_le_of_lt Nat.and_le_left (by omega)) hx hb dX3_countBrokenBelow_64 (by decide) (fun q64 => ?_) (fun q64 => ?_)
      · skip
        refine lv_iload_n hx hb dX3_countBrokenBelow_70 rfl (lv_at hl 2 rfl) ?_
        exact e_pure hx hb hr hlk (by simp_all [belowN, Nat.pos_iff_ne_zero] <;> omega) dX3_countBrokenBelow_71
      · skip
        refine n_iinc (lv' := [(3, .int (nI ((popc (andn (g0 f) c)) + 1))), (5, .int (nI (g3 f))), (4, .int (nI (g2 f))), (0, .ref h0), (1, .int (nI f)), (2, .int (nI c))]) (k := 2) 1 hx hb dX3_countBrokenBelow_67 hl rfl (by decide) (by decide) rfl (fun ls hl => ?_)
        refine lv_iload_n hx hb dX3_countBrokenBelow_70 rfl (lv_at hl 0 rfl) ?_
        exact e_pure hx hb hr hlk (by simp_all [belowN, Nat.pos_iff_ne_zero] <;> omega) dX3_countBrokenBelow_71
  · skip
    refine lv_iload hx hb dX3_countBrokenBelow_31 (lv_at hl 0 rfl) ?_
    refine lv_iload_n hx hb dX3_countBrokenBelow_33 rfl (lv_at hl 4 rfl) ?_
    refine n_iand hx hb dX3_countBrokenBelow_34 ?_
    refine cS_i (As := [.int (nI ((g2 f) &&& c))]) S hP hK hN (m_J6_bitCount l G k _ (by exact Nat.lt_of_le_of_lt Nat.and_le_left (by omega))) gX3_countBrokenBelow_J6_bitCount_0f7a4 rfl rfl rfl hdS_J6_bitCount_0f7a4 rfl rfl [] rfl rfl hl.1 rfl rfl ⟨Nat.le_of_ble_eq_true rfl, Nat.le_of_ble_eq_true rfl⟩ dX3_countBrokenBelow_35 (fun rX hr2 => ?_)
    subst hr2
    refine n_iconst 1 (by decide) hx hb dX3_countBrokenBelow_38 ?_
    refine n_icmp_eq (tgt := 45) (by exact popc_lt _) (by decide) hx hb dX3_countBrokenBelow_39 (by decide) (fun q39 => ?_) (fun q39 => ?_)
    · skip
      refine lv_aload_n hx hb dX3_countBrokenBelow_45 rfl (lv_at hl 2 rfl) ?_
      refine va_get (D := G) (ci := 3) (v := .ref a6) (C := RX3) (T := TX3) (N := 7) hx hb hts inX3 hown hK hP 0 rfl rfl 6 (by decide) lk0 (fun _ h9 => h9) rfl dX3_countBrokenBelow_46 ?_
      refine n_iconst 3 (by decide) hx hb dX3_countBrokenBelow_49 ?_
      refine q_aald (r := c3) hx hb hK hP 1 rfl (by omega) (by first | decide | omega) rfl dX3_countBrokenBelow_50 ?_
      refine lv_iload_n hx hb dX3_countBrokenBelow_51 rfl (lv_at hl 3 rfl) ?_
      refine n_iald hx hb hK hP 4 rfl (by omega) (by first | decide | omega) dX3_countBrokenBelow_52 ?_
      refine lv_istore (lv' := [(5, .int (nI (g3 f))), (4, .int (nI (g2 f))), (3, .int (nI (popc (andn (g0 f) c)))), (0, .ref h0), (1, .int (nI f)), (2, .int (nI c))]) hx hb dX3_countBrokenBelow_53 hl (by decide) rfl (fun ls hl => ?_)
      refine lv_iload hx hb dX3_countBrokenBelow_55 (lv_at hl 0 rfl) ?_
      refine n_if_eq (tgt := 70) (by omega) hx hb dX3_countBrokenBelow_57 (by decide) (fun q57 => ?_) (fun q57 => ?_)
      · skip
        refine lv_iload_n hx hb dX3_countBrokenBelow_70 rfl (lv_at hl 2 rfl) ?_
        exact e_pure hx hb hr hlk (by simp_all [belowN, Nat.pos_iff_ne_zero] <;> omega) dX3_countBrokenBelow_71
      · skip
        refine lv_iload hx hb dX3_countBrokenBelow_60 (lv_at hl 0 rfl) ?_
        refine lv_iload_n hx hb dX3_countBrokenBelow_62 rfl (lv_at hl 5 rfl) ?_
        refine n_iand hx hb dX3_countBrokenBelow_63 ?_
        refine n_if_ne (tgt := 70) (by exact Nat.lt_of_le_of_lt Nat.and_le_left (by omega)) hx hb dX3_countBrokenBelow_64 (by decide) (fun q64 => ?_) (fun q64 => ?_)
        · skip
          refine lv_iload_n hx hb dX3_countBrokenBelow_70 rfl (lv_at hl 2 rfl) ?_
          exact e_pure hx hb hr hlk (by simp_all [belowN, Nat.pos_iff_ne_zero] <;> omega) dX3_countBrokenBelow_71
        · skip
          refine n_iinc (lv' := [(3, .int (nI ((popc (andn (g0 f) c)) + 1))), (5, .int (nI (g3 f))), (4, .int (nI (g2 f))), (0, .ref h0), (1, .int (nI f)), (2, .int (nI c))]) (k := 2) 1 hx hb dX3_countBrokenBelow_67 hl rfl (by decide) (by decide) rfl (fun ls hl => ?_)
          refine lv_iload_n hx hb dX3_countBrokenBelow_70 rfl (lv_at hl 0 rfl) ?_
          exact e_pure hx hb hr hlk (by simp_all [belowN, Nat.pos_iff_ne_zero] <;> omega) dX3_countBrokenBelow_71
    · skip
      refine n_iinc (lv' := [(3, .int (nI ((popc (andn (g0 f) c)) + 1))), (4, .int (nI (g2 f))), (0, .ref h0), (1, .int (nI f)), (2, .int (nI c))]) (k := 1) 1 hx hb dX3_countBrokenBelow_42 hl rfl (by decide) (by decide) rfl (fun ls hl => ?_)
      refine lv_aload_n hx hb dX3_countBrokenBelow_45 rfl (lv_at hl 2 rfl) ?_
      refine va_get (D := G) (ci := 3) (v := .ref a6) (C := RX3) (T := TX3) (N := 7) hx hb hts inX3 hown hK hP 0 rfl rfl 6 (by decide) lk0 (fun _ h9 => h9) rfl dX3_countBrokenBelow_46 ?_
      refine n_iconst 3 (by decide) hx hb dX3_countBrokenBelow_49 ?_
      refine q_aald (r := c3) hx hb hK hP 1 rfl (by omega) (by first | decide | omega) rfl dX3_countBrokenBelow_50 ?_
      refine lv_iload_n hx hb dX3_countBrokenBelow_51 rfl (lv_at hl 3 rfl) ?_
      refine n_iald hx hb hK hP 4 rfl (by omega) (by first | decide | omega) dX3_countBrokenBelow_52 ?_
      refine lv_istore (lv' := [(5, .int (nI (g3 f))), (3, .int (nI ((popc (andn (g0 f) c)) + 1))), (4, .int (nI (g2 f))), (0, .ref h0), (1, .int (nI f)), (2, .int (nI c))]) hx hb dX3_countBrokenBelow_53 hl (by decide) rfl (fun ls hl => ?_)
      refine lv_iload hx hb dX3_countBrokenBelow_55 (lv_at hl 0 rfl) ?_
      refine n_if_eq (tgt := 70) (by omega) hx hb dX3_countBrokenBelow_57 (by decide) (fun q57 => ?_) (fun q57 => ?_)
      · skip
        refine lv_iload_n hx hb dX3_countBrokenBelow_70 rfl (lv_at hl 1 rfl) ?_
        exact e_pure hx hb hr hlk (by simp_all [belowN, Nat.pos_iff_ne_zero] <;> omega) dX3_countBrokenBelow_71
      · skip
        refine lv_iload hx hb dX3_countBrokenBelow_60 (lv_at hl 0 rfl) ?_
        refine lv_iload_n hx hb dX3_countBrokenBelow_62 rfl (lv_at hl 5 rfl) ?_
        refine n_iand hx hb dX3_countBrokenBelow_63 ?_
        refine n_if_ne (tgt := 70) (by exact Nat.lt_of_le_of_lt Nat.and_le_left (by omega)) hx hb dX3_countBrokenBelow_64 (by decide) (fun q64 => ?_) (fun q64 => ?_)
        · skip
          refine lv_iload_n hx hb dX3_countBrokenBelow_70 rfl (lv_at hl 1 rfl) ?_
          exact e_pure hx hb hr hlk (by simp_all [belowN, Nat.pos_iff_ne_zero] <;> omega) dX3_countBrokenBelow_71
        · skip
          refine n_iinc (lv' := [(3, .int (nI (((popc (andn (g0 f) c)) + 1) + 1))), (5, .int (nI (g3 f))), (4, .int (nI (g2 f))), (0, .ref h0), (1, .int (nI f)), (2, .int (nI c))]) (k := 1) 1 hx hb dX3_countBrokenBelow_67 hl rfl (by decide) (by decide) rfl (fun ls hl => ?_)
          refine lv_iload_n hx hb dX3_countBrokenBelow_70 rfl (lv_at hl 0 rfl) ?_
          exact e_pure hx hb hr hlk (by simp_all [belowN, Nat.pos_iff_ne_zero] <;> omega) dX3_countBrokenBelow_71
theorem hdV_X3_countBrokenBelow : yX3_countBrokenBelow.cls = RX3 ∧ yX3_countBrokenBelow.cls ≠ "java/lang/invoke/MethodHandle" ∧ yX3_countBrokenBelow.cls ≠ "java/lang/invoke/VarHandle" ∧ (parseMethodDescriptor yX3_countBrokenBelow.desc).map (fun d => d.parameters.length) = some 2 := by decide +kernel
set_option maxHeartbeats 4000000 in
set_option maxRecDepth 100000 in
theorem m_X3_countBroken (l : Launch) (G : va_G) (k : Nat → ClassId) (h0 n a5 a6 c0 c1 c2 c3 c : Nat) (off g0 g2 g3 : Nat → Nat) (v1 v2 v3 v4 : Value) (hn : n ≤ 12) (hc : c < 4096) (h0b : ∀ i, i < n → g0 i < 4096) (h2b : ∀ i, i < n → g2 i < 4096) (h3b : ∀ i, i < n → g3 i < 4096) : Met l yX3_countBroken wsX3_countBroken ({ frames := 2, cells := 0, slots := 0, locals := 45 } : Room) (va_Pc [.ref h0, .int (nI c)] (Wd G k [(h0, .inr (3, [.int (nI n), v1, v2, v3, v4, .ref a5, .ref a6])), (a5, .inl (k 0, 12, .inl (nA off))), (a6, .inl (k 2, 4, .inr (.inr (.inr (.inr (q4 c0 c1 c2 c3)))))), (c0, .inl (k 0, 12, .inl (nA g0))), (c2, .inl (k 0, 12, .inl (nA g2))), (c3, .inl (k 0, 12, .inl (nA g3)))])) (vp_Si (fun rX => rX = (nI (brkN off g0 g2 g3 n c)))) 0 0 (fun _ => False) := by
  refine met_mk (cc := cX3_countBroken) (maxL := 5) (ret := (some .int)) (by decide) rfl rfl ?_
  intro pX eX sX mX bX meX cX S hr hlk hnm hB ls hl
  obtain ⟨hP, hK, hN⟩ := hB
  obtain ⟨hx, hb, hml, hown, hts⟩ := id S
  have hown : sX.vm.findClass RX3 = some mX.cls := hown
  have hl : lv_has ls 5 [(0, .ref h0), (1, .int (nI c))] := hl
  have lk0 : (Cond.fieldLink RX3 9 "FeatureAnalyzer$Features" "count" "I").before _ sX = true := hts _ (List.mem_cons_of_mem _ (List.mem_append_left _ (List.mem_of_getElem? (i := 0) rfl)))
  have inX3 : ∀ w ∈ wsX30, w ∈ wsX3_countBroken := fun w h => List.mem_cons_of_mem _ (List.mem_append_right _ (h))
  have lk1 : (Cond.fieldLink RX3 28 "FeatureAnalyzer$Features" "offspring" "[I").before _ sX = true := hts _ (List.mem_cons_of_mem _ (List.mem_append_left _ (List.mem_of_getElem? (i := 1) rfl)))
  have L19 : ∀ (NN : Nat) (x : Nat) (y : Nat) (i : Nat), (n - i) < NN → (i ≤ n) → (x = (if c.testBit 0 then 0 else 1) + blN g0 g2 g3 c i) → (y = wpN off c i) → ∀ ls : Array Slot, lv_has ls 5 [(0, .ref h0), (1, .int (nI c)), (2, .int (nI x)), (3, .int (nI y)), (4, .int (nI i))] → W pX l eX ({ frames := 2, cells := 0, slots := 0, locals := 45 } : Room) sX mX ([.ref h0, .int (nI c)] : List Value).toArray bX meX cX sX.heap [] 0 0 (MQ bX (vp_Si (fun rX => rX = (nI (brkN off g0 g2 g3 n c)))) ([.ref h0, .int (nI c)] : List Value).toArray sX 0 0 (fun _ => False)) (F0 mX 19 ls []) := by
    intro NN
    induction NN with
    | zero => intro x y i hm9; exact absurd hm9 (Nat.not_lt_zero _)
    | succ NN ih19 =>
      intro x y i hm9 hi ex ey ls hl
      refine lv_iload hx hb dX3_countBroken_19 (lv_at hl 4 rfl) ?_
      refine lv_aload_n hx hb dX3_countBroken_21 rfl (lv_at hl 0 rfl) ?_
      refine va_get (D := G) (ci := 3) (v := .int (nI n)) (C := RX3) (T := TX3) (N := 7) hx hb hts inX3 hown hK hP 0 rfl rfl 0 (by decide) lk0 (fun _ h9 => h9) rfl dX3_countBroken_22 ?_
      refine n_icmp_ge (tgt := 63) (by omega) (by omega) hx hb dX3_countBroken_25 (by decide) (fun q25 => ?_) (fun q25 => ?_)
      · skip
        refine lv_iload_n hx hb dX3_countBroken_63 rfl (lv_at hl 2 rfl) ?_
        refine lv_iload_n hx hb dX3_countBroken_64 rfl (lv_at hl 1 rfl) ?_
        refine lv_iload_n hx hb dX3_countBroken_65 rfl (lv_at hl 3 rfl) ?_
        refine lv_iconst (v := -1) hx hb dX3_countBroken_66 (by decide) ?_
        refine lv_ixor hx hb dX3_countBroken_67 ?_
        refine n_iandC hx hb dX3_countBroken_68 ?_
        refine cS_i (As := [.int (nI (andn c y))]) S hP hK hN (m_J6_bitCount l G k _ (by exact Nat.lt_trans (andn_lt _ hc) (by decide))) gX3_countBroken_J6_bitCount_0f7a4 rfl rfl rfl hdS_J6_bitCount_0f7a4 rfl rfl [] rfl rfl hl.1 rfl rfl ⟨Nat.le_of_ble_eq_true rfl, Nat.le_of_ble_eq_true rfl⟩ dX3_countBroken_69 (fun rX hr1 => ?_)
        subst hr1
        refine n_iadd hx hb dX3_countBroken_72 ?_
        exact e_pure hx hb hr hlk (by rw [ex, ey, show i = n by omega]; rfl) dX3_countBroken_73
      · skip
        refine lv_iload_n hx hb dX3_countBroken_28 rfl (lv_at hl 1 rfl) ?_
        refine lv_iload hx hb dX3_countBroken_29 (lv_at hl 4 rfl) ?_
        refine cN_i (As := [.int (nI c), .int (nI i)]) S hP hK hN (m_X6_has l G k _ _ (by omega) (by omega)) gX3_countBroken_X6_has_n40 (hN.at 3 rfl) (List.mem_cons_of_mem _ (List.mem_append_left _ (List.mem_of_getElem? (i := 3) rfl))) (List.mem_cons_of_mem _ (List.mem_append_left _ (List.mem_of_getElem? (i := 2) rfl))) rfl rfl rfl hdN_X6_has rfl rfl [] rfl rfl hl.1 rfl rfl ⟨Nat.le_of_ble_eq_true rfl, Nat.le_of_ble_eq_true rfl⟩ dX3_countBroken_31 (fun rX hr2 => ?_)
        subst hr2
        refine b_if_eq (tgt := 57) hx hb dX3_countBroken_34 (by decide) (fun q34 => ?_) (fun q34 => ?_)
        · skip
          refine n_iinc (lv' := [(4, .int (nI (i + 1))), (0, .ref h0), (1, .int (nI c)), (2, .int (nI x)), (3, .int (nI y))]) (k := 4) 1 hx hb dX3_countBroken_57 hl rfl (by decide) (by decide) rfl (fun ls hl => ?_)
          refine lv_goto (tgt := 19) hx hb dX3_countBroken_60 (by decide) ?_
          exact ih19 (x) (y) (i + 1) (by omega) (by omega) (by rw [ex, blN_succ]; simp [*] <;> omega) (by rw [ey, wpN_succ]; simp [*])  _ (lv_sub hl [1, 2, 3, 4, 0] rfl)
        · skip
          refine lv_iload_n hx hb dX3_countBroken_37 rfl (lv_at hl 3 rfl) ?_
          refine lv_aload_n hx hb dX3_countBroken_38 rfl (lv_at hl 0 rfl) ?_
          refine va_get (D := G) (ci := 3) (v := .ref a5) (C := RX3) (T := TX3) (N := 7) hx hb hts inX3 hown hK hP 0 rfl rfl 5 (by decide) lk1 (fun _ h9 => h9) rfl dX3_countBroken_39 ?_
          refine lv_iload hx hb dX3_countBroken_42 (lv_at hl 4 rfl) ?_
          refine n_iald hx hb hK hP 1 rfl (by omega) (by first | decide | omega) dX3_countBroken_44 ?_
          refine n_ior hx hb dX3_countBroken_45 ?_
          refine lv_istore_n (lv' := [(3, .int (nI (y ||| (off i)))), (0, .ref h0), (1, .int (nI c)), (2, .int (nI x)), (4, .int (nI i))]) hx hb dX3_countBroken_46 rfl hl (by decide) rfl (fun ls hl => ?_)
          refine lv_iload_n hx hb dX3_countBroken_47 rfl (lv_at hl 3 rfl) ?_
          refine lv_aload_n hx hb dX3_countBroken_48 rfl (lv_at hl 1 rfl) ?_
          refine lv_iload hx hb dX3_countBroken_49 (lv_at hl 4 rfl) ?_
          refine lv_iload_n hx hb dX3_countBroken_51 rfl (lv_at hl 2 rfl) ?_
          refine cV_i (As := [.int (nI i), .int (nI c)]) S hP hK hN (m_X3_countBrokenBelow l G k _ _ _ _ _ _ _ _ _ _ _ _ _ _ _ _ _ (by omega) (by omega) (by exact h0b _ (by omega)) (by exact h2b _ (by omega)) (by exact h3b _ (by omega))) gX3_countBroken_X3_countBrokenBelow rfl rfl rfl hdV_X3_countBrokenBelow rfl rfl [0, 2, 3, 4, 5] rfl 3 0 rfl rfl rfl rfl hl.1 rfl rfl ⟨Nat.le_of_ble_eq_true rfl, Nat.le_of_ble_eq_true rfl⟩ dX3_countBroken_52 (fun rX hr3 => ?_)
          subst hr3
          refine n_iadd hx hb dX3_countBroken_55 ?_
          refine lv_istore_n (lv' := [(2, .int (nI (x + (belowN (g0 i) (g2 i) (g3 i) c)))), (3, .int (nI (y ||| (off i)))), (0, .ref h0), (1, .int (nI c)), (4, .int (nI i))]) hx hb dX3_countBroken_56 rfl hl (by decide) rfl (fun ls hl => ?_)
          refine n_iinc (lv' := [(4, .int (nI (i + 1))), (2, .int (nI (x + (belowN (g0 i) (g2 i) (g3 i) c)))), (3, .int (nI (y ||| (off i)))), (0, .ref h0), (1, .int (nI c))]) (k := 4) 1 hx hb dX3_countBroken_57 hl rfl (by decide) (by decide) rfl (fun ls hl => ?_)
          refine lv_goto (tgt := 19) hx hb dX3_countBroken_60 (by decide) ?_
          exact ih19 (x + (belowN (g0 i) (g2 i) (g3 i) c)) (y ||| (off i)) (i + 1) (by omega) (by omega) (by rw [ex, blN_succ]; simp [*] <;> omega) (by rw [ey, wpN_succ]; simp [*])  _ (lv_sub hl [3, 4, 1, 2, 0] rfl)
  refine lv_iload_n hx hb dX3_countBroken_0 rfl (lv_at hl 1 rfl) ?_
  refine n_iconst 0 (by decide) hx hb dX3_countBroken_1 ?_
  refine cN_i (As := [.int (nI c), .int (nI 0)]) S hP hK hN (m_X6_has l G k _ _ (by omega) (by omega)) gX3_countBroken_X6_has_n40 (hN.at 3 rfl) (List.mem_cons_of_mem _ (List.mem_append_left _ (List.mem_of_getElem? (i := 3) rfl))) (List.mem_cons_of_mem _ (List.mem_append_left _ (List.mem_of_getElem? (i := 2) rfl))) rfl rfl rfl hdN_X6_has rfl rfl [] rfl rfl hl.1 rfl rfl ⟨Nat.le_of_ble_eq_true rfl, Nat.le_of_ble_eq_true rfl⟩ dX3_countBroken_2 (fun rX hr4 => ?_)
  subst hr4
  refine b_if_eq (tgt := 12) hx hb dX3_countBroken_5 (by decide) (fun q5 => ?_) (fun q5 => ?_)
  · skip
    refine n_iconst 1 (by decide) hx hb dX3_countBroken_12 ?_
    refine lv_istore_n (lv' := [(2, .int (nI 1)), (0, .ref h0), (1, .int (nI c))]) hx hb dX3_countBroken_13 rfl hl (by decide) rfl (fun ls hl => ?_)
    refine n_iconst 1 (by decide) hx hb dX3_countBroken_14 ?_
    refine lv_istore_n (lv' := [(3, .int (nI 1)), (2, .int (nI 1)), (0, .ref h0), (1, .int (nI c))]) hx hb dX3_countBroken_15 rfl hl (by decide) rfl (fun ls hl => ?_)
    refine n_iconst 0 (by decide) hx hb dX3_countBroken_16 ?_
    refine lv_istore (lv' := [(4, .int (nI 0)), (3, .int (nI 1)), (2, .int (nI 1)), (0, .ref h0), (1, .int (nI c))]) hx hb dX3_countBroken_17 hl (by decide) rfl (fun ls hl => ?_)
    exact L19 _ (1) (1) (0) (Nat.lt_succ_self _) (by omega) (by rw [q5]; rfl) (by rfl)  _ (lv_sub hl [3, 4, 2, 1, 0] rfl)
  · skip
    refine n_iconst 0 (by decide) hx hb dX3_countBroken_8 ?_
    refine lv_goto (tgt := 13) hx hb dX3_countBroken_9 (by decide) ?_
    refine lv_istore_n (lv' := [(2, .int (nI 0)), (0, .ref h0), (1, .int (nI c))]) hx hb dX3_countBroken_13 rfl hl (by decide) rfl (fun ls hl => ?_)
    refine n_iconst 1 (by decide) hx hb dX3_countBroken_14 ?_
    refine lv_istore_n (lv' := [(3, .int (nI 1)), (2, .int (nI 0)), (0, .ref h0), (1, .int (nI c))]) hx hb dX3_countBroken_15 rfl hl (by decide) rfl (fun ls hl => ?_)
    refine n_iconst 0 (by decide) hx hb dX3_countBroken_16 ?_
    refine lv_istore (lv' := [(4, .int (nI 0)), (3, .int (nI 1)), (2, .int (nI 0)), (0, .ref h0), (1, .int (nI c))]) hx hb dX3_countBroken_17 hl (by decide) rfl (fun ls hl => ?_)
    exact L19 _ (0) (1) (0) (Nat.lt_succ_self _) (by omega) (by rw [q5]; rfl) (by rfl)  _ (lv_sub hl [3, 4, 2, 1, 0] rfl)
set_option maxHeartbeats 4000000 in
set_option maxRecDepth 100000 in
theorem m_X2_count (l : Launch) (G : va_G) (k : Nat → ClassId) (h0 n : Nat) (v1 v2 v3 v4 : Value)  : Met l yX2_count wsX2_count ({ frames := 0, cells := 0, slots := 0, locals := 0 } : Room) (va_Pc [.ref h0] (Wd G k [(h0, .inr (2, [.int (nI n), v1, v2, v3, v4]))])) (vp_Si (fun rX => rX = (nI n))) 0 0 (fun _ => False) := by
  refine met_mk (cc := cX2_count) (maxL := 1) (ret := (some .int)) (by decide) rfl rfl ?_
  intro pX eX sX mX bX meX cX S hr hlk hnm hB ls hl
  obtain ⟨hP, hK, hN⟩ := hB
  obtain ⟨hx, hb, hml, hown, hts⟩ := id S
  have hown : sX.vm.findClass RX2 = some mX.cls := hown
  have hl : lv_has ls 1 [(0, .ref h0)] := hl
  have lk0 : (Cond.fieldLink RX2 9 "FeatureAnalyzer$Constraints" "count" "I").before _ sX = true := hts _ (List.mem_cons_of_mem _ (List.mem_append_left _ (List.mem_of_getElem? (i := 0) rfl)))
  have inX2 : ∀ w ∈ wsX20, w ∈ wsX2_count := fun w h => List.mem_cons_of_mem _ (List.mem_append_right _ (h))
  refine lv_aload_n hx hb dX2_count_0 rfl (lv_at hl 0 rfl) ?_
  refine va_get (D := G) (ci := 2) (v := .int (nI n)) (C := RX2) (T := TX2) (N := 5) hx hb hts inX2 hown hK hP 0 rfl rfl 0 (by decide) lk0 (fun _ h9 => h9) rfl dX2_count_1 ?_
  exact e_pure hx hb hr hlk (by rfl) dX2_count_4
set_option maxHeartbeats 4000000 in
set_option maxRecDepth 100000 in
theorem m_X2_forbids (l : Launch) (G : va_G) (k : Nat → ClassId) (h0 r2 r3 r4 i c : Nat) (kd fa fb : Nat → Nat) (v0 v1 : Value) (hi : i < 10) (hc : c < 4096) (hk : kd i < 2) (ha : fa i < 12) (hb9 : fb i < 12) : Met l yX2_forbids wsX2_forbids ({ frames := 1, cells := 0, slots := 0, locals := 21 } : Room) (va_Pc [.ref h0, .int (nI i), .int (nI c)] (Wd G k [(h0, .inr (2, [v0, v1, .ref r2, .ref r3, .ref r4])), (r2, .inl (k 0, 10, .inl (nA kd))), (r3, .inl (k 0, 10, .inl (nA fa))), (r4, .inl (k 0, 10, .inl (nA fb)))])) (vp_Si (fun rX => rX = (bI (forbB (kd i) (fa i) (fb i) c)))) 0 0 (fun _ => False) := by
  refine met_mk (cc := cX2_forbids) (maxL := 4) (ret := (some .boolean)) (by decide) rfl rfl ?_
  intro pX eX sX mX bX meX cX S hr hlk hnm hB ls hl
  obtain ⟨hP, hK, hN⟩ := hB
  obtain ⟨hx, hb, hml, hown, hts⟩ := id S
  have hown : sX.vm.findClass RX2 = some mX.cls := hown
  have hl : lv_has ls 4 [(0, .ref h0), (1, .int (nI i)), (2, .int (nI c))] := hl
  have lk0 : (Cond.fieldLink RX2 18 "FeatureAnalyzer$Constraints" "kinds" "[I").before _ sX = true := hts _ (List.mem_cons_of_mem _ (List.mem_append_left _ (List.mem_of_getElem? (i := 0) rfl)))
  have inX2 : ∀ w ∈ wsX20, w ∈ wsX2_forbids := fun w h => List.mem_cons_of_mem _ (List.mem_append_right _ (h))
  have lk1 : (Cond.fieldLink RX2 22 "FeatureAnalyzer$Constraints" "firsts" "[I").before _ sX = true := hts _ (List.mem_cons_of_mem _ (List.mem_append_left _ (List.mem_of_getElem? (i := 1) rfl)))
  have lk2 : (Cond.fieldLink RX2 25 "FeatureAnalyzer$Constraints" "seconds" "[I").before _ sX = true := hts _ (List.mem_cons_of_mem _ (List.mem_append_left _ (List.mem_of_getElem? (i := 2) rfl)))
  refine lv_aload_n hx hb dX2_forbids_0 rfl (lv_at hl 0 rfl) ?_
  refine va_get (D := G) (ci := 2) (v := .ref r2) (C := RX2) (T := TX2) (N := 5) hx hb hts inX2 hown hK hP 0 rfl rfl 2 (by decide) lk0 (fun _ h9 => h9) rfl dX2_forbids_1 ?_
  refine lv_iload_n hx hb dX2_forbids_4 rfl (lv_at hl 1 rfl) ?_
  refine n_iald hx hb hK hP 1 rfl (by omega) (by first | decide | omega) dX2_forbids_5 ?_
  refine n_if_ne (tgt := 13) (by omega) hx hb dX2_forbids_6 (by decide) (fun q6 => ?_) (fun q6 => ?_)
  · skip
    refine n_iconst 0 (by decide) hx hb dX2_forbids_13 ?_
    refine lv_istore_n (lv' := [(3, .int (nI 0)), (0, .ref h0), (1, .int (nI i)), (2, .int (nI c))]) hx hb dX2_forbids_14 rfl hl (by decide) rfl (fun ls hl => ?_)
    refine lv_iload_n hx hb dX2_forbids_15 rfl (lv_at hl 3 rfl) ?_
    refine lv_aload_n hx hb dX2_forbids_16 rfl (lv_at hl 1 rfl) ?_
    refine va_get (D := G) (ci := 2) (v := .ref r3) (C := RX2) (T := TX2) (N := 5) hx hb hts inX2 hown hK hP 0 rfl rfl 3 (by decide) lk1 (fun _ h9 => h9) rfl dX2_forbids_17 ?_
    refine lv_iload_n hx hb dX2_forbids_20 rfl (lv_at hl 2 rfl) ?_
    refine n_iald hx hb hK hP 2 rfl (by omega) (by first | decide | omega) dX2_forbids_21 ?_
    refine cN_i (As := [.int (nI c), .int (nI (fa i))]) S hP hK hN (m_X6_has l G k _ _ (by omega) (by omega)) gX2_forbids_X6_has_n28 (hN.at 2 rfl) (List.mem_cons_of_mem _ (List.mem_append_left _ (List.mem_of_getElem? (i := 4) rfl))) (List.mem_cons_of_mem _ (List.mem_append_left _ (List.mem_of_getElem? (i := 3) rfl))) rfl rfl rfl hdN_X6_has rfl rfl [] rfl rfl hl.1 rfl rfl ⟨Nat.le_of_ble_eq_true rfl, Nat.le_of_ble_eq_true rfl⟩ dX2_forbids_22 (fun rX hr1 => ?_)
    subst hr1
    refine b_if_eq (tgt := 46) hx hb dX2_forbids_25 (by decide) (fun q25 => ?_) (fun q25 => ?_)
    · skip
      refine n_iconst 0 (by decide) hx hb dX2_forbids_46 ?_
      exact e_pureZ (v := false) hx hb hr hlk (by simp_all [forbB, Nat.pos_iff_ne_zero]) dX2_forbids_47
    · skip
      refine lv_iload_n hx hb dX2_forbids_28 rfl (lv_at hl 3 rfl) ?_
      refine lv_aload_n hx hb dX2_forbids_29 rfl (lv_at hl 1 rfl) ?_
      refine va_get (D := G) (ci := 2) (v := .ref r4) (C := RX2) (T := TX2) (N := 5) hx hb hts inX2 hown hK hP 0 rfl rfl 4 (by decide) lk2 (fun _ h9 => h9) rfl dX2_forbids_30 ?_
      refine lv_iload_n hx hb dX2_forbids_33 rfl (lv_at hl 2 rfl) ?_
      refine n_iald hx hb hK hP 3 rfl (by omega) (by first | decide | omega) dX2_forbids_34 ?_
      refine cN_i (As := [.int (nI c), .int (nI (fb i))]) S hP hK hN (m_X6_has l G k _ _ (by omega) (by omega)) gX2_forbids_X6_has_n28 (hN.at 2 rfl) (List.mem_cons_of_mem _ (List.mem_append_left _ (List.mem_of_getElem? (i := 4) rfl))) (List.mem_cons_of_mem _ (List.mem_append_left _ (List.mem_of_getElem? (i := 3) rfl))) rfl rfl rfl hdN_X6_has rfl rfl [] rfl rfl hl.1 rfl rfl ⟨Nat.le_of_ble_eq_true rfl, Nat.le_of_ble_eq_true rfl⟩ dX2_forbids_35 (fun rX hr2 => ?_)
      subst hr2
      refine lv_iload_n hx hb dX2_forbids_38 rfl (lv_at hl 0 rfl) ?_
      refine b_icmp_eq (tgt := 46) (a := (c).testBit (fb i)) (b := false) hx hb dX2_forbids_39 (by decide) (fun q39 => ?_) (fun q39 => ?_)
      · skip
        refine n_iconst 0 (by decide) hx hb dX2_forbids_46 ?_
        exact e_pureZ (v := false) hx hb hr hlk (by simp_all [forbB, Nat.pos_iff_ne_zero]) dX2_forbids_47
      · skip
        refine n_iconst 1 (by decide) hx hb dX2_forbids_42 ?_
        refine lv_goto (tgt := 47) hx hb dX2_forbids_43 (by decide) ?_
        exact e_pureZ (v := true) hx hb hr hlk (by simp_all [forbB, Nat.pos_iff_ne_zero]) dX2_forbids_47
  · skip
    refine n_iconst 1 (by decide) hx hb dX2_forbids_9 ?_
    refine lv_goto (tgt := 14) hx hb dX2_forbids_10 (by decide) ?_
    refine lv_istore_n (lv' := [(3, .int (nI 1)), (0, .ref h0), (1, .int (nI i)), (2, .int (nI c))]) hx hb dX2_forbids_14 rfl hl (by decide) rfl (fun ls hl => ?_)
    refine lv_iload_n hx hb dX2_forbids_15 rfl (lv_at hl 3 rfl) ?_
    refine lv_aload_n hx hb dX2_forbids_16 rfl (lv_at hl 1 rfl) ?_
    refine va_get (D := G) (ci := 2) (v := .ref r3) (C := RX2) (T := TX2) (N := 5) hx hb hts inX2 hown hK hP 0 rfl rfl 3 (by decide) lk1 (fun _ h9 => h9) rfl dX2_forbids_17 ?_
    refine lv_iload_n hx hb dX2_forbids_20 rfl (lv_at hl 2 rfl) ?_
    refine n_iald hx hb hK hP 2 rfl (by omega) (by first | decide | omega) dX2_forbids_21 ?_
    refine cN_i (As := [.int (nI c), .int (nI (fa i))]) S hP hK hN (m_X6_has l G k _ _ (by omega) (by omega)) gX2_forbids_X6_has_n28 (hN.at 2 rfl) (List.mem_cons_of_mem _ (List.mem_append_left _ (List.mem_of_getElem? (i := 4) rfl))) (List.mem_cons_of_mem _ (List.mem_append_left _ (List.mem_of_getElem? (i := 3) rfl))) rfl rfl rfl hdN_X6_has rfl rfl [] rfl rfl hl.1 rfl rfl ⟨Nat.le_of_ble_eq_true rfl, Nat.le_of_ble_eq_true rfl⟩ dX2_forbids_22 (fun rX hr3 => ?_)
    subst hr3
    refine b_if_eq (tgt := 46) hx hb dX2_forbids_25 (by decide) (fun q25 => ?_) (fun q25 => ?_)
    · skip
      refine n_iconst 0 (by decide) hx hb dX2_forbids_46 ?_
      exact e_pureZ (v := false) hx hb hr hlk (by simp_all [forbB, Nat.pos_iff_ne_zero]) dX2_forbids_47
    · skip
      refine lv_iload_n hx hb dX2_forbids_28 rfl (lv_at hl 3 rfl) ?_
      refine lv_aload_n hx hb dX2_forbids_29 rfl (lv_at hl 1 rfl) ?_
      refine va_get (D := G) (ci := 2) (v := .ref r4) (C := RX2) (T := TX2) (N := 5) hx hb hts inX2 hown hK hP 0 rfl rfl 4 (by decide) lk2 (fun _ h9 => h9) rfl dX2_forbids_30 ?_
      refine lv_iload_n hx hb dX2_forbids_33 rfl (lv_at hl 2 rfl) ?_
      refine n_iald hx hb hK hP 3 rfl (by omega) (by first | decide | omega) dX2_forbids_34 ?_
      refine cN_i (As := [.int (nI c), .int (nI (fb i))]) S hP hK hN (m_X6_has l G k _ _ (by omega) (by omega)) gX2_forbids_X6_has_n28 (hN.at 2 rfl) (List.mem_cons_of_mem _ (List.mem_append_left _ (List.mem_of_getElem? (i := 4) rfl))) (List.mem_cons_of_mem _ (List.mem_append_left _ (List.mem_of_getElem? (i := 3) rfl))) rfl rfl rfl hdN_X6_has rfl rfl [] rfl rfl hl.1 rfl rfl ⟨Nat.le_of_ble_eq_true rfl, Nat.le_of_ble_eq_true rfl⟩ dX2_forbids_35 (fun rX hr4 => ?_)
      subst hr4
      refine lv_iload_n hx hb dX2_forbids_38 rfl (lv_at hl 0 rfl) ?_
      refine b_icmp_eq (tgt := 46) (a := (c).testBit (fb i)) (b := true) hx hb dX2_forbids_39 (by decide) (fun q39 => ?_) (fun q39 => ?_)
      · skip
        refine n_iconst 0 (by decide) hx hb dX2_forbids_46 ?_
        exact e_pureZ (v := false) hx hb hr hlk (by simp_all [forbB, Nat.pos_iff_ne_zero]) dX2_forbids_47
      · skip
        refine n_iconst 1 (by decide) hx hb dX2_forbids_42 ?_
        refine lv_goto (tgt := 47) hx hb dX2_forbids_43 (by decide) ?_
        exact e_pureZ (v := true) hx hb hr hlk (by simp_all [forbB, Nat.pos_iff_ne_zero]) dX2_forbids_47
theorem hdV_X2_forbids : yX2_forbids.cls = RX2 ∧ yX2_forbids.cls ≠ "java/lang/invoke/MethodHandle" ∧ yX2_forbids.cls ≠ "java/lang/invoke/VarHandle" ∧ (parseMethodDescriptor yX2_forbids.desc).map (fun d => d.parameters.length) = some 2 := by decide +kernel
set_option maxHeartbeats 4000000 in
set_option maxRecDepth 100000 in
theorem m_X2_brokenBy (l : Launch) (G : va_G) (k : Nat → ClassId) (h0 n on r2 r3 r4 c : Nat) (kd fa fb : Nat → Nat) (hn : n ≤ 10) (hon : on < 1024) (hc : c < 4096) (hk : ∀ i, i < n → kd i < 2) (ha : ∀ i, i < n → fa i < 12) (hb9 : ∀ i, i < n → fb i < 12) : Met l yX2_brokenBy wsX2_brokenBy ({ frames := 2, cells := 0, slots := 0, locals := 44 } : Room) (va_Pc [.ref h0, .int (nI c)] (Wd G k [(h0, .inr (2, [.int (nI n), .int (nI on), .ref r2, .ref r3, .ref r4])), (r2, .inl (k 0, 10, .inl (nA kd))), (r3, .inl (k 0, 10, .inl (nA fa))), (r4, .inl (k 0, 10, .inl (nA fb)))])) (vp_Si (fun rX => rX = (nI (bbN on kd fa fb c n)))) 0 0 (fun _ => False) := by
  refine met_mk (cc := cX2_brokenBy) (maxL := 4) (ret := (some .int)) (by decide) rfl rfl ?_
  intro pX eX sX mX bX meX cX S hr hlk hnm hB ls hl
  obtain ⟨hP, hK, hN⟩ := hB
  obtain ⟨hx, hb, hml, hown, hts⟩ := id S
  have hown : sX.vm.findClass RX2 = some mX.cls := hown
  have hl : lv_has ls 4 [(0, .ref h0), (1, .int (nI c))] := hl
  have lk0 : (Cond.fieldLink RX2 9 "FeatureAnalyzer$Constraints" "count" "I").before _ sX = true := hts _ (List.mem_cons_of_mem _ (List.mem_append_left _ (List.mem_of_getElem? (i := 0) rfl)))
  have inX2 : ∀ w ∈ wsX20, w ∈ wsX2_brokenBy := fun w h => List.mem_cons_of_mem _ (List.mem_append_right _ (h))
  have lk1 : (Cond.fieldLink RX2 15 "FeatureAnalyzer$Constraints" "on" "I").before _ sX = true := hts _ (List.mem_cons_of_mem _ (List.mem_append_left _ (List.mem_of_getElem? (i := 1) rfl)))
  refine n_iconst 0 (by decide) hx hb dX2_brokenBy_0 ?_
  refine lv_istore_n (lv' := [(2, .int (nI 0)), (0, .ref h0), (1, .int (nI c))]) hx hb dX2_brokenBy_1 rfl hl (by decide) rfl (fun ls hl => ?_)
  refine n_iconst 0 (by decide) hx hb dX2_brokenBy_2 ?_
  refine lv_istore_n (lv' := [(3, .int (nI 0)), (2, .int (nI 0)), (0, .ref h0), (1, .int (nI c))]) hx hb dX2_brokenBy_3 rfl hl (by decide) rfl (fun ls hl => ?_)
  have L4 : ∀ (NN : Nat) (x : Nat) (i : Nat), (n - i) < NN → (i ≤ n) → (x = bbN on kd fa fb c i) → ∀ ls : Array Slot, lv_has ls 4 [(0, .ref h0), (1, .int (nI c)), (2, .int (nI x)), (3, .int (nI i))] → W pX l eX ({ frames := 2, cells := 0, slots := 0, locals := 44 } : Room) sX mX ([.ref h0, .int (nI c)] : List Value).toArray bX meX cX sX.heap [] 0 0 (MQ bX (vp_Si (fun rX => rX = (nI (bbN on kd fa fb c n)))) ([.ref h0, .int (nI c)] : List Value).toArray sX 0 0 (fun _ => False)) (F0 mX 4 ls []) := by
    intro NN
    induction NN with
    | zero => intro x i hm9; exact absurd hm9 (Nat.not_lt_zero _)
    | succ NN ih4 =>
      intro x i hm9 hi ex ls hl
      refine lv_iload_n hx hb dX2_brokenBy_4 rfl (lv_at hl 3 rfl) ?_
      refine lv_aload_n hx hb dX2_brokenBy_5 rfl (lv_at hl 0 rfl) ?_
      refine va_get (D := G) (ci := 2) (v := .int (nI n)) (C := RX2) (T := TX2) (N := 5) hx hb hts inX2 hown hK hP 0 rfl rfl 0 (by decide) lk0 (fun _ h9 => h9) rfl dX2_brokenBy_6 ?_
      refine n_icmp_ge (tgt := 44) (by omega) (by omega) hx hb dX2_brokenBy_9 (by decide) (fun q9 => ?_) (fun q9 => ?_)
      · skip
        refine lv_iload_n hx hb dX2_brokenBy_44 rfl (lv_at hl 2 rfl) ?_
        exact e_pure hx hb hr hlk (by rw [ex, show i = n by omega]) dX2_brokenBy_45
      · skip
        refine lv_aload_n hx hb dX2_brokenBy_12 rfl (lv_at hl 0 rfl) ?_
        refine va_get (D := G) (ci := 2) (v := .int (nI on)) (C := RX2) (T := TX2) (N := 5) hx hb hts inX2 hown hK hP 0 rfl rfl 1 (by decide) lk1 (fun _ h9 => h9) rfl dX2_brokenBy_13 ?_
        refine lv_iload_n hx hb dX2_brokenBy_16 rfl (lv_at hl 3 rfl) ?_
        refine cN_i (As := [.int (nI on), .int (nI i)]) S hP hK hN (m_X6_has l G k _ _ (by omega) (by omega)) gX2_brokenBy_X6_has_n28 (hN.at 2 rfl) (List.mem_cons_of_mem _ (List.mem_append_left _ (List.mem_of_getElem? (i := 3) rfl))) (List.mem_cons_of_mem _ (List.mem_append_left _ (List.mem_of_getElem? (i := 2) rfl))) rfl rfl rfl hdN_X6_has rfl rfl [] rfl rfl hl.1 rfl rfl ⟨Nat.le_of_ble_eq_true rfl, Nat.le_of_ble_eq_true rfl⟩ dX2_brokenBy_17 (fun rX hr1 => ?_)
        subst hr1
        refine b_if_eq (tgt := 38) hx hb dX2_brokenBy_20 (by decide) (fun q20 => ?_) (fun q20 => ?_)
        · skip
          refine n_iinc (lv' := [(3, .int (nI (i + 1))), (0, .ref h0), (1, .int (nI c)), (2, .int (nI x))]) (k := 3) 1 hx hb dX2_brokenBy_38 hl rfl (by decide) (by decide) rfl (fun ls hl => ?_)
          refine lv_goto (tgt := 4) hx hb dX2_brokenBy_41 (by decide) ?_
          exact ih4 (x) (i + 1) (by omega) (by omega) (by rw [bbN_succ, ex]; simp [*])  _ (lv_sub hl [1, 2, 3, 0] rfl)
        · skip
          refine lv_aload_n hx hb dX2_brokenBy_23 rfl (lv_at hl 0 rfl) ?_
          refine lv_iload_n hx hb dX2_brokenBy_24 rfl (lv_at hl 3 rfl) ?_
          refine lv_iload_n hx hb dX2_brokenBy_25 rfl (lv_at hl 1 rfl) ?_
          refine cV_i (As := [.int (nI i), .int (nI c)]) S hP hK hN (m_X2_forbids l G k _ _ _ _ _ _ _ _ _ _ _ (by omega) (by omega) (by exact hk _ (by omega)) (by exact ha _ (by omega)) (by exact hb9 _ (by omega))) gX2_brokenBy_X2_forbids rfl rfl rfl hdV_X2_forbids rfl rfl [0, 1, 2, 3] rfl 2 0 rfl rfl rfl rfl hl.1 rfl rfl ⟨Nat.le_of_ble_eq_true rfl, Nat.le_of_ble_eq_true rfl⟩ dX2_brokenBy_26 (fun rX hr2 => ?_)
          subst hr2
          refine b_if_eq (tgt := 38) hx hb dX2_brokenBy_29 (by decide) (fun q29 => ?_) (fun q29 => ?_)
          · skip
            refine n_iinc (lv' := [(3, .int (nI (i + 1))), (0, .ref h0), (1, .int (nI c)), (2, .int (nI x))]) (k := 3) 1 hx hb dX2_brokenBy_38 hl rfl (by decide) (by decide) rfl (fun ls hl => ?_)
            refine lv_goto (tgt := 4) hx hb dX2_brokenBy_41 (by decide) ?_
            exact ih4 (x) (i + 1) (by omega) (by omega) (by rw [bbN_succ, ex]; simp [*])  _ (lv_sub hl [1, 2, 3, 0] rfl)
          · skip
            refine lv_iload_n hx hb dX2_brokenBy_32 rfl (lv_at hl 2 rfl) ?_
            refine n_iconst 1 (by decide) hx hb dX2_brokenBy_33 ?_
            refine lv_iload_n hx hb dX2_brokenBy_34 rfl (lv_at hl 3 rfl) ?_
            refine n_ishl1 (by omega) hx hb dX2_brokenBy_35 ?_
            refine n_ior hx hb dX2_brokenBy_36 ?_
            refine lv_istore_n (lv' := [(2, .int (nI (x ||| (2 ^ i)))), (0, .ref h0), (1, .int (nI c)), (3, .int (nI i))]) hx hb dX2_brokenBy_37 rfl hl (by decide) rfl (fun ls hl => ?_)
            refine n_iinc (lv' := [(3, .int (nI (i + 1))), (2, .int (nI (x ||| (2 ^ i)))), (0, .ref h0), (1, .int (nI c))]) (k := 3) 1 hx hb dX2_brokenBy_38 hl rfl (by decide) (by decide) rfl (fun ls hl => ?_)
            refine lv_goto (tgt := 4) hx hb dX2_brokenBy_41 (by decide) ?_
            exact ih4 (x ||| (2 ^ i)) (i + 1) (by omega) (by omega) (by rw [bbN_succ, ex]; simp [*])  _ (lv_sub hl [2, 3, 1, 0] rfl)
  exact L4 _ (0) (0) (Nat.lt_succ_self _) (by omega) (by rfl)  _ (lv_sub hl [2, 3, 1, 0] rfl)
set_option maxHeartbeats 4000000 in
set_option maxRecDepth 100000 in
theorem m_X0_decided (l : Launch) (G : va_G) (k : Nat → ClassId) (h0 iN oN : Nat) (v2 : Value)  : Met l yX0_decided wsX0_decided ({ frames := 0, cells := 0, slots := 0, locals := 0 } : Room) (va_Pc [.ref h0] (Wd G k [(h0, .inr (0, [.int (nI iN), .int (nI oN), v2]))])) (vp_Si (fun rX => rX = (nI (iN ||| oN)))) 0 0 (fun _ => False) := by
  refine met_mk (cc := cX0_decided) (maxL := 1) (ret := (some .int)) (by decide) rfl rfl ?_
  intro pX eX sX mX bX meX cX S hr hlk hnm hB ls hl
  obtain ⟨hP, hK, hN⟩ := hB
  obtain ⟨hx, hb, hml, hown, hts⟩ := id S
  have hown : sX.vm.findClass RX0 = some mX.cls := hown
  have hl : lv_has ls 1 [(0, .ref h0)] := hl
  have lk0 : (Cond.fieldLink RX0 9 "FeatureAnalyzer$Choices" "in" "I").before _ sX = true := hts _ (List.mem_cons_of_mem _ (List.mem_append_left _ (List.mem_of_getElem? (i := 0) rfl)))
  have inX0 : ∀ w ∈ wsX00, w ∈ wsX0_decided := fun w h => List.mem_cons_of_mem _ (List.mem_append_right _ (h))
  have lk1 : (Cond.fieldLink RX0 15 "FeatureAnalyzer$Choices" "out" "I").before _ sX = true := hts _ (List.mem_cons_of_mem _ (List.mem_append_left _ (List.mem_of_getElem? (i := 1) rfl)))
  refine lv_aload_n hx hb dX0_decided_0 rfl (lv_at hl 0 rfl) ?_
  refine va_get (D := G) (ci := 0) (v := .int (nI iN)) (C := RX0) (T := TX0) (N := 3) hx hb hts inX0 hown hK hP 0 rfl rfl 0 (by decide) lk0 (fun _ h9 => h9) rfl dX0_decided_1 ?_
  refine lv_aload_n hx hb dX0_decided_4 rfl (lv_at hl 0 rfl) ?_
  refine va_get (D := G) (ci := 0) (v := .int (nI oN)) (C := RX0) (T := TX0) (N := 3) hx hb hts inX0 hown hK hP 0 rfl rfl 1 (by decide) lk1 (fun _ h9 => h9) rfl dX0_decided_5 ?_
  refine n_ior hx hb dX0_decided_8 ?_
  exact e_pure hx hb hr hlk (by rfl) dX0_decided_9
set_option maxHeartbeats 4000000 in
set_option maxRecDepth 100000 in
theorem m_X0_decisionOn (l : Launch) (G : va_G) (k : Nat → ClassId) (h0 iN oN f : Nat) (v2 : Value) (hiN : iN < 4096) (hoN : oN < 4096) (hf : f < 12) : Met l yX0_decisionOn wsX0_decisionOn ({ frames := 1, cells := 0, slots := 0, locals := 21 } : Room) (va_Pc [.ref h0, .int (nI f)] (Wd G k [(h0, .inr (0, [.int (nI iN), .int (nI oN), v2]))])) (vp_Si (fun rX => rX = (nI (decN iN oN f)))) 0 0 (fun _ => False) := by
  refine met_mk (cc := cX0_decisionOn) (maxL := 2) (ret := (some .int)) (by decide) rfl rfl ?_
  intro pX eX sX mX bX meX cX S hr hlk hnm hB ls hl
  obtain ⟨hP, hK, hN⟩ := hB
  obtain ⟨hx, hb, hml, hown, hts⟩ := id S
  have hown : sX.vm.findClass RX0 = some mX.cls := hown
  have hl : lv_has ls 2 [(0, .ref h0), (1, .int (nI f))] := hl
  have lk0 : (Cond.fieldLink RX0 9 "FeatureAnalyzer$Choices" "in" "I").before _ sX = true := hts _ (List.mem_cons_of_mem _ (List.mem_append_left _ (List.mem_of_getElem? (i := 0) rfl)))
  have inX0 : ∀ w ∈ wsX00, w ∈ wsX0_decisionOn := fun w h => List.mem_cons_of_mem _ (List.mem_append_right _ (h))
  have lk1 : (Cond.fieldLink RX0 15 "FeatureAnalyzer$Choices" "out" "I").before _ sX = true := hts _ (List.mem_cons_of_mem _ (List.mem_append_left _ (List.mem_of_getElem? (i := 1) rfl)))
  refine lv_aload_n hx hb dX0_decisionOn_0 rfl (lv_at hl 0 rfl) ?_
  refine va_get (D := G) (ci := 0) (v := .int (nI iN)) (C := RX0) (T := TX0) (N := 3) hx hb hts inX0 hown hK hP 0 rfl rfl 0 (by decide) lk0 (fun _ h9 => h9) rfl dX0_decisionOn_1 ?_
  refine lv_iload_n hx hb dX0_decisionOn_4 rfl (lv_at hl 1 rfl) ?_
  refine cN_i (As := [.int (nI iN), .int (nI f)]) S hP hK hN (m_X6_has l G k _ _ (by omega) (by omega)) gX0_decisionOn_X6_has_n21 (hN.at 0 rfl) (List.mem_cons_of_mem _ (List.mem_append_left _ (List.mem_of_getElem? (i := 3) rfl))) (List.mem_cons_of_mem _ (List.mem_append_left _ (List.mem_of_getElem? (i := 2) rfl))) rfl rfl rfl hdN_X6_has rfl rfl [] rfl rfl hl.1 rfl rfl ⟨Nat.le_of_ble_eq_true rfl, Nat.le_of_ble_eq_true rfl⟩ dX0_decisionOn_5 (fun rX hr1 => ?_)
  subst hr1
  refine b_if_eq (tgt := 13) hx hb dX0_decisionOn_8 (by decide) (fun q8 => ?_) (fun q8 => ?_)
  · skip
    refine lv_aload_n hx hb dX0_decisionOn_13 rfl (lv_at hl 0 rfl) ?_
    refine va_get (D := G) (ci := 0) (v := .int (nI oN)) (C := RX0) (T := TX0) (N := 3) hx hb hts inX0 hown hK hP 0 rfl rfl 1 (by decide) lk1 (fun _ h9 => h9) rfl dX0_decisionOn_14 ?_
    refine lv_iload_n hx hb dX0_decisionOn_17 rfl (lv_at hl 1 rfl) ?_
    refine cN_i (As := [.int (nI oN), .int (nI f)]) S hP hK hN (m_X6_has l G k _ _ (by omega) (by omega)) gX0_decisionOn_X6_has_n21 (hN.at 0 rfl) (List.mem_cons_of_mem _ (List.mem_append_left _ (List.mem_of_getElem? (i := 3) rfl))) (List.mem_cons_of_mem _ (List.mem_append_left _ (List.mem_of_getElem? (i := 2) rfl))) rfl rfl rfl hdN_X6_has rfl rfl [] rfl rfl hl.1 rfl rfl ⟨Nat.le_of_ble_eq_true rfl, Nat.le_of_ble_eq_true rfl⟩ dX0_decisionOn_18 (fun rX hr2 => ?_)
    subst hr2
    refine b_if_eq (tgt := 28) hx hb dX0_decisionOn_21 (by decide) (fun q21 => ?_) (fun q21 => ?_)
    · skip
      refine n_iconst 0 (by decide) hx hb dX0_decisionOn_28 ?_
      exact e_pure hx hb hr hlk (by unfold decN; simp [*]) dX0_decisionOn_29
    · skip
      refine n_iconst 2 (by decide) hx hb dX0_decisionOn_24 ?_
      refine lv_goto (tgt := 29) hx hb dX0_decisionOn_25 (by decide) ?_
      exact e_pure hx hb hr hlk (by unfold decN; simp [*]) dX0_decisionOn_29
  · skip
    refine n_iconst 1 (by decide) hx hb dX0_decisionOn_11 ?_
    exact e_pure hx hb hr hlk (by unfold decN; simp [*]) dX0_decisionOn_12
set_option maxHeartbeats 4000000 in
set_option maxRecDepth 100000 in
theorem m_X0_allow (l : Launch) (G : va_G) (k : Nat → ClassId) (h0 iN oN p9 cost : Nat) (bud : Int32) (hiN : iN < 4096) (hp9 : p9 < 4096) (hcost : cost < 100000) : Met l yX0_allow wsX0_allow ({ frames := 0, cells := 0, slots := 0, locals := 0 } : Room) (va_Pc [.ref h0, .int (nI p9), .int (nI cost)] (Wd G k [(h0, .inr (0, [.int (nI iN), .int (nI oN), .int bud]))])) (vp_Si (fun rX => rX = (bI (allowB iN oN bud p9 cost)))) 0 0 (fun _ => False) := by
  refine met_mk (cc := cX0_allow) (maxL := 3) (ret := (some .boolean)) (by decide) rfl rfl ?_
  intro pX eX sX mX bX meX cX S hr hlk hnm hB ls hl
  obtain ⟨hP, hK, hN⟩ := hB
  obtain ⟨hx, hb, hml, hown, hts⟩ := id S
  have hown : sX.vm.findClass RX0 = some mX.cls := hown
  have hl : lv_has ls 3 [(0, .ref h0), (1, .int (nI p9)), (2, .int (nI cost))] := hl
  have lk0 : (Cond.fieldLink RX0 9 "FeatureAnalyzer$Choices" "in" "I").before _ sX = true := hts _ (List.mem_cons_of_mem _ (List.mem_append_left _ (List.mem_of_getElem? (i := 0) rfl)))
  have inX0 : ∀ w ∈ wsX00, w ∈ wsX0_allow := fun w h => List.mem_cons_of_mem _ (List.mem_append_right _ (h))
  have lk1 : (Cond.fieldLink RX0 15 "FeatureAnalyzer$Choices" "out" "I").before _ sX = true := hts _ (List.mem_cons_of_mem _ (List.mem_append_left _ (List.mem_of_getElem? (i := 1) rfl)))
  have lk2 : (Cond.fieldLink RX0 18 "FeatureAnalyzer$Choices" "budget" "I").before _ sX = true := hts _ (List.mem_cons_of_mem _ (List.mem_append_left _ (List.mem_of_getElem? (i := 2) rfl)))
  refine lv_iload_n hx hb dX0_allow_0 rfl (lv_at hl 1 rfl) ?_
  refine lv_aload_n hx hb dX0_allow_1 rfl (lv_at hl 0 rfl) ?_
  refine va_get (D := G) (ci := 0) (v := .int (nI iN)) (C := RX0) (T := TX0) (N := 3) hx hb hts inX0 hown hK hP 0 rfl rfl 0 (by decide) lk0 (fun _ h9 => h9) rfl dX0_allow_2 ?_
  refine n_iand hx hb dX0_allow_5 ?_
  refine lv_aload_n hx hb dX0_allow_6 rfl (lv_at hl 0 rfl) ?_
  refine va_get (D := G) (ci := 0) (v := .int (nI iN)) (C := RX0) (T := TX0) (N := 3) hx hb hts inX0 hown hK hP 0 rfl rfl 0 (by decide) lk0 (fun _ h9 => h9) rfl dX0_allow_7 ?_
  refine n_icmp_ne (tgt := 42) (by exact Nat.lt_of_le_of_lt Nat.and_le_left (by omega)) (by omega) hx hb dX0_allow_10 (by decide) (fun q10 => ?_) (fun q10 => ?_)
  · skip
    refine n_iconst 0 (by decide) hx hb dX0_allow_42 ?_
    exact e_pureZ (v := false) hx hb hr hlk (by simp_all [allowB, ← Int32.not_le, Nat.pos_iff_ne_zero]) dX0_allow_43
  · skip
    refine lv_iload_n hx hb dX0_allow_13 rfl (lv_at hl 1 rfl) ?_
    refine lv_aload_n hx hb dX0_allow_14 rfl (lv_at hl 0 rfl) ?_
    refine va_get (D := G) (ci := 0) (v := .int (nI oN)) (C := RX0) (T := TX0) (N := 3) hx hb hts inX0 hown hK hP 0 rfl rfl 1 (by decide) lk1 (fun _ h9 => h9) rfl dX0_allow_15 ?_
    refine n_iand hx hb dX0_allow_18 ?_
    refine n_if_ne (tgt := 42) (by exact Nat.lt_of_le_of_lt Nat.and_le_left (by omega)) hx hb dX0_allow_19 (by decide) (fun q19 => ?_) (fun q19 => ?_)
    · skip
      refine n_iconst 0 (by decide) hx hb dX0_allow_42 ?_
      exact e_pureZ (v := false) hx hb hr hlk (by simp_all [allowB, ← Int32.not_le, Nat.pos_iff_ne_zero]) dX0_allow_43
    · skip
      refine lv_aload_n hx hb dX0_allow_22 rfl (lv_at hl 0 rfl) ?_
      refine va_get (D := G) (ci := 0) (v := .int bud) (C := RX0) (T := TX0) (N := 3) hx hb hts inX0 hown hK hP 0 rfl rfl 2 (by decide) lk2 (fun _ h9 => h9) rfl dX0_allow_23 ?_
      refine lv_iconst (v := -1) hx hb dX0_allow_26 (by decide) ?_
      refine lv_icmp_eq (tgt := 38) hx hb dX0_allow_27 (by decide) (fun q27 => ?_) (fun q27 => ?_)
      · skip
        refine n_iconst 1 (by decide) hx hb dX0_allow_38 ?_
        refine lv_goto (tgt := 43) hx hb dX0_allow_39 (by decide) ?_
        exact e_pureZ (v := true) hx hb hr hlk (by simp_all [allowB, ← Int32.not_le, Nat.pos_iff_ne_zero]) dX0_allow_43
      · skip
        refine lv_iload_n hx hb dX0_allow_30 rfl (lv_at hl 2 rfl) ?_
        refine lv_aload_n hx hb dX0_allow_31 rfl (lv_at hl 0 rfl) ?_
        refine va_get (D := G) (ci := 0) (v := .int bud) (C := RX0) (T := TX0) (N := 3) hx hb hts inX0 hown hK hP 0 rfl rfl 2 (by decide) lk2 (fun _ h9 => h9) rfl dX0_allow_32 ?_
        refine lv_icmp_gt (tgt := 42) hx hb dX0_allow_35 (by decide) (fun q35 => ?_) (fun q35 => ?_)
        · skip
          refine n_iconst 0 (by decide) hx hb dX0_allow_42 ?_
          exact e_pureZ (v := false) hx hb hr hlk (by simp_all [allowB, ← Int32.not_le, Nat.pos_iff_ne_zero]) dX0_allow_43
        · skip
          refine n_iconst 1 (by decide) hx hb dX0_allow_38 ?_
          refine lv_goto (tgt := 43) hx hb dX0_allow_39 (by decide) ?_
          exact e_pureZ (v := true) hx hb hr hlk (by simp_all [allowB, ← Int32.not_le, Nat.pos_iff_ne_zero]) dX0_allow_43
set_option maxHeartbeats 4000000 in
set_option maxRecDepth 100000 in
theorem m_X4_literalsOf (l : Launch) (G : va_G) (k : Nat → ClassId) (c n : Nat) (hn : n ≤ 12) (hc : c < 4096) : Met l yX4_literalsOf wsX4_literalsOf ({ frames := 0, cells := 0, slots := 0, locals := 0 } : Room) (va_Pc [.int (nI c), .int (nI n)] (Wd G k [])) (vp_Si (fun rX => rX = (nI (litsN c n)))) 0 0 (fun _ => False) := by
  refine met_mk (cc := cX4_literalsOf) (maxL := 3) (ret := (some .int)) (by decide) rfl rfl ?_
  intro pX eX sX mX bX meX cX S hr hlk hnm hB ls hl
  obtain ⟨hP, hK, hN⟩ := hB
  obtain ⟨hx, hb, hml, hown, hts⟩ := id S
  have hown : sX.vm.findClass RX4 = some mX.cls := hown
  have hl : lv_has ls 3 [(0, .int (nI c)), (1, .int (nI n))] := hl
  refine lv_iload_n hx hb dX4_literalsOf_0 rfl (lv_at hl 0 rfl) ?_
  refine lv_iconst (v := -1) hx hb dX4_literalsOf_1 (by decide) ?_
  refine lv_ixor hx hb dX4_literalsOf_2 ?_
  refine n_iconst 1 (by decide) hx hb dX4_literalsOf_3 ?_
  refine lv_iload_n hx hb dX4_literalsOf_4 rfl (lv_at hl 1 rfl) ?_
  refine n_ishl1 (by omega) hx hb dX4_literalsOf_5 ?_
  refine n_iconst 1 (by decide) hx hb dX4_literalsOf_6 ?_
  refine n_isub (by exact Nat.one_le_two_pow) hx hb dX4_literalsOf_7 ?_
  refine n_iandD hx hb dX4_literalsOf_8 ?_
  refine lv_istore_n (lv' := [(2, .int (nI (andn ((2 ^ n) - 1) c))), (0, .int (nI c)), (1, .int (nI n))]) hx hb dX4_literalsOf_9 rfl hl (by decide) rfl (fun ls hl => ?_)
  refine lv_iload_n hx hb dX4_literalsOf_10 rfl (lv_at hl 1 rfl) ?_
  refine lv_iload_n hx hb dX4_literalsOf_11 rfl (lv_at hl 0 rfl) ?_
  refine n_bipush 12 (by decide) hx hb dX4_literalsOf_12 ?_
  refine n_ishl (by omega) (by have h1 := andn_le (2 ^ n - 1) c; have h2 := pow12 hn; omega) hx hb dX4_literalsOf_14 ?_
  refine n_ior hx hb dX4_literalsOf_15 ?_
  exact e_pure hx hb hr hlk (by rfl) dX4_literalsOf_16
set_option maxHeartbeats 4000000 in
set_option maxRecDepth 100000 in
theorem m_X4_literalOn (l : Launch) (G : va_G) (k : Nat → ClassId) (f c : Nat) (hf : f < 12) (hc : c < 4096) : Met l yX4_literalOn wsX4_literalOn ({ frames := 1, cells := 0, slots := 0, locals := 21 } : Room) (va_Pc [.int (nI f), .int (nI c)] (Wd G k [])) (vp_Si (fun rX => rX = (nI (litN f c)))) 0 0 (fun _ => False) := by
  refine met_mk (cc := cX4_literalOn) (maxL := 2) (ret := (some .int)) (by decide) rfl rfl ?_
  intro pX eX sX mX bX meX cX S hr hlk hnm hB ls hl
  obtain ⟨hP, hK, hN⟩ := hB
  obtain ⟨hx, hb, hml, hown, hts⟩ := id S
  have hown : sX.vm.findClass RX4 = some mX.cls := hown
  have hl : lv_has ls 2 [(0, .int (nI f)), (1, .int (nI c))] := hl
  refine lv_iload_n hx hb dX4_literalOn_0 rfl (lv_at hl 1 rfl) ?_
  refine lv_iload_n hx hb dX4_literalOn_1 rfl (lv_at hl 0 rfl) ?_
  refine cN_i (As := [.int (nI c), .int (nI f)]) S hP hK hN (m_X6_has l G k _ _ (by omega) (by omega)) gX4_literalOn_X6_has_n37 (hN.at 4 rfl) (List.mem_cons_of_mem _ (List.mem_of_getElem? (i := 1) rfl)) (List.mem_cons_of_mem _ (List.mem_of_getElem? (i := 0) rfl)) rfl rfl rfl hdN_X6_has rfl rfl [] rfl rfl hl.1 rfl rfl ⟨Nat.le_of_ble_eq_true rfl, Nat.le_of_ble_eq_true rfl⟩ dX4_literalOn_2 (fun rX hr1 => ?_)
  subst hr1
  refine b_if_eq (tgt := 12) hx hb dX4_literalOn_5 (by decide) (fun q5 => ?_) (fun q5 => ?_)
  · skip
    refine lv_iload_n hx hb dX4_literalOn_12 rfl (lv_at hl 0 rfl) ?_
    refine n_bipush 12 (by decide) hx hb dX4_literalOn_13 ?_
    refine n_iadd hx hb dX4_literalOn_15 ?_
    exact e_pure hx hb hr hlk (by unfold litN; simp [*]) dX4_literalOn_16
  · skip
    refine lv_iload_n hx hb dX4_literalOn_8 rfl (lv_at hl 0 rfl) ?_
    refine lv_goto (tgt := 16) hx hb dX4_literalOn_9 (by decide) ?_
    exact e_pure hx hb hr hlk (by unfold litN; simp [*]) dX4_literalOn_16
theorem hdS_X4_literalOn : yX4_literalOn.cls ≠ "java/lang/invoke/MethodHandle" ∧ yX4_literalOn.cls ≠ "java/lang/invoke/VarHandle" ∧ (parseMethodDescriptor yX4_literalOn.desc).map (fun d => d.parameters.length) = some 2 := by decide +kernel
theorem hdS_X4_literalsOf : yX4_literalsOf.cls ≠ "java/lang/invoke/MethodHandle" ∧ yX4_literalsOf.cls ≠ "java/lang/invoke/VarHandle" ∧ (parseMethodDescriptor yX4_literalsOf.desc).map (fun d => d.parameters.length) = some 2 := by decide +kernel
set_option maxHeartbeats 4000000 in
set_option maxRecDepth 100000 in
theorem m_X4_countFresh (l : Launch) (G : va_G) (k : Nat → ClassId) (h0 ra c n : Nat) (sh : Nat → Nat) (hc : c < 4096) (hn : n ≤ 12) : Met l yX4_countFresh wsX4_countFresh ({ frames := 2, cells := 0, slots := 0, locals := 42 } : Room) (va_Pc [.ref h0, .int (nI c), .int (nI n)] (Wd G k [(h0, .inr (4, [.ref ra])), (ra, .inl (k 0, 24, .inl (nA sh)))])) (vp_Si (fun rX => rX = (nI (frN sh c n n)))) 0 0 (fun _ => False) := by
  refine met_mk (cc := cX4_countFresh) (maxL := 7) (ret := (some .int)) (by decide) rfl rfl ?_
  intro pX eX sX mX bX meX cX S hr hlk hnm hB ls hl
  obtain ⟨hP, hK, hN⟩ := hB
  obtain ⟨hx, hb, hml, hown, hts⟩ := id S
  have hown : sX.vm.findClass RX4 = some mX.cls := hown
  have hl : lv_has ls 7 [(0, .ref h0), (1, .int (nI c)), (2, .int (nI n))] := hl
  have lk0 : (Cond.fieldLink RX4 9 "FeatureAnalyzer$PairBoard" "shown" "[I").before _ sX = true := hts _ (List.mem_cons_of_mem _ (List.mem_append_left _ (List.mem_of_getElem? (i := 0) rfl)))
  have inX4 : ∀ w ∈ wsX40, w ∈ wsX4_countFresh := fun w h => List.mem_cons_of_mem _ (List.mem_append_right _ (h))
  refine n_iconst 0 (by decide) hx hb dX4_countFresh_0 ?_
  refine lv_istore_n (lv' := [(3, .int (nI 0)), (0, .ref h0), (1, .int (nI c)), (2, .int (nI n))]) hx hb dX4_countFresh_1 rfl hl (by decide) rfl (fun ls hl => ?_)
  refine lv_iload_n hx hb dX4_countFresh_2 rfl (lv_at hl 2 rfl) ?_
  refine lv_iload_n hx hb dX4_countFresh_3 rfl (lv_at hl 3 rfl) ?_
  refine cS_i (As := [.int (nI c), .int (nI n)]) S hP hK hN (m_X4_literalsOf l G k _ _ (by omega) (by omega)) gX4_countFresh_X4_literalsOf rfl rfl rfl hdS_X4_literalsOf rfl rfl [] rfl rfl hl.1 rfl rfl ⟨Nat.le_of_ble_eq_true rfl, Nat.le_of_ble_eq_true rfl⟩ dX4_countFresh_4 (fun rX hr1 => ?_)
  subst hr1
  refine lv_istore (lv' := [(4, .int (nI (litsN c n))), (3, .int (nI 0)), (0, .ref h0), (1, .int (nI c)), (2, .int (nI n))]) hx hb dX4_countFresh_7 hl (by decide) rfl (fun ls hl => ?_)
  refine n_iconst 0 (by decide) hx hb dX4_countFresh_9 ?_
  refine lv_istore (lv' := [(5, .int (nI 0)), (4, .int (nI (litsN c n))), (3, .int (nI 0)), (0, .ref h0), (1, .int (nI c)), (2, .int (nI n))]) hx hb dX4_countFresh_10 hl (by decide) rfl (fun ls hl => ?_)
  have L12 : ∀ (NN : Nat) (x : Nat) (y : Nat) (i : Nat), (n - i) < NN → (i ≤ n) → (x = frN sh c n i) → (y = latN c n i) → ∀ ls : Array Slot, lv_has ls 7 [(0, .ref h0), (1, .int (nI c)), (2, .int (nI n)), (3, .int (nI x)), (4, .int (nI y)), (5, .int (nI i))] → W pX l eX ({ frames := 2, cells := 0, slots := 0, locals := 42 } : Room) sX mX ([.ref h0, .int (nI c), .int (nI n)] : List Value).toArray bX meX cX sX.heap [] 0 0 (MQ bX (vp_Si (fun rX => rX = (nI (frN sh c n n)))) ([.ref h0, .int (nI c), .int (nI n)] : List Value).toArray sX 0 0 (fun _ => False)) (F0 mX 12 ls []) := by
    intro NN
    induction NN with
    | zero => intro x y i hm9; exact absurd hm9 (Nat.not_lt_zero _)
    | succ NN ih12 =>
      intro x y i hm9 hi ex ey ls hl
      refine lv_iload hx hb dX4_countFresh_12 (lv_at hl 5 rfl) ?_
      refine lv_iload_n hx hb dX4_countFresh_14 rfl (lv_at hl 2 rfl) ?_
      refine n_icmp_ge (tgt := 61) (by omega) (by omega) hx hb dX4_countFresh_15 (by decide) (fun q15 => ?_) (fun q15 => ?_)
      · skip
        refine lv_iload_n hx hb dX4_countFresh_61 rfl (lv_at hl 3 rfl) ?_
        exact e_pure hx hb hr hlk (by rw [ex, show i = n by omega]) dX4_countFresh_62
      · skip
        refine lv_iload hx hb dX4_countFresh_18 (lv_at hl 5 rfl) ?_
        refine lv_iload_n hx hb dX4_countFresh_20 rfl (lv_at hl 1 rfl) ?_
        refine cS_i (As := [.int (nI i), .int (nI c)]) S hP hK hN (m_X4_literalOn l G k _ _ (by omega) (by omega)) gX4_countFresh_X4_literalOn rfl rfl rfl hdS_X4_literalOn rfl rfl [] rfl rfl hl.1 rfl rfl ⟨Nat.le_of_ble_eq_true rfl, Nat.le_of_ble_eq_true rfl⟩ dX4_countFresh_21 (fun rX hr2 => ?_)
        subst hr2
        have hlt := litN_lt (c := c) (show i < 12 by omega)
        have hyl := latN_lt hc hn i
        refine lv_istore (lv' := [(6, .int (nI (litN i c))), (0, .ref h0), (1, .int (nI c)), (2, .int (nI n)), (3, .int (nI x)), (4, .int (nI y)), (5, .int (nI i))]) hx hb dX4_countFresh_24 hl (by decide) rfl (fun ls hl => ?_)
        refine lv_iload hx hb dX4_countFresh_26 (lv_at hl 5 rfl) ?_
        refine n_iconst 1 (by decide) hx hb dX4_countFresh_28 ?_
        refine lv_iload hx hb dX4_countFresh_29 (lv_at hl 0 rfl) ?_
        refine n_ishl1 (by omega) hx hb dX4_countFresh_31 ?_
        refine lv_iconst (v := -1) hx hb dX4_countFresh_32 (by decide) ?_
        refine lv_ixor hx hb dX4_countFresh_33 ?_
        refine n_iandC hx hb dX4_countFresh_34 ?_
        refine lv_istore (lv' := [(4, .int (nI (andn y (2 ^ (litN i c))))), (6, .int (nI (litN i c))), (0, .ref h0), (1, .int (nI c)), (2, .int (nI n)), (3, .int (nI x)), (5, .int (nI i))]) hx hb dX4_countFresh_35 hl (by decide) rfl (fun ls hl => ?_)
        refine lv_iload_n hx hb dX4_countFresh_37 rfl (lv_at hl 5 rfl) ?_
        refine lv_iload hx hb dX4_countFresh_38 (lv_at hl 0 rfl) ?_
        refine lv_aload_n hx hb dX4_countFresh_40 rfl (lv_at hl 2 rfl) ?_
        refine va_get (D := G) (ci := 4) (v := .ref ra) (C := RX4) (T := TX4) (N := 1) hx hb hts inX4 hown hK hP 0 rfl rfl 0 (by decide) lk0 (fun _ h9 => h9) rfl dX4_countFresh_41 ?_
        refine lv_iload hx hb dX4_countFresh_44 (lv_at hl 1 rfl) ?_
        refine n_iald hx hb hK hP 1 rfl (by omega) (by first | decide | omega) dX4_countFresh_46 ?_
        refine lv_iconst (v := -1) hx hb dX4_countFresh_47 (by decide) ?_
        refine lv_ixor hx hb dX4_countFresh_48 ?_
        refine n_iandC hx hb dX4_countFresh_49 ?_
        refine cS_i (As := [.int (nI (andn (andn y (2 ^ (litN i c))) (sh (litN i c))))]) S hP hK hN (m_J6_bitCount l G k _ (by exact Nat.lt_trans (andn_lt _ (andn_lt _ (ey ▸ hyl))) (by decide))) gX4_countFresh_J6_bitCount_0f7a4 rfl rfl rfl hdS_J6_bitCount_0f7a4 rfl rfl [] rfl rfl hl.1 rfl rfl ⟨Nat.le_of_ble_eq_true rfl, Nat.le_of_ble_eq_true rfl⟩ dX4_countFresh_50 (fun rX hr3 => ?_)
        subst hr3
        refine n_iadd hx hb dX4_countFresh_53 ?_
        refine lv_istore_n (lv' := [(3, .int (nI (x + (popc (andn (andn y (2 ^ (litN i c))) (sh (litN i c))))))), (4, .int (nI (andn y (2 ^ (litN i c))))), (6, .int (nI (litN i c))), (0, .ref h0), (1, .int (nI c)), (2, .int (nI n)), (5, .int (nI i))]) hx hb dX4_countFresh_54 rfl hl (by decide) rfl (fun ls hl => ?_)
        refine n_iinc (lv' := [(5, .int (nI (i + 1))), (3, .int (nI (x + (popc (andn (andn y (2 ^ (litN i c))) (sh (litN i c))))))), (4, .int (nI (andn y (2 ^ (litN i c))))), (6, .int (nI (litN i c))), (0, .ref h0), (1, .int (nI c)), (2, .int (nI n))]) (k := 6) 1 hx hb dX4_countFresh_55 hl rfl (by decide) (by decide) rfl (fun ls hl => ?_)
        refine lv_goto (tgt := 12) hx hb dX4_countFresh_58 (by decide) ?_
        exact ih12 (x + (popc (andn (andn y (2 ^ (litN i c))) (sh (litN i c))))) (andn y (2 ^ (litN i c))) (i + 1) (by omega) (by omega) (by rw [frN_succ, latN_succ, ex, ey]) (by rw [latN_succ, ey])  _ (lv_sub hl [4, 5, 6, 1, 2, 0] rfl)
  exact L12 _ (0) (litsN c n) (0) (Nat.lt_succ_self _) (by omega) (by rfl) (by rfl)  _ (lv_sub hl [3, 4, 5, 2, 1, 0] rfl)
