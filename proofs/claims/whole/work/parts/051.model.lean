set_option maxHeartbeats 4000000 in
set_option maxRecDepth 100000 in
theorem m_X7_has (l : Launch) (G : va_G) (k : Nat → ClassId) (c f : Nat) (hc : c < 2147483648) (hf : f < 32) : Met l yX7_has wsX7_has ({ frames := 0, cells := 0, slots := 0, locals := 0 } : Room) (va_Pc [.int (nI c), .int (nI f)] (Wd G k [])) (vp_Si (fun rX => rX = (bI ((c).testBit f)))) 0 0 (fun _ => False) := by
  refine met_mk (cc := cX7_has) (maxL := 2) (ret := (some .boolean)) (by decide) rfl rfl ?_
  intro pX eX sX mX bX meX cX S hr hlk hnm hB ls hl
  obtain ⟨hP, hK, hN⟩ := hB
  obtain ⟨hx, hb, hml, hown, hts⟩ := id S
  have hown : sX.vm.findClass RX7 = some mX.cls := hown
  have hl : lv_has ls 2 [(0, .int (nI c)), (1, .int (nI f))] := hl
  refine lv_iload_n hx hb dX7_has_0 rfl (lv_at hl 0 rfl) ?_
  refine lv_iload_n hx hb dX7_has_1 rfl (lv_at hl 1 rfl) ?_
  refine lv_ishr hx hb dX7_has_2 ?_
  refine n_iconst 1 (by decide) hx hb dX7_has_3 ?_
  refine lv_iand hx hb dX7_has_4 ?_
  refine n_iconst 1 (by decide) hx hb dX7_has_5 ?_
  refine lv_icmp_ne (tgt := 13) hx hb dX7_has_6 (by decide) (fun q6 => ?_) (fun q6 => ?_)
  · skip
    refine n_iconst 0 (by decide) hx hb dX7_has_13 ?_
    exact e_pureZ (v := false) hx hb hr hlk (by revert q6; rw [show nI 1 = (1 : Int32) from rfl, xI_bit hc hf]; cases c.testBit f <;> decide) dX7_has_14
  · skip
    refine n_iconst 1 (by decide) hx hb dX7_has_9 ?_
    refine lv_goto (tgt := 14) hx hb dX7_has_10 (by decide) ?_
    exact e_pureZ (v := true) hx hb hr hlk (by revert q6; rw [show nI 1 = (1 : Int32) from rfl, xI_bit hc hf]; cases c.testBit f <;> decide) dX7_has_14
set_option maxHeartbeats 4000000 in
set_option maxRecDepth 100000 in
theorem m_X7_thrown (l : Launch) (G : va_G) (k : Nat → ClassId) (o t : Nat) (w1 w2 w3 w4 w5 w6 w7 w8 w9 w10 w11 w12 w13 w14 w15 w16 w17 w18 w19 w20 w21 w22 : Value)  : Met l yX7_thrown wsX7_thrown ({ frames := 0, cells := 0, slots := 0, locals := 0 } : Room) (va_Pc [.ref o] (Wd G k [(o, .inr (7, [.int (nI t), w1, w2, w3, w4, w5, w6, w7, w8, w9, w10, w11, w12, w13, w14, w15, w16, w17, w18, w19, w20, w21, w22]))])) (vp_Si (fun rX => rX = (nI t))) 0 0 (fun _ => False) := by
  refine met_mk (cc := cX7_thrown) (maxL := 1) (ret := (some .int)) (by decide) rfl rfl ?_
  intro pX eX sX mX bX meX cX S hr hlk hnm hB ls hl
  obtain ⟨hP, hK, hN⟩ := hB
  obtain ⟨hx, hb, hml, hown, hts⟩ := id S
  have hown : sX.vm.findClass RX7 = some mX.cls := hown
  have hl : lv_has ls 1 [(0, .ref o)] := hl
  have lk0 : (Cond.fieldLink RX7 63 "FeatureAnalyzerModel" "thrown" "I").before _ sX = true := hts _ (List.mem_cons_of_mem _ (List.mem_append_left _ (List.mem_of_getElem? (i := 0) rfl)))
  have inX7 : ∀ w ∈ wsX70, w ∈ wsX7_thrown := fun w h => List.mem_cons_of_mem _ (List.mem_append_right _ (h))
  refine lv_aload_n hx hb dX7_thrown_0 rfl (lv_at hl 0 rfl) ?_
  refine va_get (D := G) (ci := 7) (v := .int (nI t)) (C := RX7) (T := TX7) (N := 23) hx hb hts inX7 hown hK hP 0 rfl rfl 0 (by decide) lk0 (fun _ h9 => h9) rfl dX7_thrown_1 ?_
  exact e_pure hx hb hr hlk (by rfl) dX7_thrown_4
set_option maxHeartbeats 4000000 in
set_option maxRecDepth 100000 in
theorem m_X7_isFeature (l : Launch) (G : va_G) (k : Nat → ClassId) (o n : Nat) (x : Int32) (w0 w2 w3 w4 w5 w6 w7 w8 w9 w10 w11 w12 w13 w14 w15 w16 w17 w18 w19 w20 w21 w22 : Value)  : Met l yX7_isFeature wsX7_isFeature ({ frames := 0, cells := 0, slots := 0, locals := 0 } : Room) (va_Pc [.ref o, .int x] (Wd G k [(o, .inr (7, [w0, .int (nI n), w2, w3, w4, w5, w6, w7, w8, w9, w10, w11, w12, w13, w14, w15, w16, w17, w18, w19, w20, w21, w22]))])) (vp_Si (fun rX => rX = (bI (isF x n)))) 0 0 (fun _ => False) := by
  refine met_mk (cc := cX7_isFeature) (maxL := 2) (ret := (some .boolean)) (by decide) rfl rfl ?_
  intro pX eX sX mX bX meX cX S hr hlk hnm hB ls hl
  obtain ⟨hP, hK, hN⟩ := hB
  obtain ⟨hx, hb, hml, hown, hts⟩ := id S
  have hown : sX.vm.findClass RX7 = some mX.cls := hown
  have hl : lv_has ls 2 [(0, .ref o), (1, .int x)] := hl
  have lk0 : (Cond.fieldLink RX7 9 "FeatureAnalyzerModel" "features" "I").before _ sX = true := hts _ (List.mem_cons_of_mem _ (List.mem_append_left _ (List.mem_of_getElem? (i := 0) rfl)))
  have inX7 : ∀ w ∈ wsX70, w ∈ wsX7_isFeature := fun w h => List.mem_cons_of_mem _ (List.mem_append_right _ (h))
  refine lv_iload_n hx hb dX7_isFeature_0 rfl (lv_at hl 1 rfl) ?_
  refine lv_if_lt (tgt := 16) hx hb dX7_isFeature_1 (by decide) (fun q1 => ?_) (fun q1 => ?_)
  · skip
    refine n_iconst 0 (by decide) hx hb dX7_isFeature_16 ?_
    exact e_pureZ (v := false) hx hb hr hlk (by simp_all [isF, ← Int32.not_le]) dX7_isFeature_17
  · skip
    refine lv_iload_n hx hb dX7_isFeature_4 rfl (lv_at hl 1 rfl) ?_
    refine lv_aload_n hx hb dX7_isFeature_5 rfl (lv_at hl 0 rfl) ?_
    refine va_get (D := G) (ci := 7) (v := .int (nI n)) (C := RX7) (T := TX7) (N := 23) hx hb hts inX7 hown hK hP 0 rfl rfl 1 (by decide) lk0 (fun _ h9 => h9) rfl dX7_isFeature_6 ?_
    refine lv_icmp_ge (tgt := 16) hx hb dX7_isFeature_9 (by decide) (fun q9 => ?_) (fun q9 => ?_)
    · skip
      refine n_iconst 0 (by decide) hx hb dX7_isFeature_16 ?_
      exact e_pureZ (v := false) hx hb hr hlk (by simp_all [isF, ← Int32.not_le]) dX7_isFeature_17
    · skip
      refine n_iconst 1 (by decide) hx hb dX7_isFeature_12 ?_
      refine lv_goto (tgt := 17) hx hb dX7_isFeature_13 (by decide) ?_
      exact e_pureZ (v := true) hx hb hr hlk (by simp_all [isF, ← Int32.not_le]) dX7_isFeature_17
set_option maxHeartbeats 4000000 in
set_option maxRecDepth 100000 in
theorem m_X7_isConfiguration (l : Launch) (G : va_G) (k : Nat → ClassId) (o n : Nat) (x : Int32) (w0 w2 w3 w4 w5 w6 w7 w8 w9 w10 w11 w12 w13 w14 w15 w16 w17 w18 w19 w20 w21 w22 : Value) (hn : n ≤ 12) : Met l yX7_isConfiguration wsX7_isConfiguration ({ frames := 0, cells := 0, slots := 0, locals := 0 } : Room) (va_Pc [.ref o, .int x] (Wd G k [(o, .inr (7, [w0, .int (nI n), w2, w3, w4, w5, w6, w7, w8, w9, w10, w11, w12, w13, w14, w15, w16, w17, w18, w19, w20, w21, w22]))])) (vp_Si (fun rX => rX = (bI (isF x (2 ^ n))))) 0 0 (fun _ => False) := by
  refine met_mk (cc := cX7_isConfiguration) (maxL := 2) (ret := (some .boolean)) (by decide) rfl rfl ?_
  intro pX eX sX mX bX meX cX S hr hlk hnm hB ls hl
  obtain ⟨hP, hK, hN⟩ := hB
  obtain ⟨hx, hb, hml, hown, hts⟩ := id S
  have hown : sX.vm.findClass RX7 = some mX.cls := hown
  have hl : lv_has ls 2 [(0, .ref o), (1, .int x)] := hl
  have lk0 : (Cond.fieldLink RX7 9 "FeatureAnalyzerModel" "features" "I").before _ sX = true := hts _ (List.mem_cons_of_mem _ (List.mem_append_left _ (List.mem_of_getElem? (i := 0) rfl)))
  have inX7 : ∀ w ∈ wsX70, w ∈ wsX7_isConfiguration := fun w h => List.mem_cons_of_mem _ (List.mem_append_right _ (h))
  refine lv_iload_n hx hb dX7_isConfiguration_0 rfl (lv_at hl 1 rfl) ?_
  refine lv_if_lt (tgt := 18) hx hb dX7_isConfiguration_1 (by decide) (fun q1 => ?_) (fun q1 => ?_)
  · skip
    refine n_iconst 0 (by decide) hx hb dX7_isConfiguration_18 ?_
    exact e_pureZ (v := false) hx hb hr hlk (by simp_all [isF, ← Int32.not_le]) dX7_isConfiguration_19
  · skip
    refine lv_iload_n hx hb dX7_isConfiguration_4 rfl (lv_at hl 1 rfl) ?_
    refine n_iconst 1 (by decide) hx hb dX7_isConfiguration_5 ?_
    refine lv_aload_n hx hb dX7_isConfiguration_6 rfl (lv_at hl 0 rfl) ?_
    refine va_get (D := G) (ci := 7) (v := .int (nI n)) (C := RX7) (T := TX7) (N := 23) hx hb hts inX7 hown hK hP 0 rfl rfl 1 (by decide) lk0 (fun _ h9 => h9) rfl dX7_isConfiguration_7 ?_
    refine n_ishl1 (by omega) hx hb dX7_isConfiguration_10 ?_
    refine lv_icmp_ge (tgt := 18) hx hb dX7_isConfiguration_11 (by decide) (fun q11 => ?_) (fun q11 => ?_)
    · skip
      refine n_iconst 0 (by decide) hx hb dX7_isConfiguration_18 ?_
      exact e_pureZ (v := false) hx hb hr hlk (by simp_all [isF, ← Int32.not_le]) dX7_isConfiguration_19
    · skip
      refine n_iconst 1 (by decide) hx hb dX7_isConfiguration_14 ?_
      refine lv_goto (tgt := 19) hx hb dX7_isConfiguration_15 (by decide) ?_
      exact e_pureZ (v := true) hx hb hr hlk (by simp_all [isF, ← Int32.not_le]) dX7_isConfiguration_19
theorem hdS_X7_has : yX7_has.cls ≠ "java/lang/invoke/MethodHandle" ∧ yX7_has.cls ≠ "java/lang/invoke/VarHandle" ∧ (parseMethodDescriptor yX7_has.desc).map (fun d => d.parameters.length) = some 2 := by decide +kernel
set_option maxHeartbeats 4000000 in
set_option maxRecDepth 100000 in
theorem m_X7_children (l : Launch) (G : va_G) (k : Nat → ClassId) (o n p1 p2 c f r : Nat) (pa rl : Nat → Nat) (w0 w4 w5 w6 w7 w8 w9 w10 w11 w12 w13 w14 w15 w16 w17 w18 w19 w20 w21 w22 : Value) (hn : n ≤ 12) (hn1 : 1 ≤ n) (hc : c < 4096) (hf : f < 12) (hr9 : r < 12) (hpa : ∀ i, i < n → pa i < 12) (hrl : ∀ i, i < n → rl i < 4) : Met l yX7_children wsX7_children ({ frames := 1, cells := 0, slots := 0, locals := 21 } : Room) (va_Pc [.ref o, .int (nI c), .int (nI f), .int (nI r)] (Wd G k [(o, .inr (7, [w0, .int (nI n), .ref p1, .ref p2, w4, w5, w6, w7, w8, w9, w10, w11, w12, w13, w14, w15, w16, w17, w18, w19, w20, w21, w22])), (p1, .inl (k 0, 12, .inl (nA pa))), (p2, .inl (k 0, 12, .inl (nA rl)))])) (vp_Si (fun rX => rX = (oI (chO pa rl c f r n)))) 0 0 (fun _ => False) := by
  refine met_mk (cc := cX7_children) (maxL := 6) (ret := (some .int)) (by decide) rfl rfl ?_
  intro pX eX sX mX bX meX cX S hr hlk hnm hB ls hl
  obtain ⟨hP, hK, hN⟩ := hB
  obtain ⟨hx, hb, hml, hown, hts⟩ := id S
  have hown : sX.vm.findClass RX7 = some mX.cls := hown
  have hl : lv_has ls 6 [(0, .ref o), (1, .int (nI c)), (2, .int (nI f)), (3, .int (nI r))] := hl
  have lk0 : (Cond.fieldLink RX7 9 "FeatureAnalyzerModel" "features" "I").before _ sX = true := hts _ (List.mem_cons_of_mem _ (List.mem_append_left _ (List.mem_of_getElem? (i := 0) rfl)))
  have inX7 : ∀ w ∈ wsX70, w ∈ wsX7_children := fun w h => List.mem_cons_of_mem _ (List.mem_append_right _ (h))
  have lk1 : (Cond.fieldLink RX7 13 "FeatureAnalyzerModel" "parents" "[I").before _ sX = true := hts _ (List.mem_cons_of_mem _ (List.mem_append_left _ (List.mem_of_getElem? (i := 1) rfl)))
  have lk2 : (Cond.fieldLink RX7 17 "FeatureAnalyzerModel" "relations" "[I").before _ sX = true := hts _ (List.mem_cons_of_mem _ (List.mem_append_left _ (List.mem_of_getElem? (i := 2) rfl)))
  have lk3 : (Cond.methodLink RX7 87 Lib.Math.max.name).before _ sX = true := hts _ (List.mem_cons_of_mem _ (List.mem_append_left _ (List.mem_of_getElem? (i := 3) rfl)))
  have lk4 : (Cond.static Lib.Math.max.name).before _ sX = true := hts _ (List.mem_cons_of_mem _ (List.mem_append_left _ (List.mem_of_getElem? (i := 4) rfl)))
  have lk5 : (Cond.initialized "java/lang/Math").before _ sX = true := hts _ (List.mem_cons_of_mem _ (List.mem_append_left _ (List.mem_of_getElem? (i := 5) rfl)))
  have lk6 : (Cond.code Lib.Math.max.name Lib.Math.max.code 2 (some .int)).before _ sX = true := hts _ (List.mem_cons_of_mem _ (List.mem_append_left _ (List.mem_of_getElem? (i := 6) rfl)))
  refine lv_iconst (v := -1) hx hb dX7_children_0 (by decide) ?_
  refine lv_istore (lv' := [(4, .int (-1)), (0, .ref o), (1, .int (nI c)), (2, .int (nI f)), (3, .int (nI r))]) hx hb dX7_children_1 hl (by decide) rfl (fun ls hl => ?_)
  refine n_iconst 1 (by decide) hx hb dX7_children_3 ?_
  refine lv_istore (lv' := [(5, .int (nI 1)), (4, .int (-1)), (0, .ref o), (1, .int (nI c)), (2, .int (nI f)), (3, .int (nI r))]) hx hb dX7_children_4 hl (by decide) rfl (fun ls hl => ?_)
  have L6 : ∀ (NN : Nat) (x : Int32) (i : Nat), (n - i) < NN → (1 ≤ i) → (i ≤ n) → (x = oI (chO pa rl c f r i)) → ∀ ls : Array Slot, lv_has ls 6 [(0, .ref o), (1, .int (nI c)), (2, .int (nI f)), (3, .int (nI r)), (4, .int x), (5, .int (nI i))] → W pX l eX ({ frames := 1, cells := 0, slots := 0, locals := 21 } : Room) sX mX ([.ref o, .int (nI c), .int (nI f), .int (nI r)] : List Value).toArray bX meX cX sX.heap [] 0 0 (MQ bX (vp_Si (fun rX => rX = (oI (chO pa rl c f r n)))) ([.ref o, .int (nI c), .int (nI f), .int (nI r)] : List Value).toArray sX 0 0 (fun _ => False)) (F0 mX 6 ls []) := by
    intro NN
    induction NN with
    | zero => intro x i hm9; exact absurd hm9 (Nat.not_lt_zero _)
    | succ NN ih6 =>
      intro x i hm9 hi1 hi ex ls hl
      refine lv_iload hx hb dX7_children_6 (lv_at hl 5 rfl) ?_
      refine lv_aload_n hx hb dX7_children_8 rfl (lv_at hl 0 rfl) ?_
      refine va_get (D := G) (ci := 7) (v := .int (nI n)) (C := RX7) (T := TX7) (N := 23) hx hb hts inX7 hown hK hP 0 rfl rfl 1 (by decide) lk0 (fun _ h9 => h9) rfl dX7_children_9 ?_
      refine n_icmp_ge (tgt := 69) (by omega) (by omega) hx hb dX7_children_12 (by decide) (fun q12 => ?_) (fun q12 => ?_)
      · skip
        refine lv_iload hx hb dX7_children_69 (lv_at hl 4 rfl) ?_
        exact e_pure hx hb hr hlk (by rw [ex, show i = n by omega]) dX7_children_71
      · skip
        have h1 := hpa i (by omega)
        have h2 := hrl i (by omega)
        refine lv_aload_n hx hb dX7_children_15 rfl (lv_at hl 0 rfl) ?_
        refine va_get (D := G) (ci := 7) (v := .ref p1) (C := RX7) (T := TX7) (N := 23) hx hb hts inX7 hown hK hP 0 rfl rfl 2 (by decide) lk1 (fun _ h9 => h9) rfl dX7_children_16 ?_
        refine lv_iload hx hb dX7_children_19 (lv_at hl 5 rfl) ?_
        refine n_iald hx hb hK hP 1 rfl (by omega) (by first | decide | omega) dX7_children_21 ?_
        refine lv_iload_n hx hb dX7_children_22 rfl (lv_at hl 2 rfl) ?_
        refine n_icmp_ne (tgt := 63) (by omega) (by omega) hx hb dX7_children_23 (by decide) (fun q23 => ?_) (fun q23 => ?_)
        · skip
          refine n_iinc (lv' := [(5, .int (nI (i + 1))), (0, .ref o), (1, .int (nI c)), (2, .int (nI f)), (3, .int (nI r)), (4, .int x)]) (k := 5) 1 hx hb dX7_children_63 hl rfl (by decide) (by decide) rfl (fun ls hl => ?_)
          refine lv_goto (tgt := 6) hx hb dX7_children_66 (by decide) ?_
          exact ih6 (x) (i + 1) (by omega) (by omega) (by omega) (by first | (rw [chO_succ, if_neg (fun z => by first | exact absurd z.2.1 (by assumption) | exact absurd z.2.2 (by assumption))]; exact ex) | (rw [ex, mxI_o (chO_lt pa rl c f r (by omega)), nI_add, chO_succ, if_pos ⟨hi1, by assumption, by assumption⟩, q52]; rfl))  _ (lv_sub hl [1, 2, 3, 4, 5, 0] rfl)
        · skip
          refine lv_aload_n hx hb dX7_children_26 rfl (lv_at hl 0 rfl) ?_
          refine va_get (D := G) (ci := 7) (v := .ref p2) (C := RX7) (T := TX7) (N := 23) hx hb hts inX7 hown hK hP 0 rfl rfl 3 (by decide) lk2 (fun _ h9 => h9) rfl dX7_children_27 ?_
          refine lv_iload hx hb dX7_children_30 (lv_at hl 5 rfl) ?_
          refine n_iald hx hb hK hP 2 rfl (by omega) (by first | decide | omega) dX7_children_32 ?_
          refine lv_iload_n hx hb dX7_children_33 rfl (lv_at hl 3 rfl) ?_
          refine n_icmp_eq (tgt := 40) (by omega) (by omega) hx hb dX7_children_34 (by decide) (fun q34 => ?_) (fun q34 => ?_)
          · skip
            refine lv_iload hx hb dX7_children_40 (lv_at hl 4 rfl) ?_
            refine n_iconst 0 (by decide) hx hb dX7_children_42 ?_
            refine n_max hx hb (hml.trans hl.1.symm) hown lk3 lk4 lk5 lk6 rfl rfl (Nat.le_of_ble_eq_true rfl) (Nat.le_of_ble_eq_true rfl) dX7_children_43 ?_
            refine lv_iload_n hx hb dX7_children_46 rfl (lv_at hl 1 rfl) ?_
            refine lv_iload hx hb dX7_children_47 (lv_at hl 5 rfl) ?_
            refine cS_i (As := [.int (nI c), .int (nI i)]) S hP hK hN (m_X7_has l G k _ _ (by omega) (by omega)) gX7_children_X7_has rfl rfl rfl hdS_X7_has rfl rfl [] rfl rfl hl.1 rfl rfl ⟨Nat.le_of_ble_eq_true rfl, Nat.le_of_ble_eq_true rfl⟩ dX7_children_49 (fun rX hr1 => ?_)
            subst hr1
            refine b_if_eq (tgt := 59) hx hb dX7_children_52 (by decide) (fun q52 => ?_) (fun q52 => ?_)
            · skip
              refine n_iconst 0 (by decide) hx hb dX7_children_59 ?_
              refine lv_iadd hx hb dX7_children_60 ?_
              refine lv_istore (lv' := [(4, .int ((mxI x (nI 0)) + (nI 0))), (0, .ref o), (1, .int (nI c)), (2, .int (nI f)), (3, .int (nI r)), (5, .int (nI i))]) hx hb dX7_children_61 hl (by decide) rfl (fun ls hl => ?_)
              refine n_iinc (lv' := [(5, .int (nI (i + 1))), (4, .int ((mxI x (nI 0)) + (nI 0))), (0, .ref o), (1, .int (nI c)), (2, .int (nI f)), (3, .int (nI r))]) (k := 5) 1 hx hb dX7_children_63 hl rfl (by decide) (by decide) rfl (fun ls hl => ?_)
              refine lv_goto (tgt := 6) hx hb dX7_children_66 (by decide) ?_
              exact ih6 (((mxI x (nI 0)) + (nI 0))) (i + 1) (by omega) (by omega) (by omega) (by first | (rw [chO_succ, if_neg (fun z => by first | exact absurd z.2.1 (by assumption) | exact absurd z.2.2 (by assumption))]; exact ex) | (rw [ex, mxI_o (chO_lt pa rl c f r (by omega)), nI_add, chO_succ, if_pos ⟨hi1, by assumption, by assumption⟩, q52]; rfl))  _ (lv_sub hl [2, 3, 4, 5, 1, 0] rfl)
            · skip
              refine n_iconst 1 (by decide) hx hb dX7_children_55 ?_
              refine lv_goto (tgt := 60) hx hb dX7_children_56 (by decide) ?_
              refine lv_iadd hx hb dX7_children_60 ?_
              refine lv_istore (lv' := [(4, .int ((mxI x (nI 0)) + (nI 1))), (0, .ref o), (1, .int (nI c)), (2, .int (nI f)), (3, .int (nI r)), (5, .int (nI i))]) hx hb dX7_children_61 hl (by decide) rfl (fun ls hl => ?_)
              refine n_iinc (lv' := [(5, .int (nI (i + 1))), (4, .int ((mxI x (nI 0)) + (nI 1))), (0, .ref o), (1, .int (nI c)), (2, .int (nI f)), (3, .int (nI r))]) (k := 5) 1 hx hb dX7_children_63 hl rfl (by decide) (by decide) rfl (fun ls hl => ?_)
              refine lv_goto (tgt := 6) hx hb dX7_children_66 (by decide) ?_
              exact ih6 (((mxI x (nI 0)) + (nI 1))) (i + 1) (by omega) (by omega) (by omega) (by first | (rw [chO_succ, if_neg (fun z => by first | exact absurd z.2.1 (by assumption) | exact absurd z.2.2 (by assumption))]; exact ex) | (rw [ex, mxI_o (chO_lt pa rl c f r (by omega)), nI_add, chO_succ, if_pos ⟨hi1, by assumption, by assumption⟩, q52]; rfl))  _ (lv_sub hl [2, 3, 4, 5, 1, 0] rfl)
          · skip
            refine lv_goto (tgt := 63) hx hb dX7_children_37 (by decide) ?_
            refine n_iinc (lv' := [(5, .int (nI (i + 1))), (0, .ref o), (1, .int (nI c)), (2, .int (nI f)), (3, .int (nI r)), (4, .int x)]) (k := 5) 1 hx hb dX7_children_63 hl rfl (by decide) (by decide) rfl (fun ls hl => ?_)
            refine lv_goto (tgt := 6) hx hb dX7_children_66 (by decide) ?_
            exact ih6 (x) (i + 1) (by omega) (by omega) (by omega) (by first | (rw [chO_succ, if_neg (fun z => by first | exact absurd z.2.1 (by assumption) | exact absurd z.2.2 (by assumption))]; exact ex) | (rw [ex, mxI_o (chO_lt pa rl c f r (by omega)), nI_add, chO_succ, if_pos ⟨hi1, by assumption, by assumption⟩, q52]; rfl))  _ (lv_sub hl [1, 2, 3, 4, 5, 0] rfl)
  exact L6 _ ((-1)) (1) (Nat.lt_succ_self _) (by omega) (by omega) (by rfl)  _ (lv_sub hl [2, 3, 4, 5, 1, 0] rfl)
theorem hdV_X7_children : yX7_children.cls = RX7 ∧ yX7_children.cls ≠ "java/lang/invoke/MethodHandle" ∧ yX7_children.cls ≠ "java/lang/invoke/VarHandle" ∧ (parseMethodDescriptor yX7_children.desc).map (fun d => d.parameters.length) = some 3 := by decide +kernel
set_option maxHeartbeats 4000000 in
set_option maxRecDepth 100000 in
theorem m_X7_brokenInTree (l : Launch) (G : va_G) (k : Nat → ClassId) (o n p1 p2 c : Nat) (pa rl : Nat → Nat) (w0 w4 w5 w6 w7 w8 w9 w10 w11 w12 w13 w14 w15 w16 w17 w18 w19 w20 w21 w22 : Value) (hn : n ≤ 12) (hn1 : 1 ≤ n) (hc : c < 4096) (hpa : ∀ i, i < n → pa i < 12) (hrl : ∀ i, i < n → rl i < 4) : Met l yX7_brokenInTree wsX7_brokenInTree ({ frames := 2, cells := 0, slots := 0, locals := 46 } : Room) (va_Pc [.ref o, .int (nI c)] (Wd G k [(o, .inr (7, [w0, .int (nI n), .ref p1, .ref p2, w4, w5, w6, w7, w8, w9, w10, w11, w12, w13, w14, w15, w16, w17, w18, w19, w20, w21, w22])), (p1, .inl (k 0, 12, .inl (nA pa))), (p2, .inl (k 0, 12, .inl (nA rl)))])) (vp_Si (fun rX => rX = (nI (treeN n pa rl c)))) 0 0 (fun _ => False) := by
  refine met_mk (cc := cX7_brokenInTree) (maxL := 5) (ret := (some .int)) (by decide) rfl rfl ?_
  intro pX eX sX mX bX meX cX S hr hlk hnm hB ls hl
  obtain ⟨hP, hK, hN⟩ := hB
  obtain ⟨hx, hb, hml, hown, hts⟩ := id S
  have hown : sX.vm.findClass RX7 = some mX.cls := hown
  have hl : lv_has ls 5 [(0, .ref o), (1, .int (nI c))] := hl
  have lk0 : (Cond.fieldLink RX7 9 "FeatureAnalyzerModel" "features" "I").before _ sX = true := hts _ (List.mem_cons_of_mem _ (List.mem_append_left _ (List.mem_of_getElem? (i := 0) rfl)))
  have inX7 : ∀ w ∈ wsX70, w ∈ wsX7_brokenInTree := fun w h => List.mem_cons_of_mem _ (List.mem_append_right _ (h))
  have lk1 : (Cond.fieldLink RX7 17 "FeatureAnalyzerModel" "relations" "[I").before _ sX = true := hts _ (List.mem_cons_of_mem _ (List.mem_append_left _ (List.mem_of_getElem? (i := 2) rfl)))
  have lk2 : (Cond.fieldLink RX7 13 "FeatureAnalyzerModel" "parents" "[I").before _ sX = true := hts _ (List.mem_cons_of_mem _ (List.mem_append_left _ (List.mem_of_getElem? (i := 1) rfl)))
  have L89 : ∀ (NN : Nat) (x : Nat) (i : Nat), (n - i) < NN → (i ≤ n) → (x = (if c.testBit 0 then 0 else 1) + tr1 pa rl c n + tr2 pa rl n c i) → ∀ ls : Array Slot, lv_has ls 5 [(0, .ref o), (1, .int (nI c)), (2, .int (nI x)), (3, .int (nI i))] → W pX l eX ({ frames := 2, cells := 0, slots := 0, locals := 46 } : Room) sX mX ([.ref o, .int (nI c)] : List Value).toArray bX meX cX sX.heap [] 0 0 (MQ bX (vp_Si (fun rX => rX = (nI (treeN n pa rl c)))) ([.ref o, .int (nI c)] : List Value).toArray sX 0 0 (fun _ => False)) (F0 mX 89 ls []) := by
    intro NN
    induction NN with
    | zero => intro x i hm9; exact absurd hm9 (Nat.not_lt_zero _)
    | succ NN ih89 =>
      intro x i hm9 hi ex ls hl
      refine lv_iload_n hx hb dX7_brokenInTree_89 rfl (lv_at hl 3 rfl) ?_
      refine lv_aload_n hx hb dX7_brokenInTree_90 rfl (lv_at hl 0 rfl) ?_
      refine va_get (D := G) (ci := 7) (v := .int (nI n)) (C := RX7) (T := TX7) (N := 23) hx hb hts inX7 hown hK hP 0 rfl rfl 1 (by decide) lk0 (fun _ h9 => h9) rfl dX7_brokenInTree_91 ?_
      refine n_icmp_ge (tgt := 151) (by omega) (by omega) hx hb dX7_brokenInTree_94 (by decide) (fun q94 => ?_) (fun q94 => ?_)
      · skip
        refine lv_iload_n hx hb dX7_brokenInTree_151 rfl (lv_at hl 2 rfl) ?_
        exact e_pure hx hb hr hlk (by rw [ex, show i = n by omega]; rfl) dX7_brokenInTree_152
      · skip
        have hb2 := chO_lt pa rl c i 2 hn
        have hb3 := chO_lt pa rl c i 3 hn
        refine lv_iload_n hx hb dX7_brokenInTree_97 rfl (lv_at hl 1 rfl) ?_
        refine lv_iload_n hx hb dX7_brokenInTree_98 rfl (lv_at hl 3 rfl) ?_
        refine cS_i (As := [.int (nI c), .int (nI i)]) S hP hK hN (m_X7_has l G k _ _ (by omega) (by omega)) gX7_brokenInTree_X7_has rfl rfl rfl hdS_X7_has rfl rfl [] rfl rfl hl.1 rfl rfl ⟨Nat.le_of_ble_eq_true rfl, Nat.le_of_ble_eq_true rfl⟩ dX7_brokenInTree_99 (fun rX hr1 => ?_)
        subst hr1
        refine b_if_ne (tgt := 108) hx hb dX7_brokenInTree_102 (by decide) (fun q102 => ?_) (fun q102 => ?_)
        · skip
          refine lv_aload_n hx hb dX7_brokenInTree_108 rfl (lv_at hl 0 rfl) ?_
          refine lv_iload_n hx hb dX7_brokenInTree_109 rfl (lv_at hl 1 rfl) ?_
          refine lv_iload_n hx hb dX7_brokenInTree_110 rfl (lv_at hl 3 rfl) ?_
          refine n_iconst 2 (by decide) hx hb dX7_brokenInTree_111 ?_
          refine cV_i (As := [.int (nI c), .int (nI i), .int (nI 2)]) S hP hK hN (m_X7_children l G k _ _ _ _ _ _ _ _ _ _ _ _ _ _ _ _ _ _ _ _ _ _ _ _ _ _ _ _ _ (by omega) (by omega) (by omega) (by omega) (by omega) (by omega) (by omega)) gX7_brokenInTree_X7_children rfl rfl rfl hdV_X7_children rfl rfl [0, 1, 2] rfl 7 0 rfl rfl rfl rfl hl.1 rfl rfl ⟨Nat.le_of_ble_eq_true rfl, Nat.le_of_ble_eq_true rfl⟩ dX7_brokenInTree_112 (fun rX hr2 => ?_)
          subst hr2
          refine lv_istore (lv' := [(4, .int (oI (chO pa rl c i 2 n))), (0, .ref o), (1, .int (nI c)), (2, .int (nI x)), (3, .int (nI i))]) hx hb dX7_brokenInTree_115 hl (by decide) rfl (fun ls hl => ?_)
          refine lv_iload hx hb dX7_brokenInTree_117 (lv_at hl 0 rfl) ?_
          refine lv_iconst (v := -1) hx hb dX7_brokenInTree_119 (by decide) ?_
          refine lv_icmp_eq (tgt := 132) hx hb dX7_brokenInTree_120 (by decide) (fun q120 => ?_) (fun q120 => ?_)
          · skip
            have r1 := (oI_none hb2).mp q120
            refine lv_aload_n hx hb dX7_brokenInTree_132 rfl (lv_at hl 1 rfl) ?_
            refine lv_iload_n hx hb dX7_brokenInTree_133 rfl (lv_at hl 2 rfl) ?_
            refine lv_iload_n hx hb dX7_brokenInTree_134 rfl (lv_at hl 4 rfl) ?_
            refine n_iconst 3 (by decide) hx hb dX7_brokenInTree_135 ?_
            refine cV_i (As := [.int (nI c), .int (nI i), .int (nI 3)]) S hP hK hN (m_X7_children l G k _ _ _ _ _ _ _ _ _ _ _ _ _ _ _ _ _ _ _ _ _ _ _ _ _ _ _ _ _ (by omega) (by omega) (by omega) (by omega) (by omega) (by omega) (by omega)) gX7_brokenInTree_X7_children rfl rfl rfl hdV_X7_children rfl rfl [0, 1, 2] rfl 7 0 rfl rfl rfl rfl hl.1 rfl rfl ⟨Nat.le_of_ble_eq_true rfl, Nat.le_of_ble_eq_true rfl⟩ dX7_brokenInTree_136 (fun rX hr3 => ?_)
            subst hr3
            refine lv_if_ne (tgt := 145) hx hb dX7_brokenInTree_139 (by decide) (fun q139 => ?_) (fun q139 => ?_)
            · skip
              have r3 := fun z => q139 ((oI_some (v := 0) hb3 (by decide)).mpr z)
              refine n_iinc (lv' := [(3, .int (nI (i + 1))), (4, .int (oI (chO pa rl c i 2 n))), (0, .ref o), (1, .int (nI c)), (2, .int (nI x))]) (k := 4) 1 hx hb dX7_brokenInTree_145 hl rfl (by decide) (by decide) rfl (fun ls hl => ?_)
              refine lv_goto (tgt := 89) hx hb dX7_brokenInTree_148 (by decide) ?_
              exact ih89 (x) (i + 1) (by omega) (by omega) (by rw [ex, tr2_succ]; simp_all <;> omega)  _ (lv_sub hl [2, 3, 4, 0] rfl)
            · skip
              have r3 := (oI_some (v := 0) hb3 (by decide)).mp q139
              refine n_iinc (lv' := [(2, .int (nI (x + 1))), (4, .int (oI (chO pa rl c i 2 n))), (0, .ref o), (1, .int (nI c)), (3, .int (nI i))]) (k := 3) 1 hx hb dX7_brokenInTree_142 hl rfl (by decide) (by decide) rfl (fun ls hl => ?_)
              refine n_iinc (lv' := [(3, .int (nI (i + 1))), (2, .int (nI (x + 1))), (4, .int (oI (chO pa rl c i 2 n))), (0, .ref o), (1, .int (nI c))]) (k := 4) 1 hx hb dX7_brokenInTree_145 hl rfl (by decide) (by decide) rfl (fun ls hl => ?_)
              refine lv_goto (tgt := 89) hx hb dX7_brokenInTree_148 (by decide) ?_
              exact ih89 (x + 1) (i + 1) (by omega) (by omega) (by rw [ex, tr2_succ]; simp_all <;> omega)  _ (lv_sub hl [3, 4, 1, 0] rfl)
          · skip
            have r1 := fun z => q120 ((oI_none hb2).mpr z)
            refine lv_iload hx hb dX7_brokenInTree_123 (lv_at hl 0 rfl) ?_
            refine n_iconst 1 (by decide) hx hb dX7_brokenInTree_125 ?_
            refine lv_icmp_eq (tgt := 132) hx hb dX7_brokenInTree_126 (by decide) (fun q126 => ?_) (fun q126 => ?_)
            · skip
              have r2 := (oI_some hb2 (by decide)).mp q126
              refine lv_aload_n hx hb dX7_brokenInTree_132 rfl (lv_at hl 1 rfl) ?_
              refine lv_iload_n hx hb dX7_brokenInTree_133 rfl (lv_at hl 2 rfl) ?_
              refine lv_iload_n hx hb dX7_brokenInTree_134 rfl (lv_at hl 4 rfl) ?_
              refine n_iconst 3 (by decide) hx hb dX7_brokenInTree_135 ?_
              refine cV_i (As := [.int (nI c), .int (nI i), .int (nI 3)]) S hP hK hN (m_X7_children l G k _ _ _ _ _ _ _ _ _ _ _ _ _ _ _ _ _ _ _ _ _ _ _ _ _ _ _ _ _ (by omega) (by omega) (by omega) (by omega) (by omega) (by omega) (by omega)) gX7_brokenInTree_X7_children rfl rfl rfl hdV_X7_children rfl rfl [0, 1, 2] rfl 7 0 rfl rfl rfl rfl hl.1 rfl rfl ⟨Nat.le_of_ble_eq_true rfl, Nat.le_of_ble_eq_true rfl⟩ dX7_brokenInTree_136 (fun rX hr4 => ?_)
              subst hr4
              refine lv_if_ne (tgt := 145) hx hb dX7_brokenInTree_139 (by decide) (fun q139 => ?_) (fun q139 => ?_)
              · skip
                have r3 := fun z => q139 ((oI_some (v := 0) hb3 (by decide)).mpr z)
                refine n_iinc (lv' := [(3, .int (nI (i + 1))), (4, .int (oI (chO pa rl c i 2 n))), (0, .ref o), (1, .int (nI c)), (2, .int (nI x))]) (k := 4) 1 hx hb dX7_brokenInTree_145 hl rfl (by decide) (by decide) rfl (fun ls hl => ?_)
                refine lv_goto (tgt := 89) hx hb dX7_brokenInTree_148 (by decide) ?_
                exact ih89 (x) (i + 1) (by omega) (by omega) (by rw [ex, tr2_succ]; simp_all <;> omega)  _ (lv_sub hl [2, 3, 4, 0] rfl)
              · skip
                have r3 := (oI_some (v := 0) hb3 (by decide)).mp q139
                refine n_iinc (lv' := [(2, .int (nI (x + 1))), (4, .int (oI (chO pa rl c i 2 n))), (0, .ref o), (1, .int (nI c)), (3, .int (nI i))]) (k := 3) 1 hx hb dX7_brokenInTree_142 hl rfl (by decide) (by decide) rfl (fun ls hl => ?_)
                refine n_iinc (lv' := [(3, .int (nI (i + 1))), (2, .int (nI (x + 1))), (4, .int (oI (chO pa rl c i 2 n))), (0, .ref o), (1, .int (nI c))]) (k := 4) 1 hx hb dX7_brokenInTree_145 hl rfl (by decide) (by decide) rfl (fun ls hl => ?_)
                refine lv_goto (tgt := 89) hx hb dX7_brokenInTree_148 (by decide) ?_
                exact ih89 (x + 1) (i + 1) (by omega) (by omega) (by rw [ex, tr2_succ]; simp_all <;> omega)  _ (lv_sub hl [3, 4, 1, 0] rfl)
            · skip
              have r2 := fun z => q126 ((oI_some hb2 (by decide)).mpr z)
              refine n_iinc (lv' := [(2, .int (nI (x + 1))), (4, .int (oI (chO pa rl c i 2 n))), (0, .ref o), (1, .int (nI c)), (3, .int (nI i))]) (k := 3) 1 hx hb dX7_brokenInTree_129 hl rfl (by decide) (by decide) rfl (fun ls hl => ?_)
              refine lv_aload_n hx hb dX7_brokenInTree_132 rfl (lv_at hl 2 rfl) ?_
              refine lv_iload_n hx hb dX7_brokenInTree_133 rfl (lv_at hl 3 rfl) ?_
              refine lv_iload_n hx hb dX7_brokenInTree_134 rfl (lv_at hl 4 rfl) ?_
              refine n_iconst 3 (by decide) hx hb dX7_brokenInTree_135 ?_
              refine cV_i (As := [.int (nI c), .int (nI i), .int (nI 3)]) S hP hK hN (m_X7_children l G k _ _ _ _ _ _ _ _ _ _ _ _ _ _ _ _ _ _ _ _ _ _ _ _ _ _ _ _ _ (by omega) (by omega) (by omega) (by omega) (by omega) (by omega) (by omega)) gX7_brokenInTree_X7_children rfl rfl rfl hdV_X7_children rfl rfl [0, 1, 2] rfl 7 0 rfl rfl rfl rfl hl.1 rfl rfl ⟨Nat.le_of_ble_eq_true rfl, Nat.le_of_ble_eq_true rfl⟩ dX7_brokenInTree_136 (fun rX hr5 => ?_)
              subst hr5
              refine lv_if_ne (tgt := 145) hx hb dX7_brokenInTree_139 (by decide) (fun q139 => ?_) (fun q139 => ?_)
              · skip
                have r3 := fun z => q139 ((oI_some (v := 0) hb3 (by decide)).mpr z)
                refine n_iinc (lv' := [(3, .int (nI (i + 1))), (2, .int (nI (x + 1))), (4, .int (oI (chO pa rl c i 2 n))), (0, .ref o), (1, .int (nI c))]) (k := 4) 1 hx hb dX7_brokenInTree_145 hl rfl (by decide) (by decide) rfl (fun ls hl => ?_)
                refine lv_goto (tgt := 89) hx hb dX7_brokenInTree_148 (by decide) ?_
                exact ih89 (x + 1) (i + 1) (by omega) (by omega) (by rw [ex, tr2_succ]; simp_all <;> omega)  _ (lv_sub hl [3, 4, 1, 0] rfl)
              · skip
                have r3 := (oI_some (v := 0) hb3 (by decide)).mp q139
                refine n_iinc (lv' := [(2, .int (nI ((x + 1) + 1))), (4, .int (oI (chO pa rl c i 2 n))), (0, .ref o), (1, .int (nI c)), (3, .int (nI i))]) (k := 0) 1 hx hb dX7_brokenInTree_142 hl rfl (by decide) (by decide) rfl (fun ls hl => ?_)
                refine n_iinc (lv' := [(3, .int (nI (i + 1))), (2, .int (nI ((x + 1) + 1))), (4, .int (oI (chO pa rl c i 2 n))), (0, .ref o), (1, .int (nI c))]) (k := 4) 1 hx hb dX7_brokenInTree_145 hl rfl (by decide) (by decide) rfl (fun ls hl => ?_)
                refine lv_goto (tgt := 89) hx hb dX7_brokenInTree_148 (by decide) ?_
                exact ih89 ((x + 1) + 1) (i + 1) (by omega) (by omega) (by rw [ex, tr2_succ]; simp_all <;> omega)  _ (lv_sub hl [3, 4, 1, 0] rfl)
        · skip
          refine lv_goto (tgt := 145) hx hb dX7_brokenInTree_105 (by decide) ?_
          refine n_iinc (lv' := [(3, .int (nI (i + 1))), (0, .ref o), (1, .int (nI c)), (2, .int (nI x))]) (k := 3) 1 hx hb dX7_brokenInTree_145 hl rfl (by decide) (by decide) rfl (fun ls hl => ?_)
          refine lv_goto (tgt := 89) hx hb dX7_brokenInTree_148 (by decide) ?_
          exact ih89 (x) (i + 1) (by omega) (by omega) (by rw [ex, tr2_succ]; simp_all <;> omega)  _ (lv_sub hl [1, 2, 3, 0] rfl)
  have L16 : ∀ (NN : Nat) (x : Nat) (i : Nat), (n - i) < NN → (1 ≤ i) → (i ≤ n) → (x = (if c.testBit 0 then 0 else 1) + tr1 pa rl c i) → ∀ ls : Array Slot, lv_has ls 5 [(0, .ref o), (1, .int (nI c)), (2, .int (nI x)), (3, .int (nI i))] → W pX l eX ({ frames := 2, cells := 0, slots := 0, locals := 46 } : Room) sX mX ([.ref o, .int (nI c)] : List Value).toArray bX meX cX sX.heap [] 0 0 (MQ bX (vp_Si (fun rX => rX = (nI (treeN n pa rl c)))) ([.ref o, .int (nI c)] : List Value).toArray sX 0 0 (fun _ => False)) (F0 mX 16 ls []) := by
    intro NN
    induction NN with
    | zero => intro x i hm9; exact absurd hm9 (Nat.not_lt_zero _)
    | succ NN ih16 =>
      intro x i hm9 hi1 hi ex ls hl
      refine lv_iload_n hx hb dX7_brokenInTree_16 rfl (lv_at hl 3 rfl) ?_
      refine lv_aload_n hx hb dX7_brokenInTree_17 rfl (lv_at hl 0 rfl) ?_
      refine va_get (D := G) (ci := 7) (v := .int (nI n)) (C := RX7) (T := TX7) (N := 23) hx hb hts inX7 hown hK hP 0 rfl rfl 1 (by decide) lk0 (fun _ h9 => h9) rfl dX7_brokenInTree_18 ?_
      refine n_icmp_ge (tgt := 87) (by omega) (by omega) hx hb dX7_brokenInTree_21 (by decide) (fun q21 => ?_) (fun q21 => ?_)
      · skip
        refine n_iconst 0 (by decide) hx hb dX7_brokenInTree_87 ?_
        refine lv_istore_n (lv' := [(3, .int (nI 0)), (0, .ref o), (1, .int (nI c)), (2, .int (nI x))]) hx hb dX7_brokenInTree_88 rfl hl (by decide) rfl (fun ls hl => ?_)
        exact L89 _ (x) (0) (Nat.lt_succ_self _) (by omega) (by rw [ex, show i = n by omega]; rfl)  _ (lv_sub hl [1, 2, 3, 0] rfl)
      · skip
        have h1 := hpa i (by omega)
        have h2 := hrl i (by omega)
        refine lv_iload_n hx hb dX7_brokenInTree_24 rfl (lv_at hl 1 rfl) ?_
        refine lv_iload_n hx hb dX7_brokenInTree_25 rfl (lv_at hl 3 rfl) ?_
        refine cS_i (As := [.int (nI c), .int (nI i)]) S hP hK hN (m_X7_has l G k _ _ (by omega) (by omega)) gX7_brokenInTree_X7_has rfl rfl rfl hdS_X7_has rfl rfl [] rfl rfl hl.1 rfl rfl ⟨Nat.le_of_ble_eq_true rfl, Nat.le_of_ble_eq_true rfl⟩ dX7_brokenInTree_26 (fun rX hr6 => ?_)
        subst hr6
        refine b_if_eq (tgt := 48) hx hb dX7_brokenInTree_29 (by decide) (fun q29 => ?_) (fun q29 => ?_)
        · skip
          refine lv_aload_n hx hb dX7_brokenInTree_48 rfl (lv_at hl 0 rfl) ?_
          refine va_get (D := G) (ci := 7) (v := .ref p2) (C := RX7) (T := TX7) (N := 23) hx hb hts inX7 hown hK hP 0 rfl rfl 3 (by decide) lk1 (fun _ h9 => h9) rfl dX7_brokenInTree_49 ?_
          refine lv_iload_n hx hb dX7_brokenInTree_52 rfl (lv_at hl 3 rfl) ?_
          refine n_iald hx hb hK hP 2 rfl (by omega) (by first | decide | omega) dX7_brokenInTree_53 ?_
          refine n_if_ne (tgt := 81) (by omega) hx hb dX7_brokenInTree_54 (by decide) (fun q54 => ?_) (fun q54 => ?_)
          · skip
            refine n_iinc (lv' := [(3, .int (nI (i + 1))), (0, .ref o), (1, .int (nI c)), (2, .int (nI x))]) (k := 3) 1 hx hb dX7_brokenInTree_81 hl rfl (by decide) (by decide) rfl (fun ls hl => ?_)
            refine lv_goto (tgt := 16) hx hb dX7_brokenInTree_84 (by decide) ?_
            exact ih16 (x) (i + 1) (by omega) (by omega) (by omega) (by rw [ex, tr1_succ, if_pos hi1]; simp_all [Nat.pos_iff_ne_zero] <;> omega)  _ (lv_sub hl [1, 2, 3, 0] rfl)
          · skip
            refine lv_iload_n hx hb dX7_brokenInTree_57 rfl (lv_at hl 1 rfl) ?_
            refine lv_aload_n hx hb dX7_brokenInTree_58 rfl (lv_at hl 0 rfl) ?_
            refine va_get (D := G) (ci := 7) (v := .ref p1) (C := RX7) (T := TX7) (N := 23) hx hb hts inX7 hown hK hP 0 rfl rfl 2 (by decide) lk2 (fun _ h9 => h9) rfl dX7_brokenInTree_59 ?_
            refine lv_iload_n hx hb dX7_brokenInTree_62 rfl (lv_at hl 3 rfl) ?_
            refine n_iald hx hb hK hP 1 rfl (by omega) (by first | decide | omega) dX7_brokenInTree_63 ?_
            refine cS_i (As := [.int (nI c), .int (nI (pa i))]) S hP hK hN (m_X7_has l G k _ _ (by omega) (by omega)) gX7_brokenInTree_X7_has rfl rfl rfl hdS_X7_has rfl rfl [] rfl rfl hl.1 rfl rfl ⟨Nat.le_of_ble_eq_true rfl, Nat.le_of_ble_eq_true rfl⟩ dX7_brokenInTree_64 (fun rX hr7 => ?_)
            subst hr7
            refine b_if_eq (tgt := 81) hx hb dX7_brokenInTree_67 (by decide) (fun q67 => ?_) (fun q67 => ?_)
            · skip
              refine n_iinc (lv' := [(3, .int (nI (i + 1))), (0, .ref o), (1, .int (nI c)), (2, .int (nI x))]) (k := 3) 1 hx hb dX7_brokenInTree_81 hl rfl (by decide) (by decide) rfl (fun ls hl => ?_)
              refine lv_goto (tgt := 16) hx hb dX7_brokenInTree_84 (by decide) ?_
              exact ih16 (x) (i + 1) (by omega) (by omega) (by omega) (by rw [ex, tr1_succ, if_pos hi1]; simp_all [Nat.pos_iff_ne_zero] <;> omega)  _ (lv_sub hl [1, 2, 3, 0] rfl)
            · skip
              refine lv_iload_n hx hb dX7_brokenInTree_70 rfl (lv_at hl 1 rfl) ?_
              refine lv_iload_n hx hb dX7_brokenInTree_71 rfl (lv_at hl 3 rfl) ?_
              refine cS_i (As := [.int (nI c), .int (nI i)]) S hP hK hN (m_X7_has l G k _ _ (by omega) (by omega)) gX7_brokenInTree_X7_has rfl rfl rfl hdS_X7_has rfl rfl [] rfl rfl hl.1 rfl rfl ⟨Nat.le_of_ble_eq_true rfl, Nat.le_of_ble_eq_true rfl⟩ dX7_brokenInTree_72 (fun rX hr8 => ?_)
              subst hr8
              refine b_if_ne (tgt := 81) hx hb dX7_brokenInTree_75 (by decide) (fun q75 => ?_) (fun q75 => ?_)
              · skip
                refine n_iinc (lv' := [(3, .int (nI (i + 1))), (0, .ref o), (1, .int (nI c)), (2, .int (nI x))]) (k := 3) 1 hx hb dX7_brokenInTree_81 hl rfl (by decide) (by decide) rfl (fun ls hl => ?_)
                refine lv_goto (tgt := 16) hx hb dX7_brokenInTree_84 (by decide) ?_
                exact ih16 (x) (i + 1) (by omega) (by omega) (by omega) (by rw [ex, tr1_succ, if_pos hi1]; simp_all [Nat.pos_iff_ne_zero] <;> omega)  _ (lv_sub hl [1, 2, 3, 0] rfl)
              · skip
                refine n_iinc (lv' := [(2, .int (nI (x + 1))), (0, .ref o), (1, .int (nI c)), (3, .int (nI i))]) (k := 2) 1 hx hb dX7_brokenInTree_78 hl rfl (by decide) (by decide) rfl (fun ls hl => ?_)
                refine n_iinc (lv' := [(3, .int (nI (i + 1))), (2, .int (nI (x + 1))), (0, .ref o), (1, .int (nI c))]) (k := 3) 1 hx hb dX7_brokenInTree_81 hl rfl (by decide) (by decide) rfl (fun ls hl => ?_)
                refine lv_goto (tgt := 16) hx hb dX7_brokenInTree_84 (by decide) ?_
                exact ih16 (x + 1) (i + 1) (by omega) (by omega) (by omega) (by rw [ex, tr1_succ, if_pos hi1]; simp_all [Nat.pos_iff_ne_zero] <;> omega)  _ (lv_sub hl [2, 3, 1, 0] rfl)
        · skip
          refine lv_iload_n hx hb dX7_brokenInTree_32 rfl (lv_at hl 1 rfl) ?_
          refine lv_aload_n hx hb dX7_brokenInTree_33 rfl (lv_at hl 0 rfl) ?_
          refine va_get (D := G) (ci := 7) (v := .ref p1) (C := RX7) (T := TX7) (N := 23) hx hb hts inX7 hown hK hP 0 rfl rfl 2 (by decide) lk2 (fun _ h9 => h9) rfl dX7_brokenInTree_34 ?_
          refine lv_iload_n hx hb dX7_brokenInTree_37 rfl (lv_at hl 3 rfl) ?_
          refine n_iald hx hb hK hP 1 rfl (by omega) (by first | decide | omega) dX7_brokenInTree_38 ?_
          refine cS_i (As := [.int (nI c), .int (nI (pa i))]) S hP hK hN (m_X7_has l G k _ _ (by omega) (by omega)) gX7_brokenInTree_X7_has rfl rfl rfl hdS_X7_has rfl rfl [] rfl rfl hl.1 rfl rfl ⟨Nat.le_of_ble_eq_true rfl, Nat.le_of_ble_eq_true rfl⟩ dX7_brokenInTree_39 (fun rX hr9 => ?_)
          subst hr9
          refine b_if_ne (tgt := 48) hx hb dX7_brokenInTree_42 (by decide) (fun q42 => ?_) (fun q42 => ?_)
          · skip
            refine lv_aload_n hx hb dX7_brokenInTree_48 rfl (lv_at hl 0 rfl) ?_
            refine va_get (D := G) (ci := 7) (v := .ref p2) (C := RX7) (T := TX7) (N := 23) hx hb hts inX7 hown hK hP 0 rfl rfl 3 (by decide) lk1 (fun _ h9 => h9) rfl dX7_brokenInTree_49 ?_
            refine lv_iload_n hx hb dX7_brokenInTree_52 rfl (lv_at hl 3 rfl) ?_
            refine n_iald hx hb hK hP 2 rfl (by omega) (by first | decide | omega) dX7_brokenInTree_53 ?_
            refine n_if_ne (tgt := 81) (by omega) hx hb dX7_brokenInTree_54 (by decide) (fun q54 => ?_) (fun q54 => ?_)
            · skip
              refine n_iinc (lv' := [(3, .int (nI (i + 1))), (0, .ref o), (1, .int (nI c)), (2, .int (nI x))]) (k := 3) 1 hx hb dX7_brokenInTree_81 hl rfl (by decide) (by decide) rfl (fun ls hl => ?_)
              refine lv_goto (tgt := 16) hx hb dX7_brokenInTree_84 (by decide) ?_
              exact ih16 (x) (i + 1) (by omega) (by omega) (by omega) (by rw [ex, tr1_succ, if_pos hi1]; simp_all [Nat.pos_iff_ne_zero] <;> omega)  _ (lv_sub hl [1, 2, 3, 0] rfl)
            · skip
              refine lv_iload_n hx hb dX7_brokenInTree_57 rfl (lv_at hl 1 rfl) ?_
              refine lv_aload_n hx hb dX7_brokenInTree_58 rfl (lv_at hl 0 rfl) ?_
              refine va_get (D := G) (ci := 7) (v := .ref p1) (C := RX7) (T := TX7) (N := 23) hx hb hts inX7 hown hK hP 0 rfl rfl 2 (by decide) lk2 (fun _ h9 => h9) rfl dX7_brokenInTree_59 ?_
              refine lv_iload_n hx hb dX7_brokenInTree_62 rfl (lv_at hl 3 rfl) ?_
              refine n_iald hx hb hK hP 1 rfl (by omega) (by first | decide | omega) dX7_brokenInTree_63 ?_
              refine cS_i (As := [.int (nI c), .int (nI (pa i))]) S hP hK hN (m_X7_has l G k _ _ (by omega) (by omega)) gX7_brokenInTree_X7_has rfl rfl rfl hdS_X7_has rfl rfl [] rfl rfl hl.1 rfl rfl ⟨Nat.le_of_ble_eq_true rfl, Nat.le_of_ble_eq_true rfl⟩ dX7_brokenInTree_64 (fun rX hr10 => ?_)
              subst hr10
              refine b_if_eq (tgt := 81) hx hb dX7_brokenInTree_67 (by decide) (fun q67 => ?_) (fun q67 => ?_)
              · skip
                refine n_iinc (lv' := [(3, .int (nI (i + 1))), (0, .ref o), (1, .int (nI c)), (2, .int (nI x))]) (k := 3) 1 hx hb dX7_brokenInTree_81 hl rfl (by decide) (by decide) rfl (fun ls hl => ?_)
                refine lv_goto (tgt := 16) hx hb dX7_brokenInTree_84 (by decide) ?_
                exact ih16 (x) (i + 1) (by omega) (by omega) (by omega) (by rw [ex, tr1_succ, if_pos hi1]; simp_all [Nat.pos_iff_ne_zero] <;> omega)  _ (lv_sub hl [1, 2, 3, 0] rfl)
              · skip
                refine lv_iload_n hx hb dX7_brokenInTree_70 rfl (lv_at hl 1 rfl) ?_
                refine lv_iload_n hx hb dX7_brokenInTree_71 rfl (lv_at hl 3 rfl) ?_
                refine cS_i (As := [.int (nI c), .int (nI i)]) S hP hK hN (m_X7_has l G k _ _ (by omega) (by omega)) gX7_brokenInTree_X7_has rfl rfl rfl hdS_X7_has rfl rfl [] rfl rfl hl.1 rfl rfl ⟨Nat.le_of_ble_eq_true rfl, Nat.le_of_ble_eq_true rfl⟩ dX7_brokenInTree_72 (fun rX hr11 => ?_)
                subst hr11
                refine b_if_ne (tgt := 81) hx hb dX7_brokenInTree_75 (by decide) (fun q75 => ?_) (fun q75 => ?_)
                · skip
                  refine n_iinc (lv' := [(3, .int (nI (i + 1))), (0, .ref o), (1, .int (nI c)), (2, .int (nI x))]) (k := 3) 1 hx hb dX7_brokenInTree_81 hl rfl (by decide) (by decide) rfl (fun ls hl => ?_)
                  refine lv_goto (tgt := 16) hx hb dX7_brokenInTree_84 (by decide) ?_
                  exact ih16 (x) (i + 1) (by omega) (by omega) (by omega) (by rw [ex, tr1_succ, if_pos hi1]; simp_all [Nat.pos_iff_ne_zero] <;> omega)  _ (lv_sub hl [1, 2, 3, 0] rfl)
                · skip
                  refine n_iinc (lv' := [(2, .int (nI (x + 1))), (0, .ref o), (1, .int (nI c)), (3, .int (nI i))]) (k := 2) 1 hx hb dX7_brokenInTree_78 hl rfl (by decide) (by decide) rfl (fun ls hl => ?_)
                  refine n_iinc (lv' := [(3, .int (nI (i + 1))), (2, .int (nI (x + 1))), (0, .ref o), (1, .int (nI c))]) (k := 3) 1 hx hb dX7_brokenInTree_81 hl rfl (by decide) (by decide) rfl (fun ls hl => ?_)
                  refine lv_goto (tgt := 16) hx hb dX7_brokenInTree_84 (by decide) ?_
                  exact ih16 (x + 1) (i + 1) (by omega) (by omega) (by omega) (by rw [ex, tr1_succ, if_pos hi1]; simp_all [Nat.pos_iff_ne_zero] <;> omega)  _ (lv_sub hl [2, 3, 1, 0] rfl)
          · skip
            refine n_iinc (lv' := [(2, .int (nI (x + 1))), (0, .ref o), (1, .int (nI c)), (3, .int (nI i))]) (k := 2) 1 hx hb dX7_brokenInTree_45 hl rfl (by decide) (by decide) rfl (fun ls hl => ?_)
            refine lv_aload_n hx hb dX7_brokenInTree_48 rfl (lv_at hl 1 rfl) ?_
            refine va_get (D := G) (ci := 7) (v := .ref p2) (C := RX7) (T := TX7) (N := 23) hx hb hts inX7 hown hK hP 0 rfl rfl 3 (by decide) lk1 (fun _ h9 => h9) rfl dX7_brokenInTree_49 ?_
            refine lv_iload_n hx hb dX7_brokenInTree_52 rfl (lv_at hl 3 rfl) ?_
            refine n_iald hx hb hK hP 2 rfl (by omega) (by first | decide | omega) dX7_brokenInTree_53 ?_
            refine n_if_ne (tgt := 81) (by omega) hx hb dX7_brokenInTree_54 (by decide) (fun q54 => ?_) (fun q54 => ?_)
            · skip
              refine n_iinc (lv' := [(3, .int (nI (i + 1))), (2, .int (nI (x + 1))), (0, .ref o), (1, .int (nI c))]) (k := 3) 1 hx hb dX7_brokenInTree_81 hl rfl (by decide) (by decide) rfl (fun ls hl => ?_)
              refine lv_goto (tgt := 16) hx hb dX7_brokenInTree_84 (by decide) ?_
              exact ih16 (x + 1) (i + 1) (by omega) (by omega) (by omega) (by rw [ex, tr1_succ, if_pos hi1]; simp_all [Nat.pos_iff_ne_zero] <;> omega)  _ (lv_sub hl [2, 3, 1, 0] rfl)
            · skip
              refine lv_iload_n hx hb dX7_brokenInTree_57 rfl (lv_at hl 2 rfl) ?_
              refine lv_aload_n hx hb dX7_brokenInTree_58 rfl (lv_at hl 1 rfl) ?_
              refine va_get (D := G) (ci := 7) (v := .ref p1) (C := RX7) (T := TX7) (N := 23) hx hb hts inX7 hown hK hP 0 rfl rfl 2 (by decide) lk2 (fun _ h9 => h9) rfl dX7_brokenInTree_59 ?_
              refine lv_iload_n hx hb dX7_brokenInTree_62 rfl (lv_at hl 3 rfl) ?_
              refine n_iald hx hb hK hP 1 rfl (by omega) (by first | decide | omega) dX7_brokenInTree_63 ?_
              refine cS_i (As := [.int (nI c), .int (nI (pa i))]) S hP hK hN (m_X7_has l G k _ _ (by omega) (by omega)) gX7_brokenInTree_X7_has rfl rfl rfl hdS_X7_has rfl rfl [] rfl rfl hl.1 rfl rfl ⟨Nat.le_of_ble_eq_true rfl, Nat.le_of_ble_eq_true rfl⟩ dX7_brokenInTree_64 (fun rX hr12 => ?_)
              subst hr12
              refine b_if_eq (tgt := 81) hx hb dX7_brokenInTree_67 (by decide) (fun q67 => ?_) (fun q67 => ?_)
              · skip
                refine n_iinc (lv' := [(3, .int (nI (i + 1))), (2, .int (nI (x + 1))), (0, .ref o), (1, .int (nI c))]) (k := 3) 1 hx hb dX7_brokenInTree_81 hl rfl (by decide) (by decide) rfl (fun ls hl => ?_)
                refine lv_goto (tgt := 16) hx hb dX7_brokenInTree_84 (by decide) ?_
                exact ih16 (x + 1) (i + 1) (by omega) (by omega) (by omega) (by rw [ex, tr1_succ, if_pos hi1]; simp_all [Nat.pos_iff_ne_zero] <;> omega)  _ (lv_sub hl [2, 3, 1, 0] rfl)
              · skip
                refine lv_iload_n hx hb dX7_brokenInTree_70 rfl (lv_at hl 2 rfl) ?_
                refine lv_iload_n hx hb dX7_brokenInTree_71 rfl (lv_at hl 3 rfl) ?_
                refine cS_i (As := [.int (nI c), .int (nI i)]) S hP hK hN (m_X7_has l G k _ _ (by omega) (by omega)) gX7_brokenInTree_X7_has rfl rfl rfl hdS_X7_has rfl rfl [] rfl rfl hl.1 rfl rfl ⟨Nat.le_of_ble_eq_true rfl, Nat.le_of_ble_eq_true rfl⟩ dX7_brokenInTree_72 (fun rX hr13 => ?_)
                subst hr13
                refine b_if_ne (tgt := 81) hx hb dX7_brokenInTree_75 (by decide) (fun q75 => ?_) (fun q75 => ?_)
                · skip
                  refine n_iinc (lv' := [(3, .int (nI (i + 1))), (2, .int (nI (x + 1))), (0, .ref o), (1, .int (nI c))]) (k := 3) 1 hx hb dX7_brokenInTree_81 hl rfl (by decide) (by decide) rfl (fun ls hl => ?_)
                  refine lv_goto (tgt := 16) hx hb dX7_brokenInTree_84 (by decide) ?_
                  exact ih16 (x + 1) (i + 1) (by omega) (by omega) (by omega) (by rw [ex, tr1_succ, if_pos hi1]; simp_all [Nat.pos_iff_ne_zero] <;> omega)  _ (lv_sub hl [2, 3, 1, 0] rfl)
                · skip
                  refine n_iinc (lv' := [(2, .int (nI ((x + 1) + 1))), (0, .ref o), (1, .int (nI c)), (3, .int (nI i))]) (k := 0) 1 hx hb dX7_brokenInTree_78 hl rfl (by decide) (by decide) rfl (fun ls hl => ?_)
                  refine n_iinc (lv' := [(3, .int (nI (i + 1))), (2, .int (nI ((x + 1) + 1))), (0, .ref o), (1, .int (nI c))]) (k := 3) 1 hx hb dX7_brokenInTree_81 hl rfl (by decide) (by decide) rfl (fun ls hl => ?_)
                  refine lv_goto (tgt := 16) hx hb dX7_brokenInTree_84 (by decide) ?_
                  exact ih16 ((x + 1) + 1) (i + 1) (by omega) (by omega) (by omega) (by rw [ex, tr1_succ, if_pos hi1]; simp_all [Nat.pos_iff_ne_zero] <;> omega)  _ (lv_sub hl [2, 3, 1, 0] rfl)
  refine lv_iload_n hx hb dX7_brokenInTree_0 rfl (lv_at hl 1 rfl) ?_
  refine n_iconst 0 (by decide) hx hb dX7_brokenInTree_1 ?_
  refine cS_i (As := [.int (nI c), .int (nI 0)]) S hP hK hN (m_X7_has l G k _ _ (by omega) (by omega)) gX7_brokenInTree_X7_has rfl rfl rfl hdS_X7_has rfl rfl [] rfl rfl hl.1 rfl rfl ⟨Nat.le_of_ble_eq_true rfl, Nat.le_of_ble_eq_true rfl⟩ dX7_brokenInTree_2 (fun rX hr14 => ?_)
  subst hr14
  refine b_if_eq (tgt := 12) hx hb dX7_brokenInTree_5 (by decide) (fun q5 => ?_) (fun q5 => ?_)
  · skip
    refine n_iconst 1 (by decide) hx hb dX7_brokenInTree_12 ?_
    refine lv_istore_n (lv' := [(2, .int (nI 1)), (0, .ref o), (1, .int (nI c))]) hx hb dX7_brokenInTree_13 rfl hl (by decide) rfl (fun ls hl => ?_)
    refine n_iconst 1 (by decide) hx hb dX7_brokenInTree_14 ?_
    refine lv_istore_n (lv' := [(3, .int (nI 1)), (2, .int (nI 1)), (0, .ref o), (1, .int (nI c))]) hx hb dX7_brokenInTree_15 rfl hl (by decide) rfl (fun ls hl => ?_)
    exact L16 _ (1) (1) (Nat.lt_succ_self _) (by omega) (by omega) (by rw [q5]; rfl)  _ (lv_sub hl [2, 3, 1, 0] rfl)
  · skip
    refine n_iconst 0 (by decide) hx hb dX7_brokenInTree_8 ?_
    refine lv_goto (tgt := 13) hx hb dX7_brokenInTree_9 (by decide) ?_
    refine lv_istore_n (lv' := [(2, .int (nI 0)), (0, .ref o), (1, .int (nI c))]) hx hb dX7_brokenInTree_13 rfl hl (by decide) rfl (fun ls hl => ?_)
    refine n_iconst 1 (by decide) hx hb dX7_brokenInTree_14 ?_
    refine lv_istore_n (lv' := [(3, .int (nI 1)), (2, .int (nI 0)), (0, .ref o), (1, .int (nI c))]) hx hb dX7_brokenInTree_15 rfl hl (by decide) rfl (fun ls hl => ?_)
    exact L16 _ (0) (1) (Nat.lt_succ_self _) (by omega) (by omega) (by rw [q5]; rfl)  _ (lv_sub hl [2, 3, 1, 0] rfl)
set_option maxHeartbeats 4000000 in
set_option maxRecDepth 100000 in
theorem m_X7_isBroken (l : Launch) (G : va_G) (k : Nat → ClassId) (o p8 p9 p10 p11 j c : Nat) (kd fa fb : Nat → Nat) (on : Nat → Bool) (w0 w1 w2 w3 w4 w5 w6 w7 w12 w13 w14 w15 w16 w17 w18 w19 w20 w21 w22 : Value) (hj : j < 10) (hc : c < 4096) (hkd : kd j < 2) (hfa : fa j < 12) (hfb : fb j < 12) : Met l yX7_isBroken wsX7_isBroken ({ frames := 1, cells := 0, slots := 0, locals := 21 } : Room) (va_Pc [.ref o, .int (nI j), .int (nI c)] (Wd G k [(o, .inr (7, [w0, w1, w2, w3, w4, w5, w6, w7, .ref p8, .ref p9, .ref p10, .ref p11, w12, w13, w14, w15, w16, w17, w18, w19, w20, w21, w22])), (p8, .inl (k 0, 10, .inl (nA kd))), (p9, .inl (k 0, 10, .inl (nA fa))), (p10, .inl (k 0, 10, .inl (nA fb))), (p11, .inl (k 1, 10, .inl (bA on)))])) (vp_Si (fun rX => rX = (bI (brB kd fa fb on c j)))) 0 0 (fun _ => False) := by
  refine met_mk (cc := cX7_isBroken) (maxL := 3) (ret := (some .boolean)) (by decide) rfl rfl ?_
  intro pX eX sX mX bX meX cX S hr hlk hnm hB ls hl
  obtain ⟨hP, hK, hN⟩ := hB
  obtain ⟨hx, hb, hml, hown, hts⟩ := id S
  have hown : sX.vm.findClass RX7 = some mX.cls := hown
  have hl : lv_has ls 3 [(0, .ref o), (1, .int (nI j)), (2, .int (nI c))] := hl
  have lk0 : (Cond.fieldLink RX7 38 "FeatureAnalyzerModel" "areOn" "[Z").before _ sX = true := hts _ (List.mem_cons_of_mem _ (List.mem_append_left _ (List.mem_of_getElem? (i := 0) rfl)))
  have inX7 : ∀ w ∈ wsX70, w ∈ wsX7_isBroken := fun w h => List.mem_cons_of_mem _ (List.mem_append_right _ (h))
  have lk1 : (Cond.fieldLink RX7 32 "FeatureAnalyzerModel" "as" "[I").before _ sX = true := hts _ (List.mem_cons_of_mem _ (List.mem_append_left _ (List.mem_of_getElem? (i := 1) rfl)))
  have lk2 : (Cond.fieldLink RX7 35 "FeatureAnalyzerModel" "bs" "[I").before _ sX = true := hts _ (List.mem_cons_of_mem _ (List.mem_append_left _ (List.mem_of_getElem? (i := 2) rfl)))
  have lk3 : (Cond.fieldLink RX7 29 "FeatureAnalyzerModel" "kinds" "[I").before _ sX = true := hts _ (List.mem_cons_of_mem _ (List.mem_append_left _ (List.mem_of_getElem? (i := 3) rfl)))
  refine lv_aload_n hx hb dX7_isBroken_0 rfl (lv_at hl 0 rfl) ?_
  refine va_get (D := G) (ci := 7) (v := .ref p11) (C := RX7) (T := TX7) (N := 23) hx hb hts inX7 hown hK hP 0 rfl rfl 11 (by decide) lk0 (fun _ h9 => h9) rfl dX7_isBroken_1 ?_
  refine lv_iload_n hx hb dX7_isBroken_4 rfl (lv_at hl 1 rfl) ?_
  refine b_bald hx hb hK hP 4 rfl (by omega) (by first | decide | omega) dX7_isBroken_5 ?_
  refine b_if_eq (tgt := 54) hx hb dX7_isBroken_6 (by decide) (fun q6 => ?_) (fun q6 => ?_)
  · skip
    refine n_iconst 0 (by decide) hx hb dX7_isBroken_54 ?_
    exact e_pureZ (v := false) hx hb hr hlk (by simp_all [brB]) dX7_isBroken_55
  · skip
    refine lv_iload_n hx hb dX7_isBroken_9 rfl (lv_at hl 2 rfl) ?_
    refine lv_aload_n hx hb dX7_isBroken_10 rfl (lv_at hl 0 rfl) ?_
    refine va_get (D := G) (ci := 7) (v := .ref p9) (C := RX7) (T := TX7) (N := 23) hx hb hts inX7 hown hK hP 0 rfl rfl 9 (by decide) lk1 (fun _ h9 => h9) rfl dX7_isBroken_11 ?_
    refine lv_iload_n hx hb dX7_isBroken_14 rfl (lv_at hl 1 rfl) ?_
    refine n_iald hx hb hK hP 2 rfl (by omega) (by first | decide | omega) dX7_isBroken_15 ?_
    refine cS_i (As := [.int (nI c), .int (nI (fa j))]) S hP hK hN (m_X7_has l G k _ _ (by omega) (by omega)) gX7_isBroken_X7_has rfl rfl rfl hdS_X7_has rfl rfl [] rfl rfl hl.1 rfl rfl ⟨Nat.le_of_ble_eq_true rfl, Nat.le_of_ble_eq_true rfl⟩ dX7_isBroken_16 (fun rX hr1 => ?_)
    subst hr1
    refine b_if_eq (tgt := 54) hx hb dX7_isBroken_19 (by decide) (fun q19 => ?_) (fun q19 => ?_)
    · skip
      refine n_iconst 0 (by decide) hx hb dX7_isBroken_54 ?_
      exact e_pureZ (v := false) hx hb hr hlk (by simp_all [brB]) dX7_isBroken_55
    · skip
      refine lv_iload_n hx hb dX7_isBroken_22 rfl (lv_at hl 2 rfl) ?_
      refine lv_aload_n hx hb dX7_isBroken_23 rfl (lv_at hl 0 rfl) ?_
      refine va_get (D := G) (ci := 7) (v := .ref p10) (C := RX7) (T := TX7) (N := 23) hx hb hts inX7 hown hK hP 0 rfl rfl 10 (by decide) lk2 (fun _ h9 => h9) rfl dX7_isBroken_24 ?_
      refine lv_iload_n hx hb dX7_isBroken_27 rfl (lv_at hl 1 rfl) ?_
      refine n_iald hx hb hK hP 3 rfl (by omega) (by first | decide | omega) dX7_isBroken_28 ?_
      refine cS_i (As := [.int (nI c), .int (nI (fb j))]) S hP hK hN (m_X7_has l G k _ _ (by omega) (by omega)) gX7_isBroken_X7_has rfl rfl rfl hdS_X7_has rfl rfl [] rfl rfl hl.1 rfl rfl ⟨Nat.le_of_ble_eq_true rfl, Nat.le_of_ble_eq_true rfl⟩ dX7_isBroken_29 (fun rX hr2 => ?_)
      subst hr2
      refine lv_aload_n hx hb dX7_isBroken_32 rfl (lv_at hl 0 rfl) ?_
      refine va_get (D := G) (ci := 7) (v := .ref p8) (C := RX7) (T := TX7) (N := 23) hx hb hts inX7 hown hK hP 0 rfl rfl 8 (by decide) lk3 (fun _ h9 => h9) rfl dX7_isBroken_33 ?_
      refine lv_iload_n hx hb dX7_isBroken_36 rfl (lv_at hl 1 rfl) ?_
      refine n_iald hx hb hK hP 1 rfl (by omega) (by first | decide | omega) dX7_isBroken_37 ?_
      refine n_iconst 1 (by decide) hx hb dX7_isBroken_38 ?_
      refine n_icmp_ne (tgt := 46) (by omega) (by omega) hx hb dX7_isBroken_39 (by decide) (fun q39 => ?_) (fun q39 => ?_)
      · skip
        refine n_iconst 0 (by decide) hx hb dX7_isBroken_46 ?_
        refine b_icmp_ne (tgt := 54) (a := (c).testBit (fb j)) (b := false) hx hb dX7_isBroken_47 (by decide) (fun q47 => ?_) (fun q47 => ?_)
        · skip
          refine n_iconst 0 (by decide) hx hb dX7_isBroken_54 ?_
          exact e_pureZ (v := false) hx hb hr hlk (by simp_all [brB]) dX7_isBroken_55
        · skip
          refine n_iconst 1 (by decide) hx hb dX7_isBroken_50 ?_
          refine lv_goto (tgt := 55) hx hb dX7_isBroken_51 (by decide) ?_
          exact e_pureZ (v := true) hx hb hr hlk (by simp_all [brB]) dX7_isBroken_55
      · skip
        refine n_iconst 1 (by decide) hx hb dX7_isBroken_42 ?_
        refine lv_goto (tgt := 47) hx hb dX7_isBroken_43 (by decide) ?_
        refine b_icmp_ne (tgt := 54) (a := (c).testBit (fb j)) (b := true) hx hb dX7_isBroken_47 (by decide) (fun q47 => ?_) (fun q47 => ?_)
        · skip
          refine n_iconst 0 (by decide) hx hb dX7_isBroken_54 ?_
          exact e_pureZ (v := false) hx hb hr hlk (by simp_all [brB]) dX7_isBroken_55
        · skip
          refine n_iconst 1 (by decide) hx hb dX7_isBroken_50 ?_
          refine lv_goto (tgt := 55) hx hb dX7_isBroken_51 (by decide) ?_
          exact e_pureZ (v := true) hx hb hr hlk (by simp_all [brB]) dX7_isBroken_55
theorem hdV_X7_isBroken : yX7_isBroken.cls = RX7 ∧ yX7_isBroken.cls ≠ "java/lang/invoke/MethodHandle" ∧ yX7_isBroken.cls ≠ "java/lang/invoke/VarHandle" ∧ (parseMethodDescriptor yX7_isBroken.desc).map (fun d => d.parameters.length) = some 2 := by decide +kernel
set_option maxHeartbeats 4000000 in
set_option maxRecDepth 100000 in
theorem m_X7_brokenConstraints (l : Launch) (G : va_G) (k : Nat → ClassId) (o kc p8 p9 p10 p11 c : Nat) (kd fa fb : Nat → Nat) (on : Nat → Bool) (w0 w1 w2 w3 w4 w5 w6 w12 w13 w14 w15 w16 w17 w18 w19 w20 w21 w22 : Value) (hkc : kc ≤ 10) (hc : c < 4096) (hkd : ∀ i, i < kc → kd i < 2) (hfa : ∀ i, i < kc → fa i < 12) (hfb : ∀ i, i < kc → fb i < 12) : Met l yX7_brokenConstraints wsX7_brokenConstraints ({ frames := 2, cells := 0, slots := 0, locals := 43 } : Room) (va_Pc [.ref o, .int (nI c)] (Wd G k [(o, .inr (7, [w0, w1, w2, w3, w4, w5, w6, .int (nI kc), .ref p8, .ref p9, .ref p10, .ref p11, w12, w13, w14, w15, w16, w17, w18, w19, w20, w21, w22])), (p8, .inl (k 0, 10, .inl (nA kd))), (p9, .inl (k 0, 10, .inl (nA fa))), (p10, .inl (k 0, 10, .inl (nA fb))), (p11, .inl (k 1, 10, .inl (bA on)))])) (vp_Si (fun rX => rX = (nI (cnN kd fa fb on c kc)))) 0 0 (fun _ => False) := by
  refine met_mk (cc := cX7_brokenConstraints) (maxL := 4) (ret := (some .int)) (by decide) rfl rfl ?_
  intro pX eX sX mX bX meX cX S hr hlk hnm hB ls hl
  obtain ⟨hP, hK, hN⟩ := hB
  obtain ⟨hx, hb, hml, hown, hts⟩ := id S
  have hown : sX.vm.findClass RX7 = some mX.cls := hown
  have hl : lv_has ls 4 [(0, .ref o), (1, .int (nI c))] := hl
  have lk0 : (Cond.fieldLink RX7 84 "FeatureAnalyzerModel" "constraints" "I").before _ sX = true := hts _ (List.mem_cons_of_mem _ (List.mem_append_left _ (List.mem_of_getElem? (i := 0) rfl)))
  have inX7 : ∀ w ∈ wsX70, w ∈ wsX7_brokenConstraints := fun w h => List.mem_cons_of_mem _ (List.mem_append_right _ (h))
  refine n_iconst 0 (by decide) hx hb dX7_brokenConstraints_0 ?_
  refine lv_istore_n (lv' := [(2, .int (nI 0)), (0, .ref o), (1, .int (nI c))]) hx hb dX7_brokenConstraints_1 rfl hl (by decide) rfl (fun ls hl => ?_)
  refine n_iconst 0 (by decide) hx hb dX7_brokenConstraints_2 ?_
  refine lv_istore_n (lv' := [(3, .int (nI 0)), (2, .int (nI 0)), (0, .ref o), (1, .int (nI c))]) hx hb dX7_brokenConstraints_3 rfl hl (by decide) rfl (fun ls hl => ?_)
  have L4 : ∀ (NN : Nat) (x : Nat) (i : Nat), (kc - i) < NN → (i ≤ kc) → (x = cnN kd fa fb on c i) → ∀ ls : Array Slot, lv_has ls 4 [(0, .ref o), (1, .int (nI c)), (2, .int (nI x)), (3, .int (nI i))] → W pX l eX ({ frames := 2, cells := 0, slots := 0, locals := 43 } : Room) sX mX ([.ref o, .int (nI c)] : List Value).toArray bX meX cX sX.heap [] 0 0 (MQ bX (vp_Si (fun rX => rX = (nI (cnN kd fa fb on c kc)))) ([.ref o, .int (nI c)] : List Value).toArray sX 0 0 (fun _ => False)) (F0 mX 4 ls []) := by
    intro NN
    induction NN with
    | zero => intro x i hm9; exact absurd hm9 (Nat.not_lt_zero _)
    | succ NN ih4 =>
      intro x i hm9 hi ex ls hl
      refine lv_iload_n hx hb dX7_brokenConstraints_4 rfl (lv_at hl 3 rfl) ?_
      refine lv_aload_n hx hb dX7_brokenConstraints_5 rfl (lv_at hl 0 rfl) ?_
      refine va_get (D := G) (ci := 7) (v := .int (nI kc)) (C := RX7) (T := TX7) (N := 23) hx hb hts inX7 hown hK hP 0 rfl rfl 7 (by decide) lk0 (fun _ h9 => h9) rfl dX7_brokenConstraints_6 ?_
      refine n_icmp_ge (tgt := 33) (by omega) (by omega) hx hb dX7_brokenConstraints_9 (by decide) (fun q9 => ?_) (fun q9 => ?_)
      · skip
        refine lv_iload_n hx hb dX7_brokenConstraints_33 rfl (lv_at hl 2 rfl) ?_
        exact e_pure hx hb hr hlk (by rw [ex, show i = kc by omega]) dX7_brokenConstraints_34
      · skip
        refine lv_aload_n hx hb dX7_brokenConstraints_12 rfl (lv_at hl 0 rfl) ?_
        refine lv_iload_n hx hb dX7_brokenConstraints_13 rfl (lv_at hl 3 rfl) ?_
        refine lv_iload_n hx hb dX7_brokenConstraints_14 rfl (lv_at hl 1 rfl) ?_
        refine cV_i (As := [.int (nI i), .int (nI c)]) S hP hK hN (m_X7_isBroken l G k _ _ _ _ _ _ _ _ _ _ _ _ _ _ _ _ _ _ _ _ _ _ _ _ _ _ _ _ _ _ (by omega) (by omega) (by exact hkd _ (by omega)) (by exact hfa _ (by omega)) (by exact hfb _ (by omega))) gX7_brokenConstraints_X7_isBroken rfl rfl rfl hdV_X7_isBroken rfl rfl [0, 1, 2, 3, 4] rfl 7 0 rfl rfl rfl rfl hl.1 rfl rfl ⟨Nat.le_of_ble_eq_true rfl, Nat.le_of_ble_eq_true rfl⟩ dX7_brokenConstraints_15 (fun rX hr1 => ?_)
        subst hr1
        refine b_if_eq (tgt := 27) hx hb dX7_brokenConstraints_18 (by decide) (fun q18 => ?_) (fun q18 => ?_)
        · skip
          refine n_iinc (lv' := [(3, .int (nI (i + 1))), (0, .ref o), (1, .int (nI c)), (2, .int (nI x))]) (k := 3) 1 hx hb dX7_brokenConstraints_27 hl rfl (by decide) (by decide) rfl (fun ls hl => ?_)
          refine lv_goto (tgt := 4) hx hb dX7_brokenConstraints_30 (by decide) ?_
          exact ih4 (x) (i + 1) (by omega) (by omega) (by rw [ex]; unfold cnN; rw [maskN_succ, q18]; rfl)  _ (lv_sub hl [1, 2, 3, 0] rfl)
        · skip
          refine lv_iload_n hx hb dX7_brokenConstraints_21 rfl (lv_at hl 2 rfl) ?_
          refine n_iconst 1 (by decide) hx hb dX7_brokenConstraints_22 ?_
          refine lv_iload_n hx hb dX7_brokenConstraints_23 rfl (lv_at hl 3 rfl) ?_
          refine n_ishl1 (by omega) hx hb dX7_brokenConstraints_24 ?_
          refine n_ior hx hb dX7_brokenConstraints_25 ?_
          refine lv_istore_n (lv' := [(2, .int (nI (x ||| (2 ^ i)))), (0, .ref o), (1, .int (nI c)), (3, .int (nI i))]) hx hb dX7_brokenConstraints_26 rfl hl (by decide) rfl (fun ls hl => ?_)
          refine n_iinc (lv' := [(3, .int (nI (i + 1))), (2, .int (nI (x ||| (2 ^ i)))), (0, .ref o), (1, .int (nI c))]) (k := 3) 1 hx hb dX7_brokenConstraints_27 hl rfl (by decide) (by decide) rfl (fun ls hl => ?_)
          refine lv_goto (tgt := 4) hx hb dX7_brokenConstraints_30 (by decide) ?_
          exact ih4 (x ||| (2 ^ i)) (i + 1) (by omega) (by omega) (by rw [ex]; unfold cnN; rw [maskN_succ, q18]; rfl)  _ (lv_sub hl [2, 3, 1, 0] rfl)
  exact L4 _ (0) (0) (Nat.lt_succ_self _) (by omega) (by rfl)  _ (lv_sub hl [2, 3, 1, 0] rfl)
set_option maxHeartbeats 4000000 in
set_option maxRecDepth 100000 in
theorem m_X7_sum (l : Launch) (G : va_G) (k : Nat → ClassId) (o n ra c : Nat) (g : Nat → Nat) (w0 w2 w3 w4 w5 w6 w7 w8 w9 w10 w11 w12 w13 w14 w15 w16 w17 w18 w19 w20 w21 w22 : Value) (hn : n ≤ 12) (hc : c < 4096) : Met l yX7_sum wsX7_sum ({ frames := 1, cells := 0, slots := 0, locals := 21 } : Room) (va_Pc [.ref o, .int (nI c), .ref ra] (Wd G k [(o, .inr (7, [w0, .int (nI n), w2, w3, w4, w5, w6, w7, w8, w9, w10, w11, w12, w13, w14, w15, w16, w17, w18, w19, w20, w21, w22])), (ra, .inl (k 0, 12, .inl (nA g)))])) (vp_Si (fun rX => rX = (nI (sumN g c n)))) 0 0 (fun _ => False) := by
  refine met_mk (cc := cX7_sum) (maxL := 5) (ret := (some .int)) (by decide) rfl rfl ?_
  intro pX eX sX mX bX meX cX S hr hlk hnm hB ls hl
  obtain ⟨hP, hK, hN⟩ := hB
  obtain ⟨hx, hb, hml, hown, hts⟩ := id S
  have hown : sX.vm.findClass RX7 = some mX.cls := hown
  have hl : lv_has ls 5 [(0, .ref o), (1, .int (nI c)), (2, .ref ra)] := hl
  have lk0 : (Cond.fieldLink RX7 9 "FeatureAnalyzerModel" "features" "I").before _ sX = true := hts _ (List.mem_cons_of_mem _ (List.mem_append_left _ (List.mem_of_getElem? (i := 0) rfl)))
  have inX7 : ∀ w ∈ wsX70, w ∈ wsX7_sum := fun w h => List.mem_cons_of_mem _ (List.mem_append_right _ (h))
  refine n_iconst 0 (by decide) hx hb dX7_sum_0 ?_
  refine lv_istore_n (lv' := [(3, .int (nI 0)), (0, .ref o), (1, .int (nI c)), (2, .ref ra)]) hx hb dX7_sum_1 rfl hl (by decide) rfl (fun ls hl => ?_)
  refine n_iconst 0 (by decide) hx hb dX7_sum_2 ?_
  refine lv_istore (lv' := [(4, .int (nI 0)), (3, .int (nI 0)), (0, .ref o), (1, .int (nI c)), (2, .ref ra)]) hx hb dX7_sum_3 hl (by decide) rfl (fun ls hl => ?_)
  have L5 : ∀ (NN : Nat) (x : Nat) (i : Nat), (n - i) < NN → (i ≤ n) → (x = sumN g c i) → ∀ ls : Array Slot, lv_has ls 5 [(0, .ref o), (1, .int (nI c)), (2, .ref ra), (3, .int (nI x)), (4, .int (nI i))] → W pX l eX ({ frames := 1, cells := 0, slots := 0, locals := 21 } : Room) sX mX ([.ref o, .int (nI c), .ref ra] : List Value).toArray bX meX cX sX.heap [] 0 0 (MQ bX (vp_Si (fun rX => rX = (nI (sumN g c n)))) ([.ref o, .int (nI c), .ref ra] : List Value).toArray sX 0 0 (fun _ => False)) (F0 mX 5 ls []) := by
    intro NN
    induction NN with
    | zero => intro x i hm9; exact absurd hm9 (Nat.not_lt_zero _)
    | succ NN ih5 =>
      intro x i hm9 hi ex ls hl
      refine lv_iload hx hb dX7_sum_5 (lv_at hl 4 rfl) ?_
      refine lv_aload_n hx hb dX7_sum_7 rfl (lv_at hl 0 rfl) ?_
      refine va_get (D := G) (ci := 7) (v := .int (nI n)) (C := RX7) (T := TX7) (N := 23) hx hb hts inX7 hown hK hP 0 rfl rfl 1 (by decide) lk0 (fun _ h9 => h9) rfl dX7_sum_8 ?_
      refine n_icmp_ge (tgt := 40) (by omega) (by omega) hx hb dX7_sum_11 (by decide) (fun q11 => ?_) (fun q11 => ?_)
      · skip
        refine lv_iload_n hx hb dX7_sum_40 rfl (lv_at hl 3 rfl) ?_
        exact e_pure hx hb hr hlk (by rw [ex, show i = n by omega]) dX7_sum_41
      · skip
        refine lv_iload_n hx hb dX7_sum_14 rfl (lv_at hl 3 rfl) ?_
        refine lv_iload_n hx hb dX7_sum_15 rfl (lv_at hl 1 rfl) ?_
        refine lv_iload hx hb dX7_sum_16 (lv_at hl 4 rfl) ?_
        refine cS_i (As := [.int (nI c), .int (nI i)]) S hP hK hN (m_X7_has l G k _ _ (by omega) (by omega)) gX7_sum_X7_has rfl rfl rfl hdS_X7_has rfl rfl [] rfl rfl hl.1 rfl rfl ⟨Nat.le_of_ble_eq_true rfl, Nat.le_of_ble_eq_true rfl⟩ dX7_sum_18 (fun rX hr1 => ?_)
        subst hr1
        refine b_if_eq (tgt := 31) hx hb dX7_sum_21 (by decide) (fun q21 => ?_) (fun q21 => ?_)
        · skip
          refine n_iconst 0 (by decide) hx hb dX7_sum_31 ?_
          refine n_iadd hx hb dX7_sum_32 ?_
          refine lv_istore_n (lv' := [(3, .int (nI (x + 0))), (0, .ref o), (1, .int (nI c)), (2, .ref ra), (4, .int (nI i))]) hx hb dX7_sum_33 rfl hl (by decide) rfl (fun ls hl => ?_)
          refine n_iinc (lv' := [(4, .int (nI (i + 1))), (3, .int (nI (x + 0))), (0, .ref o), (1, .int (nI c)), (2, .ref ra)]) (k := 4) 1 hx hb dX7_sum_34 hl rfl (by decide) (by decide) rfl (fun ls hl => ?_)
          refine lv_goto (tgt := 5) hx hb dX7_sum_37 (by decide) ?_
          exact ih5 (x + 0) (i + 1) (by omega) (by omega) (by rw [sumN_succ, ex]; simp [*])  _ (lv_sub hl [2, 3, 4, 1, 0] rfl)
        · skip
          refine lv_aload_n hx hb dX7_sum_24 rfl (lv_at hl 2 rfl) ?_
          refine lv_iload hx hb dX7_sum_25 (lv_at hl 4 rfl) ?_
          refine n_iald hx hb hK hP 1 rfl (by omega) (by first | decide | omega) dX7_sum_27 ?_
          refine lv_goto (tgt := 32) hx hb dX7_sum_28 (by decide) ?_
          refine n_iadd hx hb dX7_sum_32 ?_
          refine lv_istore_n (lv' := [(3, .int (nI (x + (g i)))), (0, .ref o), (1, .int (nI c)), (2, .ref ra), (4, .int (nI i))]) hx hb dX7_sum_33 rfl hl (by decide) rfl (fun ls hl => ?_)
          refine n_iinc (lv' := [(4, .int (nI (i + 1))), (3, .int (nI (x + (g i)))), (0, .ref o), (1, .int (nI c)), (2, .ref ra)]) (k := 4) 1 hx hb dX7_sum_34 hl rfl (by decide) (by decide) rfl (fun ls hl => ?_)
          refine lv_goto (tgt := 5) hx hb dX7_sum_37 (by decide) ?_
          exact ih5 (x + (g i)) (i + 1) (by omega) (by omega) (by rw [sumN_succ, ex]; simp [*])  _ (lv_sub hl [2, 3, 4, 1, 0] rfl)
  exact L5 _ (0) (0) (Nat.lt_succ_self _) (by omega) (by rfl)  _ (lv_sub hl [2, 3, 4, 1, 0] rfl)
theorem hdV_X7_sum : yX7_sum.cls = RX7 ∧ yX7_sum.cls ≠ "java/lang/invoke/MethodHandle" ∧ yX7_sum.cls ≠ "java/lang/invoke/VarHandle" ∧ (parseMethodDescriptor yX7_sum.desc).map (fun d => d.parameters.length) = some 2 := by decide +kernel
set_option maxHeartbeats 4000000 in
set_option maxRecDepth 100000 in
theorem m_X7_fits (l : Launch) (G : va_G) (k : Nat → ClassId) (o n p4 p6 c : Nat) (co de : Nat → Nat) (bud : Int32) (w0 w2 w3 w5 w7 w8 w9 w10 w11 w13 w14 w15 w16 w17 w18 w19 w20 w21 w22 : Value) (hn : n ≤ 12) (hc : c < 4096) (hde : ∀ i, i < n → de i < 3) : Met l yX7_fits wsX7_fits ({ frames := 2, cells := 0, slots := 0, locals := 45 } : Room) (va_Pc [.ref o, .int (nI c)] (Wd G k [(o, .inr (7, [w0, .int (nI n), w2, w3, .ref p4, w5, .ref p6, w7, w8, w9, w10, w11, .int bud, w13, w14, w15, w16, w17, w18, w19, w20, w21, w22])), (p4, .inl (k 0, 12, .inl (nA co))), (p6, .inl (k 0, 12, .inl (nA de)))])) (vp_Si (fun rX => rX = (bI (fitB n co de bud c)))) 0 0 (fun _ => False) := by
  refine met_mk (cc := cX7_fits) (maxL := 4) (ret := (some .boolean)) (by decide) rfl rfl ?_
  intro pX eX sX mX bX meX cX S hr hlk hnm hB ls hl
  obtain ⟨hP, hK, hN⟩ := hB
  obtain ⟨hx, hb, hml, hown, hts⟩ := id S
  have hown : sX.vm.findClass RX7 = some mX.cls := hown
  have hl : lv_has ls 4 [(0, .ref o), (1, .int (nI c))] := hl
  have lk0 : (Cond.fieldLink RX7 9 "FeatureAnalyzerModel" "features" "I").before _ sX = true := hts _ (List.mem_cons_of_mem _ (List.mem_append_left _ (List.mem_of_getElem? (i := 2) rfl)))
  have inX7 : ∀ w ∈ wsX70, w ∈ wsX7_fits := fun w h => List.mem_cons_of_mem _ (List.mem_append_right _ (h))
  have lk1 : (Cond.fieldLink RX7 26 "FeatureAnalyzerModel" "decisions" "[I").before _ sX = true := hts _ (List.mem_cons_of_mem _ (List.mem_append_left _ (List.mem_of_getElem? (i := 3) rfl)))
  have lk2 : (Cond.fieldLink RX7 42 "FeatureAnalyzerModel" "budget" "I").before _ sX = true := hts _ (List.mem_cons_of_mem _ (List.mem_append_left _ (List.mem_of_getElem? (i := 0) rfl)))
  have lk3 : (Cond.fieldLink RX7 20 "FeatureAnalyzerModel" "costs" "[I").before _ sX = true := hts _ (List.mem_cons_of_mem _ (List.mem_append_left _ (List.mem_of_getElem? (i := 1) rfl)))
  have L32 : ∀ (NN : Nat) (x : Bool) (i : Nat), (n - i) < NN → (i ≤ n) → (x = fitF de c (decide (bud = -1) || decide (nI (sumN co c n) ≤ bud)) i) → ∀ ls : Array Slot, lv_has ls 4 [(0, .ref o), (1, .int (nI c)), (2, .int (bI x)), (3, .int (nI i))] → W pX l eX ({ frames := 2, cells := 0, slots := 0, locals := 45 } : Room) sX mX ([.ref o, .int (nI c)] : List Value).toArray bX meX cX sX.heap [] 0 0 (MQ bX (vp_Si (fun rX => rX = (bI (fitB n co de bud c)))) ([.ref o, .int (nI c)] : List Value).toArray sX 0 0 (fun _ => False)) (F0 mX 32 ls []) := by
    intro NN
    induction NN with
    | zero => intro x i hm9; exact absurd hm9 (Nat.not_lt_zero _)
    | succ NN ih32 =>
      intro x i hm9 hi ex ls hl
      refine lv_iload_n hx hb dX7_fits_32 rfl (lv_at hl 3 rfl) ?_
      refine lv_aload_n hx hb dX7_fits_33 rfl (lv_at hl 0 rfl) ?_
      refine va_get (D := G) (ci := 7) (v := .int (nI n)) (C := RX7) (T := TX7) (N := 23) hx hb hts inX7 hown hK hP 0 rfl rfl 1 (by decide) lk0 (fun _ h9 => h9) rfl dX7_fits_34 ?_
      refine n_icmp_ge (tgt := 88) (by omega) (by omega) hx hb dX7_fits_37 (by decide) (fun q37 => ?_) (fun q37 => ?_)
      · skip
        refine lv_iload_n hx hb dX7_fits_88 rfl (lv_at hl 2 rfl) ?_
        exact e_pureZ (v := x) hx hb hr hlk (by rw [ex, show i = n by omega]; rfl) dX7_fits_89
      · skip
        have h1 := hde i (by omega)
        refine lv_iload_n hx hb dX7_fits_40 rfl (lv_at hl 2 rfl) ?_
        refine b_if_eq (tgt := 80) hx hb dX7_fits_41 (by decide) (fun q41 => ?_) (fun q41 => ?_)
        · skip
          refine n_iconst 0 (by decide) hx hb dX7_fits_80 ?_
          refine lv_istore_n (lv' := [(2, .int (nI 0)), (0, .ref o), (1, .int (nI c)), (3, .int (nI i))]) hx hb dX7_fits_81 rfl hl (by decide) rfl (fun ls hl => ?_)
          refine n_iinc (lv' := [(3, .int (nI (i + 1))), (2, .int (nI 0)), (0, .ref o), (1, .int (nI c))]) (k := 3) 1 hx hb dX7_fits_82 hl rfl (by decide) (by decide) rfl (fun ls hl => ?_)
          refine lv_goto (tgt := 32) hx hb dX7_fits_85 (by decide) ?_
          exact ih32 (false) (i + 1) (by omega) (by omega) (by rw [fitF_succ, ← ex]; simp_all [Nat.pos_iff_ne_zero])  _ (lv_sub hl [2, 3, 1, 0] rfl)
        · skip
          refine lv_aload_n hx hb dX7_fits_44 rfl (lv_at hl 0 rfl) ?_
          refine va_get (D := G) (ci := 7) (v := .ref p6) (C := RX7) (T := TX7) (N := 23) hx hb hts inX7 hown hK hP 0 rfl rfl 6 (by decide) lk1 (fun _ h9 => h9) rfl dX7_fits_45 ?_
          refine lv_iload_n hx hb dX7_fits_48 rfl (lv_at hl 3 rfl) ?_
          refine n_iald hx hb hK hP 2 rfl (by omega) (by first | decide | omega) dX7_fits_49 ?_
          refine n_if_eq (tgt := 76) (by omega) hx hb dX7_fits_50 (by decide) (fun q50 => ?_) (fun q50 => ?_)
          · skip
            refine n_iconst 1 (by decide) hx hb dX7_fits_76 ?_
            refine lv_goto (tgt := 81) hx hb dX7_fits_77 (by decide) ?_
            refine lv_istore_n (lv' := [(2, .int (nI 1)), (0, .ref o), (1, .int (nI c)), (3, .int (nI i))]) hx hb dX7_fits_81 rfl hl (by decide) rfl (fun ls hl => ?_)
            refine n_iinc (lv' := [(3, .int (nI (i + 1))), (2, .int (nI 1)), (0, .ref o), (1, .int (nI c))]) (k := 3) 1 hx hb dX7_fits_82 hl rfl (by decide) (by decide) rfl (fun ls hl => ?_)
            refine lv_goto (tgt := 32) hx hb dX7_fits_85 (by decide) ?_
            exact ih32 (true) (i + 1) (by omega) (by omega) (by rw [fitF_succ, ← ex]; simp_all [Nat.pos_iff_ne_zero])  _ (lv_sub hl [2, 3, 1, 0] rfl)
          · skip
            refine lv_iload_n hx hb dX7_fits_53 rfl (lv_at hl 1 rfl) ?_
            refine lv_iload_n hx hb dX7_fits_54 rfl (lv_at hl 3 rfl) ?_
            refine cS_i (As := [.int (nI c), .int (nI i)]) S hP hK hN (m_X7_has l G k _ _ (by omega) (by omega)) gX7_fits_X7_has rfl rfl rfl hdS_X7_has rfl rfl [] rfl rfl hl.1 rfl rfl ⟨Nat.le_of_ble_eq_true rfl, Nat.le_of_ble_eq_true rfl⟩ dX7_fits_55 (fun rX hr1 => ?_)
            subst hr1
            refine lv_aload_n hx hb dX7_fits_58 rfl (lv_at hl 0 rfl) ?_
            refine va_get (D := G) (ci := 7) (v := .ref p6) (C := RX7) (T := TX7) (N := 23) hx hb hts inX7 hown hK hP 0 rfl rfl 6 (by decide) lk1 (fun _ h9 => h9) rfl dX7_fits_59 ?_
            refine lv_iload_n hx hb dX7_fits_62 rfl (lv_at hl 3 rfl) ?_
            refine n_iald hx hb hK hP 2 rfl (by omega) (by first | decide | omega) dX7_fits_63 ?_
            refine n_iconst 1 (by decide) hx hb dX7_fits_64 ?_
            refine n_icmp_ne (tgt := 72) (by omega) (by omega) hx hb dX7_fits_65 (by decide) (fun q65 => ?_) (fun q65 => ?_)
            · skip
              refine n_iconst 0 (by decide) hx hb dX7_fits_72 ?_
              refine b_icmp_ne (tgt := 80) (a := (c).testBit i) (b := false) hx hb dX7_fits_73 (by decide) (fun q73 => ?_) (fun q73 => ?_)
              · skip
                refine n_iconst 0 (by decide) hx hb dX7_fits_80 ?_
                refine lv_istore_n (lv' := [(2, .int (nI 0)), (0, .ref o), (1, .int (nI c)), (3, .int (nI i))]) hx hb dX7_fits_81 rfl hl (by decide) rfl (fun ls hl => ?_)
                refine n_iinc (lv' := [(3, .int (nI (i + 1))), (2, .int (nI 0)), (0, .ref o), (1, .int (nI c))]) (k := 3) 1 hx hb dX7_fits_82 hl rfl (by decide) (by decide) rfl (fun ls hl => ?_)
                refine lv_goto (tgt := 32) hx hb dX7_fits_85 (by decide) ?_
                exact ih32 (false) (i + 1) (by omega) (by omega) (by rw [fitF_succ, ← ex]; simp_all [Nat.pos_iff_ne_zero])  _ (lv_sub hl [2, 3, 1, 0] rfl)
              · skip
                refine n_iconst 1 (by decide) hx hb dX7_fits_76 ?_
                refine lv_goto (tgt := 81) hx hb dX7_fits_77 (by decide) ?_
                refine lv_istore_n (lv' := [(2, .int (nI 1)), (0, .ref o), (1, .int (nI c)), (3, .int (nI i))]) hx hb dX7_fits_81 rfl hl (by decide) rfl (fun ls hl => ?_)
                refine n_iinc (lv' := [(3, .int (nI (i + 1))), (2, .int (nI 1)), (0, .ref o), (1, .int (nI c))]) (k := 3) 1 hx hb dX7_fits_82 hl rfl (by decide) (by decide) rfl (fun ls hl => ?_)
                refine lv_goto (tgt := 32) hx hb dX7_fits_85 (by decide) ?_
                exact ih32 (true) (i + 1) (by omega) (by omega) (by rw [fitF_succ, ← ex]; simp_all [Nat.pos_iff_ne_zero])  _ (lv_sub hl [2, 3, 1, 0] rfl)
            · skip
              refine n_iconst 1 (by decide) hx hb dX7_fits_68 ?_
              refine lv_goto (tgt := 73) hx hb dX7_fits_69 (by decide) ?_
              refine b_icmp_ne (tgt := 80) (a := (c).testBit i) (b := true) hx hb dX7_fits_73 (by decide) (fun q73 => ?_) (fun q73 => ?_)
              · skip
                refine n_iconst 0 (by decide) hx hb dX7_fits_80 ?_
                refine lv_istore_n (lv' := [(2, .int (nI 0)), (0, .ref o), (1, .int (nI c)), (3, .int (nI i))]) hx hb dX7_fits_81 rfl hl (by decide) rfl (fun ls hl => ?_)
                refine n_iinc (lv' := [(3, .int (nI (i + 1))), (2, .int (nI 0)), (0, .ref o), (1, .int (nI c))]) (k := 3) 1 hx hb dX7_fits_82 hl rfl (by decide) (by decide) rfl (fun ls hl => ?_)
                refine lv_goto (tgt := 32) hx hb dX7_fits_85 (by decide) ?_
                exact ih32 (false) (i + 1) (by omega) (by omega) (by rw [fitF_succ, ← ex]; simp_all [Nat.pos_iff_ne_zero])  _ (lv_sub hl [2, 3, 1, 0] rfl)
              · skip
                refine n_iconst 1 (by decide) hx hb dX7_fits_76 ?_
                refine lv_goto (tgt := 81) hx hb dX7_fits_77 (by decide) ?_
                refine lv_istore_n (lv' := [(2, .int (nI 1)), (0, .ref o), (1, .int (nI c)), (3, .int (nI i))]) hx hb dX7_fits_81 rfl hl (by decide) rfl (fun ls hl => ?_)
                refine n_iinc (lv' := [(3, .int (nI (i + 1))), (2, .int (nI 1)), (0, .ref o), (1, .int (nI c))]) (k := 3) 1 hx hb dX7_fits_82 hl rfl (by decide) (by decide) rfl (fun ls hl => ?_)
                refine lv_goto (tgt := 32) hx hb dX7_fits_85 (by decide) ?_
                exact ih32 (true) (i + 1) (by omega) (by omega) (by rw [fitF_succ, ← ex]; simp_all [Nat.pos_iff_ne_zero])  _ (lv_sub hl [2, 3, 1, 0] rfl)
  refine lv_aload_n hx hb dX7_fits_0 rfl (lv_at hl 0 rfl) ?_
  refine va_get (D := G) (ci := 7) (v := .int bud) (C := RX7) (T := TX7) (N := 23) hx hb hts inX7 hown hK hP 0 rfl rfl 12 (by decide) lk2 (fun _ h9 => h9) rfl dX7_fits_1 ?_
  refine lv_iconst (v := -1) hx hb dX7_fits_4 (by decide) ?_
  refine lv_icmp_eq (tgt := 24) hx hb dX7_fits_5 (by decide) (fun q5 => ?_) (fun q5 => ?_)
  · skip
    refine n_iconst 1 (by decide) hx hb dX7_fits_24 ?_
    refine lv_goto (tgt := 29) hx hb dX7_fits_25 (by decide) ?_
    refine lv_istore_n (lv' := [(2, .int (nI 1)), (0, .ref o), (1, .int (nI c))]) hx hb dX7_fits_29 rfl hl (by decide) rfl (fun ls hl => ?_)
    refine n_iconst 0 (by decide) hx hb dX7_fits_30 ?_
    refine lv_istore_n (lv' := [(3, .int (nI 0)), (2, .int (nI 1)), (0, .ref o), (1, .int (nI c))]) hx hb dX7_fits_31 rfl hl (by decide) rfl (fun ls hl => ?_)
    exact L32 _ (true) (0) (Nat.lt_succ_self _) (by omega) (by simp_all [fitF, ← Int32.not_le])  _ (lv_sub hl [2, 3, 1, 0] rfl)
  · skip
    refine lv_aload_n hx hb dX7_fits_8 rfl (lv_at hl 0 rfl) ?_
    refine lv_iload_n hx hb dX7_fits_9 rfl (lv_at hl 1 rfl) ?_
    refine lv_aload_n hx hb dX7_fits_10 rfl (lv_at hl 0 rfl) ?_
    refine va_get (D := G) (ci := 7) (v := .ref p4) (C := RX7) (T := TX7) (N := 23) hx hb hts inX7 hown hK hP 0 rfl rfl 4 (by decide) lk3 (fun _ h9 => h9) rfl dX7_fits_11 ?_
    refine cV_i (As := [.int (nI c), .ref p4]) S hP hK hN (m_X7_sum l G k _ _ _ _ _ _ _ _ _ _ _ _ _ _ _ _ _ _ _ _ _ _ _ _ _ _ _ (by omega) (by omega)) gX7_fits_X7_sum rfl rfl rfl hdV_X7_sum rfl rfl [0, 1] rfl 7 0 rfl rfl rfl rfl hl.1 rfl rfl ⟨Nat.le_of_ble_eq_true rfl, Nat.le_of_ble_eq_true rfl⟩ dX7_fits_14 (fun rX hr2 => ?_)
    subst hr2
    refine lv_aload_n hx hb dX7_fits_17 rfl (lv_at hl 0 rfl) ?_
    refine va_get (D := G) (ci := 7) (v := .int bud) (C := RX7) (T := TX7) (N := 23) hx hb hts inX7 hown hK hP 0 rfl rfl 12 (by decide) lk2 (fun _ h9 => h9) rfl dX7_fits_18 ?_
    refine lv_icmp_gt (tgt := 28) hx hb dX7_fits_21 (by decide) (fun q21 => ?_) (fun q21 => ?_)
    · skip
      refine n_iconst 0 (by decide) hx hb dX7_fits_28 ?_
      refine lv_istore_n (lv' := [(2, .int (nI 0)), (0, .ref o), (1, .int (nI c))]) hx hb dX7_fits_29 rfl hl (by decide) rfl (fun ls hl => ?_)
      refine n_iconst 0 (by decide) hx hb dX7_fits_30 ?_
      refine lv_istore_n (lv' := [(3, .int (nI 0)), (2, .int (nI 0)), (0, .ref o), (1, .int (nI c))]) hx hb dX7_fits_31 rfl hl (by decide) rfl (fun ls hl => ?_)
      exact L32 _ (false) (0) (Nat.lt_succ_self _) (by omega) (by simp_all [fitF, ← Int32.not_le])  _ (lv_sub hl [2, 3, 1, 0] rfl)
    · skip
      refine n_iconst 1 (by decide) hx hb dX7_fits_24 ?_
      refine lv_goto (tgt := 29) hx hb dX7_fits_25 (by decide) ?_
      refine lv_istore_n (lv' := [(2, .int (nI 1)), (0, .ref o), (1, .int (nI c))]) hx hb dX7_fits_29 rfl hl (by decide) rfl (fun ls hl => ?_)
      refine n_iconst 0 (by decide) hx hb dX7_fits_30 ?_
      refine lv_istore_n (lv' := [(3, .int (nI 0)), (2, .int (nI 1)), (0, .ref o), (1, .int (nI c))]) hx hb dX7_fits_31 rfl hl (by decide) rfl (fun ls hl => ?_)
      exact L32 _ (true) (0) (Nat.lt_succ_self _) (by omega) (by simp_all [fitF, ← Int32.not_le])  _ (lv_sub hl [2, 3, 1, 0] rfl)
set_option maxHeartbeats 4000000 in
set_option maxRecDepth 100000 in
theorem m_X7_count (l : Launch) (G : va_G) (k : Nat → ClassId) (o n ra : Nat) (g : Nat → Bool) (w0 w2 w3 w4 w5 w6 w7 w8 w9 w10 w11 w12 w13 w14 w15 w16 w17 w18 w19 w20 w21 w22 : Value) (hn : n ≤ 12) : Met l yX7_count wsX7_count ({ frames := 0, cells := 0, slots := 0, locals := 0 } : Room) (va_Pc [.ref o, .ref ra] (Wd G k [(o, .inr (7, [w0, .int (nI n), w2, w3, w4, w5, w6, w7, w8, w9, w10, w11, w12, w13, w14, w15, w16, w17, w18, w19, w20, w21, w22])), (ra, .inl (k 1, 4096, .inl (bA g)))])) (vp_Si (fun rX => rX = (nI (fb_ct g (2 ^ n))))) 0 0 (fun _ => False) := by
  refine met_mk (cc := cX7_count) (maxL := 4) (ret := (some .int)) (by decide) rfl rfl ?_
  intro pX eX sX mX bX meX cX S hr hlk hnm hB ls hl
  obtain ⟨hP, hK, hN⟩ := hB
  obtain ⟨hx, hb, hml, hown, hts⟩ := id S
  have hown : sX.vm.findClass RX7 = some mX.cls := hown
  have hl : lv_has ls 4 [(0, .ref o), (1, .ref ra)] := hl
  have lk0 : (Cond.fieldLink RX7 9 "FeatureAnalyzerModel" "features" "I").before _ sX = true := hts _ (List.mem_cons_of_mem _ (List.mem_append_left _ (List.mem_of_getElem? (i := 0) rfl)))
  have inX7 : ∀ w ∈ wsX70, w ∈ wsX7_count := fun w h => List.mem_cons_of_mem _ (List.mem_append_right _ (h))
  have hpn := pow12 hn
  have hp1 := Nat.one_le_two_pow (n := n)
  refine n_iconst 0 (by decide) hx hb dX7_count_0 ?_
  refine lv_istore_n (lv' := [(2, .int (nI 0)), (0, .ref o), (1, .ref ra)]) hx hb dX7_count_1 rfl hl (by decide) rfl (fun ls hl => ?_)
  refine n_iconst 0 (by decide) hx hb dX7_count_2 ?_
  refine lv_istore_n (lv' := [(3, .int (nI 0)), (2, .int (nI 0)), (0, .ref o), (1, .ref ra)]) hx hb dX7_count_3 rfl hl (by decide) rfl (fun ls hl => ?_)
  have L4 : ∀ (NN : Nat) (x : Nat) (i : Nat), (2 ^ n - i) < NN → (i ≤ 2 ^ n) → (x = fb_ct g i) → ∀ ls : Array Slot, lv_has ls 4 [(0, .ref o), (1, .ref ra), (2, .int (nI x)), (3, .int (nI i))] → W pX l eX ({ frames := 0, cells := 0, slots := 0, locals := 0 } : Room) sX mX ([.ref o, .ref ra] : List Value).toArray bX meX cX sX.heap [] 0 0 (MQ bX (vp_Si (fun rX => rX = (nI (fb_ct g (2 ^ n))))) ([.ref o, .ref ra] : List Value).toArray sX 0 0 (fun _ => False)) (F0 mX 4 ls []) := by
    intro NN
    induction NN with
    | zero => intro x i hm9; exact absurd hm9 (Nat.not_lt_zero _)
    | succ NN ih4 =>
      intro x i hm9 hi ex ls hl
      refine lv_iload_n hx hb dX7_count_4 rfl (lv_at hl 3 rfl) ?_
      refine n_iconst 1 (by decide) hx hb dX7_count_5 ?_
      refine lv_aload_n hx hb dX7_count_6 rfl (lv_at hl 0 rfl) ?_
      refine va_get (D := G) (ci := 7) (v := .int (nI n)) (C := RX7) (T := TX7) (N := 23) hx hb hts inX7 hown hK hP 0 rfl rfl 1 (by decide) lk0 (fun _ h9 => h9) rfl dX7_count_7 ?_
      refine n_ishl1 (by omega) hx hb dX7_count_10 ?_
      refine n_icmp_ge (tgt := 34) (by omega) (by omega) hx hb dX7_count_11 (by decide) (fun q11 => ?_) (fun q11 => ?_)
      · skip
        refine lv_iload_n hx hb dX7_count_34 rfl (lv_at hl 2 rfl) ?_
        exact e_pure hx hb hr hlk (by rw [ex, show i = 2 ^ n by omega]) dX7_count_35
      · skip
        refine lv_iload_n hx hb dX7_count_14 rfl (lv_at hl 2 rfl) ?_
        refine lv_aload_n hx hb dX7_count_15 rfl (lv_at hl 1 rfl) ?_
        refine lv_iload_n hx hb dX7_count_16 rfl (lv_at hl 3 rfl) ?_
        refine b_bald hx hb hK hP 1 rfl (by omega) (by first | decide | omega) dX7_count_17 ?_
        refine b_if_eq (tgt := 25) hx hb dX7_count_18 (by decide) (fun q18 => ?_) (fun q18 => ?_)
        · skip
          refine n_iconst 0 (by decide) hx hb dX7_count_25 ?_
          refine n_iadd hx hb dX7_count_26 ?_
          refine lv_istore_n (lv' := [(2, .int (nI (x + 0))), (0, .ref o), (1, .ref ra), (3, .int (nI i))]) hx hb dX7_count_27 rfl hl (by decide) rfl (fun ls hl => ?_)
          refine n_iinc (lv' := [(3, .int (nI (i + 1))), (2, .int (nI (x + 0))), (0, .ref o), (1, .ref ra)]) (k := 3) 1 hx hb dX7_count_28 hl rfl (by decide) (by decide) rfl (fun ls hl => ?_)
          refine lv_goto (tgt := 4) hx hb dX7_count_31 (by decide) ?_
          exact ih4 (x + 0) (i + 1) (by omega) (by omega) (by rw [fb_ct_succ, ex, q18]; rfl)  _ (lv_sub hl [2, 3, 1, 0] rfl)
        · skip
          refine n_iconst 1 (by decide) hx hb dX7_count_21 ?_
          refine lv_goto (tgt := 26) hx hb dX7_count_22 (by decide) ?_
          refine n_iadd hx hb dX7_count_26 ?_
          refine lv_istore_n (lv' := [(2, .int (nI (x + 1))), (0, .ref o), (1, .ref ra), (3, .int (nI i))]) hx hb dX7_count_27 rfl hl (by decide) rfl (fun ls hl => ?_)
          refine n_iinc (lv' := [(3, .int (nI (i + 1))), (2, .int (nI (x + 1))), (0, .ref o), (1, .ref ra)]) (k := 3) 1 hx hb dX7_count_28 hl rfl (by decide) (by decide) rfl (fun ls hl => ?_)
          refine lv_goto (tgt := 4) hx hb dX7_count_31 (by decide) ?_
          exact ih4 (x + 1) (i + 1) (by omega) (by omega) (by rw [fb_ct_succ, ex, q18]; rfl)  _ (lv_sub hl [2, 3, 1, 0] rfl)
  exact L4 _ (0) (0) (Nat.lt_succ_self _) (by omega) (by rfl)  _ (lv_sub hl [2, 3, 1, 0] rfl)
set_option maxHeartbeats 4000000 in
set_option maxRecDepth 100000 in
theorem m_X7_countWith (l : Launch) (G : va_G) (k : Nat → ClassId) (o n ra f : Nat) (g : Nat → Bool) (w0 w2 w3 w4 w5 w6 w7 w8 w9 w10 w11 w12 w13 w14 w15 w16 w17 w18 w19 w20 w21 w22 : Value) (hn : n ≤ 12) (hf : f < 12) : Met l yX7_countWith wsX7_countWith ({ frames := 1, cells := 0, slots := 0, locals := 21 } : Room) (va_Pc [.ref o, .ref ra, .int (nI f)] (Wd G k [(o, .inr (7, [w0, .int (nI n), w2, w3, w4, w5, w6, w7, w8, w9, w10, w11, w12, w13, w14, w15, w16, w17, w18, w19, w20, w21, w22])), (ra, .inl (k 1, 4096, .inl (bA g)))])) (vp_Si (fun rX => rX = (nI (fb_ct (fun c => g c && c.testBit f) (2 ^ n))))) 0 0 (fun _ => False) := by
  refine met_mk (cc := cX7_countWith) (maxL := 5) (ret := (some .int)) (by decide) rfl rfl ?_
  intro pX eX sX mX bX meX cX S hr hlk hnm hB ls hl
  obtain ⟨hP, hK, hN⟩ := hB
  obtain ⟨hx, hb, hml, hown, hts⟩ := id S
  have hown : sX.vm.findClass RX7 = some mX.cls := hown
  have hl : lv_has ls 5 [(0, .ref o), (1, .ref ra), (2, .int (nI f))] := hl
  have lk0 : (Cond.fieldLink RX7 9 "FeatureAnalyzerModel" "features" "I").before _ sX = true := hts _ (List.mem_cons_of_mem _ (List.mem_append_left _ (List.mem_of_getElem? (i := 0) rfl)))
  have inX7 : ∀ w ∈ wsX70, w ∈ wsX7_countWith := fun w h => List.mem_cons_of_mem _ (List.mem_append_right _ (h))
  have hpn := pow12 hn
  have hp1 := Nat.one_le_two_pow (n := n)
  refine n_iconst 0 (by decide) hx hb dX7_countWith_0 ?_
  refine lv_istore_n (lv' := [(3, .int (nI 0)), (0, .ref o), (1, .ref ra), (2, .int (nI f))]) hx hb dX7_countWith_1 rfl hl (by decide) rfl (fun ls hl => ?_)
  refine n_iconst 0 (by decide) hx hb dX7_countWith_2 ?_
  refine lv_istore (lv' := [(4, .int (nI 0)), (3, .int (nI 0)), (0, .ref o), (1, .ref ra), (2, .int (nI f))]) hx hb dX7_countWith_3 hl (by decide) rfl (fun ls hl => ?_)
  have L5 : ∀ (NN : Nat) (x : Nat) (i : Nat), (2 ^ n - i) < NN → (i ≤ 2 ^ n) → (x = fb_ct (fun c => g c && c.testBit f) i) → ∀ ls : Array Slot, lv_has ls 5 [(0, .ref o), (1, .ref ra), (2, .int (nI f)), (3, .int (nI x)), (4, .int (nI i))] → W pX l eX ({ frames := 1, cells := 0, slots := 0, locals := 21 } : Room) sX mX ([.ref o, .ref ra, .int (nI f)] : List Value).toArray bX meX cX sX.heap [] 0 0 (MQ bX (vp_Si (fun rX => rX = (nI (fb_ct (fun c => g c && c.testBit f) (2 ^ n))))) ([.ref o, .ref ra, .int (nI f)] : List Value).toArray sX 0 0 (fun _ => False)) (F0 mX 5 ls []) := by
    intro NN
    induction NN with
    | zero => intro x i hm9; exact absurd hm9 (Nat.not_lt_zero _)
    | succ NN ih5 =>
      intro x i hm9 hi ex ls hl
      refine lv_iload hx hb dX7_countWith_5 (lv_at hl 4 rfl) ?_
      refine n_iconst 1 (by decide) hx hb dX7_countWith_7 ?_
      refine lv_aload_n hx hb dX7_countWith_8 rfl (lv_at hl 0 rfl) ?_
      refine va_get (D := G) (ci := 7) (v := .int (nI n)) (C := RX7) (T := TX7) (N := 23) hx hb hts inX7 hown hK hP 0 rfl rfl 1 (by decide) lk0 (fun _ h9 => h9) rfl dX7_countWith_9 ?_
      refine n_ishl1 (by omega) hx hb dX7_countWith_12 ?_
      refine n_icmp_ge (tgt := 46) (by omega) (by omega) hx hb dX7_countWith_13 (by decide) (fun q13 => ?_) (fun q13 => ?_)
      · skip
        refine lv_iload_n hx hb dX7_countWith_46 rfl (lv_at hl 3 rfl) ?_
        exact e_pure hx hb hr hlk (by rw [ex, show i = 2 ^ n by omega]) dX7_countWith_47
      · skip
        refine lv_iload_n hx hb dX7_countWith_16 rfl (lv_at hl 3 rfl) ?_
        refine lv_aload_n hx hb dX7_countWith_17 rfl (lv_at hl 1 rfl) ?_
        refine lv_iload hx hb dX7_countWith_18 (lv_at hl 4 rfl) ?_
        refine b_bald hx hb hK hP 1 rfl (by omega) (by first | decide | omega) dX7_countWith_20 ?_
        refine b_if_eq (tgt := 37) hx hb dX7_countWith_21 (by decide) (fun q21 => ?_) (fun q21 => ?_)
        · skip
          refine n_iconst 0 (by decide) hx hb dX7_countWith_37 ?_
          refine n_iadd hx hb dX7_countWith_38 ?_
          refine lv_istore_n (lv' := [(3, .int (nI (x + 0))), (0, .ref o), (1, .ref ra), (2, .int (nI f)), (4, .int (nI i))]) hx hb dX7_countWith_39 rfl hl (by decide) rfl (fun ls hl => ?_)
          refine n_iinc (lv' := [(4, .int (nI (i + 1))), (3, .int (nI (x + 0))), (0, .ref o), (1, .ref ra), (2, .int (nI f))]) (k := 4) 1 hx hb dX7_countWith_40 hl rfl (by decide) (by decide) rfl (fun ls hl => ?_)
          refine lv_goto (tgt := 5) hx hb dX7_countWith_43 (by decide) ?_
          exact ih5 (x + 0) (i + 1) (by omega) (by omega) (by rw [fb_ct_succ, ex]; simp [*])  _ (lv_sub hl [2, 3, 4, 1, 0] rfl)
        · skip
          refine lv_iload hx hb dX7_countWith_24 (lv_at hl 4 rfl) ?_
          refine lv_iload_n hx hb dX7_countWith_26 rfl (lv_at hl 2 rfl) ?_
          refine cS_i (As := [.int (nI i), .int (nI f)]) S hP hK hN (m_X7_has l G k _ _ (by omega) (by omega)) gX7_countWith_X7_has rfl rfl rfl hdS_X7_has rfl rfl [] rfl rfl hl.1 rfl rfl ⟨Nat.le_of_ble_eq_true rfl, Nat.le_of_ble_eq_true rfl⟩ dX7_countWith_27 (fun rX hr1 => ?_)
          subst hr1
          refine b_if_eq (tgt := 37) hx hb dX7_countWith_30 (by decide) (fun q30 => ?_) (fun q30 => ?_)
          · skip
            refine n_iconst 0 (by decide) hx hb dX7_countWith_37 ?_
            refine n_iadd hx hb dX7_countWith_38 ?_
            refine lv_istore_n (lv' := [(3, .int (nI (x + 0))), (0, .ref o), (1, .ref ra), (2, .int (nI f)), (4, .int (nI i))]) hx hb dX7_countWith_39 rfl hl (by decide) rfl (fun ls hl => ?_)
            refine n_iinc (lv' := [(4, .int (nI (i + 1))), (3, .int (nI (x + 0))), (0, .ref o), (1, .ref ra), (2, .int (nI f))]) (k := 4) 1 hx hb dX7_countWith_40 hl rfl (by decide) (by decide) rfl (fun ls hl => ?_)
            refine lv_goto (tgt := 5) hx hb dX7_countWith_43 (by decide) ?_
            exact ih5 (x + 0) (i + 1) (by omega) (by omega) (by rw [fb_ct_succ, ex]; simp [*])  _ (lv_sub hl [2, 3, 4, 1, 0] rfl)
          · skip
            refine n_iconst 1 (by decide) hx hb dX7_countWith_33 ?_
            refine lv_goto (tgt := 38) hx hb dX7_countWith_34 (by decide) ?_
            refine n_iadd hx hb dX7_countWith_38 ?_
            refine lv_istore_n (lv' := [(3, .int (nI (x + 1))), (0, .ref o), (1, .ref ra), (2, .int (nI f)), (4, .int (nI i))]) hx hb dX7_countWith_39 rfl hl (by decide) rfl (fun ls hl => ?_)
            refine n_iinc (lv' := [(4, .int (nI (i + 1))), (3, .int (nI (x + 1))), (0, .ref o), (1, .ref ra), (2, .int (nI f))]) (k := 4) 1 hx hb dX7_countWith_40 hl rfl (by decide) (by decide) rfl (fun ls hl => ?_)
            refine lv_goto (tgt := 5) hx hb dX7_countWith_43 (by decide) ?_
            exact ih5 (x + 1) (i + 1) (by omega) (by omega) (by rw [fb_ct_succ, ex]; simp [*])  _ (lv_sub hl [2, 3, 4, 1, 0] rfl)
  exact L5 _ (0) (0) (Nat.lt_succ_self _) (by omega) (by rfl)  _ (lv_sub hl [2, 3, 4, 1, 0] rfl)
set_option maxHeartbeats 4000000 in
set_option maxRecDepth 100000 in
theorem m_X7_together (l : Launch) (G : va_G) (k : Nat → ClassId) (o n ra a b : Nat) (g : Nat → Bool) (w0 w2 w3 w4 w5 w6 w7 w8 w9 w10 w11 w12 w13 w15 w16 w17 w18 w19 w20 w21 w22 : Value) (hn : n ≤ 12) (ha : a < 12) (hb9 : b < 12) : Met l yX7_together wsX7_together ({ frames := 1, cells := 0, slots := 0, locals := 21 } : Room) (va_Pc [.ref o, .int (nI a), .int (nI b)] (Wd G k [(o, .inr (7, [w0, .int (nI n), w2, w3, w4, w5, w6, w7, w8, w9, w10, w11, w12, w13, .ref ra, w15, w16, w17, w18, w19, w20, w21, w22])), (ra, .inl (k 1, 4096, .inl (bA g)))])) (vp_Si (fun rX => rX = (bI (allN (togB g a b) (2 ^ n))))) 0 0 (fun _ => False) := by
  refine met_mk (cc := cX7_together) (maxL := 5) (ret := (some .boolean)) (by decide) rfl rfl ?_
  intro pX eX sX mX bX meX cX S hr hlk hnm hB ls hl
  obtain ⟨hP, hK, hN⟩ := hB
  obtain ⟨hx, hb, hml, hown, hts⟩ := id S
  have hown : sX.vm.findClass RX7 = some mX.cls := hown
  have hl : lv_has ls 5 [(0, .ref o), (1, .int (nI a)), (2, .int (nI b))] := hl
  have lk0 : (Cond.fieldLink RX7 9 "FeatureAnalyzerModel" "features" "I").before _ sX = true := hts _ (List.mem_cons_of_mem _ (List.mem_append_left _ (List.mem_of_getElem? (i := 0) rfl)))
  have inX7 : ∀ w ∈ wsX70, w ∈ wsX7_together := fun w h => List.mem_cons_of_mem _ (List.mem_append_right _ (h))
  have lk1 : (Cond.fieldLink RX7 45 "FeatureAnalyzerModel" "areProducts" "[Z").before _ sX = true := hts _ (List.mem_cons_of_mem _ (List.mem_append_left _ (List.mem_of_getElem? (i := 1) rfl)))
  have hpn := pow12 hn
  have hp1 := Nat.one_le_two_pow (n := n)
  refine n_iconst 1 (by decide) hx hb dX7_together_0 ?_
  refine lv_istore_n (lv' := [(3, .int (nI 1)), (0, .ref o), (1, .int (nI a)), (2, .int (nI b))]) hx hb dX7_together_1 rfl hl (by decide) rfl (fun ls hl => ?_)
  refine n_iconst 0 (by decide) hx hb dX7_together_2 ?_
  refine lv_istore (lv' := [(4, .int (nI 0)), (3, .int (nI 1)), (0, .ref o), (1, .int (nI a)), (2, .int (nI b))]) hx hb dX7_together_3 hl (by decide) rfl (fun ls hl => ?_)
  have L5 : ∀ (NN : Nat) (x : Bool) (i : Nat), (2 ^ n - i) < NN → (i ≤ 2 ^ n) → (x = allN (togB g a b) i) → ∀ ls : Array Slot, lv_has ls 5 [(0, .ref o), (1, .int (nI a)), (2, .int (nI b)), (3, .int (bI x)), (4, .int (nI i))] → W pX l eX ({ frames := 1, cells := 0, slots := 0, locals := 21 } : Room) sX mX ([.ref o, .int (nI a), .int (nI b)] : List Value).toArray bX meX cX sX.heap [] 0 0 (MQ bX (vp_Si (fun rX => rX = (bI (allN (togB g a b) (2 ^ n))))) ([.ref o, .int (nI a), .int (nI b)] : List Value).toArray sX 0 0 (fun _ => False)) (F0 mX 5 ls []) := by
    intro NN
    induction NN with
    | zero => intro x i hm9; exact absurd hm9 (Nat.not_lt_zero _)
    | succ NN ih5 =>
      intro x i hm9 hi ex ls hl
      refine lv_iload hx hb dX7_together_5 (lv_at hl 4 rfl) ?_
      refine n_iconst 1 (by decide) hx hb dX7_together_7 ?_
      refine lv_aload_n hx hb dX7_together_8 rfl (lv_at hl 0 rfl) ?_
      refine va_get (D := G) (ci := 7) (v := .int (nI n)) (C := RX7) (T := TX7) (N := 23) hx hb hts inX7 hown hK hP 0 rfl rfl 1 (by decide) lk0 (fun _ h9 => h9) rfl dX7_together_9 ?_
      refine n_ishl1 (by omega) hx hb dX7_together_12 ?_
      refine n_icmp_ge (tgt := 57) (by omega) (by omega) hx hb dX7_together_13 (by decide) (fun q13 => ?_) (fun q13 => ?_)
      · skip
        refine lv_iload_n hx hb dX7_together_57 rfl (lv_at hl 3 rfl) ?_
        exact e_pureZ (v := x) hx hb hr hlk (by rw [ex, show i = 2 ^ n by omega]) dX7_together_58
      · skip
        refine lv_iload_n hx hb dX7_together_16 rfl (lv_at hl 3 rfl) ?_
        refine b_if_eq (tgt := 49) hx hb dX7_together_17 (by decide) (fun q17 => ?_) (fun q17 => ?_)
        · skip
          refine n_iconst 0 (by decide) hx hb dX7_together_49 ?_
          refine lv_istore_n (lv' := [(3, .int (nI 0)), (0, .ref o), (1, .int (nI a)), (2, .int (nI b)), (4, .int (nI i))]) hx hb dX7_together_50 rfl hl (by decide) rfl (fun ls hl => ?_)
          refine n_iinc (lv' := [(4, .int (nI (i + 1))), (3, .int (nI 0)), (0, .ref o), (1, .int (nI a)), (2, .int (nI b))]) (k := 4) 1 hx hb dX7_together_51 hl rfl (by decide) (by decide) rfl (fun ls hl => ?_)
          refine lv_goto (tgt := 5) hx hb dX7_together_54 (by decide) ?_
          exact ih5 (false) (i + 1) (by omega) (by omega) (by rw [allN_succ, ← ex]; simp_all [togB])  _ (lv_sub hl [2, 3, 4, 1, 0] rfl)
        · skip
          refine lv_aload_n hx hb dX7_together_20 rfl (lv_at hl 0 rfl) ?_
          refine va_get (D := G) (ci := 7) (v := .ref ra) (C := RX7) (T := TX7) (N := 23) hx hb hts inX7 hown hK hP 0 rfl rfl 14 (by decide) lk1 (fun _ h9 => h9) rfl dX7_together_21 ?_
          refine lv_iload hx hb dX7_together_24 (lv_at hl 4 rfl) ?_
          refine b_bald hx hb hK hP 1 rfl (by omega) (by first | decide | omega) dX7_together_26 ?_
          refine b_if_eq (tgt := 45) hx hb dX7_together_27 (by decide) (fun q27 => ?_) (fun q27 => ?_)
          · skip
            refine n_iconst 1 (by decide) hx hb dX7_together_45 ?_
            refine lv_goto (tgt := 50) hx hb dX7_together_46 (by decide) ?_
            refine lv_istore_n (lv' := [(3, .int (nI 1)), (0, .ref o), (1, .int (nI a)), (2, .int (nI b)), (4, .int (nI i))]) hx hb dX7_together_50 rfl hl (by decide) rfl (fun ls hl => ?_)
            refine n_iinc (lv' := [(4, .int (nI (i + 1))), (3, .int (nI 1)), (0, .ref o), (1, .int (nI a)), (2, .int (nI b))]) (k := 4) 1 hx hb dX7_together_51 hl rfl (by decide) (by decide) rfl (fun ls hl => ?_)
            refine lv_goto (tgt := 5) hx hb dX7_together_54 (by decide) ?_
            exact ih5 (true) (i + 1) (by omega) (by omega) (by rw [allN_succ, ← ex]; simp_all [togB])  _ (lv_sub hl [2, 3, 4, 1, 0] rfl)
          · skip
            refine lv_iload hx hb dX7_together_30 (lv_at hl 4 rfl) ?_
            refine lv_iload_n hx hb dX7_together_32 rfl (lv_at hl 1 rfl) ?_
            refine cS_i (As := [.int (nI i), .int (nI a)]) S hP hK hN (m_X7_has l G k _ _ (by omega) (by omega)) gX7_together_X7_has rfl rfl rfl hdS_X7_has rfl rfl [] rfl rfl hl.1 rfl rfl ⟨Nat.le_of_ble_eq_true rfl, Nat.le_of_ble_eq_true rfl⟩ dX7_together_33 (fun rX hr1 => ?_)
            subst hr1
            refine lv_iload hx hb dX7_together_36 (lv_at hl 4 rfl) ?_
            refine lv_iload_n hx hb dX7_together_38 rfl (lv_at hl 2 rfl) ?_
            refine cS_i (As := [.int (nI i), .int (nI b)]) S hP hK hN (m_X7_has l G k _ _ (by omega) (by omega)) gX7_together_X7_has rfl rfl rfl hdS_X7_has rfl rfl [] rfl rfl hl.1 rfl rfl ⟨Nat.le_of_ble_eq_true rfl, Nat.le_of_ble_eq_true rfl⟩ dX7_together_39 (fun rX hr2 => ?_)
            subst hr2
            refine b_icmp_ne (tgt := 49) (a := (i).testBit a) (b := (i).testBit b) hx hb dX7_together_42 (by decide) (fun q42 => ?_) (fun q42 => ?_)
            · skip
              refine n_iconst 0 (by decide) hx hb dX7_together_49 ?_
              refine lv_istore_n (lv' := [(3, .int (nI 0)), (0, .ref o), (1, .int (nI a)), (2, .int (nI b)), (4, .int (nI i))]) hx hb dX7_together_50 rfl hl (by decide) rfl (fun ls hl => ?_)
              refine n_iinc (lv' := [(4, .int (nI (i + 1))), (3, .int (nI 0)), (0, .ref o), (1, .int (nI a)), (2, .int (nI b))]) (k := 4) 1 hx hb dX7_together_51 hl rfl (by decide) (by decide) rfl (fun ls hl => ?_)
              refine lv_goto (tgt := 5) hx hb dX7_together_54 (by decide) ?_
              exact ih5 (false) (i + 1) (by omega) (by omega) (by rw [allN_succ, ← ex]; simp_all [togB])  _ (lv_sub hl [2, 3, 4, 1, 0] rfl)
            · skip
              refine n_iconst 1 (by decide) hx hb dX7_together_45 ?_
              refine lv_goto (tgt := 50) hx hb dX7_together_46 (by decide) ?_
              refine lv_istore_n (lv' := [(3, .int (nI 1)), (0, .ref o), (1, .int (nI a)), (2, .int (nI b)), (4, .int (nI i))]) hx hb dX7_together_50 rfl hl (by decide) rfl (fun ls hl => ?_)
              refine n_iinc (lv' := [(4, .int (nI (i + 1))), (3, .int (nI 1)), (0, .ref o), (1, .int (nI a)), (2, .int (nI b))]) (k := 4) 1 hx hb dX7_together_51 hl rfl (by decide) (by decide) rfl (fun ls hl => ?_)
              refine lv_goto (tgt := 5) hx hb dX7_together_54 (by decide) ?_
              exact ih5 (true) (i + 1) (by omega) (by omega) (by rw [allN_succ, ← ex]; simp_all [togB])  _ (lv_sub hl [2, 3, 4, 1, 0] rfl)
  exact L5 _ (true) (0) (Nat.lt_succ_self _) (by omega) (by rfl)  _ (lv_sub hl [2, 3, 4, 1, 0] rfl)
theorem hdV_X7_countWith : yX7_countWith.cls = RX7 ∧ yX7_countWith.cls ≠ "java/lang/invoke/MethodHandle" ∧ yX7_countWith.cls ≠ "java/lang/invoke/VarHandle" ∧ (parseMethodDescriptor yX7_countWith.desc).map (fun d => d.parameters.length) = some 2 := by decide +kernel
set_option maxHeartbeats 4000000 in
set_option maxRecDepth 100000 in
theorem m_X7_openWith (l : Launch) (G : va_G) (k : Nat → ClassId) (o n p6 ra many : Nat) (de : Nat → Nat) (g : Nat → Bool) (w0 w2 w3 w4 w5 w7 w8 w9 w10 w11 w12 w13 w14 w16 w17 w18 w19 w20 w21 w22 : Value) (hn : n ≤ 12) (hm : many < 100000) (hde : ∀ i, i < n → de i < 3) : Met l yX7_openWith wsX7_openWith ({ frames := 2, cells := 0, slots := 0, locals := 45 } : Room) (va_Pc [.ref o, .int (nI many)] (Wd G k [(o, .inr (7, [w0, .int (nI n), w2, w3, w4, w5, .ref p6, w7, w8, w9, w10, w11, w12, w13, w14, .ref ra, w16, w17, w18, w19, w20, w21, w22])), (p6, .inl (k 0, 12, .inl (nA de))), (ra, .inl (k 1, 4096, .inl (bA g)))])) (vp_Si (fun rX => rX = (nI (maskN (fun f => decide (de f = 0) && decide (fb_ct (fun c => g c && c.testBit f) (2 ^ n) = many)) n)))) 0 0 (fun _ => False) := by
  refine met_mk (cc := cX7_openWith) (maxL := 4) (ret := (some .int)) (by decide) rfl rfl ?_
  intro pX eX sX mX bX meX cX S hr hlk hnm hB ls hl
  obtain ⟨hP, hK, hN⟩ := hB
  obtain ⟨hx, hb, hml, hown, hts⟩ := id S
  have hown : sX.vm.findClass RX7 = some mX.cls := hown
  have hl : lv_has ls 4 [(0, .ref o), (1, .int (nI many))] := hl
  have lk0 : (Cond.fieldLink RX7 9 "FeatureAnalyzerModel" "features" "I").before _ sX = true := hts _ (List.mem_cons_of_mem _ (List.mem_append_left _ (List.mem_of_getElem? (i := 0) rfl)))
  have inX7 : ∀ w ∈ wsX70, w ∈ wsX7_openWith := fun w h => List.mem_cons_of_mem _ (List.mem_append_right _ (h))
  have lk1 : (Cond.fieldLink RX7 26 "FeatureAnalyzerModel" "decisions" "[I").before _ sX = true := hts _ (List.mem_cons_of_mem _ (List.mem_append_left _ (List.mem_of_getElem? (i := 1) rfl)))
  have lk2 : (Cond.fieldLink RX7 48 "FeatureAnalyzerModel" "areCandidates" "[Z").before _ sX = true := hts _ (List.mem_cons_of_mem _ (List.mem_append_left _ (List.mem_of_getElem? (i := 2) rfl)))
  have hpn := pow12 hn
  have hp1 := Nat.one_le_two_pow (n := n)
  refine n_iconst 0 (by decide) hx hb dX7_openWith_0 ?_
  refine lv_istore_n (lv' := [(2, .int (nI 0)), (0, .ref o), (1, .int (nI many))]) hx hb dX7_openWith_1 rfl hl (by decide) rfl (fun ls hl => ?_)
  refine n_iconst 0 (by decide) hx hb dX7_openWith_2 ?_
  refine lv_istore_n (lv' := [(3, .int (nI 0)), (2, .int (nI 0)), (0, .ref o), (1, .int (nI many))]) hx hb dX7_openWith_3 rfl hl (by decide) rfl (fun ls hl => ?_)
  have L4 : ∀ (NN : Nat) (x : Nat) (i : Nat), (n - i) < NN → (i ≤ n) → (x = maskN (fun f => decide (de f = 0) && decide (fb_ct (fun c => g c && c.testBit f) (2 ^ n) = many)) i) → ∀ ls : Array Slot, lv_has ls 4 [(0, .ref o), (1, .int (nI many)), (2, .int (nI x)), (3, .int (nI i))] → W pX l eX ({ frames := 2, cells := 0, slots := 0, locals := 45 } : Room) sX mX ([.ref o, .int (nI many)] : List Value).toArray bX meX cX sX.heap [] 0 0 (MQ bX (vp_Si (fun rX => rX = (nI (maskN (fun f => decide (de f = 0) && decide (fb_ct (fun c => g c && c.testBit f) (2 ^ n) = many)) n)))) ([.ref o, .int (nI many)] : List Value).toArray sX 0 0 (fun _ => False)) (F0 mX 4 ls []) := by
    intro NN
    induction NN with
    | zero => intro x i hm9; exact absurd hm9 (Nat.not_lt_zero _)
    | succ NN ih4 =>
      intro x i hm9 hi ex ls hl
      refine lv_iload_n hx hb dX7_openWith_4 rfl (lv_at hl 3 rfl) ?_
      refine lv_aload_n hx hb dX7_openWith_5 rfl (lv_at hl 0 rfl) ?_
      refine va_get (D := G) (ci := 7) (v := .int (nI n)) (C := RX7) (T := TX7) (N := 23) hx hb hts inX7 hown hK hP 0 rfl rfl 1 (by decide) lk0 (fun _ h9 => h9) rfl dX7_openWith_6 ?_
      refine n_icmp_ge (tgt := 46) (by omega) (by omega) hx hb dX7_openWith_9 (by decide) (fun q9 => ?_) (fun q9 => ?_)
      · skip
        refine lv_iload_n hx hb dX7_openWith_46 rfl (lv_at hl 2 rfl) ?_
        exact e_pure hx hb hr hlk (by rw [ex, show i = n by omega]) dX7_openWith_47
      · skip
        have h1 := hde i (by omega)
        have h2 := fb_ct_le (fun c => g c && c.testBit i) (2 ^ n)
        refine lv_aload_n hx hb dX7_openWith_12 rfl (lv_at hl 0 rfl) ?_
        refine va_get (D := G) (ci := 7) (v := .ref p6) (C := RX7) (T := TX7) (N := 23) hx hb hts inX7 hown hK hP 0 rfl rfl 6 (by decide) lk1 (fun _ h9 => h9) rfl dX7_openWith_13 ?_
        refine lv_iload_n hx hb dX7_openWith_16 rfl (lv_at hl 3 rfl) ?_
        refine n_iald hx hb hK hP 1 rfl (by omega) (by first | decide | omega) dX7_openWith_17 ?_
        refine n_if_ne (tgt := 40) (by omega) hx hb dX7_openWith_18 (by decide) (fun q18 => ?_) (fun q18 => ?_)
        · skip
          refine n_iinc (lv' := [(3, .int (nI (i + 1))), (0, .ref o), (1, .int (nI many)), (2, .int (nI x))]) (k := 3) 1 hx hb dX7_openWith_40 hl rfl (by decide) (by decide) rfl (fun ls hl => ?_)
          refine lv_goto (tgt := 4) hx hb dX7_openWith_43 (by decide) ?_
          exact ih4 (x) (i + 1) (by omega) (by omega) (by rw [maskN_succ, ex]; simp_all [Nat.pos_iff_ne_zero])  _ (lv_sub hl [1, 2, 3, 0] rfl)
        · skip
          refine lv_aload_n hx hb dX7_openWith_21 rfl (lv_at hl 0 rfl) ?_
          refine lv_aload_n hx hb dX7_openWith_22 rfl (lv_at hl 0 rfl) ?_
          refine va_get (D := G) (ci := 7) (v := .ref ra) (C := RX7) (T := TX7) (N := 23) hx hb hts inX7 hown hK hP 0 rfl rfl 15 (by decide) lk2 (fun _ h9 => h9) rfl dX7_openWith_23 ?_
          refine lv_iload_n hx hb dX7_openWith_26 rfl (lv_at hl 3 rfl) ?_
          refine cV_i (As := [.ref ra, .int (nI i)]) S hP hK hN (m_X7_countWith l G k _ _ _ _ _ _ _ _ _ _ _ _ _ _ _ _ _ _ _ _ _ _ _ _ _ _ _ (by omega) (by omega)) gX7_openWith_X7_countWith rfl rfl rfl hdV_X7_countWith rfl rfl [0, 2] rfl 7 0 rfl rfl rfl rfl hl.1 rfl rfl ⟨Nat.le_of_ble_eq_true rfl, Nat.le_of_ble_eq_true rfl⟩ dX7_openWith_27 (fun rX hr1 => ?_)
          subst hr1
          refine lv_iload_n hx hb dX7_openWith_30 rfl (lv_at hl 1 rfl) ?_
          refine n_icmp_ne (tgt := 40) (by omega) (by omega) hx hb dX7_openWith_31 (by decide) (fun q31 => ?_) (fun q31 => ?_)
          · skip
            refine n_iinc (lv' := [(3, .int (nI (i + 1))), (0, .ref o), (1, .int (nI many)), (2, .int (nI x))]) (k := 3) 1 hx hb dX7_openWith_40 hl rfl (by decide) (by decide) rfl (fun ls hl => ?_)
            refine lv_goto (tgt := 4) hx hb dX7_openWith_43 (by decide) ?_
            exact ih4 (x) (i + 1) (by omega) (by omega) (by rw [maskN_succ, ex]; simp_all [Nat.pos_iff_ne_zero])  _ (lv_sub hl [1, 2, 3, 0] rfl)
          · skip
            refine lv_iload_n hx hb dX7_openWith_34 rfl (lv_at hl 2 rfl) ?_
            refine n_iconst 1 (by decide) hx hb dX7_openWith_35 ?_
            refine lv_iload_n hx hb dX7_openWith_36 rfl (lv_at hl 3 rfl) ?_
            refine n_ishl1 (by omega) hx hb dX7_openWith_37 ?_
            refine n_ior hx hb dX7_openWith_38 ?_
            refine lv_istore_n (lv' := [(2, .int (nI (x ||| (2 ^ i)))), (0, .ref o), (1, .int (nI many)), (3, .int (nI i))]) hx hb dX7_openWith_39 rfl hl (by decide) rfl (fun ls hl => ?_)
            refine n_iinc (lv' := [(3, .int (nI (i + 1))), (2, .int (nI (x ||| (2 ^ i)))), (0, .ref o), (1, .int (nI many))]) (k := 3) 1 hx hb dX7_openWith_40 hl rfl (by decide) (by decide) rfl (fun ls hl => ?_)
            refine lv_goto (tgt := 4) hx hb dX7_openWith_43 (by decide) ?_
            exact ih4 (x ||| (2 ^ i)) (i + 1) (by omega) (by omega) (by rw [maskN_succ, ex]; simp_all [Nat.pos_iff_ne_zero])  _ (lv_sub hl [2, 3, 1, 0] rfl)
  exact L4 _ (0) (0) (Nat.lt_succ_self _) (by omega) (by rfl)  _ (lv_sub hl [2, 3, 1, 0] rfl)
set_option maxHeartbeats 4000000 in
set_option maxRecDepth 100000 in
theorem m_X7_isInFront (l : Launch) (G : va_G) (k : Nat → ClassId) (o n ra p16 p17 c : Nat) (g : Nat → Bool) (cs vs : Nat → Nat) (w0 w2 w3 w4 w5 w6 w7 w8 w9 w10 w11 w12 w13 w14 w18 w19 w20 w21 w22 : Value) (hn : n ≤ 12) (hc : c < 2 ^ n) (hcs : ∀ i, i < 2 ^ n → cs i < 100000) (hvs : ∀ i, i < 2 ^ n → vs i < 100000) : Met l yX7_isInFront wsX7_isInFront ({ frames := 0, cells := 0, slots := 0, locals := 0 } : Room) (va_Pc [.ref o, .int (nI c)] (Wd G k [(o, .inr (7, [w0, .int (nI n), w2, w3, w4, w5, w6, w7, w8, w9, w10, w11, w12, w13, w14, .ref ra, .ref p16, .ref p17, w18, w19, w20, w21, w22])), (ra, .inl (k 1, 4096, .inl (bA g))), (p16, .inl (k 0, 4096, .inl (nA cs))), (p17, .inl (k 0, 4096, .inl (nA vs)))])) (vp_Si (fun rX => rX = (bI (frtB g cs vs c (2 ^ n))))) 0 0 (fun _ => False) := by
  refine met_mk (cc := cX7_isInFront) (maxL := 5) (ret := (some .boolean)) (by decide) rfl rfl ?_
  intro pX eX sX mX bX meX cX S hr hlk hnm hB ls hl
  obtain ⟨hP, hK, hN⟩ := hB
  obtain ⟨hx, hb, hml, hown, hts⟩ := id S
  have hown : sX.vm.findClass RX7 = some mX.cls := hown
  have hl : lv_has ls 5 [(0, .ref o), (1, .int (nI c))] := hl
  have lk0 : (Cond.fieldLink RX7 48 "FeatureAnalyzerModel" "areCandidates" "[Z").before _ sX = true := hts _ (List.mem_cons_of_mem _ (List.mem_append_left _ (List.mem_of_getElem? (i := 0) rfl)))
  have inX7 : ∀ w ∈ wsX70, w ∈ wsX7_isInFront := fun w h => List.mem_cons_of_mem _ (List.mem_append_right _ (h))
  have lk1 : (Cond.fieldLink RX7 9 "FeatureAnalyzerModel" "features" "I").before _ sX = true := hts _ (List.mem_cons_of_mem _ (List.mem_append_left _ (List.mem_of_getElem? (i := 1) rfl)))
  have lk2 : (Cond.fieldLink RX7 51 "FeatureAnalyzerModel" "costSums" "[I").before _ sX = true := hts _ (List.mem_cons_of_mem _ (List.mem_append_left _ (List.mem_of_getElem? (i := 2) rfl)))
  have lk3 : (Cond.fieldLink RX7 54 "FeatureAnalyzerModel" "valueSums" "[I").before _ sX = true := hts _ (List.mem_cons_of_mem _ (List.mem_append_left _ (List.mem_of_getElem? (i := 3) rfl)))
  have hpn := pow12 hn
  have hp1 := Nat.one_le_two_pow (n := n)
  have h3 := hcs c hc
  have h4 := hvs c hc
  refine lv_aload_n hx hb dX7_isInFront_0 rfl (lv_at hl 0 rfl) ?_
  refine va_get (D := G) (ci := 7) (v := .ref ra) (C := RX7) (T := TX7) (N := 23) hx hb hts inX7 hown hK hP 0 rfl rfl 15 (by decide) lk0 (fun _ h9 => h9) rfl dX7_isInFront_1 ?_
  refine lv_iload_n hx hb dX7_isInFront_4 rfl (lv_at hl 1 rfl) ?_
  refine b_bald hx hb hK hP 1 rfl (by omega) (by first | decide | omega) dX7_isInFront_5 ?_
  refine lv_istore_n (lv' := [(2, .int (bI (g c))), (0, .ref o), (1, .int (nI c))]) hx hb dX7_isInFront_6 rfl hl (by decide) rfl (fun ls hl => ?_)
  refine n_iconst 0 (by decide) hx hb dX7_isInFront_7 ?_
  refine lv_istore_n (lv' := [(3, .int (nI 0)), (2, .int (bI (g c))), (0, .ref o), (1, .int (nI c))]) hx hb dX7_isInFront_8 rfl hl (by decide) rfl (fun ls hl => ?_)
  have L9 : ∀ (NN : Nat) (x : Bool) (i : Nat), (2 ^ n - i) < NN → (i ≤ 2 ^ n) → (x = frtB g cs vs c i) → ∀ ls : Array Slot, lv_has ls 5 [(0, .ref o), (1, .int (nI c)), (2, .int (bI x)), (3, .int (nI i))] → W pX l eX ({ frames := 0, cells := 0, slots := 0, locals := 0 } : Room) sX mX ([.ref o, .int (nI c)] : List Value).toArray bX meX cX sX.heap [] 0 0 (MQ bX (vp_Si (fun rX => rX = (bI (frtB g cs vs c (2 ^ n))))) ([.ref o, .int (nI c)] : List Value).toArray sX 0 0 (fun _ => False)) (F0 mX 9 ls []) := by
    intro NN
    induction NN with
    | zero => intro x i hm9; exact absurd hm9 (Nat.not_lt_zero _)
    | succ NN ih9 =>
      intro x i hm9 hi ex ls hl
      refine lv_iload_n hx hb dX7_isInFront_9 rfl (lv_at hl 3 rfl) ?_
      refine n_iconst 1 (by decide) hx hb dX7_isInFront_10 ?_
      refine lv_aload_n hx hb dX7_isInFront_11 rfl (lv_at hl 0 rfl) ?_
      refine va_get (D := G) (ci := 7) (v := .int (nI n)) (C := RX7) (T := TX7) (N := 23) hx hb hts inX7 hown hK hP 0 rfl rfl 1 (by decide) lk1 (fun _ h9 => h9) rfl dX7_isInFront_12 ?_
      refine n_ishl1 (by omega) hx hb dX7_isInFront_15 ?_
      refine n_icmp_ge (tgt := 116) (by omega) (by omega) hx hb dX7_isInFront_16 (by decide) (fun q16 => ?_) (fun q16 => ?_)
      · skip
        refine lv_iload_n hx hb dX7_isInFront_116 rfl (lv_at hl 2 rfl) ?_
        exact e_pureZ (v := x) hx hb hr hlk (by first | rw [ex, show i = 2 ^ n by omega] | exact congrArg bI (q20.trans (frtB_stop (i := i) (by omega) (ex.symm.trans q20)).symm)) dX7_isInFront_117
      · skip
        have h1 := hcs i (by omega)
        have h2 := hvs i (by omega)
        refine lv_iload_n hx hb dX7_isInFront_19 rfl (lv_at hl 2 rfl) ?_
        refine b_if_eq (tgt := 116) hx hb dX7_isInFront_20 (by decide) (fun q20 => ?_) (fun q20 => ?_)
        · skip
          refine lv_iload_n hx hb dX7_isInFront_116 rfl (lv_at hl 2 rfl) ?_
          exact e_pureZ (v := x) hx hb hr hlk (by first | rw [ex, show i = 2 ^ n by omega] | exact congrArg bI (q20.trans (frtB_stop (i := i) (by omega) (ex.symm.trans q20)).symm)) dX7_isInFront_117
        · skip
          refine lv_aload_n hx hb dX7_isInFront_23 rfl (lv_at hl 0 rfl) ?_
          refine va_get (D := G) (ci := 7) (v := .ref p16) (C := RX7) (T := TX7) (N := 23) hx hb hts inX7 hown hK hP 0 rfl rfl 16 (by decide) lk2 (fun _ h9 => h9) rfl dX7_isInFront_24 ?_
          refine lv_iload_n hx hb dX7_isInFront_27 rfl (lv_at hl 3 rfl) ?_
          refine n_iald hx hb hK hP 2 rfl (by omega) (by first | decide | omega) dX7_isInFront_28 ?_
          refine lv_aload_n hx hb dX7_isInFront_29 rfl (lv_at hl 0 rfl) ?_
          refine va_get (D := G) (ci := 7) (v := .ref p16) (C := RX7) (T := TX7) (N := 23) hx hb hts inX7 hown hK hP 0 rfl rfl 16 (by decide) lk2 (fun _ h9 => h9) rfl dX7_isInFront_30 ?_
          refine lv_iload_n hx hb dX7_isInFront_33 rfl (lv_at hl 1 rfl) ?_
          refine n_iald hx hb hK hP 2 rfl (by omega) (by first | decide | omega) dX7_isInFront_34 ?_
          refine n_icmp_ne (tgt := 57) (by omega) (by omega) hx hb dX7_isInFront_35 (by decide) (fun q35 => ?_) (fun q35 => ?_)
          · skip
            refine n_iconst 0 (by decide) hx hb dX7_isInFront_57 ?_
            refine lv_istore (lv' := [(4, .int (nI 0)), (0, .ref o), (1, .int (nI c)), (2, .int (bI x)), (3, .int (nI i))]) hx hb dX7_isInFront_58 hl (by decide) rfl (fun ls hl => ?_)
            refine lv_aload_n hx hb dX7_isInFront_60 rfl (lv_at hl 1 rfl) ?_
            refine va_get (D := G) (ci := 7) (v := .ref ra) (C := RX7) (T := TX7) (N := 23) hx hb hts inX7 hown hK hP 0 rfl rfl 15 (by decide) lk0 (fun _ h9 => h9) rfl dX7_isInFront_61 ?_
            refine lv_iload_n hx hb dX7_isInFront_64 rfl (lv_at hl 4 rfl) ?_
            refine b_bald hx hb hK hP 1 rfl (by omega) (by first | decide | omega) dX7_isInFront_65 ?_
            refine b_if_eq (tgt := 104) hx hb dX7_isInFront_66 (by decide) (fun q66 => ?_) (fun q66 => ?_)
            · skip
              refine n_iconst 1 (by decide) hx hb dX7_isInFront_104 ?_
              refine lv_goto (tgt := 109) hx hb dX7_isInFront_105 (by decide) ?_
              refine lv_istore_n (lv' := [(2, .int (nI 1)), (4, .int (nI 0)), (0, .ref o), (1, .int (nI c)), (3, .int (nI i))]) hx hb dX7_isInFront_109 rfl hl (by decide) rfl (fun ls hl => ?_)
              refine n_iinc (lv' := [(3, .int (nI (i + 1))), (2, .int (nI 1)), (4, .int (nI 0)), (0, .ref o), (1, .int (nI c))]) (k := 4) 1 hx hb dX7_isInFront_110 hl rfl (by decide) (by decide) rfl (fun ls hl => ?_)
              refine lv_goto (tgt := 9) hx hb dX7_isInFront_113 (by decide) ?_
              exact ih9 (true) (i + 1) (by omega) (by omega) (by rw [frtB_succ, ← ex]; simp_all [nbB] <;> omega)  _ (lv_sub hl [3, 4, 1, 0] rfl)
            · skip
              refine lv_iload hx hb dX7_isInFront_69 (lv_at hl 0 rfl) ?_
              refine n_if_ne (tgt := 104) (by omega) hx hb dX7_isInFront_71 (by decide) (fun q71 => ?_) (fun q71 => ?_)
              · skip
                refine n_iconst 1 (by decide) hx hb dX7_isInFront_104 ?_
                refine lv_goto (tgt := 109) hx hb dX7_isInFront_105 (by decide) ?_
                refine lv_istore_n (lv' := [(2, .int (nI 1)), (4, .int (nI 0)), (0, .ref o), (1, .int (nI c)), (3, .int (nI i))]) hx hb dX7_isInFront_109 rfl hl (by decide) rfl (fun ls hl => ?_)
                refine n_iinc (lv' := [(3, .int (nI (i + 1))), (2, .int (nI 1)), (4, .int (nI 0)), (0, .ref o), (1, .int (nI c))]) (k := 4) 1 hx hb dX7_isInFront_110 hl rfl (by decide) (by decide) rfl (fun ls hl => ?_)
                refine lv_goto (tgt := 9) hx hb dX7_isInFront_113 (by decide) ?_
                exact ih9 (true) (i + 1) (by omega) (by omega) (by rw [frtB_succ, ← ex]; simp_all [nbB] <;> omega)  _ (lv_sub hl [3, 4, 1, 0] rfl)
              · skip
                refine lv_aload_n hx hb dX7_isInFront_74 rfl (lv_at hl 1 rfl) ?_
                refine va_get (D := G) (ci := 7) (v := .ref p16) (C := RX7) (T := TX7) (N := 23) hx hb hts inX7 hown hK hP 0 rfl rfl 16 (by decide) lk2 (fun _ h9 => h9) rfl dX7_isInFront_75 ?_
                refine lv_iload_n hx hb dX7_isInFront_78 rfl (lv_at hl 4 rfl) ?_
                refine n_iald hx hb hK hP 2 rfl (by omega) (by first | decide | omega) dX7_isInFront_79 ?_
                refine lv_aload_n hx hb dX7_isInFront_80 rfl (lv_at hl 1 rfl) ?_
                refine va_get (D := G) (ci := 7) (v := .ref p16) (C := RX7) (T := TX7) (N := 23) hx hb hts inX7 hown hK hP 0 rfl rfl 16 (by decide) lk2 (fun _ h9 => h9) rfl dX7_isInFront_81 ?_
                refine lv_iload_n hx hb dX7_isInFront_84 rfl (lv_at hl 2 rfl) ?_
                refine n_iald hx hb hK hP 2 rfl (by omega) (by first | decide | omega) dX7_isInFront_85 ?_
                refine n_icmp_gt (tgt := 104) (by omega) (by omega) hx hb dX7_isInFront_86 (by decide) (fun q86 => ?_) (fun q86 => ?_)
                · skip
                  refine n_iconst 1 (by decide) hx hb dX7_isInFront_104 ?_
                  refine lv_goto (tgt := 109) hx hb dX7_isInFront_105 (by decide) ?_
                  refine lv_istore_n (lv' := [(2, .int (nI 1)), (4, .int (nI 0)), (0, .ref o), (1, .int (nI c)), (3, .int (nI i))]) hx hb dX7_isInFront_109 rfl hl (by decide) rfl (fun ls hl => ?_)
                  refine n_iinc (lv' := [(3, .int (nI (i + 1))), (2, .int (nI 1)), (4, .int (nI 0)), (0, .ref o), (1, .int (nI c))]) (k := 4) 1 hx hb dX7_isInFront_110 hl rfl (by decide) (by decide) rfl (fun ls hl => ?_)
                  refine lv_goto (tgt := 9) hx hb dX7_isInFront_113 (by decide) ?_
                  exact ih9 (true) (i + 1) (by omega) (by omega) (by rw [frtB_succ, ← ex]; simp_all [nbB] <;> omega)  _ (lv_sub hl [3, 4, 1, 0] rfl)
                · skip
                  refine lv_aload_n hx hb dX7_isInFront_89 rfl (lv_at hl 1 rfl) ?_
                  refine va_get (D := G) (ci := 7) (v := .ref p17) (C := RX7) (T := TX7) (N := 23) hx hb hts inX7 hown hK hP 0 rfl rfl 17 (by decide) lk3 (fun _ h9 => h9) rfl dX7_isInFront_90 ?_
                  refine lv_iload_n hx hb dX7_isInFront_93 rfl (lv_at hl 4 rfl) ?_
                  refine n_iald hx hb hK hP 3 rfl (by omega) (by first | decide | omega) dX7_isInFront_94 ?_
                  refine lv_aload_n hx hb dX7_isInFront_95 rfl (lv_at hl 1 rfl) ?_
                  refine va_get (D := G) (ci := 7) (v := .ref p17) (C := RX7) (T := TX7) (N := 23) hx hb hts inX7 hown hK hP 0 rfl rfl 17 (by decide) lk3 (fun _ h9 => h9) rfl dX7_isInFront_96 ?_
                  refine lv_iload_n hx hb dX7_isInFront_99 rfl (lv_at hl 2 rfl) ?_
                  refine n_iald hx hb hK hP 3 rfl (by omega) (by first | decide | omega) dX7_isInFront_100 ?_
                  refine n_icmp_ge (tgt := 108) (by omega) (by omega) hx hb dX7_isInFront_101 (by decide) (fun q101 => ?_) (fun q101 => ?_)
                  · skip
                    refine n_iconst 0 (by decide) hx hb dX7_isInFront_108 ?_
                    refine lv_istore_n (lv' := [(2, .int (nI 0)), (4, .int (nI 0)), (0, .ref o), (1, .int (nI c)), (3, .int (nI i))]) hx hb dX7_isInFront_109 rfl hl (by decide) rfl (fun ls hl => ?_)
                    refine n_iinc (lv' := [(3, .int (nI (i + 1))), (2, .int (nI 0)), (4, .int (nI 0)), (0, .ref o), (1, .int (nI c))]) (k := 4) 1 hx hb dX7_isInFront_110 hl rfl (by decide) (by decide) rfl (fun ls hl => ?_)
                    refine lv_goto (tgt := 9) hx hb dX7_isInFront_113 (by decide) ?_
                    exact ih9 (false) (i + 1) (by omega) (by omega) (by rw [frtB_succ, ← ex]; simp_all [nbB] <;> omega)  _ (lv_sub hl [3, 4, 1, 0] rfl)
                  · skip
                    refine n_iconst 1 (by decide) hx hb dX7_isInFront_104 ?_
                    refine lv_goto (tgt := 109) hx hb dX7_isInFront_105 (by decide) ?_
                    refine lv_istore_n (lv' := [(2, .int (nI 1)), (4, .int (nI 0)), (0, .ref o), (1, .int (nI c)), (3, .int (nI i))]) hx hb dX7_isInFront_109 rfl hl (by decide) rfl (fun ls hl => ?_)
                    refine n_iinc (lv' := [(3, .int (nI (i + 1))), (2, .int (nI 1)), (4, .int (nI 0)), (0, .ref o), (1, .int (nI c))]) (k := 4) 1 hx hb dX7_isInFront_110 hl rfl (by decide) (by decide) rfl (fun ls hl => ?_)
                    refine lv_goto (tgt := 9) hx hb dX7_isInFront_113 (by decide) ?_
                    exact ih9 (true) (i + 1) (by omega) (by omega) (by rw [frtB_succ, ← ex]; simp_all [nbB] <;> omega)  _ (lv_sub hl [3, 4, 1, 0] rfl)
          · skip
            refine lv_aload_n hx hb dX7_isInFront_38 rfl (lv_at hl 0 rfl) ?_
            refine va_get (D := G) (ci := 7) (v := .ref p17) (C := RX7) (T := TX7) (N := 23) hx hb hts inX7 hown hK hP 0 rfl rfl 17 (by decide) lk3 (fun _ h9 => h9) rfl dX7_isInFront_39 ?_
            refine lv_iload_n hx hb dX7_isInFront_42 rfl (lv_at hl 3 rfl) ?_
            refine n_iald hx hb hK hP 3 rfl (by omega) (by first | decide | omega) dX7_isInFront_43 ?_
            refine lv_aload_n hx hb dX7_isInFront_44 rfl (lv_at hl 0 rfl) ?_
            refine va_get (D := G) (ci := 7) (v := .ref p17) (C := RX7) (T := TX7) (N := 23) hx hb hts inX7 hown hK hP 0 rfl rfl 17 (by decide) lk3 (fun _ h9 => h9) rfl dX7_isInFront_45 ?_
            refine lv_iload_n hx hb dX7_isInFront_48 rfl (lv_at hl 1 rfl) ?_
            refine n_iald hx hb hK hP 3 rfl (by omega) (by first | decide | omega) dX7_isInFront_49 ?_
            refine n_icmp_ne (tgt := 57) (by omega) (by omega) hx hb dX7_isInFront_50 (by decide) (fun q50 => ?_) (fun q50 => ?_)
            · skip
              refine n_iconst 0 (by decide) hx hb dX7_isInFront_57 ?_
              refine lv_istore (lv' := [(4, .int (nI 0)), (0, .ref o), (1, .int (nI c)), (2, .int (bI x)), (3, .int (nI i))]) hx hb dX7_isInFront_58 hl (by decide) rfl (fun ls hl => ?_)
              refine lv_aload_n hx hb dX7_isInFront_60 rfl (lv_at hl 1 rfl) ?_
              refine va_get (D := G) (ci := 7) (v := .ref ra) (C := RX7) (T := TX7) (N := 23) hx hb hts inX7 hown hK hP 0 rfl rfl 15 (by decide) lk0 (fun _ h9 => h9) rfl dX7_isInFront_61 ?_
              refine lv_iload_n hx hb dX7_isInFront_64 rfl (lv_at hl 4 rfl) ?_
              refine b_bald hx hb hK hP 1 rfl (by omega) (by first | decide | omega) dX7_isInFront_65 ?_
              refine b_if_eq (tgt := 104) hx hb dX7_isInFront_66 (by decide) (fun q66 => ?_) (fun q66 => ?_)
              · skip
                refine n_iconst 1 (by decide) hx hb dX7_isInFront_104 ?_
                refine lv_goto (tgt := 109) hx hb dX7_isInFront_105 (by decide) ?_
                refine lv_istore_n (lv' := [(2, .int (nI 1)), (4, .int (nI 0)), (0, .ref o), (1, .int (nI c)), (3, .int (nI i))]) hx hb dX7_isInFront_109 rfl hl (by decide) rfl (fun ls hl => ?_)
                refine n_iinc (lv' := [(3, .int (nI (i + 1))), (2, .int (nI 1)), (4, .int (nI 0)), (0, .ref o), (1, .int (nI c))]) (k := 4) 1 hx hb dX7_isInFront_110 hl rfl (by decide) (by decide) rfl (fun ls hl => ?_)
                refine lv_goto (tgt := 9) hx hb dX7_isInFront_113 (by decide) ?_
                exact ih9 (true) (i + 1) (by omega) (by omega) (by rw [frtB_succ, ← ex]; simp_all [nbB] <;> omega)  _ (lv_sub hl [3, 4, 1, 0] rfl)
              · skip
                refine lv_iload hx hb dX7_isInFront_69 (lv_at hl 0 rfl) ?_
                refine n_if_ne (tgt := 104) (by omega) hx hb dX7_isInFront_71 (by decide) (fun q71 => ?_) (fun q71 => ?_)
                · skip
                  refine n_iconst 1 (by decide) hx hb dX7_isInFront_104 ?_
                  refine lv_goto (tgt := 109) hx hb dX7_isInFront_105 (by decide) ?_
                  refine lv_istore_n (lv' := [(2, .int (nI 1)), (4, .int (nI 0)), (0, .ref o), (1, .int (nI c)), (3, .int (nI i))]) hx hb dX7_isInFront_109 rfl hl (by decide) rfl (fun ls hl => ?_)
                  refine n_iinc (lv' := [(3, .int (nI (i + 1))), (2, .int (nI 1)), (4, .int (nI 0)), (0, .ref o), (1, .int (nI c))]) (k := 4) 1 hx hb dX7_isInFront_110 hl rfl (by decide) (by decide) rfl (fun ls hl => ?_)
                  refine lv_goto (tgt := 9) hx hb dX7_isInFront_113 (by decide) ?_
                  exact ih9 (true) (i + 1) (by omega) (by omega) (by rw [frtB_succ, ← ex]; simp_all [nbB] <;> omega)  _ (lv_sub hl [3, 4, 1, 0] rfl)
                · skip
                  refine lv_aload_n hx hb dX7_isInFront_74 rfl (lv_at hl 1 rfl) ?_
                  refine va_get (D := G) (ci := 7) (v := .ref p16) (C := RX7) (T := TX7) (N := 23) hx hb hts inX7 hown hK hP 0 rfl rfl 16 (by decide) lk2 (fun _ h9 => h9) rfl dX7_isInFront_75 ?_
                  refine lv_iload_n hx hb dX7_isInFront_78 rfl (lv_at hl 4 rfl) ?_
                  refine n_iald hx hb hK hP 2 rfl (by omega) (by first | decide | omega) dX7_isInFront_79 ?_
                  refine lv_aload_n hx hb dX7_isInFront_80 rfl (lv_at hl 1 rfl) ?_
                  refine va_get (D := G) (ci := 7) (v := .ref p16) (C := RX7) (T := TX7) (N := 23) hx hb hts inX7 hown hK hP 0 rfl rfl 16 (by decide) lk2 (fun _ h9 => h9) rfl dX7_isInFront_81 ?_
                  refine lv_iload_n hx hb dX7_isInFront_84 rfl (lv_at hl 2 rfl) ?_
                  refine n_iald hx hb hK hP 2 rfl (by omega) (by first | decide | omega) dX7_isInFront_85 ?_
                  refine n_icmp_gt (tgt := 104) (by omega) (by omega) hx hb dX7_isInFront_86 (by decide) (fun q86 => ?_) (fun q86 => ?_)
                  · skip
                    refine n_iconst 1 (by decide) hx hb dX7_isInFront_104 ?_
                    refine lv_goto (tgt := 109) hx hb dX7_isInFront_105 (by decide) ?_
                    refine lv_istore_n (lv' := [(2, .int (nI 1)), (4, .int (nI 0)), (0, .ref o), (1, .int (nI c)), (3, .int (nI i))]) hx hb dX7_isInFront_109 rfl hl (by decide) rfl (fun ls hl => ?_)
                    refine n_iinc (lv' := [(3, .int (nI (i + 1))), (2, .int (nI 1)), (4, .int (nI 0)), (0, .ref o), (1, .int (nI c))]) (k := 4) 1 hx hb dX7_isInFront_110 hl rfl (by decide) (by decide) rfl (fun ls hl => ?_)
                    refine lv_goto (tgt := 9) hx hb dX7_isInFront_113 (by decide) ?_
                    exact ih9 (true) (i + 1) (by omega) (by omega) (by rw [frtB_succ, ← ex]; simp_all [nbB] <;> omega)  _ (lv_sub hl [3, 4, 1, 0] rfl)
                  · skip
                    refine lv_aload_n hx hb dX7_isInFront_89 rfl (lv_at hl 1 rfl) ?_
                    refine va_get (D := G) (ci := 7) (v := .ref p17) (C := RX7) (T := TX7) (N := 23) hx hb hts inX7 hown hK hP 0 rfl rfl 17 (by decide) lk3 (fun _ h9 => h9) rfl dX7_isInFront_90 ?_
                    refine lv_iload_n hx hb dX7_isInFront_93 rfl (lv_at hl 4 rfl) ?_
                    refine n_iald hx hb hK hP 3 rfl (by omega) (by first | decide | omega) dX7_isInFront_94 ?_
                    refine lv_aload_n hx hb dX7_isInFront_95 rfl (lv_at hl 1 rfl) ?_
                    refine va_get (D := G) (ci := 7) (v := .ref p17) (C := RX7) (T := TX7) (N := 23) hx hb hts inX7 hown hK hP 0 rfl rfl 17 (by decide) lk3 (fun _ h9 => h9) rfl dX7_isInFront_96 ?_
                    refine lv_iload_n hx hb dX7_isInFront_99 rfl (lv_at hl 2 rfl) ?_
                    refine n_iald hx hb hK hP 3 rfl (by omega) (by first | decide | omega) dX7_isInFront_100 ?_
                    refine n_icmp_ge (tgt := 108) (by omega) (by omega) hx hb dX7_isInFront_101 (by decide) (fun q101 => ?_) (fun q101 => ?_)
                    · skip
                      refine n_iconst 0 (by decide) hx hb dX7_isInFront_108 ?_
                      refine lv_istore_n (lv' := [(2, .int (nI 0)), (4, .int (nI 0)), (0, .ref o), (1, .int (nI c)), (3, .int (nI i))]) hx hb dX7_isInFront_109 rfl hl (by decide) rfl (fun ls hl => ?_)
                      refine n_iinc (lv' := [(3, .int (nI (i + 1))), (2, .int (nI 0)), (4, .int (nI 0)), (0, .ref o), (1, .int (nI c))]) (k := 4) 1 hx hb dX7_isInFront_110 hl rfl (by decide) (by decide) rfl (fun ls hl => ?_)
                      refine lv_goto (tgt := 9) hx hb dX7_isInFront_113 (by decide) ?_
                      exact ih9 (false) (i + 1) (by omega) (by omega) (by rw [frtB_succ, ← ex]; simp_all [nbB] <;> omega)  _ (lv_sub hl [3, 4, 1, 0] rfl)
                    · skip
                      refine n_iconst 1 (by decide) hx hb dX7_isInFront_104 ?_
                      refine lv_goto (tgt := 109) hx hb dX7_isInFront_105 (by decide) ?_
                      refine lv_istore_n (lv' := [(2, .int (nI 1)), (4, .int (nI 0)), (0, .ref o), (1, .int (nI c)), (3, .int (nI i))]) hx hb dX7_isInFront_109 rfl hl (by decide) rfl (fun ls hl => ?_)
                      refine n_iinc (lv' := [(3, .int (nI (i + 1))), (2, .int (nI 1)), (4, .int (nI 0)), (0, .ref o), (1, .int (nI c))]) (k := 4) 1 hx hb dX7_isInFront_110 hl rfl (by decide) (by decide) rfl (fun ls hl => ?_)
                      refine lv_goto (tgt := 9) hx hb dX7_isInFront_113 (by decide) ?_
                      exact ih9 (true) (i + 1) (by omega) (by omega) (by rw [frtB_succ, ← ex]; simp_all [nbB] <;> omega)  _ (lv_sub hl [3, 4, 1, 0] rfl)
            · skip
              refine n_iconst 1 (by decide) hx hb dX7_isInFront_53 ?_
              refine lv_goto (tgt := 58) hx hb dX7_isInFront_54 (by decide) ?_
              refine lv_istore (lv' := [(4, .int (nI 1)), (0, .ref o), (1, .int (nI c)), (2, .int (bI x)), (3, .int (nI i))]) hx hb dX7_isInFront_58 hl (by decide) rfl (fun ls hl => ?_)
              refine lv_aload_n hx hb dX7_isInFront_60 rfl (lv_at hl 1 rfl) ?_
              refine va_get (D := G) (ci := 7) (v := .ref ra) (C := RX7) (T := TX7) (N := 23) hx hb hts inX7 hown hK hP 0 rfl rfl 15 (by decide) lk0 (fun _ h9 => h9) rfl dX7_isInFront_61 ?_
              refine lv_iload_n hx hb dX7_isInFront_64 rfl (lv_at hl 4 rfl) ?_
              refine b_bald hx hb hK hP 1 rfl (by omega) (by first | decide | omega) dX7_isInFront_65 ?_
              refine b_if_eq (tgt := 104) hx hb dX7_isInFront_66 (by decide) (fun q66 => ?_) (fun q66 => ?_)
              · skip
                refine n_iconst 1 (by decide) hx hb dX7_isInFront_104 ?_
                refine lv_goto (tgt := 109) hx hb dX7_isInFront_105 (by decide) ?_
                refine lv_istore_n (lv' := [(2, .int (nI 1)), (4, .int (nI 1)), (0, .ref o), (1, .int (nI c)), (3, .int (nI i))]) hx hb dX7_isInFront_109 rfl hl (by decide) rfl (fun ls hl => ?_)
                refine n_iinc (lv' := [(3, .int (nI (i + 1))), (2, .int (nI 1)), (4, .int (nI 1)), (0, .ref o), (1, .int (nI c))]) (k := 4) 1 hx hb dX7_isInFront_110 hl rfl (by decide) (by decide) rfl (fun ls hl => ?_)
                refine lv_goto (tgt := 9) hx hb dX7_isInFront_113 (by decide) ?_
                exact ih9 (true) (i + 1) (by omega) (by omega) (by rw [frtB_succ, ← ex]; simp_all [nbB] <;> omega)  _ (lv_sub hl [3, 4, 1, 0] rfl)
              · skip
                refine lv_iload hx hb dX7_isInFront_69 (lv_at hl 0 rfl) ?_
                refine n_if_ne (tgt := 104) (by omega) hx hb dX7_isInFront_71 (by decide) (fun q71 => ?_) (fun q71 => ?_)
                · skip
                  refine n_iconst 1 (by decide) hx hb dX7_isInFront_104 ?_
                  refine lv_goto (tgt := 109) hx hb dX7_isInFront_105 (by decide) ?_
                  refine lv_istore_n (lv' := [(2, .int (nI 1)), (4, .int (nI 1)), (0, .ref o), (1, .int (nI c)), (3, .int (nI i))]) hx hb dX7_isInFront_109 rfl hl (by decide) rfl (fun ls hl => ?_)
                  refine n_iinc (lv' := [(3, .int (nI (i + 1))), (2, .int (nI 1)), (4, .int (nI 1)), (0, .ref o), (1, .int (nI c))]) (k := 4) 1 hx hb dX7_isInFront_110 hl rfl (by decide) (by decide) rfl (fun ls hl => ?_)
                  refine lv_goto (tgt := 9) hx hb dX7_isInFront_113 (by decide) ?_
                  exact ih9 (true) (i + 1) (by omega) (by omega) (by rw [frtB_succ, ← ex]; simp_all [nbB] <;> omega)  _ (lv_sub hl [3, 4, 1, 0] rfl)
                · skip
                  refine lv_aload_n hx hb dX7_isInFront_74 rfl (lv_at hl 1 rfl) ?_
                  refine va_get (D := G) (ci := 7) (v := .ref p16) (C := RX7) (T := TX7) (N := 23) hx hb hts inX7 hown hK hP 0 rfl rfl 16 (by decide) lk2 (fun _ h9 => h9) rfl dX7_isInFront_75 ?_
                  refine lv_iload_n hx hb dX7_isInFront_78 rfl (lv_at hl 4 rfl) ?_
                  refine n_iald hx hb hK hP 2 rfl (by omega) (by first | decide | omega) dX7_isInFront_79 ?_
                  refine lv_aload_n hx hb dX7_isInFront_80 rfl (lv_at hl 1 rfl) ?_
                  refine va_get (D := G) (ci := 7) (v := .ref p16) (C := RX7) (T := TX7) (N := 23) hx hb hts inX7 hown hK hP 0 rfl rfl 16 (by decide) lk2 (fun _ h9 => h9) rfl dX7_isInFront_81 ?_
                  refine lv_iload_n hx hb dX7_isInFront_84 rfl (lv_at hl 2 rfl) ?_
                  refine n_iald hx hb hK hP 2 rfl (by omega) (by first | decide | omega) dX7_isInFront_85 ?_
                  refine n_icmp_gt (tgt := 104) (by omega) (by omega) hx hb dX7_isInFront_86 (by decide) (fun q86 => ?_) (fun q86 => ?_)
                  · skip
                    refine n_iconst 1 (by decide) hx hb dX7_isInFront_104 ?_
                    refine lv_goto (tgt := 109) hx hb dX7_isInFront_105 (by decide) ?_
                    refine lv_istore_n (lv' := [(2, .int (nI 1)), (4, .int (nI 1)), (0, .ref o), (1, .int (nI c)), (3, .int (nI i))]) hx hb dX7_isInFront_109 rfl hl (by decide) rfl (fun ls hl => ?_)
                    refine n_iinc (lv' := [(3, .int (nI (i + 1))), (2, .int (nI 1)), (4, .int (nI 1)), (0, .ref o), (1, .int (nI c))]) (k := 4) 1 hx hb dX7_isInFront_110 hl rfl (by decide) (by decide) rfl (fun ls hl => ?_)
                    refine lv_goto (tgt := 9) hx hb dX7_isInFront_113 (by decide) ?_
                    exact ih9 (true) (i + 1) (by omega) (by omega) (by rw [frtB_succ, ← ex]; simp_all [nbB] <;> omega)  _ (lv_sub hl [3, 4, 1, 0] rfl)
                  · skip
                    refine lv_aload_n hx hb dX7_isInFront_89 rfl (lv_at hl 1 rfl) ?_
                    refine va_get (D := G) (ci := 7) (v := .ref p17) (C := RX7) (T := TX7) (N := 23) hx hb hts inX7 hown hK hP 0 rfl rfl 17 (by decide) lk3 (fun _ h9 => h9) rfl dX7_isInFront_90 ?_
                    refine lv_iload_n hx hb dX7_isInFront_93 rfl (lv_at hl 4 rfl) ?_
                    refine n_iald hx hb hK hP 3 rfl (by omega) (by first | decide | omega) dX7_isInFront_94 ?_
                    refine lv_aload_n hx hb dX7_isInFront_95 rfl (lv_at hl 1 rfl) ?_
                    refine va_get (D := G) (ci := 7) (v := .ref p17) (C := RX7) (T := TX7) (N := 23) hx hb hts inX7 hown hK hP 0 rfl rfl 17 (by decide) lk3 (fun _ h9 => h9) rfl dX7_isInFront_96 ?_
                    refine lv_iload_n hx hb dX7_isInFront_99 rfl (lv_at hl 2 rfl) ?_
                    refine n_iald hx hb hK hP 3 rfl (by omega) (by first | decide | omega) dX7_isInFront_100 ?_
                    refine n_icmp_ge (tgt := 108) (by omega) (by omega) hx hb dX7_isInFront_101 (by decide) (fun q101 => ?_) (fun q101 => ?_)
                    · skip
                      refine n_iconst 0 (by decide) hx hb dX7_isInFront_108 ?_
                      refine lv_istore_n (lv' := [(2, .int (nI 0)), (4, .int (nI 1)), (0, .ref o), (1, .int (nI c)), (3, .int (nI i))]) hx hb dX7_isInFront_109 rfl hl (by decide) rfl (fun ls hl => ?_)
                      refine n_iinc (lv' := [(3, .int (nI (i + 1))), (2, .int (nI 0)), (4, .int (nI 1)), (0, .ref o), (1, .int (nI c))]) (k := 4) 1 hx hb dX7_isInFront_110 hl rfl (by decide) (by decide) rfl (fun ls hl => ?_)
                      refine lv_goto (tgt := 9) hx hb dX7_isInFront_113 (by decide) ?_
                      exact ih9 (false) (i + 1) (by omega) (by omega) (by rw [frtB_succ, ← ex]; simp_all [nbB] <;> omega)  _ (lv_sub hl [3, 4, 1, 0] rfl)
                    · skip
                      refine n_iconst 1 (by decide) hx hb dX7_isInFront_104 ?_
                      refine lv_goto (tgt := 109) hx hb dX7_isInFront_105 (by decide) ?_
                      refine lv_istore_n (lv' := [(2, .int (nI 1)), (4, .int (nI 1)), (0, .ref o), (1, .int (nI c)), (3, .int (nI i))]) hx hb dX7_isInFront_109 rfl hl (by decide) rfl (fun ls hl => ?_)
                      refine n_iinc (lv' := [(3, .int (nI (i + 1))), (2, .int (nI 1)), (4, .int (nI 1)), (0, .ref o), (1, .int (nI c))]) (k := 4) 1 hx hb dX7_isInFront_110 hl rfl (by decide) (by decide) rfl (fun ls hl => ?_)
                      refine lv_goto (tgt := 9) hx hb dX7_isInFront_113 (by decide) ?_
                      exact ih9 (true) (i + 1) (by omega) (by omega) (by rw [frtB_succ, ← ex]; simp_all [nbB] <;> omega)  _ (lv_sub hl [3, 4, 1, 0] rfl)
  exact L9 _ (g c) (0) (Nat.lt_succ_self _) (by omega) (by exact (Bool.and_true _).symm)  _ (lv_sub hl [2, 3, 1, 0] rfl)
set_option maxHeartbeats 4000000 in
set_option maxRecDepth 100000 in
theorem m_X7_pair (l : Launch) (G : va_G) (k : Nat → ClassId) (c a b : Nat) (hc : c < 4096) (ha : a < 12) (hb9 : b < 12) : Met l yX7_pair wsX7_pair ({ frames := 1, cells := 0, slots := 0, locals := 21 } : Room) (va_Pc [.int (nI c), .int (nI a), .int (nI b)] (Wd G k [])) (vp_Si (fun rX => rX = (nI (prK c a b)))) 0 0 (fun _ => False) := by
  refine met_mk (cc := cX7_pair) (maxL := 3) (ret := (some .int)) (by decide) rfl rfl ?_
  intro pX eX sX mX bX meX cX S hr hlk hnm hB ls hl
  obtain ⟨hP, hK, hN⟩ := hB
  obtain ⟨hx, hb, hml, hown, hts⟩ := id S
  have hown : sX.vm.findClass RX7 = some mX.cls := hown
  have hl : lv_has ls 3 [(0, .int (nI c)), (1, .int (nI a)), (2, .int (nI b))] := hl
  refine n_iconst 4 (by decide) hx hb dX7_pair_0 ?_
  refine n_bipush 12 (by decide) hx hb dX7_pair_1 ?_
  refine lv_iload_n hx hb dX7_pair_3 rfl (lv_at hl 1 rfl) ?_
  refine n_imul hx hb dX7_pair_4 ?_
  refine lv_iload_n hx hb dX7_pair_5 rfl (lv_at hl 2 rfl) ?_
  refine n_iadd hx hb dX7_pair_6 ?_
  refine n_imul hx hb dX7_pair_7 ?_
  refine lv_iload_n hx hb dX7_pair_8 rfl (lv_at hl 0 rfl) ?_
  refine lv_iload_n hx hb dX7_pair_9 rfl (lv_at hl 1 rfl) ?_
  refine cS_i (As := [.int (nI c), .int (nI a)]) S hP hK hN (m_X7_has l G k _ _ (by omega) (by omega)) gX7_pair_X7_has rfl rfl rfl hdS_X7_has rfl rfl [] rfl rfl hl.1 rfl rfl ⟨Nat.le_of_ble_eq_true rfl, Nat.le_of_ble_eq_true rfl⟩ dX7_pair_10 (fun rX hr1 => ?_)
  subst hr1
  refine b_if_eq (tgt := 20) hx hb dX7_pair_13 (by decide) (fun q13 => ?_) (fun q13 => ?_)
  · skip
    refine n_iconst 0 (by decide) hx hb dX7_pair_20 ?_
    refine n_iadd hx hb dX7_pair_21 ?_
    refine lv_iload_n hx hb dX7_pair_22 rfl (lv_at hl 0 rfl) ?_
    refine lv_iload_n hx hb dX7_pair_23 rfl (lv_at hl 2 rfl) ?_
    refine cS_i (As := [.int (nI c), .int (nI b)]) S hP hK hN (m_X7_has l G k _ _ (by omega) (by omega)) gX7_pair_X7_has rfl rfl rfl hdS_X7_has rfl rfl [] rfl rfl hl.1 rfl rfl ⟨Nat.le_of_ble_eq_true rfl, Nat.le_of_ble_eq_true rfl⟩ dX7_pair_24 (fun rX hr2 => ?_)
    subst hr2
    refine b_if_eq (tgt := 34) hx hb dX7_pair_27 (by decide) (fun q27 => ?_) (fun q27 => ?_)
    · skip
      refine n_iconst 0 (by decide) hx hb dX7_pair_34 ?_
      refine n_iadd hx hb dX7_pair_35 ?_
      exact e_pure hx hb hr hlk (by simp [prK, *]) dX7_pair_36
    · skip
      refine n_iconst 1 (by decide) hx hb dX7_pair_30 ?_
      refine lv_goto (tgt := 35) hx hb dX7_pair_31 (by decide) ?_
      refine n_iadd hx hb dX7_pair_35 ?_
      exact e_pure hx hb hr hlk (by simp [prK, *]) dX7_pair_36
  · skip
    refine n_iconst 2 (by decide) hx hb dX7_pair_16 ?_
    refine lv_goto (tgt := 21) hx hb dX7_pair_17 (by decide) ?_
    refine n_iadd hx hb dX7_pair_21 ?_
    refine lv_iload_n hx hb dX7_pair_22 rfl (lv_at hl 0 rfl) ?_
    refine lv_iload_n hx hb dX7_pair_23 rfl (lv_at hl 2 rfl) ?_
    refine cS_i (As := [.int (nI c), .int (nI b)]) S hP hK hN (m_X7_has l G k _ _ (by omega) (by omega)) gX7_pair_X7_has rfl rfl rfl hdS_X7_has rfl rfl [] rfl rfl hl.1 rfl rfl ⟨Nat.le_of_ble_eq_true rfl, Nat.le_of_ble_eq_true rfl⟩ dX7_pair_24 (fun rX hr3 => ?_)
    subst hr3
    refine b_if_eq (tgt := 34) hx hb dX7_pair_27 (by decide) (fun q27 => ?_) (fun q27 => ?_)
    · skip
      refine n_iconst 0 (by decide) hx hb dX7_pair_34 ?_
      refine n_iadd hx hb dX7_pair_35 ?_
      exact e_pure hx hb hr hlk (by simp [prK, *]) dX7_pair_36
    · skip
      refine n_iconst 1 (by decide) hx hb dX7_pair_30 ?_
      refine lv_goto (tgt := 35) hx hb dX7_pair_31 (by decide) ?_
      refine n_iadd hx hb dX7_pair_35 ?_
      exact e_pure hx hb hr hlk (by simp [prK, *]) dX7_pair_36
