theorem hdV_X0_decisionOn : yX0_decisionOn.cls = RX0 ∧ yX0_decisionOn.cls ≠ "java/lang/invoke/MethodHandle" ∧ yX0_decisionOn.cls ≠ "java/lang/invoke/VarHandle" ∧ (parseMethodDescriptor yX0_decisionOn.desc).map (fun d => d.parameters.length) = some 1 := by decide +kernel
set_option maxHeartbeats 4000000 in
set_option maxRecDepth 100000 in
theorem m_X0_mark (l : Launch) (G : va_G) (k : Nat → ClassId) (sz : Nat) (h0 iN oN f d : Nat) (v2 : Value) (hiN : iN < 4096) (hoN : oN < 4096) (hf : f < 12) (hd : d < 3) : Met l yX0_mark wsX0_mark ({ frames := 2, cells := 0, slots := 0, locals := 42 } : Room) (va_Pc [.ref h0, .int (nI f), .int (nI d)] (Wm G k [(h0, .inr (0, [.int (nI iN), .int (nI oN), v2]))] sz)) (va_Qi (fun (rX : Int32) (u : (Nat) × (Nat)) => rX = (nI (decN iN oN f)) ∧ u.1 = (if d = 1 then iN ||| 2 ^ f else andn iN (2 ^ f)) ∧ u.2 = (if d = 2 then oN ||| 2 ^ f else andn oN (2 ^ f))) (Bm G k (va_A [(h0, .inr (0, [.int (nI iN), .int (nI oN), v2]))] sz) (fun u : (Nat) × (Nat) => [(h0, .inr (0, [.int (nI u.1), .int (nI u.2), v2]))])) (va_A [(h0, .inr (0, [.int (nI iN), .int (nI oN), v2]))] sz)) 0 0 (va_A [(h0, .inr (0, [.int (nI iN), .int (nI oN), v2]))] sz) := by
  refine met_mk (cc := cX0_mark) (maxL := 5) (ret := (some .int)) (by decide) rfl rfl ?_
  intro pX eX sX mX bX meX cX S hr hlk hnm hB ls hl
  obtain ⟨hsz, hP, hK, hN, hD0⟩ := hB
  subst hsz
  have hD := hD0.self (sz := sX.heap.size)
  generalize hAe : va_A [(h0, .inr (0, [.int (nI iN), .int (nI oN), v2]))] sX.heap.size = A at hD ⊢
  have hA : ∀ q : Nat, sX.heap.size ≤ q → A q := fun q h => by rw [← hAe]; exact Or.inr h
  have hS : va_S A sX.heap sX.heap [] := va_S.rf
  obtain ⟨hx, hb, hml, hown, hts⟩ := id S
  have hown : sX.vm.findClass RX0 = some mX.cls := hown
  have hl : lv_has ls 5 [(0, .ref h0), (1, .int (nI f)), (2, .int (nI d))] := hl
  have lk0 : (Cond.fieldLink RX0 9 "FeatureAnalyzer$Choices" "in" "I").before _ sX = true := hts _ (List.mem_cons_of_mem _ (List.mem_append_left _ (List.mem_of_getElem? (i := 0) rfl)))
  have inX0 : ∀ w ∈ wsX00, w ∈ wsX0_mark := fun w h => List.mem_cons_of_mem _ (List.mem_append_right _ (h))
  have lk1 : (Cond.fieldLink RX0 15 "FeatureAnalyzer$Choices" "out" "I").before _ sX = true := hts _ (List.mem_cons_of_mem _ (List.mem_append_left _ (List.mem_of_getElem? (i := 1) rfl)))
  refine lv_aload_n hx hb dX0_mark_0 rfl (lv_at hl 0 rfl) ?_
  refine lv_iload_n hx hb dX0_mark_1 rfl (lv_at hl 1 rfl) ?_
  refine cV_i (As := [.int (nI f)]) S hP hK hN (m_X0_decisionOn l G k _ _ _ _ _ (by omega) (by omega) (by omega)) gX0_mark_X0_decisionOn rfl rfl rfl hdV_X0_decisionOn rfl rfl [0] rfl 0 0 rfl rfl rfl rfl hl.1 rfl rfl ⟨Nat.le_of_ble_eq_true rfl, Nat.le_of_ble_eq_true rfl⟩ dX0_mark_2 (fun rX hr1 => ?_)
  subst hr1
  refine lv_istore_n (lv' := [(3, .int (nI (decN iN oN f))), (0, .ref h0), (1, .int (nI f)), (2, .int (nI d))]) hx hb dX0_mark_5 rfl hl (by decide) rfl (fun ls hl => ?_)
  refine n_iconst 1 (by decide) hx hb dX0_mark_6 ?_
  refine lv_iload_n hx hb dX0_mark_7 rfl (lv_at hl 2 rfl) ?_
  refine n_ishl1 (by omega) hx hb dX0_mark_8 ?_
  refine lv_istore (lv' := [(4, .int (nI (2 ^ f))), (3, .int (nI (decN iN oN f))), (0, .ref h0), (1, .int (nI f)), (2, .int (nI d))]) hx hb dX0_mark_9 hl (by decide) rfl (fun ls hl => ?_)
  refine lv_aload_n hx hb dX0_mark_11 rfl (lv_at hl 2 rfl) ?_
  refine lv_iload_n hx hb dX0_mark_12 rfl (lv_at hl 4 rfl) ?_
  refine n_iconst 1 (by decide) hx hb dX0_mark_13 ?_
  refine n_icmp_ne (tgt := 27) (by omega) (by omega) hx hb dX0_mark_14 (by decide) (fun q14 => ?_) (fun q14 => ?_)
  · skip
    refine lv_aload_n hx hb dX0_mark_27 rfl (lv_at hl 2 rfl) ?_
    refine va_get (D := G) (ci := 0) (v := .int (nI iN)) (C := RX0) (T := TX0) (N := 3) hx hb hts inX0 hown hK hP 0 rfl rfl 0 (by decide) lk0 (fun _ h9 => h9) rfl dX0_mark_28 ?_
    refine lv_iload hx hb dX0_mark_31 (lv_at hl 0 rfl) ?_
    refine lv_iconst (v := -1) hx hb dX0_mark_33 (by decide) ?_
    refine lv_ixor hx hb dX0_mark_34 ?_
    refine n_iandC hx hb dX0_mark_35 ?_
    refine va_put (D := G) (ci := 0) (v := .int (nI (andn iN (2 ^ f)))) (ty := .int) (C := RX0) (T := TX0) (N := 3) hx hb hts inX0 tyX0 tyX0_ok nmX0 hown hK hP hD hS 0 rfl rfl 0 (by decide) lk0 (fun _ h9 => h9) rfl rfl rfl rfl (Nat.le_of_ble_eq_true rfl) dX0_mark_36 (fun H locs hP hD hS => ?_)
    have hP : va_P G vwCl [(h0, .inr (0, [.int (nI (andn iN (2 ^ f))), .int (nI oN), v2]))] H := hP
    have hD : va_D A [(h0, .inr (0, [.int (nI (andn iN (2 ^ f))), .int (nI oN), v2]))] := hD
    refine lv_aload_n hx hb dX0_mark_39 rfl (lv_at hl 2 rfl) ?_
    refine lv_iload_n hx hb dX0_mark_40 rfl (lv_at hl 4 rfl) ?_
    refine n_iconst 2 (by decide) hx hb dX0_mark_41 ?_
    refine n_icmp_ne (tgt := 55) (by omega) (by omega) hx hb dX0_mark_42 (by decide) (fun q42 => ?_) (fun q42 => ?_)
    · skip
      refine lv_aload_n hx hb dX0_mark_55 rfl (lv_at hl 2 rfl) ?_
      refine va_get (D := G) (ci := 0) (v := .int (nI oN)) (C := RX0) (T := TX0) (N := 3) hx hb hts inX0 hown hK hP 0 rfl rfl 1 (by decide) lk1 (fun _ h9 => h9) rfl dX0_mark_56 ?_
      refine lv_iload hx hb dX0_mark_59 (lv_at hl 0 rfl) ?_
      refine lv_iconst (v := -1) hx hb dX0_mark_61 (by decide) ?_
      refine lv_ixor hx hb dX0_mark_62 ?_
      refine n_iandC hx hb dX0_mark_63 ?_
      refine va_put (D := G) (ci := 0) (v := .int (nI (andn oN (2 ^ f)))) (ty := .int) (C := RX0) (T := TX0) (N := 3) hx hb hts inX0 tyX0 tyX0_ok nmX0 hown hK hP hD hS 0 rfl rfl 1 (by decide) lk1 (fun _ h9 => h9) rfl rfl rfl rfl (Nat.le_of_ble_eq_true rfl) dX0_mark_64 (fun H locs hP hD hS => ?_)
      have hP : va_P G vwCl [(h0, .inr (0, [.int (nI (andn iN (2 ^ f))), .int (nI (andn oN (2 ^ f))), v2]))] H := hP
      have hD : va_D A [(h0, .inr (0, [.int (nI (andn iN (2 ^ f))), .int (nI (andn oN (2 ^ f))), v2]))] := hD
      refine lv_iload_n hx hb dX0_mark_67 rfl (lv_at hl 1 rfl) ?_
      exact e_mutI (u := (andn iN (2 ^ f), andn oN (2 ^ f))) hx hb hr hlk hS hP hK hD (by first | (exfalso; omega) | (refine ⟨rfl, ?_, ?_⟩ <;> simp [*])) dX0_mark_68
    · skip
      refine lv_aload_n hx hb dX0_mark_45 rfl (lv_at hl 2 rfl) ?_
      refine va_get (D := G) (ci := 0) (v := .int (nI oN)) (C := RX0) (T := TX0) (N := 3) hx hb hts inX0 hown hK hP 0 rfl rfl 1 (by decide) lk1 (fun _ h9 => h9) rfl dX0_mark_46 ?_
      refine lv_iload hx hb dX0_mark_49 (lv_at hl 0 rfl) ?_
      refine n_ior hx hb dX0_mark_51 ?_
      refine lv_goto (tgt := 64) hx hb dX0_mark_52 (by decide) ?_
      refine va_put (D := G) (ci := 0) (v := .int (nI (oN ||| (2 ^ f)))) (ty := .int) (C := RX0) (T := TX0) (N := 3) hx hb hts inX0 tyX0 tyX0_ok nmX0 hown hK hP hD hS 0 rfl rfl 1 (by decide) lk1 (fun _ h9 => h9) rfl rfl rfl rfl (Nat.le_of_ble_eq_true rfl) dX0_mark_64 (fun H locs hP hD hS => ?_)
      have hP : va_P G vwCl [(h0, .inr (0, [.int (nI (andn iN (2 ^ f))), .int (nI (oN ||| (2 ^ f))), v2]))] H := hP
      have hD : va_D A [(h0, .inr (0, [.int (nI (andn iN (2 ^ f))), .int (nI (oN ||| (2 ^ f))), v2]))] := hD
      refine lv_iload_n hx hb dX0_mark_67 rfl (lv_at hl 1 rfl) ?_
      exact e_mutI (u := (andn iN (2 ^ f), oN ||| (2 ^ f))) hx hb hr hlk hS hP hK hD (by first | (exfalso; omega) | (refine ⟨rfl, ?_, ?_⟩ <;> simp [*])) dX0_mark_68
  · skip
    refine lv_aload_n hx hb dX0_mark_17 rfl (lv_at hl 2 rfl) ?_
    refine va_get (D := G) (ci := 0) (v := .int (nI iN)) (C := RX0) (T := TX0) (N := 3) hx hb hts inX0 hown hK hP 0 rfl rfl 0 (by decide) lk0 (fun _ h9 => h9) rfl dX0_mark_18 ?_
    refine lv_iload hx hb dX0_mark_21 (lv_at hl 0 rfl) ?_
    refine n_ior hx hb dX0_mark_23 ?_
    refine lv_goto (tgt := 36) hx hb dX0_mark_24 (by decide) ?_
    refine va_put (D := G) (ci := 0) (v := .int (nI (iN ||| (2 ^ f)))) (ty := .int) (C := RX0) (T := TX0) (N := 3) hx hb hts inX0 tyX0 tyX0_ok nmX0 hown hK hP hD hS 0 rfl rfl 0 (by decide) lk0 (fun _ h9 => h9) rfl rfl rfl rfl (Nat.le_of_ble_eq_true rfl) dX0_mark_36 (fun H locs hP hD hS => ?_)
    have hP : va_P G vwCl [(h0, .inr (0, [.int (nI (iN ||| (2 ^ f))), .int (nI oN), v2]))] H := hP
    have hD : va_D A [(h0, .inr (0, [.int (nI (iN ||| (2 ^ f))), .int (nI oN), v2]))] := hD
    refine lv_aload_n hx hb dX0_mark_39 rfl (lv_at hl 2 rfl) ?_
    refine lv_iload_n hx hb dX0_mark_40 rfl (lv_at hl 4 rfl) ?_
    refine n_iconst 2 (by decide) hx hb dX0_mark_41 ?_
    refine n_icmp_ne (tgt := 55) (by omega) (by omega) hx hb dX0_mark_42 (by decide) (fun q42 => ?_) (fun q42 => ?_)
    · skip
      refine lv_aload_n hx hb dX0_mark_55 rfl (lv_at hl 2 rfl) ?_
      refine va_get (D := G) (ci := 0) (v := .int (nI oN)) (C := RX0) (T := TX0) (N := 3) hx hb hts inX0 hown hK hP 0 rfl rfl 1 (by decide) lk1 (fun _ h9 => h9) rfl dX0_mark_56 ?_
      refine lv_iload hx hb dX0_mark_59 (lv_at hl 0 rfl) ?_
      refine lv_iconst (v := -1) hx hb dX0_mark_61 (by decide) ?_
      refine lv_ixor hx hb dX0_mark_62 ?_
      refine n_iandC hx hb dX0_mark_63 ?_
      refine va_put (D := G) (ci := 0) (v := .int (nI (andn oN (2 ^ f)))) (ty := .int) (C := RX0) (T := TX0) (N := 3) hx hb hts inX0 tyX0 tyX0_ok nmX0 hown hK hP hD hS 0 rfl rfl 1 (by decide) lk1 (fun _ h9 => h9) rfl rfl rfl rfl (Nat.le_of_ble_eq_true rfl) dX0_mark_64 (fun H locs hP hD hS => ?_)
      have hP : va_P G vwCl [(h0, .inr (0, [.int (nI (iN ||| (2 ^ f))), .int (nI (andn oN (2 ^ f))), v2]))] H := hP
      have hD : va_D A [(h0, .inr (0, [.int (nI (iN ||| (2 ^ f))), .int (nI (andn oN (2 ^ f))), v2]))] := hD
      refine lv_iload_n hx hb dX0_mark_67 rfl (lv_at hl 1 rfl) ?_
      exact e_mutI (u := (iN ||| (2 ^ f), andn oN (2 ^ f))) hx hb hr hlk hS hP hK hD (by first | (exfalso; omega) | (refine ⟨rfl, ?_, ?_⟩ <;> simp [*])) dX0_mark_68
    · skip
      refine lv_aload_n hx hb dX0_mark_45 rfl (lv_at hl 2 rfl) ?_
      refine va_get (D := G) (ci := 0) (v := .int (nI oN)) (C := RX0) (T := TX0) (N := 3) hx hb hts inX0 hown hK hP 0 rfl rfl 1 (by decide) lk1 (fun _ h9 => h9) rfl dX0_mark_46 ?_
      refine lv_iload hx hb dX0_mark_49 (lv_at hl 0 rfl) ?_
      refine n_ior hx hb dX0_mark_51 ?_
      refine lv_goto (tgt := 64) hx hb dX0_mark_52 (by decide) ?_
      refine va_put (D := G) (ci := 0) (v := .int (nI (oN ||| (2 ^ f)))) (ty := .int) (C := RX0) (T := TX0) (N := 3) hx hb hts inX0 tyX0 tyX0_ok nmX0 hown hK hP hD hS 0 rfl rfl 1 (by decide) lk1 (fun _ h9 => h9) rfl rfl rfl rfl (Nat.le_of_ble_eq_true rfl) dX0_mark_64 (fun H locs hP hD hS => ?_)
      have hP : va_P G vwCl [(h0, .inr (0, [.int (nI (iN ||| (2 ^ f))), .int (nI (oN ||| (2 ^ f))), v2]))] H := hP
      have hD : va_D A [(h0, .inr (0, [.int (nI (iN ||| (2 ^ f))), .int (nI (oN ||| (2 ^ f))), v2]))] := hD
      refine lv_iload_n hx hb dX0_mark_67 rfl (lv_at hl 1 rfl) ?_
      exact e_mutI (u := (iN ||| (2 ^ f), oN ||| (2 ^ f))) hx hb hr hlk hS hP hK hD (by first | (exfalso; omega) | (refine ⟨rfl, ?_, ?_⟩ <;> simp [*])) dX0_mark_68
set_option maxHeartbeats 4000000 in
set_option maxRecDepth 100000 in
theorem m_X0_limit (l : Launch) (G : va_G) (k : Nat → ClassId) (sz : Nat) (h0 : Nat) (b b2 : Int32) (v0 v1 : Value)  : Met l yX0_limit wsX0_limit ({ frames := 0, cells := 0, slots := 0, locals := 0 } : Room) (va_Pc [.ref h0, .int b2] (Wm G k [(h0, .inr (0, [v0, v1, .int b]))] sz)) (va_Qi (fun (rX : Int32) (u : Unit) => rX = b) (Bm G k (va_A [(h0, .inr (0, [v0, v1, .int b]))] sz) (fun u : Unit => [(h0, .inr (0, [v0, v1, .int b2]))])) (va_A [(h0, .inr (0, [v0, v1, .int b]))] sz)) 0 0 (va_A [(h0, .inr (0, [v0, v1, .int b]))] sz) := by
  refine met_mk (cc := cX0_limit) (maxL := 3) (ret := (some .int)) (by decide) rfl rfl ?_
  intro pX eX sX mX bX meX cX S hr hlk hnm hB ls hl
  obtain ⟨hsz, hP, hK, hN, hD0⟩ := hB
  subst hsz
  have hD := hD0.self (sz := sX.heap.size)
  generalize hAe : va_A [(h0, .inr (0, [v0, v1, .int b]))] sX.heap.size = A at hD ⊢
  have hA : ∀ q : Nat, sX.heap.size ≤ q → A q := fun q h => by rw [← hAe]; exact Or.inr h
  have hS : va_S A sX.heap sX.heap [] := va_S.rf
  obtain ⟨hx, hb, hml, hown, hts⟩ := id S
  have hown : sX.vm.findClass RX0 = some mX.cls := hown
  have hl : lv_has ls 3 [(0, .ref h0), (1, .int b2)] := hl
  have lk0 : (Cond.fieldLink RX0 18 "FeatureAnalyzer$Choices" "budget" "I").before _ sX = true := hts _ (List.mem_cons_of_mem _ (List.mem_append_left _ (List.mem_of_getElem? (i := 0) rfl)))
  have inX0 : ∀ w ∈ wsX00, w ∈ wsX0_limit := fun w h => List.mem_cons_of_mem _ (List.mem_append_right _ (h))
  refine lv_aload_n hx hb dX0_limit_0 rfl (lv_at hl 0 rfl) ?_
  refine va_get (D := G) (ci := 0) (v := .int b) (C := RX0) (T := TX0) (N := 3) hx hb hts inX0 hown hK hP 0 rfl rfl 2 (by decide) lk0 (fun _ h9 => h9) rfl dX0_limit_1 ?_
  refine lv_istore_n (lv' := [(2, .int b), (0, .ref h0), (1, .int b2)]) hx hb dX0_limit_4 rfl hl (by decide) rfl (fun ls hl => ?_)
  refine lv_aload_n hx hb dX0_limit_5 rfl (lv_at hl 1 rfl) ?_
  refine lv_iload_n hx hb dX0_limit_6 rfl (lv_at hl 2 rfl) ?_
  refine va_put (D := G) (ci := 0) (v := .int b2) (ty := .int) (C := RX0) (T := TX0) (N := 3) hx hb hts inX0 tyX0 tyX0_ok nmX0 hown hK hP hD hS 0 rfl rfl 2 (by decide) lk0 (fun _ h9 => h9) rfl rfl rfl rfl (Nat.le_of_ble_eq_true rfl) dX0_limit_7 (fun H locs hP hD hS => ?_)
  have hP : va_P G vwCl [(h0, .inr (0, [v0, v1, .int b2]))] H := hP
  have hD : va_D A [(h0, .inr (0, [v0, v1, .int b2]))] := hD
  refine lv_iload_n hx hb dX0_limit_10 rfl (lv_at hl 0 rfl) ?_
  exact e_mutI (u := ()) hx hb hr hlk hS hP hK hD (by rfl) dX0_limit_11
set_option maxHeartbeats 4000000 in
set_option maxRecDepth 100000 in
theorem m_X1_forget (l : Launch) (G : va_G) (k : Nat → ClassId) (sz : Nat) (h0 : Nat) (v0 v1 : Value) (b : Bool)  : Met l yX1_forget wsX1_forget ({ frames := 0, cells := 0, slots := 0, locals := 0 } : Room) (va_Pc [.ref h0] (Wm G k [(h0, .inr (1, [v0, v1, .int (bI b)]))] sz)) (va_Qv (fun u : Unit => True) (Bm G k (va_A [(h0, .inr (1, [v0, v1, .int (bI b)]))] sz) (fun u : Unit => [(h0, .inr (1, [v0, v1, .int (bI false)]))])) (va_A [(h0, .inr (1, [v0, v1, .int (bI b)]))] sz)) 0 0 (va_A [(h0, .inr (1, [v0, v1, .int (bI b)]))] sz) := by
  refine met_mk (cc := cX1_forget) (maxL := 1) (ret := none) (by decide) rfl rfl ?_
  intro pX eX sX mX bX meX cX S hr hlk hnm hB ls hl
  obtain ⟨hsz, hP, hK, hN, hD0⟩ := hB
  subst hsz
  have hD := hD0.self (sz := sX.heap.size)
  generalize hAe : va_A [(h0, .inr (1, [v0, v1, .int (bI b)]))] sX.heap.size = A at hD ⊢
  have hA : ∀ q : Nat, sX.heap.size ≤ q → A q := fun q h => by rw [← hAe]; exact Or.inr h
  have hS : va_S A sX.heap sX.heap [] := va_S.rf
  obtain ⟨hx, hb, hml, hown, hts⟩ := id S
  have hown : sX.vm.findClass RX1 = some mX.cls := hown
  have hl : lv_has ls 1 [(0, .ref h0)] := hl
  have lk0 : (Cond.fieldLink RX1 19 "FeatureAnalyzer$ConfigurationRow" "isKnown" "Z").before _ sX = true := hts _ (List.mem_cons_of_mem _ (List.mem_append_left _ (List.mem_of_getElem? (i := 0) rfl)))
  have inX1 : ∀ w ∈ wsX10, w ∈ wsX1_forget := fun w h => List.mem_cons_of_mem _ (List.mem_append_right _ (h))
  refine lv_aload_n hx hb dX1_forget_0 rfl (lv_at hl 0 rfl) ?_
  refine n_iconst 0 (by decide) hx hb dX1_forget_1 ?_
  refine va_put (D := G) (ci := 1) (v := .int (bI false)) (ty := .boolean) (C := RX1) (T := TX1) (N := 3) hx hb hts inX1 tyX1 tyX1_ok nmX1 hown hK hP hD hS 0 rfl rfl 2 (by decide) lk0 (fun _ h9 => h9) rfl rfl (bI_nar _) (bI_fit _) (Nat.le_of_ble_eq_true rfl) dX1_forget_2 (fun H locs hP hD hS => ?_)
  have hP : va_P G vwCl [(h0, .inr (1, [v0, v1, .int (bI false)]))] H := hP
  have hD : va_D A [(h0, .inr (1, [v0, v1, .int (bI false)]))] := hD
  exact e_mutV (u := ()) hx hb hr hlk hS hP hK hD (by trivial) dX1_forget_5
set_option maxHeartbeats 4000000 in
set_option maxRecDepth 100000 in
theorem m_X1_restart (l : Launch) (G : va_G) (k : Nat → ClassId) (sz : Nat) (h0 n : Nat) (v0 : Value) (b : Bool)  : Met l yX1_restart wsX1_restart ({ frames := 0, cells := 0, slots := 0, locals := 0 } : Room) (va_Pc [.ref h0] (Wm G k [(h0, .inr (1, [v0, .int (nI n), .int (bI b)]))] sz)) (va_Qv (fun u : Unit => True) (Bm G k (va_A [(h0, .inr (1, [v0, .int (nI n), .int (bI b)]))] sz) (fun u : Unit => [(h0, .inr (1, [v0, .int (nI 0), .int (bI true)]))])) (va_A [(h0, .inr (1, [v0, .int (nI n), .int (bI b)]))] sz)) 0 0 (va_A [(h0, .inr (1, [v0, .int (nI n), .int (bI b)]))] sz) := by
  refine met_mk (cc := cX1_restart) (maxL := 1) (ret := none) (by decide) rfl rfl ?_
  intro pX eX sX mX bX meX cX S hr hlk hnm hB ls hl
  obtain ⟨hsz, hP, hK, hN, hD0⟩ := hB
  subst hsz
  have hD := hD0.self (sz := sX.heap.size)
  generalize hAe : va_A [(h0, .inr (1, [v0, .int (nI n), .int (bI b)]))] sX.heap.size = A at hD ⊢
  have hA : ∀ q : Nat, sX.heap.size ≤ q → A q := fun q h => by rw [← hAe]; exact Or.inr h
  have hS : va_S A sX.heap sX.heap [] := va_S.rf
  obtain ⟨hx, hb, hml, hown, hts⟩ := id S
  have hown : sX.vm.findClass RX1 = some mX.cls := hown
  have hl : lv_has ls 1 [(0, .ref h0)] := hl
  have lk0 : (Cond.fieldLink RX1 15 "FeatureAnalyzer$ConfigurationRow" "size" "I").before _ sX = true := hts _ (List.mem_cons_of_mem _ (List.mem_append_left _ (List.mem_of_getElem? (i := 0) rfl)))
  have inX1 : ∀ w ∈ wsX10, w ∈ wsX1_restart := fun w h => List.mem_cons_of_mem _ (List.mem_append_right _ (h))
  have lk1 : (Cond.fieldLink RX1 19 "FeatureAnalyzer$ConfigurationRow" "isKnown" "Z").before _ sX = true := hts _ (List.mem_cons_of_mem _ (List.mem_append_left _ (List.mem_of_getElem? (i := 1) rfl)))
  refine lv_aload_n hx hb dX1_restart_0 rfl (lv_at hl 0 rfl) ?_
  refine n_iconst 0 (by decide) hx hb dX1_restart_1 ?_
  refine va_put (D := G) (ci := 1) (v := .int (nI 0)) (ty := .int) (C := RX1) (T := TX1) (N := 3) hx hb hts inX1 tyX1 tyX1_ok nmX1 hown hK hP hD hS 0 rfl rfl 1 (by decide) lk0 (fun _ h9 => h9) rfl rfl rfl rfl (Nat.le_of_ble_eq_true rfl) dX1_restart_2 (fun H locs hP hD hS => ?_)
  have hP : va_P G vwCl [(h0, .inr (1, [v0, .int (nI 0), .int (bI b)]))] H := hP
  have hD : va_D A [(h0, .inr (1, [v0, .int (nI 0), .int (bI b)]))] := hD
  refine lv_aload_n hx hb dX1_restart_5 rfl (lv_at hl 0 rfl) ?_
  refine n_iconst 1 (by decide) hx hb dX1_restart_6 ?_
  refine va_put (D := G) (ci := 1) (v := .int (bI true)) (ty := .boolean) (C := RX1) (T := TX1) (N := 3) hx hb hts inX1 tyX1 tyX1_ok nmX1 hown hK hP hD hS 0 rfl rfl 2 (by decide) lk1 (fun _ h9 => h9) rfl rfl (bI_nar _) (bI_fit _) (Nat.le_of_ble_eq_true rfl) dX1_restart_7 (fun H locs hP hD hS => ?_)
  have hP : va_P G vwCl [(h0, .inr (1, [v0, .int (nI 0), .int (bI true)]))] H := hP
  have hD : va_D A [(h0, .inr (1, [v0, .int (nI 0), .int (bI true)]))] := hD
  exact e_mutV (u := ()) hx hb hr hlk hS hP hK hD (by trivial) dX1_restart_10
set_option maxHeartbeats 4000000 in
set_option maxRecDepth 100000 in
theorem m_X1_append (l : Launch) (G : va_G) (k : Nat → ClassId) (sz : Nat) (h0 ra n x : Nat) (g : Nat → Nat) (v2 : Value) (hn : n < 2048) : Met l yX1_append wsX1_append ({ frames := 0, cells := 0, slots := 0, locals := 0 } : Room) (va_Pc [.ref h0, .int (nI x)] (Wm G k [(h0, .inr (1, [.ref ra, .int (nI n), v2])), (ra, .inl (k 0, 2048, .inl (nA g)))] sz)) (va_Qv (fun u : Unit => True) (Bm G k (va_A [(h0, .inr (1, [.ref ra, .int (nI n), v2])), (ra, .inl (k 0, 2048, .inl (nA g)))] sz) (fun u : Unit => [(h0, .inr (1, [.ref ra, .int (nI (n + 1)), v2])), (ra, .inl (k 0, 2048, .inl (nA (va_up g n x))))])) (va_A [(h0, .inr (1, [.ref ra, .int (nI n), v2])), (ra, .inl (k 0, 2048, .inl (nA g)))] sz)) 0 0 (va_A [(h0, .inr (1, [.ref ra, .int (nI n), v2])), (ra, .inl (k 0, 2048, .inl (nA g)))] sz) := by
  refine met_mk (cc := cX1_append) (maxL := 2) (ret := none) (by decide) rfl rfl ?_
  intro pX eX sX mX bX meX cX S hr hlk hnm hB ls hl
  obtain ⟨hsz, hP, hK, hN, hD0⟩ := hB
  subst hsz
  have hD := hD0.self (sz := sX.heap.size)
  generalize hAe : va_A [(h0, .inr (1, [.ref ra, .int (nI n), v2])), (ra, .inl (k 0, 2048, .inl (nA g)))] sX.heap.size = A at hD ⊢
  have hA : ∀ q : Nat, sX.heap.size ≤ q → A q := fun q h => by rw [← hAe]; exact Or.inr h
  have hS : va_S A sX.heap sX.heap [] := va_S.rf
  obtain ⟨hx, hb, hml, hown, hts⟩ := id S
  have hown : sX.vm.findClass RX1 = some mX.cls := hown
  have hl : lv_has ls 2 [(0, .ref h0), (1, .int (nI x))] := hl
  have lk0 : (Cond.fieldLink RX1 15 "FeatureAnalyzer$ConfigurationRow" "size" "I").before _ sX = true := hts _ (List.mem_cons_of_mem _ (List.mem_append_left _ (List.mem_of_getElem? (i := 0) rfl)))
  have inX1 : ∀ w ∈ wsX10, w ∈ wsX1_append := fun w h => List.mem_cons_of_mem _ (List.mem_append_right _ (h))
  have lk1 : (Cond.fieldLink RX1 9 "FeatureAnalyzer$ConfigurationRow" "members" "[I").before _ sX = true := hts _ (List.mem_cons_of_mem _ (List.mem_append_left _ (List.mem_of_getElem? (i := 1) rfl)))
  refine lv_aload_n hx hb dX1_append_0 rfl (lv_at hl 0 rfl) ?_
  refine va_get (D := G) (ci := 1) (v := .int (nI n)) (C := RX1) (T := TX1) (N := 3) hx hb hts inX1 hown hK hP 0 rfl rfl 1 (by decide) lk0 (fun _ h9 => h9) rfl dX1_append_1 ?_
  refine lv_aload_n hx hb dX1_append_4 rfl (lv_at hl 0 rfl) ?_
  refine va_get (D := G) (ci := 1) (v := .ref ra) (C := RX1) (T := TX1) (N := 3) hx hb hts inX1 hown hK hP 0 rfl rfl 0 (by decide) lk1 (fun _ h9 => h9) rfl dX1_append_5 ?_
  refine g_alen (n := 2048) 1 0 hx hb hK hP rfl rfl rfl dX1_append_8 ?_
  refine n_icmp_ge (tgt := 32) (by omega) (by omega) hx hb dX1_append_9 (by decide) (fun q9 => ?_) (fun q9 => ?_)
  · skip
    omega
  · skip
    refine lv_aload_n hx hb dX1_append_12 rfl (lv_at hl 0 rfl) ?_
    refine va_get (D := G) (ci := 1) (v := .ref ra) (C := RX1) (T := TX1) (N := 3) hx hb hts inX1 hown hK hP 0 rfl rfl 0 (by decide) lk1 (fun _ h9 => h9) rfl dX1_append_13 ?_
    refine lv_aload_n hx hb dX1_append_16 rfl (lv_at hl 0 rfl) ?_
    refine va_get (D := G) (ci := 1) (v := .int (nI n)) (C := RX1) (T := TX1) (N := 3) hx hb hts inX1 hown hK hP 0 rfl rfl 1 (by decide) lk0 (fun _ h9 => h9) rfl dX1_append_17 ?_
    refine lv_iload_n hx hb dX1_append_20 rfl (lv_at hl 1 rfl) ?_
    refine n_iast (ws1 := [(h0, .inr (1, [.ref ra, .int (nI n), v2])), (ra, .inl (k 0, 2048, .inl (nA (va_up g n x))))]) hx hb hK hP hD hS 1 rfl (by omega) (by first | decide | omega) rfl dX1_append_21 (fun H locs hP hD hS => ?_)
    refine lv_aload_n hx hb dX1_append_22 rfl (lv_at hl 0 rfl) ?_
    refine lv_dup hx hb dX1_append_23 rfl ?_
    refine va_get (D := G) (ci := 1) (v := .int (nI n)) (C := RX1) (T := TX1) (N := 3) hx hb hts inX1 hown hK hP 0 rfl rfl 1 (by decide) lk0 (fun _ h9 => h9) rfl dX1_append_24 ?_
    refine n_iconst 1 (by decide) hx hb dX1_append_27 ?_
    refine n_iadd hx hb dX1_append_28 ?_
    refine va_put (D := G) (ci := 1) (v := .int (nI (n + 1))) (ty := .int) (C := RX1) (T := TX1) (N := 3) hx hb hts inX1 tyX1 tyX1_ok nmX1 hown hK hP hD hS 0 rfl rfl 1 (by decide) lk0 (fun _ h9 => h9) rfl rfl rfl rfl (Nat.le_of_ble_eq_true rfl) dX1_append_29 (fun H locs hP hD hS => ?_)
    have hP : va_P G vwCl [(h0, .inr (1, [.ref ra, .int (nI (n + 1)), v2])), (ra, .inl (k 0, 2048, .inl (nA (va_up g n x))))] H := hP
    have hD : va_D A [(h0, .inr (1, [.ref ra, .int (nI (n + 1)), v2])), (ra, .inl (k 0, 2048, .inl (nA (va_up g n x))))] := hD
    exact e_mutV (u := ()) hx hb hr hlk hS hP hK hD (by trivial) dX1_append_32
set_option maxHeartbeats 4000000 in
set_option maxRecDepth 100000 in
theorem m_X2_append (l : Launch) (G : va_G) (k : Nat → ClassId) (sz : Nat) (h0 n on r2 r3 r4 kk9 a b : Nat) (kd fa fb : Nat → Nat) (hn : n < 10) : Met l yX2_append wsX2_append ({ frames := 0, cells := 0, slots := 0, locals := 0 } : Room) (va_Pc [.ref h0, .int (nI kk9), .int (nI a), .int (nI b)] (Wm G k [(h0, .inr (2, [.int (nI n), .int (nI on), .ref r2, .ref r3, .ref r4])), (r2, .inl (k 0, 10, .inl (nA kd))), (r3, .inl (k 0, 10, .inl (nA fa))), (r4, .inl (k 0, 10, .inl (nA fb)))] sz)) (va_Qi (fun (rX : Int32) (u : Unit) => rX = (nI n)) (Bm G k (va_A [(h0, .inr (2, [.int (nI n), .int (nI on), .ref r2, .ref r3, .ref r4])), (r2, .inl (k 0, 10, .inl (nA kd))), (r3, .inl (k 0, 10, .inl (nA fa))), (r4, .inl (k 0, 10, .inl (nA fb)))] sz) (fun u : Unit => [(h0, .inr (2, [.int (nI (n + 1)), .int (nI (on ||| 2 ^ n)), .ref r2, .ref r3, .ref r4])), (r2, .inl (k 0, 10, .inl (nA (va_up kd n kk9)))), (r3, .inl (k 0, 10, .inl (nA (va_up fa n a)))), (r4, .inl (k 0, 10, .inl (nA (va_up fb n b))))])) (va_A [(h0, .inr (2, [.int (nI n), .int (nI on), .ref r2, .ref r3, .ref r4])), (r2, .inl (k 0, 10, .inl (nA kd))), (r3, .inl (k 0, 10, .inl (nA fa))), (r4, .inl (k 0, 10, .inl (nA fb)))] sz)) 0 0 (va_A [(h0, .inr (2, [.int (nI n), .int (nI on), .ref r2, .ref r3, .ref r4])), (r2, .inl (k 0, 10, .inl (nA kd))), (r3, .inl (k 0, 10, .inl (nA fa))), (r4, .inl (k 0, 10, .inl (nA fb)))] sz) := by
  refine met_mk (cc := cX2_append) (maxL := 5) (ret := (some .int)) (by decide) rfl rfl ?_
  intro pX eX sX mX bX meX cX S hr hlk hnm hB ls hl
  obtain ⟨hsz, hP, hK, hN, hD0⟩ := hB
  subst hsz
  have hD := hD0.self (sz := sX.heap.size)
  generalize hAe : va_A [(h0, .inr (2, [.int (nI n), .int (nI on), .ref r2, .ref r3, .ref r4])), (r2, .inl (k 0, 10, .inl (nA kd))), (r3, .inl (k 0, 10, .inl (nA fa))), (r4, .inl (k 0, 10, .inl (nA fb)))] sX.heap.size = A at hD ⊢
  have hA : ∀ q : Nat, sX.heap.size ≤ q → A q := fun q h => by rw [← hAe]; exact Or.inr h
  have hS : va_S A sX.heap sX.heap [] := va_S.rf
  obtain ⟨hx, hb, hml, hown, hts⟩ := id S
  have hown : sX.vm.findClass RX2 = some mX.cls := hown
  have hl : lv_has ls 5 [(0, .ref h0), (1, .int (nI kk9)), (2, .int (nI a)), (3, .int (nI b))] := hl
  have lk0 : (Cond.fieldLink RX2 9 "FeatureAnalyzer$Constraints" "count" "I").before _ sX = true := hts _ (List.mem_cons_of_mem _ (List.mem_append_left _ (List.mem_of_getElem? (i := 0) rfl)))
  have inX2 : ∀ w ∈ wsX20, w ∈ wsX2_append := fun w h => List.mem_cons_of_mem _ (List.mem_append_right _ (h))
  have lk1 : (Cond.fieldLink RX2 18 "FeatureAnalyzer$Constraints" "kinds" "[I").before _ sX = true := hts _ (List.mem_cons_of_mem _ (List.mem_append_left _ (List.mem_of_getElem? (i := 1) rfl)))
  have lk2 : (Cond.fieldLink RX2 22 "FeatureAnalyzer$Constraints" "firsts" "[I").before _ sX = true := hts _ (List.mem_cons_of_mem _ (List.mem_append_left _ (List.mem_of_getElem? (i := 2) rfl)))
  have lk3 : (Cond.fieldLink RX2 25 "FeatureAnalyzer$Constraints" "seconds" "[I").before _ sX = true := hts _ (List.mem_cons_of_mem _ (List.mem_append_left _ (List.mem_of_getElem? (i := 3) rfl)))
  have lk4 : (Cond.fieldLink RX2 15 "FeatureAnalyzer$Constraints" "on" "I").before _ sX = true := hts _ (List.mem_cons_of_mem _ (List.mem_append_left _ (List.mem_of_getElem? (i := 4) rfl)))
  refine lv_aload_n hx hb dX2_append_0 rfl (lv_at hl 0 rfl) ?_
  refine va_get (D := G) (ci := 2) (v := .int (nI n)) (C := RX2) (T := TX2) (N := 5) hx hb hts inX2 hown hK hP 0 rfl rfl 0 (by decide) lk0 (fun _ h9 => h9) rfl dX2_append_1 ?_
  refine lv_istore (lv' := [(4, .int (nI n)), (0, .ref h0), (1, .int (nI kk9)), (2, .int (nI a)), (3, .int (nI b))]) hx hb dX2_append_4 hl (by decide) rfl (fun ls hl => ?_)
  refine lv_aload_n hx hb dX2_append_6 rfl (lv_at hl 1 rfl) ?_
  refine lv_dup hx hb dX2_append_7 rfl ?_
  refine va_get (D := G) (ci := 2) (v := .int (nI n)) (C := RX2) (T := TX2) (N := 5) hx hb hts inX2 hown hK hP 0 rfl rfl 0 (by decide) lk0 (fun _ h9 => h9) rfl dX2_append_8 ?_
  refine n_iconst 1 (by decide) hx hb dX2_append_11 ?_
  refine n_iadd hx hb dX2_append_12 ?_
  refine va_put (D := G) (ci := 2) (v := .int (nI (n + 1))) (ty := .int) (C := RX2) (T := TX2) (N := 5) hx hb hts inX2 tyX2 tyX2_ok nmX2 hown hK hP hD hS 0 rfl rfl 0 (by decide) lk0 (fun _ h9 => h9) rfl rfl rfl rfl (Nat.le_of_ble_eq_true rfl) dX2_append_13 (fun H locs hP hD hS => ?_)
  have hP : va_P G vwCl [(h0, .inr (2, [.int (nI (n + 1)), .int (nI on), .ref r2, .ref r3, .ref r4])), (r2, .inl (k 0, 10, .inl (nA kd))), (r3, .inl (k 0, 10, .inl (nA fa))), (r4, .inl (k 0, 10, .inl (nA fb)))] H := hP
  have hD : va_D A [(h0, .inr (2, [.int (nI (n + 1)), .int (nI on), .ref r2, .ref r3, .ref r4])), (r2, .inl (k 0, 10, .inl (nA kd))), (r3, .inl (k 0, 10, .inl (nA fa))), (r4, .inl (k 0, 10, .inl (nA fb)))] := hD
  refine lv_aload_n hx hb dX2_append_16 rfl (lv_at hl 1 rfl) ?_
  refine va_get (D := G) (ci := 2) (v := .ref r2) (C := RX2) (T := TX2) (N := 5) hx hb hts inX2 hown hK hP 0 rfl rfl 2 (by decide) lk1 (fun _ h9 => h9) rfl dX2_append_17 ?_
  refine lv_iload hx hb dX2_append_20 (lv_at hl 0 rfl) ?_
  refine lv_iload_n hx hb dX2_append_22 rfl (lv_at hl 2 rfl) ?_
  refine n_iast (ws1 := [(h0, .inr (2, [.int (nI (n + 1)), .int (nI on), .ref r2, .ref r3, .ref r4])), (r2, .inl (k 0, 10, .inl (nA (va_up kd n kk9)))), (r3, .inl (k 0, 10, .inl (nA fa))), (r4, .inl (k 0, 10, .inl (nA fb)))]) hx hb hK hP hD hS 1 rfl (by omega) (by first | decide | omega) rfl dX2_append_23 (fun H locs hP hD hS => ?_)
  refine lv_aload_n hx hb dX2_append_24 rfl (lv_at hl 1 rfl) ?_
  refine va_get (D := G) (ci := 2) (v := .ref r3) (C := RX2) (T := TX2) (N := 5) hx hb hts inX2 hown hK hP 0 rfl rfl 3 (by decide) lk2 (fun _ h9 => h9) rfl dX2_append_25 ?_
  refine lv_iload hx hb dX2_append_28 (lv_at hl 0 rfl) ?_
  refine lv_iload_n hx hb dX2_append_30 rfl (lv_at hl 3 rfl) ?_
  refine n_iast (ws1 := [(h0, .inr (2, [.int (nI (n + 1)), .int (nI on), .ref r2, .ref r3, .ref r4])), (r2, .inl (k 0, 10, .inl (nA (va_up kd n kk9)))), (r3, .inl (k 0, 10, .inl (nA (va_up fa n a)))), (r4, .inl (k 0, 10, .inl (nA fb)))]) hx hb hK hP hD hS 2 rfl (by omega) (by first | decide | omega) rfl dX2_append_31 (fun H locs hP hD hS => ?_)
  refine lv_aload_n hx hb dX2_append_32 rfl (lv_at hl 1 rfl) ?_
  refine va_get (D := G) (ci := 2) (v := .ref r4) (C := RX2) (T := TX2) (N := 5) hx hb hts inX2 hown hK hP 0 rfl rfl 4 (by decide) lk3 (fun _ h9 => h9) rfl dX2_append_33 ?_
  refine lv_iload hx hb dX2_append_36 (lv_at hl 0 rfl) ?_
  refine lv_iload_n hx hb dX2_append_38 rfl (lv_at hl 4 rfl) ?_
  refine n_iast (ws1 := [(h0, .inr (2, [.int (nI (n + 1)), .int (nI on), .ref r2, .ref r3, .ref r4])), (r2, .inl (k 0, 10, .inl (nA (va_up kd n kk9)))), (r3, .inl (k 0, 10, .inl (nA (va_up fa n a)))), (r4, .inl (k 0, 10, .inl (nA (va_up fb n b))))]) hx hb hK hP hD hS 3 rfl (by omega) (by first | decide | omega) rfl dX2_append_39 (fun H locs hP hD hS => ?_)
  refine lv_aload_n hx hb dX2_append_40 rfl (lv_at hl 1 rfl) ?_
  refine lv_dup hx hb dX2_append_41 rfl ?_
  refine va_get (D := G) (ci := 2) (v := .int (nI on)) (C := RX2) (T := TX2) (N := 5) hx hb hts inX2 hown hK hP 0 rfl rfl 1 (by decide) lk4 (fun _ h9 => h9) rfl dX2_append_42 ?_
  refine n_iconst 1 (by decide) hx hb dX2_append_45 ?_
  refine lv_iload hx hb dX2_append_46 (lv_at hl 0 rfl) ?_
  refine n_ishl1 (by omega) hx hb dX2_append_48 ?_
  refine n_ior hx hb dX2_append_49 ?_
  refine va_put (D := G) (ci := 2) (v := .int (nI (on ||| (2 ^ n)))) (ty := .int) (C := RX2) (T := TX2) (N := 5) hx hb hts inX2 tyX2 tyX2_ok nmX2 hown hK hP hD hS 0 rfl rfl 1 (by decide) lk4 (fun _ h9 => h9) rfl rfl rfl rfl (Nat.le_of_ble_eq_true rfl) dX2_append_50 (fun H locs hP hD hS => ?_)
  have hP : va_P G vwCl [(h0, .inr (2, [.int (nI (n + 1)), .int (nI (on ||| (2 ^ n))), .ref r2, .ref r3, .ref r4])), (r2, .inl (k 0, 10, .inl (nA (va_up kd n kk9)))), (r3, .inl (k 0, 10, .inl (nA (va_up fa n a)))), (r4, .inl (k 0, 10, .inl (nA (va_up fb n b))))] H := hP
  have hD : va_D A [(h0, .inr (2, [.int (nI (n + 1)), .int (nI (on ||| (2 ^ n))), .ref r2, .ref r3, .ref r4])), (r2, .inl (k 0, 10, .inl (nA (va_up kd n kk9)))), (r3, .inl (k 0, 10, .inl (nA (va_up fa n a)))), (r4, .inl (k 0, 10, .inl (nA (va_up fb n b))))] := hD
  refine lv_iload hx hb dX2_append_53 (lv_at hl 0 rfl) ?_
  exact e_mutI (u := ()) hx hb hr hlk hS hP hK hD (by rfl) dX2_append_55
set_option maxHeartbeats 4000000 in
set_option maxRecDepth 100000 in
theorem m_X2_flip (l : Launch) (G : va_G) (k : Nat → ClassId) (sz : Nat) (h0 on i : Nat) (b : Bool) (v0 v2 v3 v4 : Value) (hi : i < 10) (hon : on < 1024) : Met l yX2_flip wsX2_flip ({ frames := 1, cells := 0, slots := 0, locals := 21 } : Room) (va_Pc [.ref h0, .int (nI i), .int (bI b)] (Wm G k [(h0, .inr (2, [v0, .int (nI on), v2, v3, v4]))] sz)) (va_Qi (fun (rX : Int32) (u : (Nat)) => rX = (bI ((on).testBit i)) ∧ u = (if b = true then on ||| 2 ^ i else andn on (2 ^ i))) (Bm G k (va_A [(h0, .inr (2, [v0, .int (nI on), v2, v3, v4]))] sz) (fun u : (Nat) => [(h0, .inr (2, [v0, .int (nI u), v2, v3, v4]))])) (va_A [(h0, .inr (2, [v0, .int (nI on), v2, v3, v4]))] sz)) 0 0 (va_A [(h0, .inr (2, [v0, .int (nI on), v2, v3, v4]))] sz) := by
  refine met_mk (cc := cX2_flip) (maxL := 4) (ret := (some .boolean)) (by decide) rfl rfl ?_
  intro pX eX sX mX bX meX cX S hr hlk hnm hB ls hl
  obtain ⟨hsz, hP, hK, hN, hD0⟩ := hB
  subst hsz
  have hD := hD0.self (sz := sX.heap.size)
  generalize hAe : va_A [(h0, .inr (2, [v0, .int (nI on), v2, v3, v4]))] sX.heap.size = A at hD ⊢
  have hA : ∀ q : Nat, sX.heap.size ≤ q → A q := fun q h => by rw [← hAe]; exact Or.inr h
  have hS : va_S A sX.heap sX.heap [] := va_S.rf
  obtain ⟨hx, hb, hml, hown, hts⟩ := id S
  have hown : sX.vm.findClass RX2 = some mX.cls := hown
  have hl : lv_has ls 4 [(0, .ref h0), (1, .int (nI i)), (2, .int (bI b))] := hl
  have lk0 : (Cond.fieldLink RX2 15 "FeatureAnalyzer$Constraints" "on" "I").before _ sX = true := hts _ (List.mem_cons_of_mem _ (List.mem_append_left _ (List.mem_of_getElem? (i := 0) rfl)))
  have inX2 : ∀ w ∈ wsX20, w ∈ wsX2_flip := fun w h => List.mem_cons_of_mem _ (List.mem_append_right _ (h))
  refine lv_aload_n hx hb dX2_flip_0 rfl (lv_at hl 0 rfl) ?_
  refine va_get (D := G) (ci := 2) (v := .int (nI on)) (C := RX2) (T := TX2) (N := 5) hx hb hts inX2 hown hK hP 0 rfl rfl 1 (by decide) lk0 (fun _ h9 => h9) rfl dX2_flip_1 ?_
  refine lv_iload_n hx hb dX2_flip_4 rfl (lv_at hl 1 rfl) ?_
  refine cN_i (As := [.int (nI on), .int (nI i)]) S hP hK hN (m_X6_has l G k _ _ (by omega) (by omega)) gX2_flip_X6_has_n28 (hN.at 2 rfl) (List.mem_cons_of_mem _ (List.mem_append_left _ (List.mem_of_getElem? (i := 2) rfl))) (List.mem_cons_of_mem _ (List.mem_append_left _ (List.mem_of_getElem? (i := 1) rfl))) rfl rfl rfl hdN_X6_has rfl rfl [] rfl rfl hl.1 rfl rfl ⟨Nat.le_of_ble_eq_true rfl, Nat.le_of_ble_eq_true rfl⟩ dX2_flip_5 (fun rX hr1 => ?_)
  subst hr1
  refine lv_istore_n (lv' := [(3, .int (bI ((on).testBit i))), (0, .ref h0), (1, .int (nI i)), (2, .int (bI b))]) hx hb dX2_flip_8 rfl hl (by decide) rfl (fun ls hl => ?_)
  refine lv_aload_n hx hb dX2_flip_9 rfl (lv_at hl 1 rfl) ?_
  refine lv_iload_n hx hb dX2_flip_10 rfl (lv_at hl 3 rfl) ?_
  refine b_if_eq (tgt := 25) hx hb dX2_flip_11 (by decide) (fun q11 => ?_) (fun q11 => ?_)
  · skip
    refine lv_aload_n hx hb dX2_flip_25 rfl (lv_at hl 1 rfl) ?_
    refine va_get (D := G) (ci := 2) (v := .int (nI on)) (C := RX2) (T := TX2) (N := 5) hx hb hts inX2 hown hK hP 0 rfl rfl 1 (by decide) lk0 (fun _ h9 => h9) rfl dX2_flip_26 ?_
    refine n_iconst 1 (by decide) hx hb dX2_flip_29 ?_
    refine lv_iload_n hx hb dX2_flip_30 rfl (lv_at hl 2 rfl) ?_
    refine n_ishl1 (by omega) hx hb dX2_flip_31 ?_
    refine lv_iconst (v := -1) hx hb dX2_flip_32 (by decide) ?_
    refine lv_ixor hx hb dX2_flip_33 ?_
    refine n_iandC hx hb dX2_flip_34 ?_
    refine va_put (D := G) (ci := 2) (v := .int (nI (andn on (2 ^ i)))) (ty := .int) (C := RX2) (T := TX2) (N := 5) hx hb hts inX2 tyX2 tyX2_ok nmX2 hown hK hP hD hS 0 rfl rfl 1 (by decide) lk0 (fun _ h9 => h9) rfl rfl rfl rfl (Nat.le_of_ble_eq_true rfl) dX2_flip_35 (fun H locs hP hD hS => ?_)
    have hP : va_P G vwCl [(h0, .inr (2, [v0, .int (nI (andn on (2 ^ i))), v2, v3, v4]))] H := hP
    have hD : va_D A [(h0, .inr (2, [v0, .int (nI (andn on (2 ^ i))), v2, v3, v4]))] := hD
    refine lv_iload_n hx hb dX2_flip_38 rfl (lv_at hl 0 rfl) ?_
    exact e_mutZ (v := (on).testBit i) (u := (andn on (2 ^ i))) hx hb hr hlk hS hP hK hD (by refine ⟨rfl, ?_⟩; simp [*]) dX2_flip_39
  · skip
    refine lv_aload_n hx hb dX2_flip_14 rfl (lv_at hl 1 rfl) ?_
    refine va_get (D := G) (ci := 2) (v := .int (nI on)) (C := RX2) (T := TX2) (N := 5) hx hb hts inX2 hown hK hP 0 rfl rfl 1 (by decide) lk0 (fun _ h9 => h9) rfl dX2_flip_15 ?_
    refine n_iconst 1 (by decide) hx hb dX2_flip_18 ?_
    refine lv_iload_n hx hb dX2_flip_19 rfl (lv_at hl 2 rfl) ?_
    refine n_ishl1 (by omega) hx hb dX2_flip_20 ?_
    refine n_ior hx hb dX2_flip_21 ?_
    refine lv_goto (tgt := 35) hx hb dX2_flip_22 (by decide) ?_
    refine va_put (D := G) (ci := 2) (v := .int (nI (on ||| (2 ^ i)))) (ty := .int) (C := RX2) (T := TX2) (N := 5) hx hb hts inX2 tyX2 tyX2_ok nmX2 hown hK hP hD hS 0 rfl rfl 1 (by decide) lk0 (fun _ h9 => h9) rfl rfl rfl rfl (Nat.le_of_ble_eq_true rfl) dX2_flip_35 (fun H locs hP hD hS => ?_)
    have hP : va_P G vwCl [(h0, .inr (2, [v0, .int (nI (on ||| (2 ^ i))), v2, v3, v4]))] H := hP
    have hD : va_D A [(h0, .inr (2, [v0, .int (nI (on ||| (2 ^ i))), v2, v3, v4]))] := hD
    refine lv_iload_n hx hb dX2_flip_38 rfl (lv_at hl 0 rfl) ?_
    exact e_mutZ (v := (on).testBit i) (u := (on ||| (2 ^ i))) hx hb hr hlk hS hP hK hD (by refine ⟨rfl, ?_⟩; simp [*]) dX2_flip_39
set_option maxHeartbeats 4000000 in
set_option maxRecDepth 100000 in
theorem m_X3_append (l : Launch) (G : va_G) (k : Nat → ClassId) (sz : Nat) (h0 n a1 a2 a3 a4 a5 a6 c0 c1 c2 c3 p9 r9 : Nat) (par rel off : Nat → Nat) (ch : Nat → Nat → Nat) (hn : n < 12) (hp : p9 < n) (hr9 : r9 < 4) : Met l yX3_append wsX3_append ({ frames := 0, cells := 0, slots := 0, locals := 0 } : Room) (va_Pc [.ref h0, .int (nI p9), .int (nI r9)] (Wm G k [(h0, .inr (3, [.int (nI n), .ref a1, .ref a2, .ref a3, .ref a4, .ref a5, .ref a6])), (a1, .inl (k 0, 12, .inl (nA par))), (a2, .inl (k 0, 12, .inl (nA rel))), (a5, .inl (k 0, 12, .inl (nA off))), (a6, .inl (k 2, 4, .inr (.inr (.inr (.inr (q4 c0 c1 c2 c3)))))), (c0, .inl (k 0, 12, .inl (nA (ch 0)))), (c1, .inl (k 0, 12, .inl (nA (ch 1)))), (c2, .inl (k 0, 12, .inl (nA (ch 2)))), (c3, .inl (k 0, 12, .inl (nA (ch 3))))] sz)) (va_Qi (fun (rX : Int32) (u : Unit) => rX = (nI n)) (Bm G k (va_A [(h0, .inr (3, [.int (nI n), .ref a1, .ref a2, .ref a3, .ref a4, .ref a5, .ref a6])), (a1, .inl (k 0, 12, .inl (nA par))), (a2, .inl (k 0, 12, .inl (nA rel))), (a5, .inl (k 0, 12, .inl (nA off))), (a6, .inl (k 2, 4, .inr (.inr (.inr (.inr (q4 c0 c1 c2 c3)))))), (c0, .inl (k 0, 12, .inl (nA (ch 0)))), (c1, .inl (k 0, 12, .inl (nA (ch 1)))), (c2, .inl (k 0, 12, .inl (nA (ch 2)))), (c3, .inl (k 0, 12, .inl (nA (ch 3))))] sz) (fun u : Unit => [(h0, .inr (3, [.int (nI (n + 1)), .ref a1, .ref a2, .ref a3, .ref a4, .ref a5, .ref a6])), (a1, .inl (k 0, 12, .inl (nA (va_up par n p9)))), (a2, .inl (k 0, 12, .inl (nA (va_up rel n r9)))), (a5, .inl (k 0, 12, .inl (nA (va_up off p9 (off p9 ||| 2 ^ n))))), (a6, .inl (k 2, 4, .inr (.inr (.inr (.inr (q4 c0 c1 c2 c3)))))), (c0, .inl (k 0, 12, .inl (nA (appCh ch p9 r9 n 0)))), (c1, .inl (k 0, 12, .inl (nA (appCh ch p9 r9 n 1)))), (c2, .inl (k 0, 12, .inl (nA (appCh ch p9 r9 n 2)))), (c3, .inl (k 0, 12, .inl (nA (appCh ch p9 r9 n 3))))])) (va_A [(h0, .inr (3, [.int (nI n), .ref a1, .ref a2, .ref a3, .ref a4, .ref a5, .ref a6])), (a1, .inl (k 0, 12, .inl (nA par))), (a2, .inl (k 0, 12, .inl (nA rel))), (a5, .inl (k 0, 12, .inl (nA off))), (a6, .inl (k 2, 4, .inr (.inr (.inr (.inr (q4 c0 c1 c2 c3)))))), (c0, .inl (k 0, 12, .inl (nA (ch 0)))), (c1, .inl (k 0, 12, .inl (nA (ch 1)))), (c2, .inl (k 0, 12, .inl (nA (ch 2)))), (c3, .inl (k 0, 12, .inl (nA (ch 3))))] sz)) 0 0 (va_A [(h0, .inr (3, [.int (nI n), .ref a1, .ref a2, .ref a3, .ref a4, .ref a5, .ref a6])), (a1, .inl (k 0, 12, .inl (nA par))), (a2, .inl (k 0, 12, .inl (nA rel))), (a5, .inl (k 0, 12, .inl (nA off))), (a6, .inl (k 2, 4, .inr (.inr (.inr (.inr (q4 c0 c1 c2 c3)))))), (c0, .inl (k 0, 12, .inl (nA (ch 0)))), (c1, .inl (k 0, 12, .inl (nA (ch 1)))), (c2, .inl (k 0, 12, .inl (nA (ch 2)))), (c3, .inl (k 0, 12, .inl (nA (ch 3))))] sz) := by
  refine met_mk (cc := cX3_append) (maxL := 4) (ret := (some .int)) (by decide) rfl rfl ?_
  intro pX eX sX mX bX meX cX S hr hlk hnm hB ls hl
  obtain ⟨hsz, hP, hK, hN, hD0⟩ := hB
  subst hsz
  have hD := hD0.self (sz := sX.heap.size)
  generalize hAe : va_A [(h0, .inr (3, [.int (nI n), .ref a1, .ref a2, .ref a3, .ref a4, .ref a5, .ref a6])), (a1, .inl (k 0, 12, .inl (nA par))), (a2, .inl (k 0, 12, .inl (nA rel))), (a5, .inl (k 0, 12, .inl (nA off))), (a6, .inl (k 2, 4, .inr (.inr (.inr (.inr (q4 c0 c1 c2 c3)))))), (c0, .inl (k 0, 12, .inl (nA (ch 0)))), (c1, .inl (k 0, 12, .inl (nA (ch 1)))), (c2, .inl (k 0, 12, .inl (nA (ch 2)))), (c3, .inl (k 0, 12, .inl (nA (ch 3))))] sX.heap.size = A at hD ⊢
  have hA : ∀ q : Nat, sX.heap.size ≤ q → A q := fun q h => by rw [← hAe]; exact Or.inr h
  have hS : va_S A sX.heap sX.heap [] := va_S.rf
  obtain ⟨hx, hb, hml, hown, hts⟩ := id S
  have hown : sX.vm.findClass RX3 = some mX.cls := hown
  have hl : lv_has ls 4 [(0, .ref h0), (1, .int (nI p9)), (2, .int (nI r9))] := hl
  have lk0 : (Cond.fieldLink RX3 9 "FeatureAnalyzer$Features" "count" "I").before _ sX = true := hts _ (List.mem_cons_of_mem _ (List.mem_append_left _ (List.mem_of_getElem? (i := 0) rfl)))
  have inX3 : ∀ w ∈ wsX30, w ∈ wsX3_append := fun w h => List.mem_cons_of_mem _ (List.mem_append_right _ (h))
  have lk1 : (Cond.fieldLink RX3 15 "FeatureAnalyzer$Features" "parents" "[I").before _ sX = true := hts _ (List.mem_cons_of_mem _ (List.mem_append_left _ (List.mem_of_getElem? (i := 1) rfl)))
  have lk2 : (Cond.fieldLink RX3 19 "FeatureAnalyzer$Features" "relations" "[I").before _ sX = true := hts _ (List.mem_cons_of_mem _ (List.mem_append_left _ (List.mem_of_getElem? (i := 2) rfl)))
  have lk3 : (Cond.fieldLink RX3 28 "FeatureAnalyzer$Features" "offspring" "[I").before _ sX = true := hts _ (List.mem_cons_of_mem _ (List.mem_append_left _ (List.mem_of_getElem? (i := 3) rfl)))
  have lk4 : (Cond.fieldLink RX3 33 "FeatureAnalyzer$Features" "children" "[[I").before _ sX = true := hts _ (List.mem_cons_of_mem _ (List.mem_append_left _ (List.mem_of_getElem? (i := 4) rfl)))
  refine lv_aload_n hx hb dX3_append_0 rfl (lv_at hl 0 rfl) ?_
  refine va_get (D := G) (ci := 3) (v := .int (nI n)) (C := RX3) (T := TX3) (N := 7) hx hb hts inX3 hown hK hP 0 rfl rfl 0 (by decide) lk0 (fun _ h9 => h9) rfl dX3_append_1 ?_
  refine lv_istore_n (lv' := [(3, .int (nI n)), (0, .ref h0), (1, .int (nI p9)), (2, .int (nI r9))]) hx hb dX3_append_4 rfl hl (by decide) rfl (fun ls hl => ?_)
  refine lv_aload_n hx hb dX3_append_5 rfl (lv_at hl 1 rfl) ?_
  refine lv_dup hx hb dX3_append_6 rfl ?_
  refine va_get (D := G) (ci := 3) (v := .int (nI n)) (C := RX3) (T := TX3) (N := 7) hx hb hts inX3 hown hK hP 0 rfl rfl 0 (by decide) lk0 (fun _ h9 => h9) rfl dX3_append_7 ?_
  refine n_iconst 1 (by decide) hx hb dX3_append_10 ?_
  refine n_iadd hx hb dX3_append_11 ?_
  refine va_put (D := G) (ci := 3) (v := .int (nI (n + 1))) (ty := .int) (C := RX3) (T := TX3) (N := 7) hx hb hts inX3 tyX3 tyX3_ok nmX3 hown hK hP hD hS 0 rfl rfl 0 (by decide) lk0 (fun _ h9 => h9) rfl rfl rfl rfl (Nat.le_of_ble_eq_true rfl) dX3_append_12 (fun H locs hP hD hS => ?_)
  have hP : va_P G vwCl [(h0, .inr (3, [.int (nI (n + 1)), .ref a1, .ref a2, .ref a3, .ref a4, .ref a5, .ref a6])), (a1, .inl (k 0, 12, .inl (nA par))), (a2, .inl (k 0, 12, .inl (nA rel))), (a5, .inl (k 0, 12, .inl (nA off))), (a6, .inl (k 2, 4, .inr (.inr (.inr (.inr (q4 c0 c1 c2 c3)))))), (c0, .inl (k 0, 12, .inl (nA (ch 0)))), (c1, .inl (k 0, 12, .inl (nA (ch 1)))), (c2, .inl (k 0, 12, .inl (nA (ch 2)))), (c3, .inl (k 0, 12, .inl (nA (ch 3))))] H := hP
  have hD : va_D A [(h0, .inr (3, [.int (nI (n + 1)), .ref a1, .ref a2, .ref a3, .ref a4, .ref a5, .ref a6])), (a1, .inl (k 0, 12, .inl (nA par))), (a2, .inl (k 0, 12, .inl (nA rel))), (a5, .inl (k 0, 12, .inl (nA off))), (a6, .inl (k 2, 4, .inr (.inr (.inr (.inr (q4 c0 c1 c2 c3)))))), (c0, .inl (k 0, 12, .inl (nA (ch 0)))), (c1, .inl (k 0, 12, .inl (nA (ch 1)))), (c2, .inl (k 0, 12, .inl (nA (ch 2)))), (c3, .inl (k 0, 12, .inl (nA (ch 3))))] := hD
  refine lv_aload_n hx hb dX3_append_15 rfl (lv_at hl 1 rfl) ?_
  refine va_get (D := G) (ci := 3) (v := .ref a1) (C := RX3) (T := TX3) (N := 7) hx hb hts inX3 hown hK hP 0 rfl rfl 1 (by decide) lk1 (fun _ h9 => h9) rfl dX3_append_16 ?_
  refine lv_iload_n hx hb dX3_append_19 rfl (lv_at hl 0 rfl) ?_
  refine lv_iload_n hx hb dX3_append_20 rfl (lv_at hl 2 rfl) ?_
  refine n_iast (ws1 := [(h0, .inr (3, [.int (nI (n + 1)), .ref a1, .ref a2, .ref a3, .ref a4, .ref a5, .ref a6])), (a1, .inl (k 0, 12, .inl (nA (va_up par n p9)))), (a2, .inl (k 0, 12, .inl (nA rel))), (a5, .inl (k 0, 12, .inl (nA off))), (a6, .inl (k 2, 4, .inr (.inr (.inr (.inr (q4 c0 c1 c2 c3)))))), (c0, .inl (k 0, 12, .inl (nA (ch 0)))), (c1, .inl (k 0, 12, .inl (nA (ch 1)))), (c2, .inl (k 0, 12, .inl (nA (ch 2)))), (c3, .inl (k 0, 12, .inl (nA (ch 3))))]) hx hb hK hP hD hS 1 rfl (by omega) (by first | decide | omega) rfl dX3_append_21 (fun H locs hP hD hS => ?_)
  refine lv_aload_n hx hb dX3_append_22 rfl (lv_at hl 1 rfl) ?_
  refine va_get (D := G) (ci := 3) (v := .ref a2) (C := RX3) (T := TX3) (N := 7) hx hb hts inX3 hown hK hP 0 rfl rfl 2 (by decide) lk2 (fun _ h9 => h9) rfl dX3_append_23 ?_
  refine lv_iload_n hx hb dX3_append_26 rfl (lv_at hl 0 rfl) ?_
  refine lv_iload_n hx hb dX3_append_27 rfl (lv_at hl 3 rfl) ?_
  refine n_iast (ws1 := [(h0, .inr (3, [.int (nI (n + 1)), .ref a1, .ref a2, .ref a3, .ref a4, .ref a5, .ref a6])), (a1, .inl (k 0, 12, .inl (nA (va_up par n p9)))), (a2, .inl (k 0, 12, .inl (nA (va_up rel n r9)))), (a5, .inl (k 0, 12, .inl (nA off))), (a6, .inl (k 2, 4, .inr (.inr (.inr (.inr (q4 c0 c1 c2 c3)))))), (c0, .inl (k 0, 12, .inl (nA (ch 0)))), (c1, .inl (k 0, 12, .inl (nA (ch 1)))), (c2, .inl (k 0, 12, .inl (nA (ch 2)))), (c3, .inl (k 0, 12, .inl (nA (ch 3))))]) hx hb hK hP hD hS 2 rfl (by omega) (by first | decide | omega) rfl dX3_append_28 (fun H locs hP hD hS => ?_)
  refine lv_aload_n hx hb dX3_append_29 rfl (lv_at hl 1 rfl) ?_
  refine va_get (D := G) (ci := 3) (v := .ref a5) (C := RX3) (T := TX3) (N := 7) hx hb hts inX3 hown hK hP 0 rfl rfl 5 (by decide) lk3 (fun _ h9 => h9) rfl dX3_append_30 ?_
  refine lv_iload_n hx hb dX3_append_33 rfl (lv_at hl 2 rfl) ?_
  refine lv_dup2_11 hx hb dX3_append_34 rfl rfl ?_
  refine n_iald hx hb hK hP 3 rfl (by omega) (by first | decide | omega) dX3_append_35 ?_
  refine n_iconst 1 (by decide) hx hb dX3_append_36 ?_
  refine lv_iload_n hx hb dX3_append_37 rfl (lv_at hl 0 rfl) ?_
  refine n_ishl1 (by omega) hx hb dX3_append_38 ?_
  refine n_ior hx hb dX3_append_39 ?_
  refine n_iast (ws1 := [(h0, .inr (3, [.int (nI (n + 1)), .ref a1, .ref a2, .ref a3, .ref a4, .ref a5, .ref a6])), (a1, .inl (k 0, 12, .inl (nA (va_up par n p9)))), (a2, .inl (k 0, 12, .inl (nA (va_up rel n r9)))), (a5, .inl (k 0, 12, .inl (nA (va_up off p9 ((off p9) ||| (2 ^ n)))))), (a6, .inl (k 2, 4, .inr (.inr (.inr (.inr (q4 c0 c1 c2 c3)))))), (c0, .inl (k 0, 12, .inl (nA (ch 0)))), (c1, .inl (k 0, 12, .inl (nA (ch 1)))), (c2, .inl (k 0, 12, .inl (nA (ch 2)))), (c3, .inl (k 0, 12, .inl (nA (ch 3))))]) hx hb hK hP hD hS 3 rfl (by omega) (by first | decide | omega) rfl dX3_append_40 (fun H locs hP hD hS => ?_)
  refine lv_aload_n hx hb dX3_append_41 rfl (lv_at hl 1 rfl) ?_
  refine va_get (D := G) (ci := 3) (v := .ref a6) (C := RX3) (T := TX3) (N := 7) hx hb hts inX3 hown hK hP 0 rfl rfl 6 (by decide) lk4 (fun _ h9 => h9) rfl dX3_append_42 ?_
  rcases (show r9 = 0 ∨ r9 = 1 ∨ r9 = 2 ∨ r9 = 3 by omega) with rfl | rfl | rfl | rfl
  · skip
    refine lv_iload_n hx hb dX3_append_45 rfl (lv_at hl 3 rfl) ?_
    refine q_aald (r := c0) hx hb hK hP 4 rfl (by omega) (by first | decide | omega) rfl dX3_append_46 ?_
    refine lv_iload_n hx hb dX3_append_47 rfl (lv_at hl 2 rfl) ?_
    refine lv_dup2_11 hx hb dX3_append_48 rfl rfl ?_
    refine n_iald hx hb hK hP 5 rfl (by omega) (by first | decide | omega) dX3_append_49 ?_
    refine n_iconst 1 (by decide) hx hb dX3_append_50 ?_
    refine lv_iload_n hx hb dX3_append_51 rfl (lv_at hl 0 rfl) ?_
    refine n_ishl1 (by omega) hx hb dX3_append_52 ?_
    refine n_ior hx hb dX3_append_53 ?_
    refine n_iast (ws1 := [(h0, .inr (3, [.int (nI (n + 1)), .ref a1, .ref a2, .ref a3, .ref a4, .ref a5, .ref a6])), (a1, .inl (k 0, 12, .inl (nA (va_up par n p9)))), (a2, .inl (k 0, 12, .inl (nA (va_up rel n 0)))), (a5, .inl (k 0, 12, .inl (nA (va_up off p9 ((off p9) ||| (2 ^ n)))))), (a6, .inl (k 2, 4, .inr (.inr (.inr (.inr (q4 c0 c1 c2 c3)))))), (c0, .inl (k 0, 12, .inl (nA (va_up (ch 0) p9 (((ch 0) p9) ||| (2 ^ n)))))), (c1, .inl (k 0, 12, .inl (nA (ch 1)))), (c2, .inl (k 0, 12, .inl (nA (ch 2)))), (c3, .inl (k 0, 12, .inl (nA (ch 3))))]) hx hb hK hP hD hS 5 rfl (by omega) (by first | decide | omega) rfl dX3_append_54 (fun H locs hP hD hS => ?_)
    refine lv_iload_n hx hb dX3_append_55 rfl (lv_at hl 0 rfl) ?_
    exact e_mutI (u := ()) hx hb hr hlk hS hP hK hD (by rfl) dX3_append_56
  · skip
    refine lv_iload_n hx hb dX3_append_45 rfl (lv_at hl 3 rfl) ?_
    refine q_aald (r := c1) hx hb hK hP 4 rfl (by omega) (by first | decide | omega) rfl dX3_append_46 ?_
    refine lv_iload_n hx hb dX3_append_47 rfl (lv_at hl 2 rfl) ?_
    refine lv_dup2_11 hx hb dX3_append_48 rfl rfl ?_
    refine n_iald hx hb hK hP 6 rfl (by omega) (by first | decide | omega) dX3_append_49 ?_
    refine n_iconst 1 (by decide) hx hb dX3_append_50 ?_
    refine lv_iload_n hx hb dX3_append_51 rfl (lv_at hl 0 rfl) ?_
    refine n_ishl1 (by omega) hx hb dX3_append_52 ?_
    refine n_ior hx hb dX3_append_53 ?_
    refine n_iast (ws1 := [(h0, .inr (3, [.int (nI (n + 1)), .ref a1, .ref a2, .ref a3, .ref a4, .ref a5, .ref a6])), (a1, .inl (k 0, 12, .inl (nA (va_up par n p9)))), (a2, .inl (k 0, 12, .inl (nA (va_up rel n 1)))), (a5, .inl (k 0, 12, .inl (nA (va_up off p9 ((off p9) ||| (2 ^ n)))))), (a6, .inl (k 2, 4, .inr (.inr (.inr (.inr (q4 c0 c1 c2 c3)))))), (c0, .inl (k 0, 12, .inl (nA (ch 0)))), (c1, .inl (k 0, 12, .inl (nA (va_up (ch 1) p9 (((ch 1) p9) ||| (2 ^ n)))))), (c2, .inl (k 0, 12, .inl (nA (ch 2)))), (c3, .inl (k 0, 12, .inl (nA (ch 3))))]) hx hb hK hP hD hS 6 rfl (by omega) (by first | decide | omega) rfl dX3_append_54 (fun H locs hP hD hS => ?_)
    refine lv_iload_n hx hb dX3_append_55 rfl (lv_at hl 0 rfl) ?_
    exact e_mutI (u := ()) hx hb hr hlk hS hP hK hD (by rfl) dX3_append_56
  · skip
    refine lv_iload_n hx hb dX3_append_45 rfl (lv_at hl 3 rfl) ?_
    refine q_aald (r := c2) hx hb hK hP 4 rfl (by omega) (by first | decide | omega) rfl dX3_append_46 ?_
    refine lv_iload_n hx hb dX3_append_47 rfl (lv_at hl 2 rfl) ?_
    refine lv_dup2_11 hx hb dX3_append_48 rfl rfl ?_
    refine n_iald hx hb hK hP 7 rfl (by omega) (by first | decide | omega) dX3_append_49 ?_
    refine n_iconst 1 (by decide) hx hb dX3_append_50 ?_
    refine lv_iload_n hx hb dX3_append_51 rfl (lv_at hl 0 rfl) ?_
    refine n_ishl1 (by omega) hx hb dX3_append_52 ?_
    refine n_ior hx hb dX3_append_53 ?_
    refine n_iast (ws1 := [(h0, .inr (3, [.int (nI (n + 1)), .ref a1, .ref a2, .ref a3, .ref a4, .ref a5, .ref a6])), (a1, .inl (k 0, 12, .inl (nA (va_up par n p9)))), (a2, .inl (k 0, 12, .inl (nA (va_up rel n 2)))), (a5, .inl (k 0, 12, .inl (nA (va_up off p9 ((off p9) ||| (2 ^ n)))))), (a6, .inl (k 2, 4, .inr (.inr (.inr (.inr (q4 c0 c1 c2 c3)))))), (c0, .inl (k 0, 12, .inl (nA (ch 0)))), (c1, .inl (k 0, 12, .inl (nA (ch 1)))), (c2, .inl (k 0, 12, .inl (nA (va_up (ch 2) p9 (((ch 2) p9) ||| (2 ^ n)))))), (c3, .inl (k 0, 12, .inl (nA (ch 3))))]) hx hb hK hP hD hS 7 rfl (by omega) (by first | decide | omega) rfl dX3_append_54 (fun H locs hP hD hS => ?_)
    refine lv_iload_n hx hb dX3_append_55 rfl (lv_at hl 0 rfl) ?_
    exact e_mutI (u := ()) hx hb hr hlk hS hP hK hD (by rfl) dX3_append_56
  · skip
    refine lv_iload_n hx hb dX3_append_45 rfl (lv_at hl 3 rfl) ?_
    refine q_aald (r := c3) hx hb hK hP 4 rfl (by omega) (by first | decide | omega) rfl dX3_append_46 ?_
    refine lv_iload_n hx hb dX3_append_47 rfl (lv_at hl 2 rfl) ?_
    refine lv_dup2_11 hx hb dX3_append_48 rfl rfl ?_
    refine n_iald hx hb hK hP 8 rfl (by omega) (by first | decide | omega) dX3_append_49 ?_
    refine n_iconst 1 (by decide) hx hb dX3_append_50 ?_
    refine lv_iload_n hx hb dX3_append_51 rfl (lv_at hl 0 rfl) ?_
    refine n_ishl1 (by omega) hx hb dX3_append_52 ?_
    refine n_ior hx hb dX3_append_53 ?_
    refine n_iast (ws1 := [(h0, .inr (3, [.int (nI (n + 1)), .ref a1, .ref a2, .ref a3, .ref a4, .ref a5, .ref a6])), (a1, .inl (k 0, 12, .inl (nA (va_up par n p9)))), (a2, .inl (k 0, 12, .inl (nA (va_up rel n 3)))), (a5, .inl (k 0, 12, .inl (nA (va_up off p9 ((off p9) ||| (2 ^ n)))))), (a6, .inl (k 2, 4, .inr (.inr (.inr (.inr (q4 c0 c1 c2 c3)))))), (c0, .inl (k 0, 12, .inl (nA (ch 0)))), (c1, .inl (k 0, 12, .inl (nA (ch 1)))), (c2, .inl (k 0, 12, .inl (nA (ch 2)))), (c3, .inl (k 0, 12, .inl (nA (va_up (ch 3) p9 (((ch 3) p9) ||| (2 ^ n))))))]) hx hb hK hP hD hS 8 rfl (by omega) (by first | decide | omega) rfl dX3_append_54 (fun H locs hP hD hS => ?_)
    refine lv_iload_n hx hb dX3_append_55 rfl (lv_at hl 0 rfl) ?_
    exact e_mutI (u := ()) hx hb hr hlk hS hP hK hD (by rfl) dX3_append_56
set_option maxHeartbeats 4000000 in
set_option maxRecDepth 100000 in
theorem m_X3_rate (l : Launch) (G : va_G) (k : Nat → ClassId) (sz : Nat) (h0 a3 a4 f x y : Nat) (gc gv : Nat → Nat) (v0 v1 v2 v5 v6 : Value) (hf : f < 12) (hx9 : x < 100000) (hy9 : y < 100000) (hgc : gc f < 100000) (hgv : gv f < 100000) : Met l yX3_rate wsX3_rate ({ frames := 0, cells := 0, slots := 0, locals := 0 } : Room) (va_Pc [.ref h0, .int (nI f), .int (nI x), .int (nI y)] (Wm G k [(h0, .inr (3, [v0, v1, v2, .ref a3, .ref a4, v5, v6])), (a3, .inl (k 0, 12, .inl (nA gc))), (a4, .inl (k 0, 12, .inl (nA gv)))] sz)) (va_Qi (fun (rX : Int32) (u : Unit) => rX = (bI (!(decide (gc f = x) && decide (gv f = y))))) (Bm G k (va_A [(h0, .inr (3, [v0, v1, v2, .ref a3, .ref a4, v5, v6])), (a3, .inl (k 0, 12, .inl (nA gc))), (a4, .inl (k 0, 12, .inl (nA gv)))] sz) (fun u : Unit => [(h0, .inr (3, [v0, v1, v2, .ref a3, .ref a4, v5, v6])), (a3, .inl (k 0, 12, .inl (nA (va_up gc f x)))), (a4, .inl (k 0, 12, .inl (nA (va_up gv f y))))])) (va_A [(h0, .inr (3, [v0, v1, v2, .ref a3, .ref a4, v5, v6])), (a3, .inl (k 0, 12, .inl (nA gc))), (a4, .inl (k 0, 12, .inl (nA gv)))] sz)) 0 0 (va_A [(h0, .inr (3, [v0, v1, v2, .ref a3, .ref a4, v5, v6])), (a3, .inl (k 0, 12, .inl (nA gc))), (a4, .inl (k 0, 12, .inl (nA gv)))] sz) := by
  refine met_mk (cc := cX3_rate) (maxL := 5) (ret := (some .boolean)) (by decide) rfl rfl ?_
  intro pX eX sX mX bX meX cX S hr hlk hnm hB ls hl
  obtain ⟨hsz, hP, hK, hN, hD0⟩ := hB
  subst hsz
  have hD := hD0.self (sz := sX.heap.size)
  generalize hAe : va_A [(h0, .inr (3, [v0, v1, v2, .ref a3, .ref a4, v5, v6])), (a3, .inl (k 0, 12, .inl (nA gc))), (a4, .inl (k 0, 12, .inl (nA gv)))] sX.heap.size = A at hD ⊢
  have hA : ∀ q : Nat, sX.heap.size ≤ q → A q := fun q h => by rw [← hAe]; exact Or.inr h
  have hS : va_S A sX.heap sX.heap [] := va_S.rf
  obtain ⟨hx, hb, hml, hown, hts⟩ := id S
  have hown : sX.vm.findClass RX3 = some mX.cls := hown
  have hl : lv_has ls 5 [(0, .ref h0), (1, .int (nI f)), (2, .int (nI x)), (3, .int (nI y))] := hl
  have lk0 : (Cond.fieldLink RX3 22 "FeatureAnalyzer$Features" "costs" "[I").before _ sX = true := hts _ (List.mem_cons_of_mem _ (List.mem_append_left _ (List.mem_of_getElem? (i := 0) rfl)))
  have inX3 : ∀ w ∈ wsX30, w ∈ wsX3_rate := fun w h => List.mem_cons_of_mem _ (List.mem_append_right _ (h))
  have lk1 : (Cond.fieldLink RX3 25 "FeatureAnalyzer$Features" "values" "[I").before _ sX = true := hts _ (List.mem_cons_of_mem _ (List.mem_append_left _ (List.mem_of_getElem? (i := 1) rfl)))
  refine lv_aload_n hx hb dX3_rate_0 rfl (lv_at hl 0 rfl) ?_
  refine va_get (D := G) (ci := 3) (v := .ref a3) (C := RX3) (T := TX3) (N := 7) hx hb hts inX3 hown hK hP 0 rfl rfl 3 (by decide) lk0 (fun _ h9 => h9) rfl dX3_rate_1 ?_
  refine lv_iload_n hx hb dX3_rate_4 rfl (lv_at hl 1 rfl) ?_
  refine n_iald hx hb hK hP 1 rfl (by omega) (by first | decide | omega) dX3_rate_5 ?_
  refine lv_iload_n hx hb dX3_rate_6 rfl (lv_at hl 2 rfl) ?_
  refine n_icmp_ne (tgt := 20) (by omega) (by omega) hx hb dX3_rate_7 (by decide) (fun q7 => ?_) (fun q7 => ?_)
  · skip
    refine n_iconst 1 (by decide) hx hb dX3_rate_20 ?_
    refine lv_goto (tgt := 25) hx hb dX3_rate_21 (by decide) ?_
    refine lv_istore (lv' := [(4, .int (nI 1)), (0, .ref h0), (1, .int (nI f)), (2, .int (nI x)), (3, .int (nI y))]) hx hb dX3_rate_25 hl (by decide) rfl (fun ls hl => ?_)
    refine lv_aload_n hx hb dX3_rate_27 rfl (lv_at hl 1 rfl) ?_
    refine va_get (D := G) (ci := 3) (v := .ref a3) (C := RX3) (T := TX3) (N := 7) hx hb hts inX3 hown hK hP 0 rfl rfl 3 (by decide) lk0 (fun _ h9 => h9) rfl dX3_rate_28 ?_
    refine lv_iload_n hx hb dX3_rate_31 rfl (lv_at hl 2 rfl) ?_
    refine lv_iload_n hx hb dX3_rate_32 rfl (lv_at hl 3 rfl) ?_
    refine n_iast (ws1 := [(h0, .inr (3, [v0, v1, v2, .ref a3, .ref a4, v5, v6])), (a3, .inl (k 0, 12, .inl (nA (va_up gc f x)))), (a4, .inl (k 0, 12, .inl (nA gv)))]) hx hb hK hP hD hS 1 rfl (by omega) (by first | decide | omega) rfl dX3_rate_33 (fun H locs hP hD hS => ?_)
    refine lv_aload_n hx hb dX3_rate_34 rfl (lv_at hl 1 rfl) ?_
    refine va_get (D := G) (ci := 3) (v := .ref a4) (C := RX3) (T := TX3) (N := 7) hx hb hts inX3 hown hK hP 0 rfl rfl 4 (by decide) lk1 (fun _ h9 => h9) rfl dX3_rate_35 ?_
    refine lv_iload_n hx hb dX3_rate_38 rfl (lv_at hl 2 rfl) ?_
    refine lv_iload_n hx hb dX3_rate_39 rfl (lv_at hl 4 rfl) ?_
    refine n_iast (ws1 := [(h0, .inr (3, [v0, v1, v2, .ref a3, .ref a4, v5, v6])), (a3, .inl (k 0, 12, .inl (nA (va_up gc f x)))), (a4, .inl (k 0, 12, .inl (nA (va_up gv f y))))]) hx hb hK hP hD hS 2 rfl (by omega) (by first | decide | omega) rfl dX3_rate_40 (fun H locs hP hD hS => ?_)
    refine lv_iload hx hb dX3_rate_41 (lv_at hl 0 rfl) ?_
    exact e_mutZ (v := true) (u := ()) hx hb hr hlk hS hP hK hD (by refine congrArg bI (Eq.symm ?_); simp [*]) dX3_rate_43
  · skip
    refine lv_aload_n hx hb dX3_rate_10 rfl (lv_at hl 0 rfl) ?_
    refine va_get (D := G) (ci := 3) (v := .ref a4) (C := RX3) (T := TX3) (N := 7) hx hb hts inX3 hown hK hP 0 rfl rfl 4 (by decide) lk1 (fun _ h9 => h9) rfl dX3_rate_11 ?_
    refine lv_iload_n hx hb dX3_rate_14 rfl (lv_at hl 1 rfl) ?_
    refine n_iald hx hb hK hP 2 rfl (by omega) (by first | decide | omega) dX3_rate_15 ?_
    refine lv_iload_n hx hb dX3_rate_16 rfl (lv_at hl 3 rfl) ?_
    refine n_icmp_eq (tgt := 24) (by omega) (by omega) hx hb dX3_rate_17 (by decide) (fun q17 => ?_) (fun q17 => ?_)
    · skip
      refine n_iconst 0 (by decide) hx hb dX3_rate_24 ?_
      refine lv_istore (lv' := [(4, .int (nI 0)), (0, .ref h0), (1, .int (nI f)), (2, .int (nI x)), (3, .int (nI y))]) hx hb dX3_rate_25 hl (by decide) rfl (fun ls hl => ?_)
      refine lv_aload_n hx hb dX3_rate_27 rfl (lv_at hl 1 rfl) ?_
      refine va_get (D := G) (ci := 3) (v := .ref a3) (C := RX3) (T := TX3) (N := 7) hx hb hts inX3 hown hK hP 0 rfl rfl 3 (by decide) lk0 (fun _ h9 => h9) rfl dX3_rate_28 ?_
      refine lv_iload_n hx hb dX3_rate_31 rfl (lv_at hl 2 rfl) ?_
      refine lv_iload_n hx hb dX3_rate_32 rfl (lv_at hl 3 rfl) ?_
      refine n_iast (ws1 := [(h0, .inr (3, [v0, v1, v2, .ref a3, .ref a4, v5, v6])), (a3, .inl (k 0, 12, .inl (nA (va_up gc f x)))), (a4, .inl (k 0, 12, .inl (nA gv)))]) hx hb hK hP hD hS 1 rfl (by omega) (by first | decide | omega) rfl dX3_rate_33 (fun H locs hP hD hS => ?_)
      refine lv_aload_n hx hb dX3_rate_34 rfl (lv_at hl 1 rfl) ?_
      refine va_get (D := G) (ci := 3) (v := .ref a4) (C := RX3) (T := TX3) (N := 7) hx hb hts inX3 hown hK hP 0 rfl rfl 4 (by decide) lk1 (fun _ h9 => h9) rfl dX3_rate_35 ?_
      refine lv_iload_n hx hb dX3_rate_38 rfl (lv_at hl 2 rfl) ?_
      refine lv_iload_n hx hb dX3_rate_39 rfl (lv_at hl 4 rfl) ?_
      refine n_iast (ws1 := [(h0, .inr (3, [v0, v1, v2, .ref a3, .ref a4, v5, v6])), (a3, .inl (k 0, 12, .inl (nA (va_up gc f x)))), (a4, .inl (k 0, 12, .inl (nA (va_up gv f y))))]) hx hb hK hP hD hS 2 rfl (by omega) (by first | decide | omega) rfl dX3_rate_40 (fun H locs hP hD hS => ?_)
      refine lv_iload hx hb dX3_rate_41 (lv_at hl 0 rfl) ?_
      exact e_mutZ (v := false) (u := ()) hx hb hr hlk hS hP hK hD (by refine congrArg bI (Eq.symm ?_); simp [*]) dX3_rate_43
    · skip
      refine n_iconst 1 (by decide) hx hb dX3_rate_20 ?_
      refine lv_goto (tgt := 25) hx hb dX3_rate_21 (by decide) ?_
      refine lv_istore (lv' := [(4, .int (nI 1)), (0, .ref h0), (1, .int (nI f)), (2, .int (nI x)), (3, .int (nI y))]) hx hb dX3_rate_25 hl (by decide) rfl (fun ls hl => ?_)
      refine lv_aload_n hx hb dX3_rate_27 rfl (lv_at hl 1 rfl) ?_
      refine va_get (D := G) (ci := 3) (v := .ref a3) (C := RX3) (T := TX3) (N := 7) hx hb hts inX3 hown hK hP 0 rfl rfl 3 (by decide) lk0 (fun _ h9 => h9) rfl dX3_rate_28 ?_
      refine lv_iload_n hx hb dX3_rate_31 rfl (lv_at hl 2 rfl) ?_
      refine lv_iload_n hx hb dX3_rate_32 rfl (lv_at hl 3 rfl) ?_
      refine n_iast (ws1 := [(h0, .inr (3, [v0, v1, v2, .ref a3, .ref a4, v5, v6])), (a3, .inl (k 0, 12, .inl (nA (va_up gc f x)))), (a4, .inl (k 0, 12, .inl (nA gv)))]) hx hb hK hP hD hS 1 rfl (by omega) (by first | decide | omega) rfl dX3_rate_33 (fun H locs hP hD hS => ?_)
      refine lv_aload_n hx hb dX3_rate_34 rfl (lv_at hl 1 rfl) ?_
      refine va_get (D := G) (ci := 3) (v := .ref a4) (C := RX3) (T := TX3) (N := 7) hx hb hts inX3 hown hK hP 0 rfl rfl 4 (by decide) lk1 (fun _ h9 => h9) rfl dX3_rate_35 ?_
      refine lv_iload_n hx hb dX3_rate_38 rfl (lv_at hl 2 rfl) ?_
      refine lv_iload_n hx hb dX3_rate_39 rfl (lv_at hl 4 rfl) ?_
      refine n_iast (ws1 := [(h0, .inr (3, [v0, v1, v2, .ref a3, .ref a4, v5, v6])), (a3, .inl (k 0, 12, .inl (nA (va_up gc f x)))), (a4, .inl (k 0, 12, .inl (nA (va_up gv f y))))]) hx hb hK hP hD hS 2 rfl (by omega) (by first | decide | omega) rfl dX3_rate_40 (fun H locs hP hD hS => ?_)
      refine lv_iload hx hb dX3_rate_41 (lv_at hl 0 rfl) ?_
      exact e_mutZ (v := true) (u := ()) hx hb hr hlk hS hP hK hD (by refine congrArg bI (Eq.symm ?_); simp [*]) dX3_rate_43
set_option maxHeartbeats 4000000 in
set_option maxRecDepth 100000 in
theorem m_J7_fill (l : Launch) (G : va_G) (k : Nat → ClassId) (sz : Nat) (ra len : Nat) (f : Nat → Int32) (x : Int32) (hlen : len < 100000) : Met l yJ7_fill_53178 wsJ7_fill_53178 ({ frames := 0, cells := 0, slots := 0, locals := 0 } : Room) (va_Pc [.ref ra, .int x] (Wm G k [(ra, .inl (k 0, len, .inl f))] sz)) (va_Qv (fun u : Unit => True) (Bm G k (va_A [(ra, .inl (k 0, len, .inl f))] sz) (fun u : Unit => [(ra, .inl (k 0, len, .inl (fun _ => x)))])) (va_A [(ra, .inl (k 0, len, .inl f))] sz)) 0 0 (va_A [(ra, .inl (k 0, len, .inl f))] sz) := by
  refine met_mk (cc := cJ7_fill_53178) (maxL := 4) (ret := none) (by decide) rfl rfl ?_
  intro pX eX sX mX bX meX cX S hr hlk hnm hB ls hl
  obtain ⟨hsz, hP, hK, hN, hD0⟩ := hB
  subst hsz
  have hD := hD0.self (sz := sX.heap.size)
  generalize hAe : va_A [(ra, .inl (k 0, len, .inl f))] sX.heap.size = A at hD ⊢
  have hA : ∀ q : Nat, sX.heap.size ≤ q → A q := fun q h => by rw [← hAe]; exact Or.inr h
  have hS : va_S A sX.heap sX.heap [] := va_S.rf
  obtain ⟨hx, hb, hml, hown, hts⟩ := id S
  have hown : sX.vm.findClass RJ7 = some mX.cls := hown
  have hl : lv_has ls 4 [(0, .ref ra), (1, .int x)] := hl
  refine n_iconst 0 (by decide) hx hb dJ7_fill_53178_0 ?_
  refine lv_istore_n (lv' := [(2, .int (nI 0)), (0, .ref ra), (1, .int x)]) hx hb dJ7_fill_53178_1 rfl hl (by decide) rfl (fun ls hl => ?_)
  refine lv_aload_n hx hb dJ7_fill_53178_2 rfl (lv_at hl 1 rfl) ?_
  refine g_alen (n := len) 0 0 hx hb hK hP rfl rfl rfl dJ7_fill_53178_3 ?_
  refine lv_istore_n (lv' := [(3, .int (nI len)), (2, .int (nI 0)), (0, .ref ra), (1, .int x)]) hx hb dJ7_fill_53178_4 rfl hl (by decide) rfl (fun ls hl => ?_)
  have L5 : ∀ (NN : Nat) (i : Nat) (g9 : Nat → Int32), (len - i) < NN → (i ≤ len) → (g9 = fillI f x i) → ∀ (H : Heap) (locs : List Loc), va_P G vwCl [(ra, .inl (k 0, len, .inl g9))] H → va_D A [(ra, .inl (k 0, len, .inl g9))] → va_S A sX.heap H locs → ∀ ls : Array Slot, lv_has ls 4 [(0, .ref ra), (1, .int x), (2, .int (nI i)), (3, .int (nI len))] → W pX l eX ({ frames := 0, cells := 0, slots := 0, locals := 0 } : Room) sX mX ([.ref ra, .int x] : List Value).toArray bX meX cX H locs 0 0 (MQ bX (va_Qv (fun u : Unit => True) (Bm G k A (fun u : Unit => [(ra, .inl (k 0, len, .inl (fun _ => x)))])) A) ([.ref ra, .int x] : List Value).toArray sX 0 0 A) (F0 mX 5 ls []) := by
    intro NN
    induction NN with
    | zero => intro i g9 hm9; exact absurd hm9 (Nat.not_lt_zero _)
    | succ NN ih5 =>
      intro i g9 hm9 hi eg H locs hP hD hS ls hl
      refine lv_iload_n hx hb dJ7_fill_53178_5 rfl (lv_at hl 2 rfl) ?_
      refine lv_iload_n hx hb dJ7_fill_53178_6 rfl (lv_at hl 3 rfl) ?_
      refine n_icmp_ge (tgt := 20) (by omega) (by omega) hx hb dJ7_fill_53178_7 (by decide) (fun q7 => ?_) (fun q7 => ?_)
      · skip
        subst eg
        have hP := va_P_re (g := (fun _ => x)) hP 0 rfl (fun j hj => fillI_at f x i j (by omega)) (ws' := [(ra, .inl (k 0, len, .inl (fun _ => x)))]) rfl
        have hD : va_D A [(ra, .inl (k 0, len, .inl (fun _ => x)))] := va_D_re hD (q0 := 0) rfl rfl
        exact e_mutV (u := ()) hx hb hr hlk hS hP hK hD (by trivial) dJ7_fill_53178_20
      · skip
        refine lv_aload_n hx hb dJ7_fill_53178_10 rfl (lv_at hl 0 rfl) ?_
        refine lv_iload_n hx hb dJ7_fill_53178_11 rfl (lv_at hl 2 rfl) ?_
        refine lv_iload_n hx hb dJ7_fill_53178_12 rfl (lv_at hl 1 rfl) ?_
        refine r_iast (ws1 := [(ra, .inl (k 0, len, .inl (upd g9 i x)))]) hx hb hK hP hD hS 0 rfl (by omega) (by first | decide | omega) rfl dJ7_fill_53178_13 (fun H locs hP hD hS => ?_)
        refine n_iinc (lv' := [(2, .int (nI (i + 1))), (0, .ref ra), (1, .int x), (3, .int (nI len))]) (k := 2) 1 hx hb dJ7_fill_53178_14 hl rfl (by decide) (by decide) rfl (fun ls hl => ?_)
        refine lv_goto (tgt := 5) hx hb dJ7_fill_53178_17 (by decide) ?_
        exact ih5 (i + 1) (upd g9 i x) (by omega) (by omega) (by rw [eg]; rfl) _ _ hP hD hS _ (lv_sub hl [1, 2, 0, 3] rfl)
  exact L5 _ (0) (f) (Nat.lt_succ_self _) (by omega) (by rfl) _ _ hP hD hS _ (lv_sub hl [2, 3, 1, 0] rfl)
theorem hdS_J7_fill_53178 : yJ7_fill_53178.cls ≠ "java/lang/invoke/MethodHandle" ∧ yJ7_fill_53178.cls ≠ "java/lang/invoke/VarHandle" ∧ (parseMethodDescriptor yJ7_fill_53178.desc).map (fun d => d.parameters.length) = some 2 := by decide +kernel
set_option maxHeartbeats 4000000 in
set_option maxRecDepth 100000 in
theorem m_X4_restart (l : Launch) (G : va_G) (k : Nat → ClassId) (sz : Nat) (h0 ra : Nat) (sh : Nat → Nat)  : Met l yX4_restart wsX4_restart ({ frames := 1, cells := 0, slots := 0, locals := 23 } : Room) (va_Pc [.ref h0] (Wm G k [(h0, .inr (4, [.ref ra])), (ra, .inl (k 0, 24, .inl (nA sh)))] sz)) (va_Qv (fun u : Unit => True) (Bm G k (va_A [(h0, .inr (4, [.ref ra])), (ra, .inl (k 0, 24, .inl (nA sh)))] sz) (fun u : Unit => [(h0, .inr (4, [.ref ra])), (ra, .inl (k 0, 24, .inl (nA (fun _ => 0))))])) (va_A [(h0, .inr (4, [.ref ra])), (ra, .inl (k 0, 24, .inl (nA sh)))] sz)) 0 0 (va_A [(h0, .inr (4, [.ref ra])), (ra, .inl (k 0, 24, .inl (nA sh)))] sz) := by
  refine met_mk (cc := cX4_restart) (maxL := 1) (ret := none) (by decide) rfl rfl ?_
  intro pX eX sX mX bX meX cX S hr hlk hnm hB ls hl
  obtain ⟨hsz, hP, hK, hN, hD0⟩ := hB
  subst hsz
  have hD := hD0.self (sz := sX.heap.size)
  generalize hAe : va_A [(h0, .inr (4, [.ref ra])), (ra, .inl (k 0, 24, .inl (nA sh)))] sX.heap.size = A at hD ⊢
  have hA : ∀ q : Nat, sX.heap.size ≤ q → A q := fun q h => by rw [← hAe]; exact Or.inr h
  have hS : va_S A sX.heap sX.heap [] := va_S.rf
  obtain ⟨hx, hb, hml, hown, hts⟩ := id S
  have hown : sX.vm.findClass RX4 = some mX.cls := hown
  have hl : lv_has ls 1 [(0, .ref h0)] := hl
  have lk0 : (Cond.fieldLink RX4 9 "FeatureAnalyzer$PairBoard" "shown" "[I").before _ sX = true := hts _ (List.mem_cons_of_mem _ (List.mem_append_left _ (List.mem_of_getElem? (i := 0) rfl)))
  have inX4 : ∀ w ∈ wsX40, w ∈ wsX4_restart := fun w h => List.mem_cons_of_mem _ (List.mem_append_right _ (h))
  refine lv_aload_n hx hb dX4_restart_0 rfl (lv_at hl 0 rfl) ?_
  refine va_get (D := G) (ci := 4) (v := .ref ra) (C := RX4) (T := TX4) (N := 1) hx hb hts inX4 hown hK hP 0 rfl rfl 0 (by decide) lk0 (fun _ h9 => h9) rfl dX4_restart_1 ?_
  refine n_iconst 0 (by decide) hx hb dX4_restart_4 ?_
  refine cS_mv (As := [.ref ra, .int (nI 0)]) (wn := fun u : Unit => [(h0, .inr (4, [.ref ra])), (ra, .inl (k 0, 24, .inl (nA (fun _ => 0))))]) S hP hK hN hD hS hA (m_J7_fill l G k _ _ _ _ _ (by omega)) gX4_restart_J7_fill_53178 rfl rfl rfl hdS_J7_fill_53178 rfl rfl [1] [0] [0, 1] rfl rfl rfl rfl rfl (by decide) (fun _ => rfl) (fun _ => rfl) rfl rfl hl.1 rfl rfl ⟨Nat.le_of_ble_eq_true rfl, Nat.le_of_ble_eq_true rfl⟩ dX4_restart_5 (fun u H locs hw1 hP hD hS => ?_)
  have hP : va_P G vwCl [(h0, .inr (4, [.ref ra])), (ra, .inl (k 0, 24, .inl (nA (fun _ => 0))))] H := hP
  have hD : va_D A [(h0, .inr (4, [.ref ra])), (ra, .inl (k 0, 24, .inl (nA (fun _ => 0))))] := hD
  exact e_mutV (u := ()) hx hb hr hlk hS hP hK hD (by trivial) dX4_restart_8
theorem hdV_X4_countFresh : yX4_countFresh.cls = RX4 ∧ yX4_countFresh.cls ≠ "java/lang/invoke/MethodHandle" ∧ yX4_countFresh.cls ≠ "java/lang/invoke/VarHandle" ∧ (parseMethodDescriptor yX4_countFresh.desc).map (fun d => d.parameters.length) = some 2 := by decide +kernel
set_option maxHeartbeats 4000000 in
set_option maxRecDepth 100000 in
theorem m_X4_show (l : Launch) (G : va_G) (k : Nat → ClassId) (sz : Nat) (h0 ra c n : Nat) (sh : Nat → Nat) (hc : c < 4096) (hn : n ≤ 12) : Met l yX4_show wsX4_show ({ frames := 3, cells := 0, slots := 0, locals := 68 } : Room) (va_Pc [.ref h0, .int (nI c), .int (nI n)] (Wm G k [(h0, .inr (4, [.ref ra])), (ra, .inl (k 0, 24, .inl (nA sh)))] sz)) (va_Qi (fun (rX : Int32) (u : Unit) => rX = (nI (frN sh c n n))) (Bm G k (va_A [(h0, .inr (4, [.ref ra])), (ra, .inl (k 0, 24, .inl (nA sh)))] sz) (fun u : Unit => [(h0, .inr (4, [.ref ra])), (ra, .inl (k 0, 24, .inl (nA (shwF sh c n n))))])) (va_A [(h0, .inr (4, [.ref ra])), (ra, .inl (k 0, 24, .inl (nA sh)))] sz)) 0 0 (va_A [(h0, .inr (4, [.ref ra])), (ra, .inl (k 0, 24, .inl (nA sh)))] sz) := by
  refine met_mk (cc := cX4_show) (maxL := 7) (ret := (some .int)) (by decide) rfl rfl ?_
  intro pX eX sX mX bX meX cX S hr hlk hnm hB ls hl
  obtain ⟨hsz, hP, hK, hN, hD0⟩ := hB
  subst hsz
  have hD := hD0.self (sz := sX.heap.size)
  generalize hAe : va_A [(h0, .inr (4, [.ref ra])), (ra, .inl (k 0, 24, .inl (nA sh)))] sX.heap.size = A at hD ⊢
  have hA : ∀ q : Nat, sX.heap.size ≤ q → A q := fun q h => by rw [← hAe]; exact Or.inr h
  have hS : va_S A sX.heap sX.heap [] := va_S.rf
  obtain ⟨hx, hb, hml, hown, hts⟩ := id S
  have hown : sX.vm.findClass RX4 = some mX.cls := hown
  have hl : lv_has ls 7 [(0, .ref h0), (1, .int (nI c)), (2, .int (nI n))] := hl
  have lk0 : (Cond.fieldLink RX4 9 "FeatureAnalyzer$PairBoard" "shown" "[I").before _ sX = true := hts _ (List.mem_cons_of_mem _ (List.mem_append_left _ (List.mem_of_getElem? (i := 0) rfl)))
  have inX4 : ∀ w ∈ wsX40, w ∈ wsX4_show := fun w h => List.mem_cons_of_mem _ (List.mem_append_right _ (h))
  refine lv_aload_n hx hb dX4_show_0 rfl (lv_at hl 0 rfl) ?_
  refine lv_iload_n hx hb dX4_show_1 rfl (lv_at hl 1 rfl) ?_
  refine lv_iload_n hx hb dX4_show_2 rfl (lv_at hl 2 rfl) ?_
  refine cV_i (As := [.int (nI c), .int (nI n)]) S hP hK hN (m_X4_countFresh l G k _ _ _ _ _ (by omega) (by omega)) gX4_show_X4_countFresh rfl rfl rfl hdV_X4_countFresh rfl rfl [0, 1] rfl 4 0 rfl rfl rfl rfl hl.1 rfl rfl ⟨Nat.le_of_ble_eq_true rfl, Nat.le_of_ble_eq_true rfl⟩ dX4_show_3 (fun rX hr1 => ?_)
  subst hr1
  refine lv_istore_n (lv' := [(3, .int (nI (frN sh c n n))), (0, .ref h0), (1, .int (nI c)), (2, .int (nI n))]) hx hb dX4_show_6 rfl hl (by decide) rfl (fun ls hl => ?_)
  refine lv_iload_n hx hb dX4_show_7 rfl (lv_at hl 2 rfl) ?_
  refine lv_iload_n hx hb dX4_show_8 rfl (lv_at hl 3 rfl) ?_
  refine cS_i (As := [.int (nI c), .int (nI n)]) S hP hK hN (m_X4_literalsOf l G k _ _ (by omega) (by omega)) gX4_show_X4_literalsOf rfl rfl rfl hdS_X4_literalsOf rfl rfl [] rfl rfl hl.1 rfl rfl ⟨Nat.le_of_ble_eq_true rfl, Nat.le_of_ble_eq_true rfl⟩ dX4_show_9 (fun rX hr2 => ?_)
  subst hr2
  refine lv_istore (lv' := [(4, .int (nI (litsN c n))), (3, .int (nI (frN sh c n n))), (0, .ref h0), (1, .int (nI c)), (2, .int (nI n))]) hx hb dX4_show_12 hl (by decide) rfl (fun ls hl => ?_)
  refine n_iconst 0 (by decide) hx hb dX4_show_14 ?_
  refine lv_istore (lv' := [(5, .int (nI 0)), (4, .int (nI (litsN c n))), (3, .int (nI (frN sh c n n))), (0, .ref h0), (1, .int (nI c)), (2, .int (nI n))]) hx hb dX4_show_15 hl (by decide) rfl (fun ls hl => ?_)
  have L17 : ∀ (NN : Nat) (y : Nat) (i : Nat) (g9 : Nat → Nat), (n - i) < NN → (i ≤ n) → (y = latN c n i) → (g9 = shwF sh c n i) → ∀ (H : Heap) (locs : List Loc), va_P G vwCl [(h0, .inr (4, [.ref ra])), (ra, .inl (k 0, 24, .inl (nA g9)))] H → va_D A [(h0, .inr (4, [.ref ra])), (ra, .inl (k 0, 24, .inl (nA g9)))] → va_S A sX.heap H locs → ∀ ls : Array Slot, lv_has ls 7 [(0, .ref h0), (1, .int (nI c)), (2, .int (nI n)), (3, .int (nI (frN sh c n n))), (4, .int (nI y)), (5, .int (nI i))] → W pX l eX ({ frames := 3, cells := 0, slots := 0, locals := 68 } : Room) sX mX ([.ref h0, .int (nI c), .int (nI n)] : List Value).toArray bX meX cX H locs 0 0 (MQ bX (va_Qi (fun (rX : Int32) (u : Unit) => rX = (nI (frN sh c n n))) (Bm G k A (fun u : Unit => [(h0, .inr (4, [.ref ra])), (ra, .inl (k 0, 24, .inl (nA (shwF sh c n n))))])) A) ([.ref h0, .int (nI c), .int (nI n)] : List Value).toArray sX 0 0 A) (F0 mX 17 ls []) := by
    intro NN
    induction NN with
    | zero => intro y i g9 hm9; exact absurd hm9 (Nat.not_lt_zero _)
    | succ NN ih17 =>
      intro y i g9 hm9 hi ey eg H locs hP hD hS ls hl
      refine lv_iload hx hb dX4_show_17 (lv_at hl 5 rfl) ?_
      refine lv_iload_n hx hb dX4_show_19 rfl (lv_at hl 2 rfl) ?_
      refine n_icmp_ge (tgt := 60) (by omega) (by omega) hx hb dX4_show_20 (by decide) (fun q20 => ?_) (fun q20 => ?_)
      · skip
        have hin9 : i = n := by omega
        subst hin9
        subst eg
        refine lv_iload_n hx hb dX4_show_60 rfl (lv_at hl 3 rfl) ?_
        exact e_mutI (u := ()) hx hb hr hlk hS hP hK hD (by rfl) dX4_show_61
      · skip
        refine lv_iload hx hb dX4_show_23 (lv_at hl 5 rfl) ?_
        refine lv_iload_n hx hb dX4_show_25 rfl (lv_at hl 1 rfl) ?_
        refine cS_i (As := [.int (nI i), .int (nI c)]) S hP hK hN (m_X4_literalOn l G k _ _ (by omega) (by omega)) gX4_show_X4_literalOn rfl rfl rfl hdS_X4_literalOn rfl rfl [] rfl rfl hl.1 rfl rfl ⟨Nat.le_of_ble_eq_true rfl, Nat.le_of_ble_eq_true rfl⟩ dX4_show_26 (fun rX hr3 => ?_)
        subst hr3
        have hlt := litN_lt (c := c) (show i < 12 by omega)
        refine lv_istore (lv' := [(6, .int (nI (litN i c))), (0, .ref h0), (1, .int (nI c)), (2, .int (nI n)), (3, .int (nI (frN sh c n n))), (4, .int (nI y)), (5, .int (nI i))]) hx hb dX4_show_29 hl (by decide) rfl (fun ls hl => ?_)
        refine lv_iload hx hb dX4_show_31 (lv_at hl 5 rfl) ?_
        refine n_iconst 1 (by decide) hx hb dX4_show_33 ?_
        refine lv_iload hx hb dX4_show_34 (lv_at hl 0 rfl) ?_
        refine n_ishl1 (by omega) hx hb dX4_show_36 ?_
        refine lv_iconst (v := -1) hx hb dX4_show_37 (by decide) ?_
        refine lv_ixor hx hb dX4_show_38 ?_
        refine n_iandC hx hb dX4_show_39 ?_
        refine lv_istore (lv' := [(4, .int (nI (andn y (2 ^ (litN i c))))), (6, .int (nI (litN i c))), (0, .ref h0), (1, .int (nI c)), (2, .int (nI n)), (3, .int (nI (frN sh c n n))), (5, .int (nI i))]) hx hb dX4_show_40 hl (by decide) rfl (fun ls hl => ?_)
        refine lv_aload_n hx hb dX4_show_42 rfl (lv_at hl 2 rfl) ?_
        refine va_get (D := G) (ci := 4) (v := .ref ra) (C := RX4) (T := TX4) (N := 1) hx hb hts inX4 hown hK hP 0 rfl rfl 0 (by decide) lk0 (fun _ h9 => h9) rfl dX4_show_43 ?_
        refine lv_iload hx hb dX4_show_46 (lv_at hl 1 rfl) ?_
        refine lv_dup2_11 hx hb dX4_show_48 rfl rfl ?_
        refine n_iald hx hb hK hP 1 rfl (by omega) (by first | decide | omega) dX4_show_49 ?_
        refine lv_iload hx hb dX4_show_50 (lv_at hl 0 rfl) ?_
        refine n_ior hx hb dX4_show_52 ?_
        refine n_iast (ws1 := [(h0, .inr (4, [.ref ra])), (ra, .inl (k 0, 24, .inl (nA (va_up g9 (litN i c) ((g9 (litN i c)) ||| (andn y (2 ^ (litN i c))))))))]) hx hb hK hP hD hS 1 rfl (by omega) (by first | decide | omega) rfl dX4_show_53 (fun H locs hP hD hS => ?_)
        refine n_iinc (lv' := [(5, .int (nI (i + 1))), (4, .int (nI (andn y (2 ^ (litN i c))))), (6, .int (nI (litN i c))), (0, .ref h0), (1, .int (nI c)), (2, .int (nI n)), (3, .int (nI (frN sh c n n)))]) (k := 6) 1 hx hb dX4_show_54 hl rfl (by decide) (by decide) rfl (fun ls hl => ?_)
        refine lv_goto (tgt := 17) hx hb dX4_show_57 (by decide) ?_
        exact ih17 (andn y (2 ^ (litN i c))) (i + 1) (va_up g9 (litN i c) ((g9 (litN i c)) ||| (andn y (2 ^ (litN i c))))) (by omega) (by omega) (by rw [latN_succ, ey]) (by rw [shwF_succ, latN_succ, eg, ey]) _ _ hP hD hS _ (lv_sub hl [3, 4, 5, 6, 1, 0] rfl)
  exact L17 _ (litsN c n) (0) (sh) (Nat.lt_succ_self _) (by omega) (by rfl) (by rfl) _ _ hP hD hS _ (lv_sub hl [3, 4, 5, 2, 1, 0] rfl)
